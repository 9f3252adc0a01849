section
-- ===== PART A: goes FIRST, ahead of the names: the tables' words, and 'selects' of the private methods out of them =====
/-- a private method of a class that the tables say can be made, by its rows of tables_1 -/
def lw_okq (q : MethodName × Nat) : Prop := (q.1.cls ≠ "java/lang/invoke/MethodHandle" ∧ q.1.cls ≠ "java/lang/invoke/VarHandle") ∧ Cond.instantiable q.1.cls q.2 ∈ tables_1 ∧ Cond.privateMethod q.1 ∈ tables_1 ∧ Cond.instanceMethod q.1 ∈ tables_1
theorem lw_p0 : lw_okq (⟨"StudioAirtime$Text", "readOwnShow", "(LStudioAirtime$Proposal;I)Z"⟩, 4) := ⟨⟨by decide +kernel, by decide +kernel⟩, List.mem_of_getElem? (i := 129) (by decide +kernel), List.mem_of_getElem? (i := 255) (by decide +kernel), List.mem_of_getElem? (i := 256) (by decide +kernel)⟩
theorem lw_p1 : lw_okq (⟨"StudioAirtime$Text", "readDigit", "(I)Z"⟩, 4) := ⟨⟨by decide +kernel, by decide +kernel⟩, List.mem_of_getElem? (i := 129) (by decide +kernel), List.mem_of_getElem? (i := 259) (by decide +kernel), List.mem_of_getElem? (i := 260) (by decide +kernel)⟩
theorem lw_p2 : lw_okq (⟨"StudioAirtime$Text", "readNumber", "()Z"⟩, 4) := ⟨⟨by decide +kernel, by decide +kernel⟩, List.mem_of_getElem? (i := 129) (by decide +kernel), List.mem_of_getElem? (i := 266) (by decide +kernel), List.mem_of_getElem? (i := 267) (by decide +kernel)⟩
theorem lw_p3 : lw_okq (⟨"StudioAirtime$Text", "readRepeat", "(LStudioAirtime$Proposal;)Z"⟩, 4) := ⟨⟨by decide +kernel, by decide +kernel⟩, List.mem_of_getElem? (i := 129) (by decide +kernel), List.mem_of_getElem? (i := 274) (by decide +kernel), List.mem_of_getElem? (i := 275) (by decide +kernel)⟩
theorem lw_p4 : lw_okq (⟨"StudioAirtime$Airing", "playShow", "(LStudioAirtime$Plan;II)V"⟩, 5) := ⟨⟨by decide +kernel, by decide +kernel⟩, List.mem_of_getElem? (i := 187) (by decide +kernel), List.mem_of_getElem? (i := 299) (by decide +kernel), List.mem_of_getElem? (i := 300) (by decide +kernel)⟩
theorem lw_p5 : lw_okq (⟨"StudioAirtime", "shareOnAir", "()D"⟩, 7) := ⟨⟨by decide +kernel, by decide +kernel⟩, List.mem_of_getElem? (i := 19) (by decide +kernel), List.mem_of_getElem? (i := 313) (by decide +kernel), List.mem_of_getElem? (i := 314) (by decide +kernel)⟩
theorem lw_p6 : lw_okq (⟨"StudioAirtime$Airing", "sumOverWeek", "(LStudioAirtime$Plan;I)I"⟩, 5) := ⟨⟨by decide +kernel, by decide +kernel⟩, List.mem_of_getElem? (i := 187) (by decide +kernel), List.mem_of_getElem? (i := 321) (by decide +kernel), List.mem_of_getElem? (i := 322) (by decide +kernel)⟩
theorem lw_p7 : lw_okq (⟨"StudioAirtime$Airing", "partOfDay", "(LStudioAirtime$Plan;II)I"⟩, 5) := ⟨⟨by decide +kernel, by decide +kernel⟩, List.mem_of_getElem? (i := 187) (by decide +kernel), List.mem_of_getElem? (i := 325) (by decide +kernel), List.mem_of_getElem? (i := 326) (by decide +kernel)⟩
theorem lw_p8 : lw_okq (⟨"StudioAirtime", "weekNumber", "(I)I"⟩, 7) := ⟨⟨by decide +kernel, by decide +kernel⟩, List.mem_of_getElem? (i := 19) (by decide +kernel), List.mem_of_getElem? (i := 353) (by decide +kernel), List.mem_of_getElem? (i := 354) (by decide +kernel)⟩
theorem lw_p9 : lw_okq (⟨"StudioAirtime", "groupProperty", "(II)I"⟩, 7) := ⟨⟨by decide +kernel, by decide +kernel⟩, List.mem_of_getElem? (i := 19) (by decide +kernel), List.mem_of_getElem? (i := 374) (by decide +kernel), List.mem_of_getElem? (i := 375) (by decide +kernel)⟩
theorem lw_p10 : lw_okq (⟨"StudioAirtime", "takeShow", "(LStudioAirtime$Hash;I)V"⟩, 7) := ⟨⟨by decide +kernel, by decide +kernel⟩, List.mem_of_getElem? (i := 19) (by decide +kernel), List.mem_of_getElem? (i := 399) (by decide +kernel), List.mem_of_getElem? (i := 400) (by decide +kernel)⟩
theorem lw_p11 : lw_okq (⟨"StudioAirtime", "showProperty", "(II)I"⟩, 7) := ⟨⟨by decide +kernel, by decide +kernel⟩, List.mem_of_getElem? (i := 19) (by decide +kernel), List.mem_of_getElem? (i := 403) (by decide +kernel), List.mem_of_getElem? (i := 404) (by decide +kernel)⟩
theorem lw_p12 : lw_okq (⟨"StudioAirtime$Plan", "exceedsAllowance", "(II)Z"⟩, 16) := ⟨⟨by decide +kernel, by decide +kernel⟩, List.mem_of_getElem? (i := 27) (by decide +kernel), List.mem_of_getElem? (i := 415) (by decide +kernel), List.mem_of_getElem? (i := 416) (by decide +kernel)⟩
theorem lw_p13 : lw_okq (⟨"StudioAirtime$Plan", "earliestRepeat", "(I)I"⟩, 16) := ⟨⟨by decide +kernel, by decide +kernel⟩, List.mem_of_getElem? (i := 27) (by decide +kernel), List.mem_of_getElem? (i := 421) (by decide +kernel), List.mem_of_getElem? (i := 422) (by decide +kernel)⟩
theorem lw_p14 : lw_okq (⟨"StudioAirtime$Plan", "firstFreeStart", "(III)I"⟩, 16) := ⟨⟨by decide +kernel, by decide +kernel⟩, List.mem_of_getElem? (i := 27) (by decide +kernel), List.mem_of_getElem? (i := 425) (by decide +kernel), List.mem_of_getElem? (i := 426) (by decide +kernel)⟩
theorem lw_p15 : lw_okq (⟨"StudioAirtime$Plan", "showInTheWay", "(III)I"⟩, 16) := ⟨⟨by decide +kernel, by decide +kernel⟩, List.mem_of_getElem? (i := 27) (by decide +kernel), List.mem_of_getElem? (i := 433) (by decide +kernel), List.mem_of_getElem? (i := 434) (by decide +kernel)⟩
def lw_privs_1 : List (MethodName × Nat) := [(⟨"StudioAirtime$Text", "readOwnShow", "(LStudioAirtime$Proposal;I)Z"⟩, 4), (⟨"StudioAirtime$Text", "readDigit", "(I)Z"⟩, 4), (⟨"StudioAirtime$Text", "readNumber", "()Z"⟩, 4), (⟨"StudioAirtime$Text", "readRepeat", "(LStudioAirtime$Proposal;)Z"⟩, 4), (⟨"StudioAirtime$Airing", "playShow", "(LStudioAirtime$Plan;II)V"⟩, 5), (⟨"StudioAirtime", "shareOnAir", "()D"⟩, 7), (⟨"StudioAirtime$Airing", "sumOverWeek", "(LStudioAirtime$Plan;I)I"⟩, 5), (⟨"StudioAirtime$Airing", "partOfDay", "(LStudioAirtime$Plan;II)I"⟩, 5), (⟨"StudioAirtime", "weekNumber", "(I)I"⟩, 7), (⟨"StudioAirtime", "groupProperty", "(II)I"⟩, 7), (⟨"StudioAirtime", "takeShow", "(LStudioAirtime$Hash;I)V"⟩, 7), (⟨"StudioAirtime", "showProperty", "(II)I"⟩, 7), (⟨"StudioAirtime$Plan", "exceedsAllowance", "(II)Z"⟩, 16), (⟨"StudioAirtime$Plan", "earliestRepeat", "(I)I"⟩, 16), (⟨"StudioAirtime$Plan", "firstFreeStart", "(III)I"⟩, 16), (⟨"StudioAirtime$Plan", "showInTheWay", "(III)I"⟩, 16)]
theorem lw_r1 : ∀ q ∈ lw_privs_1, lw_okq q := List.forall_mem_cons.mpr ⟨lw_p0, List.forall_mem_cons.mpr ⟨lw_p1, List.forall_mem_cons.mpr ⟨lw_p2, List.forall_mem_cons.mpr ⟨lw_p3, List.forall_mem_cons.mpr ⟨lw_p4, List.forall_mem_cons.mpr ⟨lw_p5, List.forall_mem_cons.mpr ⟨lw_p6, List.forall_mem_cons.mpr ⟨lw_p7, List.forall_mem_cons.mpr ⟨lw_p8, List.forall_mem_cons.mpr ⟨lw_p9, List.forall_mem_cons.mpr ⟨lw_p10, List.forall_mem_cons.mpr ⟨lw_p11, List.forall_mem_cons.mpr ⟨lw_p12, List.forall_mem_cons.mpr ⟨lw_p13, List.forall_mem_cons.mpr ⟨lw_p14, List.forall_mem_cons.mpr ⟨lw_p15, fun _ h => absurd h List.not_mem_nil⟩⟩⟩⟩⟩⟩⟩⟩⟩⟩⟩⟩⟩⟩⟩⟩
theorem lw_p16 : lw_okq (⟨"StudioAirtime$Plan", "exceedsSponsorLimit", "(III)Z"⟩, 16) := ⟨⟨by decide +kernel, by decide +kernel⟩, List.mem_of_getElem? (i := 27) (by decide +kernel), List.mem_of_getElem? (i := 437) (by decide +kernel), List.mem_of_getElem? (i := 438) (by decide +kernel)⟩
theorem lw_p17 : lw_okq (⟨"StudioAirtime", "greatestHarmlessOverrun", "(I)I"⟩, 7) := ⟨⟨by decide +kernel, by decide +kernel⟩, List.mem_of_getElem? (i := 19) (by decide +kernel), List.mem_of_getElem? (i := 450) (by decide +kernel), List.mem_of_getElem? (i := 451) (by decide +kernel)⟩
theorem lw_p18 : lw_okq (⟨"StudioAirtime", "isHarmless", "(II)Z"⟩, 7) := ⟨⟨by decide +kernel, by decide +kernel⟩, List.mem_of_getElem? (i := 19) (by decide +kernel), List.mem_of_getElem? (i := 454) (by decide +kernel), List.mem_of_getElem? (i := 455) (by decide +kernel)⟩
theorem lw_p19 : lw_okq (⟨"StudioAirtime", "takeDay", "(LStudioAirtime$Hash;I)V"⟩, 7) := ⟨⟨by decide +kernel, by decide +kernel⟩, List.mem_of_getElem? (i := 19) (by decide +kernel), List.mem_of_getElem? (i := 460) (by decide +kernel), List.mem_of_getElem? (i := 461) (by decide +kernel)⟩
theorem lw_p20 : lw_okq (⟨"StudioAirtime$Airing", "hoursAboveLimit", "(LStudioAirtime$Plan;I)I"⟩, 5) := ⟨⟨by decide +kernel, by decide +kernel⟩, List.mem_of_getElem? (i := 187) (by decide +kernel), List.mem_of_getElem? (i := 468) (by decide +kernel), List.mem_of_getElem? (i := 469) (by decide +kernel)⟩
theorem lw_p21 : lw_okq (⟨"java/lang/Throwable", "fillInStackTrace", "(I)Ljava/lang/Throwable;"⟩, 6) := ⟨⟨by decide +kernel, by decide +kernel⟩, List.mem_of_getElem? (i := 537) (by decide +kernel), List.mem_of_getElem? (i := 535) (by decide +kernel), List.mem_of_getElem? (i := 536) (by decide +kernel)⟩
theorem lw_p22 : lw_okq (⟨"StudioAirtime", "enterProposal", "()I"⟩, 7) := ⟨⟨by decide +kernel, by decide +kernel⟩, List.mem_of_getElem? (i := 19) (by decide +kernel), List.mem_of_getElem? (i := 624) (by decide +kernel), List.mem_of_getElem? (i := 625) (by decide +kernel)⟩
theorem lw_p23 : lw_okq (⟨"StudioAirtime$Plan", "numberFor", "(II)I"⟩, 16) := ⟨⟨by decide +kernel, by decide +kernel⟩, List.mem_of_getElem? (i := 27) (by decide +kernel), List.mem_of_getElem? (i := 656) (by decide +kernel), List.mem_of_getElem? (i := 657) (by decide +kernel)⟩
theorem lw_p24 : lw_okq (⟨"StudioAirtime$Plan", "moveShow", "(II)V"⟩, 16) := ⟨⟨by decide +kernel, by decide +kernel⟩, List.mem_of_getElem? (i := 27) (by decide +kernel), List.mem_of_getElem? (i := 660) (by decide +kernel), List.mem_of_getElem? (i := 661) (by decide +kernel)⟩
theorem lw_p25 : lw_okq (⟨"StudioAirtime$Plan", "takeOut", "(I)V"⟩, 16) := ⟨⟨by decide +kernel, by decide +kernel⟩, List.mem_of_getElem? (i := 27) (by decide +kernel), List.mem_of_getElem? (i := 690) (by decide +kernel), List.mem_of_getElem? (i := 691) (by decide +kernel)⟩
theorem lw_p26 : lw_okq (⟨"StudioAirtime", "refusalOfReadShow", "()I"⟩, 7) := ⟨⟨by decide +kernel, by decide +kernel⟩, List.mem_of_getElem? (i := 19) (by decide +kernel), List.mem_of_getElem? (i := 739) (by decide +kernel), List.mem_of_getElem? (i := 740) (by decide +kernel)⟩
theorem lw_p27 : lw_okq (⟨"StudioAirtimeModel", "replaced", "(II)I"⟩, 18) := ⟨⟨by decide +kernel, by decide +kernel⟩, List.mem_of_getElem? (i := 838) (by decide +kernel), List.mem_of_getElem? (i := 920) (by decide +kernel), List.mem_of_getElem? (i := 921) (by decide +kernel)⟩
theorem lw_p28 : lw_okq (⟨"StudioAirtimeModel", "save", "()V"⟩, 18) := ⟨⟨by decide +kernel, by decide +kernel⟩, List.mem_of_getElem? (i := 838) (by decide +kernel), List.mem_of_getElem? (i := 924) (by decide +kernel), List.mem_of_getElem? (i := 925) (by decide +kernel)⟩
theorem lw_p29 : lw_okq (⟨"StudioAirtimeModel", "tape", "(IIIIII)V"⟩, 18) := ⟨⟨by decide +kernel, by decide +kernel⟩, List.mem_of_getElem? (i := 838) (by decide +kernel), List.mem_of_getElem? (i := 951) (by decide +kernel), List.mem_of_getElem? (i := 952) (by decide +kernel)⟩
theorem lw_p30 : lw_okq (⟨"StudioAirtimeModel", "added", "(I)I"⟩, 18) := ⟨⟨by decide +kernel, by decide +kernel⟩, List.mem_of_getElem? (i := 838) (by decide +kernel), List.mem_of_getElem? (i := 955) (by decide +kernel), List.mem_of_getElem? (i := 956) (by decide +kernel)⟩
theorem lw_p31 : lw_okq (⟨"StudioAirtimeModel", "refusal", "()I"⟩, 18) := ⟨⟨by decide +kernel, by decide +kernel⟩, List.mem_of_getElem? (i := 838) (by decide +kernel), List.mem_of_getElem? (i := 959) (by decide +kernel), List.mem_of_getElem? (i := 960) (by decide +kernel)⟩
def lw_privs_2 : List (MethodName × Nat) := [(⟨"StudioAirtime$Plan", "exceedsSponsorLimit", "(III)Z"⟩, 16), (⟨"StudioAirtime", "greatestHarmlessOverrun", "(I)I"⟩, 7), (⟨"StudioAirtime", "isHarmless", "(II)Z"⟩, 7), (⟨"StudioAirtime", "takeDay", "(LStudioAirtime$Hash;I)V"⟩, 7), (⟨"StudioAirtime$Airing", "hoursAboveLimit", "(LStudioAirtime$Plan;I)I"⟩, 5), (⟨"java/lang/Throwable", "fillInStackTrace", "(I)Ljava/lang/Throwable;"⟩, 6), (⟨"StudioAirtime", "enterProposal", "()I"⟩, 7), (⟨"StudioAirtime$Plan", "numberFor", "(II)I"⟩, 16), (⟨"StudioAirtime$Plan", "moveShow", "(II)V"⟩, 16), (⟨"StudioAirtime$Plan", "takeOut", "(I)V"⟩, 16), (⟨"StudioAirtime", "refusalOfReadShow", "()I"⟩, 7), (⟨"StudioAirtimeModel", "replaced", "(II)I"⟩, 18), (⟨"StudioAirtimeModel", "save", "()V"⟩, 18), (⟨"StudioAirtimeModel", "tape", "(IIIIII)V"⟩, 18), (⟨"StudioAirtimeModel", "added", "(I)I"⟩, 18), (⟨"StudioAirtimeModel", "refusal", "()I"⟩, 18)]
theorem lw_r2 : ∀ q ∈ lw_privs_2, lw_okq q := List.forall_mem_cons.mpr ⟨lw_p16, List.forall_mem_cons.mpr ⟨lw_p17, List.forall_mem_cons.mpr ⟨lw_p18, List.forall_mem_cons.mpr ⟨lw_p19, List.forall_mem_cons.mpr ⟨lw_p20, List.forall_mem_cons.mpr ⟨lw_p21, List.forall_mem_cons.mpr ⟨lw_p22, List.forall_mem_cons.mpr ⟨lw_p23, List.forall_mem_cons.mpr ⟨lw_p24, List.forall_mem_cons.mpr ⟨lw_p25, List.forall_mem_cons.mpr ⟨lw_p26, List.forall_mem_cons.mpr ⟨lw_p27, List.forall_mem_cons.mpr ⟨lw_p28, List.forall_mem_cons.mpr ⟨lw_p29, List.forall_mem_cons.mpr ⟨lw_p30, List.forall_mem_cons.mpr ⟨lw_p31, fun _ h => absurd h List.not_mem_nil⟩⟩⟩⟩⟩⟩⟩⟩⟩⟩⟩⟩⟩⟩⟩⟩
theorem lw_p32 : lw_okq (⟨"StudioAirtimeModel", "of", "(II)I"⟩, 18) := ⟨⟨by decide +kernel, by decide +kernel⟩, List.mem_of_getElem? (i := 838) (by decide +kernel), List.mem_of_getElem? (i := 963) (by decide +kernel), List.mem_of_getElem? (i := 964) (by decide +kernel)⟩
theorem lw_p33 : lw_okq (⟨"StudioAirtimeModel", "meetsOther", "()Z"⟩, 18) := ⟨⟨by decide +kernel, by decide +kernel⟩, List.mem_of_getElem? (i := 838) (by decide +kernel), List.mem_of_getElem? (i := 967) (by decide +kernel), List.mem_of_getElem? (i := 968) (by decide +kernel)⟩
theorem lw_p34 : lw_okq (⟨"StudioAirtimeModel", "isEarly", "()Z"⟩, 18) := ⟨⟨by decide +kernel, by decide +kernel⟩, List.mem_of_getElem? (i := 838) (by decide +kernel), List.mem_of_getElem? (i := 971) (by decide +kernel), List.mem_of_getElem? (i := 972) (by decide +kernel)⟩
theorem lw_p35 : lw_okq (⟨"StudioAirtimeModel", "plannedWorth", "(I)I"⟩, 18) := ⟨⟨by decide +kernel, by decide +kernel⟩, List.mem_of_getElem? (i := 838) (by decide +kernel), List.mem_of_getElem? (i := 975) (by decide +kernel), List.mem_of_getElem? (i := 976) (by decide +kernel)⟩
theorem lw_p36 : lw_okq (⟨"StudioAirtimeModel", "worth", "(II)I"⟩, 18) := ⟨⟨by decide +kernel, by decide +kernel⟩, List.mem_of_getElem? (i := 838) (by decide +kernel), List.mem_of_getElem? (i := 979) (by decide +kernel), List.mem_of_getElem? (i := 980) (by decide +kernel)⟩
theorem lw_p37 : lw_okq (⟨"StudioAirtimeModel", "allowance", "(I)I"⟩, 18) := ⟨⟨by decide +kernel, by decide +kernel⟩, List.mem_of_getElem? (i := 838) (by decide +kernel), List.mem_of_getElem? (i := 983) (by decide +kernel), List.mem_of_getElem? (i := 984) (by decide +kernel)⟩
theorem lw_p38 : lw_okq (⟨"StudioAirtimeModel", "sponsorsTooMuch", "()Z"⟩, 18) := ⟨⟨by decide +kernel, by decide +kernel⟩, List.mem_of_getElem? (i := 838) (by decide +kernel), List.mem_of_getElem? (i := 987) (by decide +kernel), List.mem_of_getElem? (i := 988) (by decide +kernel)⟩
theorem lw_p39 : lw_okq (⟨"StudioAirtimeModel", "planned", "(II)I"⟩, 18) := ⟨⟨by decide +kernel, by decide +kernel⟩, List.mem_of_getElem? (i := 838) (by decide +kernel), List.mem_of_getElem? (i := 991) (by decide +kernel), List.mem_of_getElem? (i := 992) (by decide +kernel)⟩
theorem lw_p40 : lw_okq (⟨"StudioAirtimeModel", "putIn", "()I"⟩, 18) := ⟨⟨by decide +kernel, by decide +kernel⟩, List.mem_of_getElem? (i := 838) (by decide +kernel), List.mem_of_getElem? (i := 998) (by decide +kernel), List.mem_of_getElem? (i := 999) (by decide +kernel)⟩
theorem lw_p41 : lw_okq (⟨"StudioAirtimeModel", "put", "(III)V"⟩, 18) := ⟨⟨by decide +kernel, by decide +kernel⟩, List.mem_of_getElem? (i := 838) (by decide +kernel), List.mem_of_getElem? (i := 1002) (by decide +kernel), List.mem_of_getElem? (i := 1003) (by decide +kernel)⟩
theorem lw_p42 : lw_okq (⟨"StudioAirtimeModel", "isShow", "(I)Z"⟩, 18) := ⟨⟨by decide +kernel, by decide +kernel⟩, List.mem_of_getElem? (i := 838) (by decide +kernel), List.mem_of_getElem? (i := 1010) (by decide +kernel), List.mem_of_getElem? (i := 1011) (by decide +kernel)⟩
theorem lw_p43 : lw_okq (⟨"StudioAirtimeModel", "again", "(III)V"⟩, 18) := ⟨⟨by decide +kernel, by decide +kernel⟩, List.mem_of_getElem? (i := 838) (by decide +kernel), List.mem_of_getElem? (i := 1014) (by decide +kernel), List.mem_of_getElem? (i := 1015) (by decide +kernel)⟩
theorem lw_p44 : lw_okq (⟨"StudioAirtimeModel", "takeOut", "(I)V"⟩, 18) := ⟨⟨by decide +kernel, by decide +kernel⟩, List.mem_of_getElem? (i := 838) (by decide +kernel), List.mem_of_getElem? (i := 1022) (by decide +kernel), List.mem_of_getElem? (i := 1023) (by decide +kernel)⟩
theorem lw_p45 : lw_okq (⟨"StudioAirtimeModel", "isLive", "(I)Z"⟩, 18) := ⟨⟨by decide +kernel, by decide +kernel⟩, List.mem_of_getElem? (i := 838) (by decide +kernel), List.mem_of_getElem? (i := 1033) (by decide +kernel), List.mem_of_getElem? (i := 1034) (by decide +kernel)⟩
theorem lw_p46 : lw_okq (⟨"StudioAirtimeModel", "closeGroup", "(I)V"⟩, 18) := ⟨⟨by decide +kernel, by decide +kernel⟩, List.mem_of_getElem? (i := 838) (by decide +kernel), List.mem_of_getElem? (i := 1041) (by decide +kernel), List.mem_of_getElem? (i := 1042) (by decide +kernel)⟩
theorem lw_p47 : lw_okq (⟨"StudioAirtimeModel", "airWorth", "(I)I"⟩, 18) := ⟨⟨by decide +kernel, by decide +kernel⟩, List.mem_of_getElem? (i := 838) (by decide +kernel), List.mem_of_getElem? (i := 1045) (by decide +kernel), List.mem_of_getElem? (i := 1046) (by decide +kernel)⟩
def lw_privs_3 : List (MethodName × Nat) := [(⟨"StudioAirtimeModel", "of", "(II)I"⟩, 18), (⟨"StudioAirtimeModel", "meetsOther", "()Z"⟩, 18), (⟨"StudioAirtimeModel", "isEarly", "()Z"⟩, 18), (⟨"StudioAirtimeModel", "plannedWorth", "(I)I"⟩, 18), (⟨"StudioAirtimeModel", "worth", "(II)I"⟩, 18), (⟨"StudioAirtimeModel", "allowance", "(I)I"⟩, 18), (⟨"StudioAirtimeModel", "sponsorsTooMuch", "()Z"⟩, 18), (⟨"StudioAirtimeModel", "planned", "(II)I"⟩, 18), (⟨"StudioAirtimeModel", "putIn", "()I"⟩, 18), (⟨"StudioAirtimeModel", "put", "(III)V"⟩, 18), (⟨"StudioAirtimeModel", "isShow", "(I)Z"⟩, 18), (⟨"StudioAirtimeModel", "again", "(III)V"⟩, 18), (⟨"StudioAirtimeModel", "takeOut", "(I)V"⟩, 18), (⟨"StudioAirtimeModel", "isLive", "(I)Z"⟩, 18), (⟨"StudioAirtimeModel", "closeGroup", "(I)V"⟩, 18), (⟨"StudioAirtimeModel", "airWorth", "(I)I"⟩, 18)]
theorem lw_r3 : ∀ q ∈ lw_privs_3, lw_okq q := List.forall_mem_cons.mpr ⟨lw_p32, List.forall_mem_cons.mpr ⟨lw_p33, List.forall_mem_cons.mpr ⟨lw_p34, List.forall_mem_cons.mpr ⟨lw_p35, List.forall_mem_cons.mpr ⟨lw_p36, List.forall_mem_cons.mpr ⟨lw_p37, List.forall_mem_cons.mpr ⟨lw_p38, List.forall_mem_cons.mpr ⟨lw_p39, List.forall_mem_cons.mpr ⟨lw_p40, List.forall_mem_cons.mpr ⟨lw_p41, List.forall_mem_cons.mpr ⟨lw_p42, List.forall_mem_cons.mpr ⟨lw_p43, List.forall_mem_cons.mpr ⟨lw_p44, List.forall_mem_cons.mpr ⟨lw_p45, List.forall_mem_cons.mpr ⟨lw_p46, List.forall_mem_cons.mpr ⟨lw_p47, fun _ h => absurd h List.not_mem_nil⟩⟩⟩⟩⟩⟩⟩⟩⟩⟩⟩⟩⟩⟩⟩⟩
theorem lw_p48 : lw_okq (⟨"StudioAirtimeModel", "layAll", "()V"⟩, 18) := ⟨⟨by decide +kernel, by decide +kernel⟩, List.mem_of_getElem? (i := 838) (by decide +kernel), List.mem_of_getElem? (i := 1049) (by decide +kernel), List.mem_of_getElem? (i := 1050) (by decide +kernel)⟩
theorem lw_p49 : lw_okq (⟨"StudioAirtimeModel", "layDay", "(I)V"⟩, 18) := ⟨⟨by decide +kernel, by decide +kernel⟩, List.mem_of_getElem? (i := 838) (by decide +kernel), List.mem_of_getElem? (i := 1053) (by decide +kernel), List.mem_of_getElem? (i := 1054) (by decide +kernel)⟩
theorem lw_p50 : lw_okq (⟨"StudioAirtimeModel", "layShow", "(I)V"⟩, 18) := ⟨⟨by decide +kernel, by decide +kernel⟩, List.mem_of_getElem? (i := 838) (by decide +kernel), List.mem_of_getElem? (i := 1057) (by decide +kernel), List.mem_of_getElem? (i := 1058) (by decide +kernel)⟩
theorem lw_p51 : lw_okq (⟨"StudioAirtimeModel", "readText", "()I"⟩, 18) := ⟨⟨by decide +kernel, by decide +kernel⟩, List.mem_of_getElem? (i := 838) (by decide +kernel), List.mem_of_getElem? (i := 1073) (by decide +kernel), List.mem_of_getElem? (i := 1074) (by decide +kernel)⟩
theorem lw_p52 : lw_okq (⟨"StudioAirtimeModel", "takes", "(I)Z"⟩, 18) := ⟨⟨by decide +kernel, by decide +kernel⟩, List.mem_of_getElem? (i := 838) (by decide +kernel), List.mem_of_getElem? (i := 1077) (by decide +kernel), List.mem_of_getElem? (i := 1078) (by decide +kernel)⟩
theorem lw_p53 : lw_okq (⟨"StudioAirtimeModel", "begins", "(I)Z"⟩, 18) := ⟨⟨by decide +kernel, by decide +kernel⟩, List.mem_of_getElem? (i := 838) (by decide +kernel), List.mem_of_getElem? (i := 1081) (by decide +kernel), List.mem_of_getElem? (i := 1082) (by decide +kernel)⟩
theorem lw_p54 : lw_okq (⟨"StudioAirtimeModel", "putRead", "(II)V"⟩, 18) := ⟨⟨by decide +kernel, by decide +kernel⟩, List.mem_of_getElem? (i := 838) (by decide +kernel), List.mem_of_getElem? (i := 1085) (by decide +kernel), List.mem_of_getElem? (i := 1086) (by decide +kernel)⟩
theorem lw_p55 : lw_okq (⟨"StudioAirtimeModel", "goes", "(ZI)Z"⟩, 18) := ⟨⟨by decide +kernel, by decide +kernel⟩, List.mem_of_getElem? (i := 838) (by decide +kernel), List.mem_of_getElem? (i := 1089) (by decide +kernel), List.mem_of_getElem? (i := 1090) (by decide +kernel)⟩
theorem lw_p56 : lw_okq (⟨"StudioAirtimeModel", "takesDigit", "(IIII)Z"⟩, 18) := ⟨⟨by decide +kernel, by decide +kernel⟩, List.mem_of_getElem? (i := 838) (by decide +kernel), List.mem_of_getElem? (i := 1093) (by decide +kernel), List.mem_of_getElem? (i := 1094) (by decide +kernel)⟩
theorem lw_p57 : lw_okq (⟨"StudioAirtimeModel", "beginsNumber", "(II)Z"⟩, 18) := ⟨⟨by decide +kernel, by decide +kernel⟩, List.mem_of_getElem? (i := 838) (by decide +kernel), List.mem_of_getElem? (i := 1097) (by decide +kernel), List.mem_of_getElem? (i := 1098) (by decide +kernel)⟩
theorem lw_p58 : lw_okq (⟨"StudioAirtimeModel", "goesOn", "(II)Z"⟩, 18) := ⟨⟨by decide +kernel, by decide +kernel⟩, List.mem_of_getElem? (i := 838) (by decide +kernel), List.mem_of_getElem? (i := 1104) (by decide +kernel), List.mem_of_getElem? (i := 1105) (by decide +kernel)⟩
theorem lw_p59 : lw_okq (⟨"StudioAirtimeModel", "endsShow", "(I)Z"⟩, 18) := ⟨⟨by decide +kernel, by decide +kernel⟩, List.mem_of_getElem? (i := 838) (by decide +kernel), List.mem_of_getElem? (i := 1108) (by decide +kernel), List.mem_of_getElem? (i := 1109) (by decide +kernel)⟩
theorem lw_p60 : lw_okq (⟨"StudioAirtimeModel", "isComplete", "()Z"⟩, 18) := ⟨⟨by decide +kernel, by decide +kernel⟩, List.mem_of_getElem? (i := 838) (by decide +kernel), List.mem_of_getElem? (i := 1116) (by decide +kernel), List.mem_of_getElem? (i := 1117) (by decide +kernel)⟩
theorem lw_p61 : lw_okq (⟨"StudioAirtimeModel", "addRead", "(I)I"⟩, 18) := ⟨⟨by decide +kernel, by decide +kernel⟩, List.mem_of_getElem? (i := 838) (by decide +kernel), List.mem_of_getElem? (i := 1120) (by decide +kernel), List.mem_of_getElem? (i := 1121) (by decide +kernel)⟩
theorem lw_p62 : lw_okq (⟨"StudioAirtimeModel", "showNow", "(II)I"⟩, 18) := ⟨⟨by decide +kernel, by decide +kernel⟩, List.mem_of_getElem? (i := 838) (by decide +kernel), List.mem_of_getElem? (i := 1132) (by decide +kernel), List.mem_of_getElem? (i := 1133) (by decide +kernel)⟩
theorem lw_p63 : lw_okq (⟨"StudioAirtimeModel", "groupNow", "(II)I"⟩, 18) := ⟨⟨by decide +kernel, by decide +kernel⟩, List.mem_of_getElem? (i := 838) (by decide +kernel), List.mem_of_getElem? (i := 1140) (by decide +kernel), List.mem_of_getElem? (i := 1141) (by decide +kernel)⟩
def lw_privs_4 : List (MethodName × Nat) := [(⟨"StudioAirtimeModel", "layAll", "()V"⟩, 18), (⟨"StudioAirtimeModel", "layDay", "(I)V"⟩, 18), (⟨"StudioAirtimeModel", "layShow", "(I)V"⟩, 18), (⟨"StudioAirtimeModel", "readText", "()I"⟩, 18), (⟨"StudioAirtimeModel", "takes", "(I)Z"⟩, 18), (⟨"StudioAirtimeModel", "begins", "(I)Z"⟩, 18), (⟨"StudioAirtimeModel", "putRead", "(II)V"⟩, 18), (⟨"StudioAirtimeModel", "goes", "(ZI)Z"⟩, 18), (⟨"StudioAirtimeModel", "takesDigit", "(IIII)Z"⟩, 18), (⟨"StudioAirtimeModel", "beginsNumber", "(II)Z"⟩, 18), (⟨"StudioAirtimeModel", "goesOn", "(II)Z"⟩, 18), (⟨"StudioAirtimeModel", "endsShow", "(I)Z"⟩, 18), (⟨"StudioAirtimeModel", "isComplete", "()Z"⟩, 18), (⟨"StudioAirtimeModel", "addRead", "(I)I"⟩, 18), (⟨"StudioAirtimeModel", "showNow", "(II)I"⟩, 18), (⟨"StudioAirtimeModel", "groupNow", "(II)I"⟩, 18)]
theorem lw_r4 : ∀ q ∈ lw_privs_4, lw_okq q := List.forall_mem_cons.mpr ⟨lw_p48, List.forall_mem_cons.mpr ⟨lw_p49, List.forall_mem_cons.mpr ⟨lw_p50, List.forall_mem_cons.mpr ⟨lw_p51, List.forall_mem_cons.mpr ⟨lw_p52, List.forall_mem_cons.mpr ⟨lw_p53, List.forall_mem_cons.mpr ⟨lw_p54, List.forall_mem_cons.mpr ⟨lw_p55, List.forall_mem_cons.mpr ⟨lw_p56, List.forall_mem_cons.mpr ⟨lw_p57, List.forall_mem_cons.mpr ⟨lw_p58, List.forall_mem_cons.mpr ⟨lw_p59, List.forall_mem_cons.mpr ⟨lw_p60, List.forall_mem_cons.mpr ⟨lw_p61, List.forall_mem_cons.mpr ⟨lw_p62, List.forall_mem_cons.mpr ⟨lw_p63, fun _ h => absurd h List.not_mem_nil⟩⟩⟩⟩⟩⟩⟩⟩⟩⟩⟩⟩⟩⟩⟩⟩
theorem lw_p64 : lw_okq (⟨"StudioAirtimeModel", "showsOf", "(I)I"⟩, 18) := ⟨⟨by decide +kernel, by decide +kernel⟩, List.mem_of_getElem? (i := 838) (by decide +kernel), List.mem_of_getElem? (i := 1144) (by decide +kernel), List.mem_of_getElem? (i := 1145) (by decide +kernel)⟩
theorem lw_p65 : lw_okq (⟨"StudioAirtimeModel", "sponsorsNow", "(IIZ)I"⟩, 18) := ⟨⟨by decide +kernel, by decide +kernel⟩, List.mem_of_getElem? (i := 838) (by decide +kernel), List.mem_of_getElem? (i := 1152) (by decide +kernel), List.mem_of_getElem? (i := 1153) (by decide +kernel)⟩
theorem lw_p66 : lw_okq (⟨"StudioAirtimeModel", "aired", "(II)I"⟩, 18) := ⟨⟨by decide +kernel, by decide +kernel⟩, List.mem_of_getElem? (i := 838) (by decide +kernel), List.mem_of_getElem? (i := 1156) (by decide +kernel), List.mem_of_getElem? (i := 1157) (by decide +kernel)⟩
theorem lw_p67 : lw_okq (⟨"StudioAirtimeModel", "dayNow", "(II)I"⟩, 18) := ⟨⟨by decide +kernel, by decide +kernel⟩, List.mem_of_getElem? (i := 838) (by decide +kernel), List.mem_of_getElem? (i := 1164) (by decide +kernel), List.mem_of_getElem? (i := 1165) (by decide +kernel)⟩
theorem lw_p68 : lw_okq (⟨"StudioAirtimeModel", "showPart", "(II)I"⟩, 18) := ⟨⟨by decide +kernel, by decide +kernel⟩, List.mem_of_getElem? (i := 838) (by decide +kernel), List.mem_of_getElem? (i := 1168) (by decide +kernel), List.mem_of_getElem? (i := 1169) (by decide +kernel)⟩
theorem lw_p69 : lw_okq (⟨"StudioAirtimeModel", "counted", "(I)I"⟩, 18) := ⟨⟨by decide +kernel, by decide +kernel⟩, List.mem_of_getElem? (i := 838) (by decide +kernel), List.mem_of_getElem? (i := 1176) (by decide +kernel), List.mem_of_getElem? (i := 1177) (by decide +kernel)⟩
theorem lw_p70 : lw_okq (⟨"StudioAirtimeModel", "ofKind", "(I)I"⟩, 18) := ⟨⟨by decide +kernel, by decide +kernel⟩, List.mem_of_getElem? (i := 838) (by decide +kernel), List.mem_of_getElem? (i := 1180) (by decide +kernel), List.mem_of_getElem? (i := 1181) (by decide +kernel)⟩
theorem lw_p71 : lw_okq (⟨"StudioAirtimeModel", "inWeek", "(I)I"⟩, 18) := ⟨⟨by decide +kernel, by decide +kernel⟩, List.mem_of_getElem? (i := 838) (by decide +kernel), List.mem_of_getElem? (i := 1184) (by decide +kernel), List.mem_of_getElem? (i := 1185) (by decide +kernel)⟩
theorem lw_p72 : lw_okq (⟨"StudioAirtimeModel", "whyTape", "(IIII)I"⟩, 18) := ⟨⟨by decide +kernel, by decide +kernel⟩, List.mem_of_getElem? (i := 838) (by decide +kernel), List.mem_of_getElem? (i := 1196) (by decide +kernel), List.mem_of_getElem? (i := 1197) (by decide +kernel)⟩
theorem lw_p73 : lw_okq (⟨"StudioAirtimeModel", "firstOf", "(III)I"⟩, 18) := ⟨⟨by decide +kernel, by decide +kernel⟩, List.mem_of_getElem? (i := 838) (by decide +kernel), List.mem_of_getElem? (i := 1204) (by decide +kernel), List.mem_of_getElem? (i := 1205) (by decide +kernel)⟩
theorem lw_p74 : lw_okq (⟨"StudioAirtimeModel", "repeatOf", "(I)I"⟩, 18) := ⟨⟨by decide +kernel, by decide +kernel⟩, List.mem_of_getElem? (i := 838) (by decide +kernel), List.mem_of_getElem? (i := 1212) (by decide +kernel), List.mem_of_getElem? (i := 1213) (by decide +kernel)⟩
theorem lw_p75 : lw_okq (⟨"StudioAirtimeModel", "dayWith", "(III)I"⟩, 18) := ⟨⟨by decide +kernel, by decide +kernel⟩, List.mem_of_getElem? (i := 838) (by decide +kernel), List.mem_of_getElem? (i := 1220) (by decide +kernel), List.mem_of_getElem? (i := 1221) (by decide +kernel)⟩
theorem lw_p76 : lw_okq (⟨"StudioAirtimeModel", "mostOverrun", "(I)I"⟩, 18) := ⟨⟨by decide +kernel, by decide +kernel⟩, List.mem_of_getElem? (i := 838) (by decide +kernel), List.mem_of_getElem? (i := 1228) (by decide +kernel), List.mem_of_getElem? (i := 1229) (by decide +kernel)⟩
theorem lw_p77 : lw_okq (⟨"StudioAirtimeModel", "shareNow", "()D"⟩, 18) := ⟨⟨by decide +kernel, by decide +kernel⟩, List.mem_of_getElem? (i := 838) (by decide +kernel), List.mem_of_getElem? (i := 1236) (by decide +kernel), List.mem_of_getElem? (i := 1237) (by decide +kernel)⟩
theorem lw_p78 : lw_okq (⟨"StudioAirtimeModel", "mix", "(J)V"⟩, 18) := ⟨⟨by decide +kernel, by decide +kernel⟩, List.mem_of_getElem? (i := 838) (by decide +kernel), List.mem_of_getElem? (i := 1245) (by decide +kernel), List.mem_of_getElem? (i := 1246) (by decide +kernel)⟩
theorem lw_p79 : lw_okq (⟨"StudioAirtimeModel", "mixDays", "()V"⟩, 18) := ⟨⟨by decide +kernel, by decide +kernel⟩, List.mem_of_getElem? (i := 838) (by decide +kernel), List.mem_of_getElem? (i := 1250) (by decide +kernel), List.mem_of_getElem? (i := 1251) (by decide +kernel)⟩
def lw_privs_5 : List (MethodName × Nat) := [(⟨"StudioAirtimeModel", "showsOf", "(I)I"⟩, 18), (⟨"StudioAirtimeModel", "sponsorsNow", "(IIZ)I"⟩, 18), (⟨"StudioAirtimeModel", "aired", "(II)I"⟩, 18), (⟨"StudioAirtimeModel", "dayNow", "(II)I"⟩, 18), (⟨"StudioAirtimeModel", "showPart", "(II)I"⟩, 18), (⟨"StudioAirtimeModel", "counted", "(I)I"⟩, 18), (⟨"StudioAirtimeModel", "ofKind", "(I)I"⟩, 18), (⟨"StudioAirtimeModel", "inWeek", "(I)I"⟩, 18), (⟨"StudioAirtimeModel", "whyTape", "(IIII)I"⟩, 18), (⟨"StudioAirtimeModel", "firstOf", "(III)I"⟩, 18), (⟨"StudioAirtimeModel", "repeatOf", "(I)I"⟩, 18), (⟨"StudioAirtimeModel", "dayWith", "(III)I"⟩, 18), (⟨"StudioAirtimeModel", "mostOverrun", "(I)I"⟩, 18), (⟨"StudioAirtimeModel", "shareNow", "()D"⟩, 18), (⟨"StudioAirtimeModel", "mix", "(J)V"⟩, 18), (⟨"StudioAirtimeModel", "mixDays", "()V"⟩, 18)]
theorem lw_r5 : ∀ q ∈ lw_privs_5, lw_okq q := List.forall_mem_cons.mpr ⟨lw_p64, List.forall_mem_cons.mpr ⟨lw_p65, List.forall_mem_cons.mpr ⟨lw_p66, List.forall_mem_cons.mpr ⟨lw_p67, List.forall_mem_cons.mpr ⟨lw_p68, List.forall_mem_cons.mpr ⟨lw_p69, List.forall_mem_cons.mpr ⟨lw_p70, List.forall_mem_cons.mpr ⟨lw_p71, List.forall_mem_cons.mpr ⟨lw_p72, List.forall_mem_cons.mpr ⟨lw_p73, List.forall_mem_cons.mpr ⟨lw_p74, List.forall_mem_cons.mpr ⟨lw_p75, List.forall_mem_cons.mpr ⟨lw_p76, List.forall_mem_cons.mpr ⟨lw_p77, List.forall_mem_cons.mpr ⟨lw_p78, List.forall_mem_cons.mpr ⟨lw_p79, fun _ h => absurd h List.not_mem_nil⟩⟩⟩⟩⟩⟩⟩⟩⟩⟩⟩⟩⟩⟩⟩⟩
def lw_privs : List (MethodName × Nat) := lw_privs_1 ++ (lw_privs_2 ++ (lw_privs_3 ++ (lw_privs_4 ++ (lw_privs_5))))
def lw_tbl : List Cond := k2_sels lw_privs ++ tables_1
theorem lw_privs_ok : ∀ q ∈ lw_privs, lw_okq q := by
  show ∀ q ∈ lw_privs_1 ++ (lw_privs_2 ++ (lw_privs_3 ++ (lw_privs_4 ++ (lw_privs_5)))), lw_okq q
  exact List.forall_mem_append.mpr ⟨lw_r1, List.forall_mem_append.mpr ⟨lw_r2, List.forall_mem_append.mpr ⟨lw_r3, List.forall_mem_append.mpr ⟨lw_r4, lw_r5⟩⟩⟩⟩
/-- the streams that the claim lets the run draw from -/
abbrev lw_cs : List Choice := [Jvm.Choice.named "NaN.bits"]
theorem lw_bits : nanBits ∈ lw_cs := by first | decide | exact List.mem_cons_self | simp [lw_cs, nanBits]
-- ===== end of PART A; then your names; then what follows =====
end
section
/-! ===== BEGIN words of one list among another's, by their places ===== -/
theorem goodIn_r {big : List Cond} (ws : List Cond) (ps : List Nat) (hp : ws = ps.filterMap (fun i => big[i]?)) (h : ws.all goodWord = true) : GoodIn big ws := by
  intro w hw
  have h1 := List.all_eq_true.mp h w hw
  rw [hp] at hw
  obtain ⟨i, -, hi⟩ := List.mem_filterMap.mp hw
  have hm : w ∈ big := by first | exact List.mem_of_getElem? hi | exact List.getElem?_mem hi
  exact ⟨hm, good_of_word h1⟩
theorem goodIn_app {big a b : List Cond} (ha : GoodIn big a) (hb : GoodIn big b) : GoodIn big (a ++ b) := fun w h => (List.mem_append.mp h).elim (ha w) (hb w)
theorem goodIn_ca {big a b : List Cond} {c : Cond} (ha : GoodIn big (c :: a)) (hb : GoodIn big b) : GoodIn big (c :: (a ++ b)) := fun w h => (List.mem_cons.mp h).elim (fun e => ha w (List.mem_cons.mpr (Or.inl e))) (fun h => (List.mem_append.mp h).elim (fun h => ha w (List.mem_cons.mpr (Or.inr h))) (hb w))
theorem goodIn_sub {big ws : List Cond} (hm : ∀ w ∈ ws, w ∈ big) (h : ws.all goodWord = true) : GoodIn big ws := fun w hw => ⟨hm w hw, good_of_word (List.all_eq_true.mp h w hw)⟩
/-! ===== END ===== -/

/-! ===== BEGIN exceptions that leave a method, and their catching by the caller (launches without stack traces) ===== -/
section VXA
/-! The laws vx_back, vx_callV, vx_callS, vx_callSW, vx_throw0, vx_throwS follow proofs of the library, with one case more: JvmDerived/Free/Laws.lean (Back.of_free), Shelf42/LK1.lean (callV, callS), Shelf/KitTraced.lean (throwNew0V, throwNewS). -/
/-- where a method has thrown q: the class by its name, the cell, what was written, the world -/
def vx_T (XC : String → State → State → Prop) (st : State) (q : Addr) (t : State) (mc ms : Nat) (free : Addr → Prop) : Prop :=
  ∃ (E : String) (ce : Cell) (L : List Loc), XC E st t ∧ t.heap[q]? = some ce ∧ ce.vm = .none ∧ st.vm.findClass E = some ce.cls ∧ st.WarmedH t.vm ∧ st.sameButNew ({ t with vm := st.vm } : State) L mc ms ∧ ∀ z ∈ L, free z.base
def vx_Q (Qc : Array Value → State → Outcome → State → Prop) (XC : String → State → State → Prop) (mc ms : Nat) (free : Addr → Prop) : Array Value → State → Outcome → State → Prop := fun a st o t =>
  (Qc a st o t ∧ ∃ L, FrameEnd st o t L mc ms ∧ ∀ q ∈ L, free q.base) ∨ ∃ q, o = .threw q ∧ vx_T XC st q t mc ms free
/-- a callee that returns or throws -/
def vx_Met (l : Launch) (y : MethodName) (ws : List Cond) (rm : Room) (Pc : Array Value → State → Prop) (Qc : Array Value → State → Outcome → State → Prop) (XC : String → State → State → Prop) (mc ms : Nat) (free : Addr → Prop) : Prop :=
  MetFree l y (headSpec ws rm) Pc (fun _ _ _ _ _ => True) (vx_Q Qc XC mc ms free)
def vx_Post (XC : String → State → State → Prop) (mc ms : Nat) (free : Addr → Prop) : Pt → Array Value → Addr → Pt → Prop := fun A a q B =>
  ∃ (g : JFrame) (mk : MethodId) (t : State) (L : List Loc) (E : String) (ce : Cell), B.U.heap = t.heap ∧ B.U.vm = t.vm ∧ XC E (A.U.calling g mk a) t ∧ t.heap[q]? = some ce ∧ ce.vm = .none ∧ A.U.vm.findClass E = some ce.cls ∧ B.locs = A.locs ++ L ∧ (∀ z ∈ L, free z.base) ∧ B.cells = A.cells + mc ∧ B.slots = A.slots + ms
def vx_Back (l : Launch) (R : Room) (p : Program) (e : Env) (below : List Frame) (s : State) (sargs : Array Value) (y : MethodName) (len W9 : Nat)
    (Pre : Pt → Array Value → Prop) (Post : Pt → Array Value → Option Value → Pt → Prop) (PostX : Pt → Array Value → Addr → Pt → Prop) : Prop :=
  ∀ (m : MethodId) (meth : Method) (c : Code) (A : Pt) (g : JFrame) (ig : Instr) (mk : MethodId) (a : Array Value),
    Stand p l e R s m sargs below meth c A.U A.locs A.cells A.slots → g.method = m → g.locals.size = c.maxLocals → decode c.code g.pc = .ok (ig, len) →
    2 * g.monitorRoom + (g.stack.map fun v => v.category).sum ≤ W9 → A.U.methodNamed? y = some mk → Pre A a →
    (∃ (v : Option Value) (B : Pt), Stand p l e R s m sargs below meth c B.U B.locs B.cells B.slots ∧ Post A a v B ∧
      Steps p.tables e below (doInvoke e (A.U.setTop g) [] mk a).1 (B.U.setTop { g with pc := g.pc + len, stack := v.toList ++ g.stack })) ∨
    (∃ (q : Addr) (B : Pt), Stand p l e R s m sargs below meth c B.U B.locs B.cells B.slots ∧ PostX A a q B ∧
      Steps p.tables e below (doInvoke e (A.U.setTop g) [] mk a).1 ((B.U.setTop g).pushFrame (.throwing q)))
section Payer
variable {l : Launch} {R : Room} {p : Program} {e : Env} {below : List Frame} {s : State} {sargs : Array Value} {y : MethodName} {len W9 : Nat}
theorem vx_back {ws : List Cond} {rm : Room} {Pc : Array Value → State → Prop} {Qc : Array Value → State → Outcome → State → Prop} {XC : String → State → State → Prop} {mc ms : Nat} {free : Addr → Prop} {bytes : ByteArray} {maxL : Nat} {ret : Option FieldType}
    (hM : vx_Met l y ws rm Pc Qc XC mc ms free) (hblind : FrameBlind Pc) (hrc : rm.cells = mc) (hrs : rm.slots = ms)
    (hframes : rm.frames + 1 ≤ R.frames) (hlocals : W9 + (maxL + 11) + rm.locals ≤ R.locals)
    (hws : ∀ w ∈ ws, ∀ a' U, s.WarmedH U.vm → w.before a' U = true) (hcode : Cond.code y bytes maxL ret ∈ ws) (hinit : ∀ a' U, s.WarmedH U.vm → (Cond.initialized y.cls).before a' U = true) :
    vx_Back l R p e below s sargs y len W9 (PreOf R mc ms Pc) (PostOf Qc mc ms free) (vx_Post XC mc ms free) := by
  intro m meth c A g ig mk a X hg hsize hdg hW hn hp
  have h1 : (headSpec ws rm).pre.before a A.U = true := atoms_intro fun w hw => hws w hw _ _ X.warmed
  have h2 : (Cond.code y bytes maxL ret).before a A.U = true := hws _ hcode _ _ X.warmed
  have h3 : (Cond.initialized y.cls).before a A.U = true := hinit _ _ X.warmed
  have h4 : A.cells + (headSpec ws rm).room.cells ≤ R.cells := by rw [show (headSpec ws rm).room.cells = mc from hrc]; exact hp.1
  have h5 : A.slots + (headSpec ws rm).room.slots ≤ R.slots := by rw [show (headSpec ws rm).room.slots = ms from hrs]; exact hp.2.1
  have hPc : Pc a (A.U.calling g mk a) := hblind _ _ _ _ hp.2.2
  obtain ⟨U, Ls, c0, s0⟩ := A
  dsimp only [Pt.U, Pt.locs, Pt.cells, Pt.slots] at h1 h2 h3 h4 h5 X hn hPc ⊢
  obtain ⟨methY, cY, hmY, hcY, -, hlY, -, -, -, -⟩ := Cond.code_spec hn h2
  obtain ⟨kY, hkY, -⟩ := className_of_methodNamed hn
  have hinitY : kY.init = .initialized := Cond.initialized_spec (findClass_of_methodNamed hn) hkY h3
  have h : At U g.method c below := by rw [hg]; exact X.here
  have hlocals9 : W9 + (maxL + 11) + (headSpec ws rm).room.locals ≤ R.locals := hlocals
  have happ : (headSpec ws rm).appliesLoose y e.platform (U.calling g mk a) = true :=
    Spec.appliesLoose_calling (g := g) h hdg hn hkY hinitY
      (X.room_calling (g := g) (R' := (headSpec ws rm).room) hsize hmY hcY hframes (by rw [hlY]; omega) h4 h5) h1
  obtain ⟨mid, hmid⟩ := h.above
  have hfr : (U.setTop g).frames = (.java g :: mid) ++ below := by rw [State.frames_setTop' g h.top, hmid]; rfl
  obtain ⟨o, s₂, hsteps, -, hend, hq⟩ := Steps.callFree hM p X.admits X.cas X.clock (acts := []) hfr happ hPc trivial
  have hq' : vx_Q Qc XC mc ms free a (U.calling g mk a) o s₂ := hq
  rw [State.frames_setTop' g h.top] at hend
  obtain ⟨g₀, hg0⟩ := Option.isSome_iff_exists.mp h.top
  obtain ⟨r, hr⟩ := State.topJava?_eq_some.mp hg0
  have hr' : (({ U with heap := s₂.heap, slotsUsed := s₂.slotsUsed } : State).setVm s₂.vm).frames = .java g₀ :: r := hr
  rcases hq' with ⟨hqc, L, hfe, hL⟩ | ⟨q, rfl, E, ce, L, hx, hce, hcv, hcl, hW₂, hsm, hL⟩
  · obtain ⟨⟨v, rfl⟩, hW₂, e2, q2, q3, q4, q5, q6⟩ := id hfe
    have e3 : s₂ = ({ (U.calling g mk a).setFrames s₂.frames with heap := s₂.heap, slotsUsed := s₂.slotsUsed } : State).setVm s₂.vm := by
      have : s₂ = ({ s₂ with vm := (U.calling g mk a).vm } : State).setVm s₂.vm := rfl
      rw [e2] at this
      exact this
    obtain ⟨c₂, i₂, len₂, hc₂, hd₂, hf₂⟩ := hend
    have hW' : U.WarmedH s₂.vm := hW₂
    have hcc : c₂ = c := by
      have h1 : s₂.code? g.method = U.code? g.method := by
        rw [State.code?_eq, State.code?_eq, hW'.alike.method?]
      exact Option.some.inj (hc₂.symm.trans (h1.trans h.code))
    subst hcc
    have hlen : len₂ = len := by rw [hdg] at hd₂; cases hd₂; rfl
    subst hlen
    have hs₂ : s₂ = (({ U with heap := s₂.heap, slotsUsed := s₂.slotsUsed } : State).setVm s₂.vm).setTop { g with pc := g.pc + len₂, stack := v.toList ++ g.stack } := by
      refine e3.trans ?_
      rw [hf₂, State.calling_eq h.top, State.setFrames_setFrames, State.setTop_of_frames _ hr', hr]
      rfl
    have hsame : U.sameButNew ({ U with heap := s₂.heap, slotsUsed := s₂.slotsUsed } : State) L mc ms := by
      refine ⟨?_, q2, q3, q4, q5, q6⟩
      obtain ⟨t, ht, -⟩ := State.frames_cons hr
      show ({ U with heap := s₂.heap, slotsUsed := s₂.slotsUsed } : State) = { U.setFrames U.frames with heap := s₂.heap, slotsUsed := s₂.slotsUsed }
      rw [State.setFrames_self ht]
    subst hg
    refine Or.inl ⟨v, ⟨(({ U with heap := s₂.heap, slotsUsed := s₂.slotsUsed } : State).setVm s₂.vm), Ls ++ L, c0 + mc, s0 + ms⟩,
      ⟨X.admits, X.cas, X.clock, X.frames, X.room, X.hears, X.method, X.code, (X.here.setHeapUsed s₂.heap s₂.slotsUsed).setVm hW'.alike, X.tail, State.WarmedH.trans X.warmed hW', X.limits, X.bytes, X.same.trans (hsame.setVm s.vm)⟩,
      ⟨g, mk, s₂, L, rfl, rfl, hqc, rfl, hL, rfl, rfl⟩, ?_⟩
    show Steps p.tables e below _ ((({ U with heap := s₂.heap, slotsUsed := s₂.slotsUsed } : State).setVm s₂.vm).setTop { g with pc := g.pc + len₂, stack := v.toList ++ g.stack })
    rw [← hs₂]
    exact hsteps
  · obtain ⟨e2, q2, q3, q4, q5, q6⟩ := id hsm
    have e3 : s₂ = ({ (U.calling g mk a).setFrames s₂.frames with heap := s₂.heap, slotsUsed := s₂.slotsUsed } : State).setVm s₂.vm := by
      have : s₂ = ({ s₂ with vm := (U.calling g mk a).vm } : State).setVm s₂.vm := rfl
      rw [e2] at this
      exact this
    have hf₂ : s₂.frames = .throwing q :: .java g :: U.frames.tail := hend
    have hW' : U.WarmedH s₂.vm := hW₂
    have hs₂ : s₂ = ((({ U with heap := s₂.heap, slotsUsed := s₂.slotsUsed } : State).setVm s₂.vm).setTop g).pushFrame (.throwing q) := by
      refine e3.trans ?_
      rw [hf₂, State.calling_eq h.top, State.setFrames_setFrames, State.pushFrame, State.frames_setTop _ hr', State.setTop_of_frames _ hr', State.setFrames_setFrames, hr]
      rfl
    have hsame : U.sameButNew ({ U with heap := s₂.heap, slotsUsed := s₂.slotsUsed } : State) L mc ms := by
      refine ⟨?_, q2, q3, q4, q5, q6⟩
      obtain ⟨t, ht, -⟩ := State.frames_cons hr
      show ({ U with heap := s₂.heap, slotsUsed := s₂.slotsUsed } : State) = { U.setFrames U.frames with heap := s₂.heap, slotsUsed := s₂.slotsUsed }
      rw [State.setFrames_self ht]
    subst hg
    refine Or.inr ⟨q, ⟨(({ U with heap := s₂.heap, slotsUsed := s₂.slotsUsed } : State).setVm s₂.vm), Ls ++ L, c0 + mc, s0 + ms⟩,
      ⟨X.admits, X.cas, X.clock, X.frames, X.room, X.hears, X.method, X.code, (X.here.setHeapUsed s₂.heap s₂.slotsUsed).setVm hW'.alike, X.tail, State.WarmedH.trans X.warmed hW', X.limits, X.bytes, X.same.trans (hsame.setVm s.vm)⟩,
      ⟨g, mk, s₂, L, E, ce, rfl, rfl, hx, hce, hcv, hcl, rfl, hL, rfl, rfl⟩, ?_⟩
    show Steps p.tables e below _ (((({ U with heap := s₂.heap, slotsUsed := s₂.slotsUsed } : State).setVm s₂.vm).setTop g).pushFrame (.throwing q))
    rw [← hs₂]
    exact hsteps
end Payer
section Calls
variable {p : Program} {l : Launch} {e : Env} {R : Room} {s : State} {m : MethodId} {args : Array Value} {below : List Frame} {meth : Method} {c : Code} {T : State} {locs : List Loc} {cells slots : Nat}
theorem vx_callV (X : Stand p l e R s m args below meth c T locs cells slots) (hexec : p.tables.exec = Jvm.exec) {own C : String} {index : Nat} {y : MethodName} {bytes : ByteArray} {maxL : Nat} {ret : Option FieldType}
    (hown : s.vm.findClass own = some m.cls) (hlink : (Cond.methodLink own index y).before args s = true) (hinst : (Cond.instanceMethod y).before args s = true) (hsel : (Cond.selects C y y).before args s = true)
    (hcode : (Cond.code y bytes maxL ret).before args s = true) (hy : y.cls ≠ "java/lang/invoke/MethodHandle" ∧ y.cls ≠ "java/lang/invoke/VarHandle")
    {W9 : Nat} {Pre : Pt → Array Value → Prop} {Post : Pt → Array Value → Option Value → Pt → Prop} {PostX : Pt → Array Value → Addr → Pt → Prop} (hK : vx_Back l R p e below s args y 3 W9 Pre Post PostX)
    {b : Addr} {cellB : Cell} (hcell : T.heap[b]? = some cellB) (hobj : cellB.vm.isStatics = false) (hcls : s.vm.findClass C = some cellB.cls)
    {g : JFrame} (hg : g.method = m) (hsize : g.locals.size = c.maxLocals) {argsL rest : List Value} (hlen : ∀ sig, parseMethodDescriptor y.desc = some sig → argsL.length = sig.parameters.length)
    (hstack : g.stack = argsL.reverse ++ .ref b :: rest) (hW : 2 * g.monitorRoom + (rest.map fun v => v.category).sum ≤ W9) (hdg : decode c.code g.pc = .ok (.invokevirtual index, 3))
    (hpre : ∀ vm₁, s.WarmedH vm₁ → Pre ⟨T.setVm vm₁, locs, cells, slots⟩ (Value.ref b :: argsL).toArray) :
    (∃ (v : Option Value) (vm₁ : Vm) (B : Pt), s.WarmedH vm₁ ∧ Stand p l e R s m args below meth c B.U B.locs B.cells B.slots ∧ Post ⟨T.setVm vm₁, locs, cells, slots⟩ (Value.ref b :: argsL).toArray v B ∧
      ∀ target, Steps p.tables e below (B.U.setTop { g with pc := g.pc + 3, stack := v.toList ++ rest }) target → Steps p.tables e below (T.setTop g) target) ∨
    (∃ (q : Addr) (vm₁ : Vm) (B : Pt), s.WarmedH vm₁ ∧ Stand p l e R s m args below meth c B.U B.locs B.cells B.slots ∧ PostX ⟨T.setVm vm₁, locs, cells, slots⟩ (Value.ref b :: argsL).toArray q B ∧
      Steps p.tables e below (T.setTop g) ((B.U.setTop { g with stack := rest }).pushFrame (.throwing q))) := by
  obtain ⟨mk, methM, hnamed, hmethM, hstM, habM⟩ := Cond.instanceMethod_spec hinst
  obtain ⟨methM', cM, hmethM', -, -, -, -, -, -, hsigM⟩ := Cond.code_spec hnamed hcode
  cases hmethM.symm.trans hmethM'
  obtain ⟨c2, r2, m2, q1, q2, q3, q4, kP, hkP, hkPi⟩ := Cond.selects_spec hsel
  cases hcls.symm.trans q1
  cases (State.methodFound?_of_named hnamed hy).symm.trans q2
  cases hnamed.symm.trans q3
  have hselP : selectMethod e.platform s.vm cellB.cls mk = .method mk := by rw [Launch.admits_selectMethod X.admits]; exact q4
  obtain ⟨vm₁, X₁, hstep₁⟩ := X.invokevirtual hexec hown hlink hnamed hmethM hstM hkP hkPi hy (a := b) (cell := cellB) hcell
    (fun z h => by rw [h] at hobj; cases hobj) hselP hmethM habM hkP hkPi (g := g) hg (argsL := argsL) (rest := rest) (hlen _ hsigM) hstack hdg
  rcases hK m meth c ⟨T.setVm vm₁, locs, cells, slots⟩ { g with stack := rest } (.invokevirtual index) mk (Value.ref b :: argsL).toArray X₁ hg hsize hdg hW (X₁.named hnamed) (hpre vm₁ X₁.warmed) with ⟨v, B, X', hpost, hsteps⟩ | ⟨q, B, X', hpost, hsteps⟩
  · exact Or.inl ⟨v, vm₁, B, X₁.warmed, X', hpost, fun target h => hstep₁ _ fun acts => by rw [doInvoke_state]; exact hsteps.trans h⟩
  · exact Or.inr ⟨q, vm₁, B, X₁.warmed, X', hpost, hstep₁ _ fun acts => by rw [doInvoke_state]; exact hsteps⟩
theorem vx_callS (X : Stand p l e R s m args below meth c T locs cells slots) (hexec : p.tables.exec = Jvm.exec) {own : String} {index : Nat} {y : MethodName} {bytes : ByteArray} {maxL : Nat} {ret : Option FieldType}
    (hown : s.vm.findClass own = some m.cls) (hlink : (Cond.methodLink own index y).before args s = true) (hstat : (Cond.static y).before args s = true) (hinit : (Cond.initialized y.cls).before args s = true)
    (hcode : (Cond.code y bytes maxL ret).before args s = true) (hy : y.cls ≠ "java/lang/invoke/MethodHandle" ∧ y.cls ≠ "java/lang/invoke/VarHandle")
    {W9 : Nat} {Pre : Pt → Array Value → Prop} {Post : Pt → Array Value → Option Value → Pt → Prop} {PostX : Pt → Array Value → Addr → Pt → Prop} (hK : vx_Back l R p e below s args y 3 W9 Pre Post PostX)
    {g : JFrame} (hg : g.method = m) (hsize : g.locals.size = c.maxLocals) {argsL rest : List Value} (hlen : ∀ sig, parseMethodDescriptor y.desc = some sig → argsL.length = sig.parameters.length)
    (hstack : g.stack = argsL.reverse ++ rest) (hW : 2 * g.monitorRoom + (rest.map fun v => v.category).sum ≤ W9) (hdg : decode c.code g.pc = .ok (.invokestatic index, 3))
    (hpre : ∀ vm₁, s.WarmedH vm₁ → Pre ⟨T.setVm vm₁, locs, cells, slots⟩ argsL.toArray) :
    (∃ (v : Option Value) (vm₁ : Vm) (B : Pt), s.WarmedH vm₁ ∧ Stand p l e R s m args below meth c B.U B.locs B.cells B.slots ∧ Post ⟨T.setVm vm₁, locs, cells, slots⟩ argsL.toArray v B ∧
      ∀ target, Steps p.tables e below (B.U.setTop { g with pc := g.pc + 3, stack := v.toList ++ rest }) target → Steps p.tables e below (T.setTop g) target) ∨
    (∃ (q : Addr) (vm₁ : Vm) (B : Pt), s.WarmedH vm₁ ∧ Stand p l e R s m args below meth c B.U B.locs B.cells B.slots ∧ PostX ⟨T.setVm vm₁, locs, cells, slots⟩ argsL.toArray q B ∧
      Steps p.tables e below (T.setTop g) ((B.U.setTop { g with stack := rest }).pushFrame (.throwing q))) := by
  obtain ⟨mk, hnamed⟩ := Cond.code_named hcode
  obtain ⟨methM, cM, hmethM, -, -, -, -, -, -, hsigM⟩ := Cond.code_spec hnamed hcode
  have hstatic : methM.isStatic = true := Cond.static_spec hnamed hmethM hstat
  obtain ⟨kP, hkP, -⟩ := className_of_methodNamed hnamed
  have hinitP : kP.init = .initialized := Cond.initialized_spec (findClass_of_methodNamed hnamed) hkP hinit
  obtain ⟨vm₁, X₁, hstep₁⟩ := X.invokestatic hexec hown hlink hnamed hmethM hstatic hkP hinitP hy (g := g) hg (argsL := argsL) (rest := rest) (hlen _ hsigM) hstack hdg
  rcases hK m meth c ⟨T.setVm vm₁, locs, cells, slots⟩ { g with stack := rest } (.invokestatic index) mk argsL.toArray X₁ hg hsize hdg hW (X₁.named hnamed) (hpre vm₁ X₁.warmed) with ⟨v, B, X', hpost, hsteps⟩ | ⟨q, B, X', hpost, hsteps⟩
  · exact Or.inl ⟨v, vm₁, B, X₁.warmed, X', hpost, fun target h => hstep₁ _ fun acts => by rw [doInvoke_state]; exact hsteps.trans h⟩
  · exact Or.inr ⟨q, vm₁, B, X₁.warmed, X', hpost, hstep₁ _ fun acts => by rw [doInvoke_state]; exact hsteps⟩
end Calls
theorem vx_cls {s : State} {T : State} {vm₁ : Vm} {E : String} {k : ClassId} (hW : s.WarmedH vm₁) (h : (T.setVm vm₁).vm.findClass E = some k) : s.vm.findClass E = some k := by
  have h1 : vm₁.findClass E = some k := h
  rw [hW.alike.findClass] at h1
  exact h1
/-- the method's frame g, with q thrown over it -/
def vx_W (p : Program) (l : Launch) (e : Env) (R : Room) (s : State) (m : MethodId) (args : Array Value) (below : List Frame) (meth : Method) (c : Code) (H : Heap) (locs : List Loc) (cells slots : Nat) (Q : State → Prop) (g : JFrame) (q : Addr) : Prop :=
  ∀ T : State, T.heap = H → Stand p l e R s m args below meth c T locs cells slots → ∃ t, Steps p.tables e below ((T.setTop g).pushFrame (.throwing q)) t ∧ Q t
def vx_Run (p : Program) (l : Launch) (e : Env) (R : Room) (s : State) (m : MethodId) (args : Array Value) (below : List Frame) (meth : Method) (c : Code) (H : Heap) (locs : List Loc) (cells slots mc ms : Nat) (g : JFrame) (rest : List Value) (Qa : State → Outcome → State → Prop) (XC : String → State → State → Prop) (free : Addr → Prop) : Prop :=
  ∀ T : State, T.heap = H → Stand p l e R s m args below meth c T locs cells slots →
    (∃ (v : Option Value) (st₀ t T' : State) (L : List Loc), st₀.heap = H ∧ Stand p l e R s m args below meth c T' (locs ++ L) (cells + mc) (slots + ms) ∧ (∀ q ∈ L, free q.base) ∧ T'.heap = t.heap ∧ T'.vm = t.vm ∧ Qa st₀ (.returned v) t ∧
      Goes p e below T g T' { g with pc := g.pc + 3, stack := v.toList ++ rest }) ∨
    (∃ (q : Addr) (st₀ t T' : State) (L : List Loc) (E : String) (ce : Cell), st₀.heap = H ∧ Stand p l e R s m args below meth c T' (locs ++ L) (cells + mc) (slots + ms) ∧ (∀ z ∈ L, free z.base) ∧ T'.heap = t.heap ∧ T'.vm = t.vm ∧ XC E st₀ t ∧ t.heap[q]? = some ce ∧ ce.vm = .none ∧ s.vm.findClass E = some ce.cls ∧
      Steps p.tables e below (T.setTop g) ((T'.setTop { g with stack := rest }).pushFrame (.throwing q)))
def vx_X {S : Type} (px : S → Prop) (B : String → S → State → Prop) (A : Nat → Prop) : String → State → State → Prop := fun E st t => ∃ u : S, px u ∧ B E u t ∧ va_F A st t
section Runs
variable {p : Program} {l : Launch} {e : Env} {R : Room} {s : State} {m : MethodId} {args : Array Value} {below : List Frame} {meth : Method} {c : Code} {H : Heap} {locs : List Loc} {cells slots : Nat}
variable {y : MethodName} {bytes cc : ByteArray} {maxL nL mc ms n index : Nat} {ret : Option FieldType} {ws : List Cond} {rm : Room} {Pc : Array Value → State → Prop} {Qc : Array Value → State → Outcome → State → Prop} {XC : String → State → State → Prop} {free : Addr → Prop} {Ts : List Cond} {own C : String} {b : Addr} {As rest : List Value} {g : JFrame}
theorem vx_callBack (cb : CallB R s args own index y bytes maxL ret ws rm mc ms n) (hM : vx_Met l y ws rm Pc Qc XC mc ms free) (hbl : FrameBlind Pc) : vx_Back l R p e below s args y 3 8 (PreOf R mc ms Pc) (PostOf Qc mc ms free) (vx_Post XC mc ms free) := by
  obtain ⟨hrc, hrs, hfr, hlo, hws, hcw, -, hini, -⟩ := cb
  exact vx_back (bytes := bytes) (maxL := maxL) (ret := ret) hM hbl hrc hrs hfr hlo hws hcw (fun a' U hW => word_at hW (Or.inl (by first | rfl | simp [Cond.onTables, Cond.keeps, Cond.steady])) hini)
theorem vx_runV (S : CallFix p m c cc nL s args Ts own) (hM : vx_Met l y ws rm Pc Qc XC mc ms free) (cw : CallW R s args own C index y bytes maxL ret ws rm mc ms n) (hp : PreV s H C b Pc As)
    (hg : g.method = m) (hn : As.length = n) (hsize : g.locals.size = nL) (hstack : g.stack = As.reverse ++ .ref b :: rest) (hW : 2 * g.monitorRoom + (rest.map fun v => v.category).sum ≤ 8) (hdg : decode cc g.pc = .ok (.invokevirtual index, 3)) (hf : cells + mc ≤ R.cells ∧ slots + ms ≤ R.slots) :
    vx_Run p l e R s m args below meth c H locs cells slots mc ms g rest (Qc (Value.ref b :: As).toArray) XC free := by
  have hK : vx_Back l R p e below s args y 3 8 (PreOf R mc ms Pc) (PostOf Qc mc ms free) (vx_Post XC mc ms free) := vx_callBack cw.1 hM hp.1
  obtain ⟨⟨-, -, -, -, -, -, hcode, -, hy, hlen, hl⟩, hin, hse⟩ := cw
  obtain ⟨hx, hb, hml, ho, -⟩ := S
  obtain ⟨-, ⟨cellB, hcB, hoB, hclB⟩, hPc⟩ := hp
  intro T hT X
  rcases vx_callV X hx (C := C) (bytes := bytes) (maxL := maxL) (ret := ret) ho hl hin hse hcode hy hK (by rw [hT]; exact hcB) hoB hclB hg (hsize.trans hml.symm) (argsL := As) (rest := rest) (fun sig h => hn.trans (hlen sig h)) hstack hW (by rw [hb]; exact hdg)
    (fun vm₁ hW₁ => ⟨hf.1, hf.2, hPc (T.setVm vm₁) hT hW₁⟩) with ⟨v, vm₁, ⟨U', l2, c2, s2⟩, hW₁, X', ⟨g', mk, t, L, e1, e2, hq, h1, hL, h2, h3⟩, st⟩ | ⟨q, vm₁, ⟨U', l2, c2, s2⟩, hW₁, X', ⟨g', mk, t, L, E, ce, e1, e2, hq, hce, hcv, hcl, h1, hL, h2, h3⟩, st⟩
  · dsimp only [Pt.U, Pt.locs, Pt.cells, Pt.slots] at X' e1 e2 h1 h2 h3 st
    subst h1; subst h2; subst h3
    exact Or.inl ⟨v, (T.setVm vm₁).calling g' mk (Value.ref b :: As).toArray, t, U', L, hT, X', hL, e1, e2, hq, st⟩
  · dsimp only [Pt.U, Pt.locs, Pt.cells, Pt.slots] at X' e1 e2 h1 h2 h3 st hcl
    subst h1; subst h2; subst h3
    exact Or.inr ⟨q, (T.setVm vm₁).calling g' mk (Value.ref b :: As).toArray, t, U', L, E, ce, hT, X', hL, e1, e2, hq, hce, hcv, vx_cls hW₁ hcl, st⟩
theorem vx_runS (S : CallFix p m c cc nL s args Ts own) (hM : vx_Met l y ws rm Pc Qc XC mc ms free) (cw : CallB R s args own index y bytes maxL ret ws rm mc ms n ∧ (Cond.static y).before args s = true) (hp : PreS s H Pc As)
    (hg : g.method = m) (hn : As.length = n) (hsize : g.locals.size = nL) (hstack : g.stack = As.reverse ++ rest) (hW : 2 * g.monitorRoom + (rest.map fun v => v.category).sum ≤ 8) (hdg : decode cc g.pc = .ok (.invokestatic index, 3)) (hf : cells + mc ≤ R.cells ∧ slots + ms ≤ R.slots) :
    vx_Run p l e R s m args below meth c H locs cells slots mc ms g rest (Qc As.toArray) XC free := by
  have hK : vx_Back l R p e below s args y 3 8 (PreOf R mc ms Pc) (PostOf Qc mc ms free) (vx_Post XC mc ms free) := vx_callBack cw.1 hM hp.1
  obtain ⟨⟨-, -, -, -, -, -, hcode, hini, hy, hlen, hl⟩, hstt⟩ := cw
  obtain ⟨hx, hb, hml, ho, -⟩ := S
  intro T hT X
  rcases vx_callS X hx (bytes := bytes) (maxL := maxL) (ret := ret) ho hl hstt hini hcode hy hK hg (hsize.trans hml.symm) (argsL := As) (rest := rest) (fun sig h => hn.trans (hlen sig h)) hstack hW (by rw [hb]; exact hdg)
    (fun vm₁ hW₁ => ⟨hf.1, hf.2, hp.2 (T.setVm vm₁) hT hW₁⟩) with ⟨v, vm₁, ⟨U', l2, c2, s2⟩, hW₁, X', ⟨g', mk, t, L, e1, e2, hq, h1, hL, h2, h3⟩, st⟩ | ⟨q, vm₁, ⟨U', l2, c2, s2⟩, hW₁, X', ⟨g', mk, t, L, E, ce, e1, e2, hq, hce, hcv, hcl, h1, hL, h2, h3⟩, st⟩
  · dsimp only [Pt.U, Pt.locs, Pt.cells, Pt.slots] at X' e1 e2 h1 h2 h3 st
    subst h1; subst h2; subst h3
    exact Or.inl ⟨v, (T.setVm vm₁).calling g' mk As.toArray, t, U', L, hT, X', hL, e1, e2, hq, st⟩
  · dsimp only [Pt.U, Pt.locs, Pt.cells, Pt.slots] at X' e1 e2 h1 h2 h3 st hcl
    subst h1; subst h2; subst h3
    exact Or.inr ⟨q, (T.setVm vm₁).calling g' mk As.toArray, t, U', L, E, ce, hT, X', hL, e1, e2, hq, hce, hcv, vx_cls hW₁ hcl, st⟩
end Runs
section Rows
variable {p : Program} {l : Launch} {e : Env} {R : Room} {s : State} {m : MethodId} {args : Array Value} {below : List Frame} {meth : Method} {c : Code} {H : Heap} {locs : List Loc} {cells slots : Nat} {Q : State → Prop}
variable {mc ms : Nat} {free : Addr → Prop} {A0 A1 : Nat → Prop} {H0 : Heap} {a : Array Value} {pc : Nat} {ls : Array Slot} {st0 rest : List Value}
theorem vx_keep {st₀ t T' : State} {L : List Loc} (h0 : st₀.heap = H) (e1 : T'.heap = t.heap) (hS : va_S A0 H0 H locs) (hA : ∀ q, q < H.size → A1 q → A0 q) (hf : ∀ q, free q → A0 q) (hL : ∀ q ∈ L, free q.base) (hF : va_F A1 st₀ t) :
    H.size ≤ T'.heap.size ∧ (∀ q : Nat, q < H.size → ¬ A1 q → T'.heap[q]? = H[q]?) ∧ va_S A0 H0 T'.heap (locs ++ L) := by
  obtain ⟨hz, hk⟩ := hF
  rw [h0] at hz hk
  exact ⟨by rw [e1]; exact hz, fun q h1 h2 => by rw [e1]; exact hk q h1 h2,
    ⟨Nat.le_trans hS.1 (by rw [e1]; exact hz), fun q h1 h2 => by rw [e1, hk q (Nat.lt_of_lt_of_le h1 hS.1) (fun z => h2 (hA q (Nat.lt_of_lt_of_le h1 hS.1) z))]; exact hS.2.1 q h1 h2, fun q hq => by
      rcases List.mem_append.mp hq with h | h
      · exact hS.2.2 q h
      · exact hf _ (hL q h)⟩⟩
theorem vx_calli {S SX : Type} {post : Int32 → S → Prop} {px : SX → Prop} {B : S → State → Prop} {BX : String → SX → State → Prop} {AX : Nat → Prop} (hr : vx_Run p l e R s m args below meth c H locs cells slots mc ms (F0 m pc ls st0) rest (va_Qi post B A1 a) (vx_X px BX AX) free) (hS : va_S A0 H0 H locs) (hA : ∀ q, q < H.size → A1 q → A0 q) (hf : ∀ q, free q → A0 q) (hAX : ∀ q, q < H.size → AX q → A0 q)
    (kx : ∀ (E : String) (ce : Cell) (q9 : Addr) (u : SX) (t : State) (H1 : Heap) (locs1 : List Loc), t.heap = H1 → s.vm.Alike t.vm → px u → BX E u t → H.size ≤ H1.size → (∀ q : Nat, q < H.size → ¬ AX q → H1[q]? = H[q]?) → va_S A0 H0 H1 locs1 → H1[q9]? = some ce → ce.vm = .none → s.vm.findClass E = some ce.cls → vx_W p l e R s m args below meth c H1 locs1 (cells + mc) (slots + ms) Q (F0 m pc ls rest) q9)
    (kk : ∀ (r : Int32) (u : S) (t : State) (H1 : Heap) (locs1 : List Loc), t.heap = H1 → s.vm.Alike t.vm → post r u → B u t → H.size ≤ H1.size → (∀ q : Nat, q < H.size → ¬ A1 q → H1[q]? = H[q]?) → va_S A0 H0 H1 locs1 → W p l e R s m args below meth c H1 locs1 (cells + mc) (slots + ms) Q (F0 m (pc + 3) ls (.int r :: rest))) : W p l e R s m args below meth c H locs cells slots Q (F0 m pc ls st0) := by
  intro T hT X
  rcases hr T hT X with ⟨v, st₀, t, T', L, h0, X', hL, e1, e2, ⟨⟨r, u, hv, hp, hb⟩, hF⟩, st⟩ | ⟨q, st₀, t, T', L, E, ce, h0, X', hL, e1, e2, ⟨u, hp, hb, hF⟩, hce, hcv, hcl, st⟩
  · cases hv
    obtain ⟨k1, k2, k3⟩ := vx_keep h0 e1 hS hA hf hL hF
    obtain ⟨t2, a1, b1⟩ := kk r u t T'.heap (locs ++ L) e1.symm (by rw [← e2]; exact X'.warmed.alike) hp hb k1 k2 k3 T' rfl X'
    exact ⟨t2, st t2 a1, b1⟩
  · obtain ⟨k1, k2, k3⟩ := vx_keep h0 e1 hS hAX hf hL hF
    obtain ⟨t2, a1, b1⟩ := kx E ce q u t T'.heap (locs ++ L) e1.symm (by rw [← e2]; exact X'.warmed.alike) hp hb k1 k2 k3 (by rw [e1]; exact hce) hcv hcl T' rfl X'
    exact ⟨t2, st.trans a1, b1⟩
theorem vx_calll {S SX : Type} {post : Int64 → S → Prop} {px : SX → Prop} {B : S → State → Prop} {BX : String → SX → State → Prop} {AX : Nat → Prop} (hr : vx_Run p l e R s m args below meth c H locs cells slots mc ms (F0 m pc ls st0) rest (va_Ql post B A1 a) (vx_X px BX AX) free) (hS : va_S A0 H0 H locs) (hA : ∀ q, q < H.size → A1 q → A0 q) (hf : ∀ q, free q → A0 q) (hAX : ∀ q, q < H.size → AX q → A0 q)
    (kx : ∀ (E : String) (ce : Cell) (q9 : Addr) (u : SX) (t : State) (H1 : Heap) (locs1 : List Loc), t.heap = H1 → s.vm.Alike t.vm → px u → BX E u t → H.size ≤ H1.size → (∀ q : Nat, q < H.size → ¬ AX q → H1[q]? = H[q]?) → va_S A0 H0 H1 locs1 → H1[q9]? = some ce → ce.vm = .none → s.vm.findClass E = some ce.cls → vx_W p l e R s m args below meth c H1 locs1 (cells + mc) (slots + ms) Q (F0 m pc ls rest) q9)
    (kk : ∀ (r : Int64) (u : S) (t : State) (H1 : Heap) (locs1 : List Loc), t.heap = H1 → s.vm.Alike t.vm → post r u → B u t → H.size ≤ H1.size → (∀ q : Nat, q < H.size → ¬ A1 q → H1[q]? = H[q]?) → va_S A0 H0 H1 locs1 → W p l e R s m args below meth c H1 locs1 (cells + mc) (slots + ms) Q (F0 m (pc + 3) ls (.long r :: rest))) : W p l e R s m args below meth c H locs cells slots Q (F0 m pc ls st0) := by
  intro T hT X
  rcases hr T hT X with ⟨v, st₀, t, T', L, h0, X', hL, e1, e2, ⟨⟨r, u, hv, hp, hb⟩, hF⟩, st⟩ | ⟨q, st₀, t, T', L, E, ce, h0, X', hL, e1, e2, ⟨u, hp, hb, hF⟩, hce, hcv, hcl, st⟩
  · cases hv
    obtain ⟨k1, k2, k3⟩ := vx_keep h0 e1 hS hA hf hL hF
    obtain ⟨t2, a1, b1⟩ := kk r u t T'.heap (locs ++ L) e1.symm (by rw [← e2]; exact X'.warmed.alike) hp hb k1 k2 k3 T' rfl X'
    exact ⟨t2, st t2 a1, b1⟩
  · obtain ⟨k1, k2, k3⟩ := vx_keep h0 e1 hS hAX hf hL hF
    obtain ⟨t2, a1, b1⟩ := kx E ce q u t T'.heap (locs ++ L) e1.symm (by rw [← e2]; exact X'.warmed.alike) hp hb k1 k2 k3 (by rw [e1]; exact hce) hcv hcl T' rfl X'
    exact ⟨t2, st.trans a1, b1⟩
theorem vx_callf {S SX : Type} {post : UInt32 → S → Prop} {px : SX → Prop} {B : S → State → Prop} {BX : String → SX → State → Prop} {AX : Nat → Prop} (hr : vx_Run p l e R s m args below meth c H locs cells slots mc ms (F0 m pc ls st0) rest (va_Qf post B A1 a) (vx_X px BX AX) free) (hS : va_S A0 H0 H locs) (hA : ∀ q, q < H.size → A1 q → A0 q) (hf : ∀ q, free q → A0 q) (hAX : ∀ q, q < H.size → AX q → A0 q)
    (kx : ∀ (E : String) (ce : Cell) (q9 : Addr) (u : SX) (t : State) (H1 : Heap) (locs1 : List Loc), t.heap = H1 → s.vm.Alike t.vm → px u → BX E u t → H.size ≤ H1.size → (∀ q : Nat, q < H.size → ¬ AX q → H1[q]? = H[q]?) → va_S A0 H0 H1 locs1 → H1[q9]? = some ce → ce.vm = .none → s.vm.findClass E = some ce.cls → vx_W p l e R s m args below meth c H1 locs1 (cells + mc) (slots + ms) Q (F0 m pc ls rest) q9)
    (kk : ∀ (r : UInt32) (u : S) (t : State) (H1 : Heap) (locs1 : List Loc), t.heap = H1 → s.vm.Alike t.vm → post r u → B u t → H.size ≤ H1.size → (∀ q : Nat, q < H.size → ¬ A1 q → H1[q]? = H[q]?) → va_S A0 H0 H1 locs1 → W p l e R s m args below meth c H1 locs1 (cells + mc) (slots + ms) Q (F0 m (pc + 3) ls (.float r :: rest))) : W p l e R s m args below meth c H locs cells slots Q (F0 m pc ls st0) := by
  intro T hT X
  rcases hr T hT X with ⟨v, st₀, t, T', L, h0, X', hL, e1, e2, ⟨⟨r, u, hv, hp, hb⟩, hF⟩, st⟩ | ⟨q, st₀, t, T', L, E, ce, h0, X', hL, e1, e2, ⟨u, hp, hb, hF⟩, hce, hcv, hcl, st⟩
  · cases hv
    obtain ⟨k1, k2, k3⟩ := vx_keep h0 e1 hS hA hf hL hF
    obtain ⟨t2, a1, b1⟩ := kk r u t T'.heap (locs ++ L) e1.symm (by rw [← e2]; exact X'.warmed.alike) hp hb k1 k2 k3 T' rfl X'
    exact ⟨t2, st t2 a1, b1⟩
  · obtain ⟨k1, k2, k3⟩ := vx_keep h0 e1 hS hAX hf hL hF
    obtain ⟨t2, a1, b1⟩ := kx E ce q u t T'.heap (locs ++ L) e1.symm (by rw [← e2]; exact X'.warmed.alike) hp hb k1 k2 k3 (by rw [e1]; exact hce) hcv hcl T' rfl X'
    exact ⟨t2, st.trans a1, b1⟩
theorem vx_calld {S SX : Type} {post : UInt64 → S → Prop} {px : SX → Prop} {B : S → State → Prop} {BX : String → SX → State → Prop} {AX : Nat → Prop} (hr : vx_Run p l e R s m args below meth c H locs cells slots mc ms (F0 m pc ls st0) rest (va_Qd post B A1 a) (vx_X px BX AX) free) (hS : va_S A0 H0 H locs) (hA : ∀ q, q < H.size → A1 q → A0 q) (hf : ∀ q, free q → A0 q) (hAX : ∀ q, q < H.size → AX q → A0 q)
    (kx : ∀ (E : String) (ce : Cell) (q9 : Addr) (u : SX) (t : State) (H1 : Heap) (locs1 : List Loc), t.heap = H1 → s.vm.Alike t.vm → px u → BX E u t → H.size ≤ H1.size → (∀ q : Nat, q < H.size → ¬ AX q → H1[q]? = H[q]?) → va_S A0 H0 H1 locs1 → H1[q9]? = some ce → ce.vm = .none → s.vm.findClass E = some ce.cls → vx_W p l e R s m args below meth c H1 locs1 (cells + mc) (slots + ms) Q (F0 m pc ls rest) q9)
    (kk : ∀ (r : UInt64) (u : S) (t : State) (H1 : Heap) (locs1 : List Loc), t.heap = H1 → s.vm.Alike t.vm → post r u → B u t → H.size ≤ H1.size → (∀ q : Nat, q < H.size → ¬ A1 q → H1[q]? = H[q]?) → va_S A0 H0 H1 locs1 → W p l e R s m args below meth c H1 locs1 (cells + mc) (slots + ms) Q (F0 m (pc + 3) ls (.double r :: rest))) : W p l e R s m args below meth c H locs cells slots Q (F0 m pc ls st0) := by
  intro T hT X
  rcases hr T hT X with ⟨v, st₀, t, T', L, h0, X', hL, e1, e2, ⟨⟨r, u, hv, hp, hb⟩, hF⟩, st⟩ | ⟨q, st₀, t, T', L, E, ce, h0, X', hL, e1, e2, ⟨u, hp, hb, hF⟩, hce, hcv, hcl, st⟩
  · cases hv
    obtain ⟨k1, k2, k3⟩ := vx_keep h0 e1 hS hA hf hL hF
    obtain ⟨t2, a1, b1⟩ := kk r u t T'.heap (locs ++ L) e1.symm (by rw [← e2]; exact X'.warmed.alike) hp hb k1 k2 k3 T' rfl X'
    exact ⟨t2, st t2 a1, b1⟩
  · obtain ⟨k1, k2, k3⟩ := vx_keep h0 e1 hS hAX hf hL hF
    obtain ⟨t2, a1, b1⟩ := kx E ce q u t T'.heap (locs ++ L) e1.symm (by rw [← e2]; exact X'.warmed.alike) hp hb k1 k2 k3 (by rw [e1]; exact hce) hcv hcl T' rfl X'
    exact ⟨t2, st.trans a1, b1⟩
theorem vx_callv {S SX : Type} {post : S → Prop} {px : SX → Prop} {B : S → State → Prop} {BX : String → SX → State → Prop} {AX : Nat → Prop} (hr : vx_Run p l e R s m args below meth c H locs cells slots mc ms (F0 m pc ls st0) rest (va_Qv post B A1 a) (vx_X px BX AX) free) (hS : va_S A0 H0 H locs) (hA : ∀ q, q < H.size → A1 q → A0 q) (hf : ∀ q, free q → A0 q) (hAX : ∀ q, q < H.size → AX q → A0 q)
    (kx : ∀ (E : String) (ce : Cell) (q9 : Addr) (u : SX) (t : State) (H1 : Heap) (locs1 : List Loc), t.heap = H1 → s.vm.Alike t.vm → px u → BX E u t → H.size ≤ H1.size → (∀ q : Nat, q < H.size → ¬ AX q → H1[q]? = H[q]?) → va_S A0 H0 H1 locs1 → H1[q9]? = some ce → ce.vm = .none → s.vm.findClass E = some ce.cls → vx_W p l e R s m args below meth c H1 locs1 (cells + mc) (slots + ms) Q (F0 m pc ls rest) q9)
    (kk : ∀ (u : S) (t : State) (H1 : Heap) (locs1 : List Loc), t.heap = H1 → s.vm.Alike t.vm → post u → B u t → H.size ≤ H1.size → (∀ q : Nat, q < H.size → ¬ A1 q → H1[q]? = H[q]?) → va_S A0 H0 H1 locs1 → W p l e R s m args below meth c H1 locs1 (cells + mc) (slots + ms) Q (F0 m (pc + 3) ls (rest))) : W p l e R s m args below meth c H locs cells slots Q (F0 m pc ls st0) := by
  intro T hT X
  rcases hr T hT X with ⟨v, st₀, t, T', L, h0, X', hL, e1, e2, ⟨⟨u, hv, hp, hb⟩, hF⟩, st⟩ | ⟨q, st₀, t, T', L, E, ce, h0, X', hL, e1, e2, ⟨u, hp, hb, hF⟩, hce, hcv, hcl, st⟩
  · cases hv
    obtain ⟨k1, k2, k3⟩ := vx_keep h0 e1 hS hA hf hL hF
    obtain ⟨t2, a1, b1⟩ := kk u t T'.heap (locs ++ L) e1.symm (by rw [← e2]; exact X'.warmed.alike) hp hb k1 k2 k3 T' rfl X'
    exact ⟨t2, st t2 a1, b1⟩
  · obtain ⟨k1, k2, k3⟩ := vx_keep h0 e1 hS hAX hf hL hF
    obtain ⟨t2, a1, b1⟩ := kx E ce q u t T'.heap (locs ++ L) e1.symm (by rw [← e2]; exact X'.warmed.alike) hp hb k1 k2 k3 (by rw [e1]; exact hce) hcv hcl T' rfl X'
    exact ⟨t2, st.trans a1, b1⟩
/-- caught by the row x of this method's table; the rows ahead don't take it -/
theorem vx_catch {own name : String} {E : String} {ce : Cell} {q : Addr} (hown : s.vm.findClass own = some m.cls) (pre : List ExceptionTableEntry) (x : ExceptionTableEntry) (suf : List ExceptionTableEntry) (hsplit : c.exceptionTable.toList = pre ++ x :: suf)
    (hpass : ∀ z ∈ pre, covers z pc = false ∨ (z.catchType ≠ 0 ∧ ∃ nm : String, (Cond.classLink own z.catchType nm).before args s = true ∧ va_Nc E nm s)) (hx : covers x pc = true) (h0 : x.catchType ≠ 0)
    (hlink : (Cond.classLink own x.catchType name).before args s = true) (hcast : (Cond.castable E name).before args s = true) (hcell : H[q]? = some ce) (hv : ce.vm = .none) (hcl : s.vm.findClass E = some ce.cls)
    (kk : W p l e R s m args below meth c H locs cells slots Q (F0 m x.handlerPc ls [.ref q])) : vx_W p l e R s m args below meth c H locs cells slots Q (F0 m pc ls rest) q := by
  intro T hT X
  have hpl : e.platform.magicAccessors = ({} : Platform).magicAccessors := by rw [X.admits.platform]
  obtain ⟨c3, c4, hc3, hc4, hasg⟩ := Cond.castable_spec hcast
  cases Option.some.inj (hc3.symm.trans hcl)
  obtain ⟨c5, hc5, hcl5⟩ := Cond.classLink_spec hown hlink e.platform hpl
  cases Option.some.inj (hc4.symm.trans hc5)
  obtain ⟨vm', X', st⟩ := X.thenCaughtThrough q (g := F0 m pc ls rest) rfl (Steps.refl _) (by rw [hT]; exact hcell) (by rw [hv]; rfl) (by obtain ⟨k9, h9, -⟩ := Vm.findClass_spec hcl; exact ⟨k9, h9⟩) pre x suf hsplit
    (fun z hz => by
      rcases hpass z hz with h | ⟨hz0, nm, hl1, hn1⟩
      · exact Or.inl h
      · obtain ⟨c6, hc6, hcl6⟩ := Cond.classLink_spec hown hl1 e.platform hpl
        obtain ⟨a8, b8, h1, h2, h3⟩ := hn1
        cases Option.some.inj (h1.symm.trans hcl)
        cases Option.some.inj (h2.symm.trans hc6)
        exact Or.inr ⟨hz0, _, hcl6, h3⟩) hx (Or.inr ⟨h0, c4, hcl5, hasg⟩)
  obtain ⟨t, a1, b1⟩ := kk (T.setVm vm') hT X'
  exact ⟨t, st.trans a1, b1⟩
end Rows
section Ends
variable {p : Program} {l : Launch} {e : Env} {R : Room} {s : State} {m : MethodId} {args : Array Value} {below : List Frame} {meth : Method} {c : Code} {H : Heap} {locs : List Loc} {cells slots : Nat} {Q : State → Prop}
variable {mc ms : Nat} {free : Addr → Prop} {A0 A1 : Nat → Prop} {H0 : Heap} {a : Array Value} {ls : Array Slot} {st0 rest : List Value}
variable {Qc : Array Value → State → Outcome → State → Prop} {XC : String → State → State → Prop}
/-- what a body that may throw owes at its end -/
def vx_MQ (below : List Frame) (Qc : Array Value → State → Outcome → State → Prop) (XC : String → State → State → Prop) (a : Array Value) (s : State) (mc ms : Nat) (free : Addr → Prop) : State → Prop := fun t =>
  ∃ o, t.status = .running ∧ Ended t below o ∧ vx_Q Qc XC mc ms free a s o t
theorem vx_ret {g : JFrame} {mc ms : Nat} (k : W p l e R s m args below meth c H locs cells slots (MQ below Qc args s mc ms free) g) : W p l e R s m args below meth c H locs cells slots (vx_MQ below Qc XC args s mc ms free) g := by
  intro T hT X
  obtain ⟨t, a1, o, b1, b2, b3, b4⟩ := k T hT X
  exact ⟨t, a1, o, b1, b2, Or.inl ⟨b3, b4⟩⟩
/-- not caught here: it goes on to the caller -/
theorem vx_widen {g : JFrame} {q : Addr} {k n : Nat} (h1 : cells ≤ k) (h2 : slots ≤ n) (kk : vx_W p l e R s m args below meth c H locs k n Q g q) : vx_W p l e R s m args below meth c H locs cells slots Q g q := fun T hT X => kk T hT (stand_widen X h1 h2)
theorem vx_out {pc : Nat} {E : String} {ce : Cell} {q : Addr} {mc ms : Nat} (hout : ∀ x ∈ c.exceptionTable.toList, covers x pc = false) (hlocks : meth.locks = false) (hcell : H[q]? = some ce) (hv : ce.vm = .none) (hcl : s.vm.findClass E = some ce.cls)
    (hx : ∀ t : State, t.heap = H → s.vm.Alike t.vm → XC E s t) (hf : ∀ z ∈ locs, free z.base) (hc : cells ≤ mc) (hs : slots ≤ ms) :
    vx_W p l e R s m args below meth c H locs cells slots (vx_MQ below Qc XC args s mc ms free) (F0 m pc ls rest) q := by
  intro T hT X
  obtain ⟨st1, hrun, hend, hW, hsm⟩ := X.leaveThrown q (g := F0 m pc ls rest) rfl rfl rfl hout hlocks
  have hcell9 : (T.setFrames (.throwing q :: below)).heap[q]? = some ce := by
    show T.heap[q]? = some ce
    rw [hT]; exact hcell
  exact ⟨_, st1, .threw q, hrun, hend, Or.inr ⟨q, rfl, E, ce, locs, hx _ hT hW.alike, hcell9, hv, hcl, hW, hsm.mono hc hs, hf⟩⟩
theorem vx_frame {U : State} {k n : Nat} (h : s.sameButNew ({ U with vm := s.vm } : State) locs k n) : s.heap.size ≤ U.heap.size ∧ ∀ q : Nat, q < s.heap.size → (∀ z ∈ locs, z.base ≠ q) → U.heap[q]? = s.heap[q]? := by
  obtain ⟨-, h2, -, -, -, h6⟩ := h
  refine ⟨h2, fun q hq hz => ?_⟩
  obtain ⟨c9, e1, e2, e3, e4⟩ := h6 q _ (Array.getElem?_eq_getElem hq)
  have hs : c9.slots = (s.heap[q]).slots := Array.ext_getElem? fun i => e4 i fun hm => hz _ hm rfl
  have h9 : c9 = s.heap[q] := by
    rw [hs] at e2
    exact e2
  have e5 : U.heap[q]? = some c9 := e1
  rw [e5, h9, Array.getElem?_eq_getElem hq]
/-- the words of a throw but the four that speak of the heap -/
def vx_no (w : Cond) : Bool := decide (w ≠ .isRef (.static Bundle.tN "UNASSIGNED_STACK" Bundle.steD)) && decide (w ≠ .isRef (.static Bundle.tN "SUPPRESSED_SENTINEL" Bundle.listD)) && decide (w ≠ .laysStatic Bundle.tN "UNASSIGNED_STACK" Bundle.steD) && decide (w ≠ .laysStatic Bundle.tN "SUPPRESSED_SENTINEL" Bundle.listD)
def vx_at0 (own : String) (ic : Nat) (X : String) (names : List String) : List Cond := (Bundle.ownAtoms0 own ic X names).filter vx_no
def vx_atS (own : String) (ic : Nat) (X : String) (names : List String) : List Cond := (Bundle.ownAtoms own ic X names).filter vx_no
/-- a word that the tables alone decide, or a good one -/
def vx_ot (w : Cond) : Bool := w.onTables || goodWord w
theorem vx_ot_at {args a' : Array Value} {s U : State} {w : Cond} (hW : s.WarmedH U.vm) (hvm : s.vm = U.vm) (hg : vx_ot w = true) (h : w.before args s = true) : w.before a' U = true := by
  simp only [vx_ot, Bool.or_eq_true] at hg
  rcases hg with hg | hg
  · exact va_tabs hg hvm h
  · exact word_at hW (good_of_word hg) h
/-- a list's words: the good ones out of the method's own list, the others by premises of their own -/
theorem vx_hat {args : Array Value} {s : State} {L B : List Cond} (h1 : ∀ w ∈ L.filter goodWord, w.before args s = true) (h2 : ∀ w ∈ L.filter (fun w => !goodWord w), w ∈ B) (h3 : ∀ w ∈ B, w.before args s = true) : ∀ w ∈ L, w.before args s = true := by
  intro w hw
  by_cases g : goodWord w = true
  · exact h1 w (List.mem_filter.mpr ⟨hw, g⟩)
  · refine h3 w (h2 w (List.mem_filter.mpr ⟨hw, ?_⟩))
    show (!goodWord w) = true
    cases hgw : goodWord w
    · rfl
    · exact absurd hgw g
theorem vx_c {args : Array Value} {s : State} {w : Cond} {B : List Cond} (h : w.before args s = true) (t : ∀ w ∈ B, w.before args s = true) : ∀ w' ∈ w :: B, w'.before args s = true := fun w' h' => (List.mem_cons.mp h').elim (fun e => by rw [e]; exact h) (t w')
theorem vx_n {args : Array Value} {s : State} : ∀ w ∈ ([] : List Cond), w.before args s = true := fun _ h => nomatch h
theorem vx_own {args : Array Value} {s : State} {L : List Cond} (h1 : ∀ w ∈ L.filter vx_no, w.before args s = true)
    (hU : (Cond.isRef (.static Bundle.tN "UNASSIGNED_STACK" Bundle.steD)).before args s = true) (hN : (Cond.isRef (.static Bundle.tN "SUPPRESSED_SENTINEL" Bundle.listD)).before args s = true)
    (lU : (Cond.laysStatic Bundle.tN "UNASSIGNED_STACK" Bundle.steD).before args s = true) (lN : (Cond.laysStatic Bundle.tN "SUPPRESSED_SENTINEL" Bundle.listD).before args s = true) : ∀ w ∈ L, w.before args s = true := by
  intro w hw
  by_cases e1 : w = .isRef (.static Bundle.tN "UNASSIGNED_STACK" Bundle.steD)
  · rw [e1]; exact hU
  · by_cases e2 : w = .isRef (.static Bundle.tN "SUPPRESSED_SENTINEL" Bundle.listD)
    · rw [e2]; exact hN
    · by_cases e3 : w = .laysStatic Bundle.tN "UNASSIGNED_STACK" Bundle.steD
      · rw [e3]; exact lU
      · by_cases e4 : w = .laysStatic Bundle.tN "SUPPRESSED_SENTINEL" Bundle.listD
        · rw [e4]; exact lN
        · exact h1 w (List.mem_filter.mpr ⟨hw, by unfold vx_no; rw [decide_eq_true e1, decide_eq_true e2, decide_eq_true e3, decide_eq_true e4]; rfl⟩)
/-- where a static field lies, its class's statics cell in H -/
def vx_L (C n d : String) (A : Nat → Prop) (U : State) (H : Heap) : Prop := ∃ (c : ClassId) (k : Class) (i : Nat) (f : Field) (a : Nat) (cell : Cell), U.vm.findClass C = some c ∧ U.fieldFound? C n d = some (c, k, i, f) ∧ f.isStatic = true ∧ k.statics = some a ∧ H[a]? = some cell ∧ cell.vm.isStatics = true ∧ cell.cls = c ∧ f.slot < cell.slots.size ∧ k.staticTypes[f.slot]? = some f.type ∧ ¬ A a
theorem vx_L.moved {C n d : String} {A : Nat → Prop} {u U : State} {H : Heap} (hvm : u.vm.Alike U.vm) (h : vx_L C n d A u H) : vx_L C n d A U H := by
  obtain ⟨c, k, i, f, a, cell, h1, h2, h3, h4, h5, h6, h7, h8, h9, h10⟩ := h
  obtain ⟨k', hi', he⟩ := State.fieldFound?_setVm hvm h2
  exact ⟨c, k', i, f, a, cell, by rw [hvm.findClass]; exact h1, hi', h3, by rw [he]; exact h4, h5, h6, h7, h8, by rw [he]; exact h9, h10⟩
theorem vx_L.kept {C n d : String} {A : Nat → Prop} {U : State} {H H1 : Heap} (h : vx_L C n d A U H) (hq : ∀ a : Nat, a < H.size → ¬ A a → H1[a]? = H[a]?) : vx_L C n d A U H1 := by
  obtain ⟨c, k, i, f, a, cell, h1, h2, h3, h4, h5, h6, h7, h8, h9, h10⟩ := h
  exact ⟨c, k, i, f, a, cell, h1, h2, h3, h4, by rw [hq a (Array.getElem?_eq_some_iff.mp h5).1 h10]; exact h5, h6, h7, h8, h9, h10⟩
theorem vx_L.narrow {C n d : String} {A B : Nat → Prop} {U : State} {H : Heap} (h : vx_L C n d A U H) (hAB : ∀ q, B q → A q) : vx_L C n d B U H := by
  obtain ⟨c, k, i, f, a, cell, h1, h2, h3, h4, h5, h6, h7, h8, h9, h10⟩ := h
  exact ⟨c, k, i, f, a, cell, h1, h2, h3, h4, h5, h6, h7, h8, h9, fun z => h10 (hAB _ z)⟩
theorem vx_L.word {C n d : String} {A : Nat → Prop} {s : State} {args : Array Value} (h : vx_L C n d A s s.heap) : (Cond.laysStatic C n d).before args s = true := by
  obtain ⟨c, k, i, f, a, cell, h1, h2, h3, h4, h5, h6, h7, h8, h9, -⟩ := h
  show (Cond.laysStatic C n d).holds args s none s [] = true
  exact Cond.laysStatic_of h1 h2 h3 h4 h5 h6 h7 h8 h9
/-- .. and what it holds: null or some reference -/
def vx_Zq (C n d : String) (A : Nat → Prop) (U : State) (H : Heap) : Prop := va_Zq C n d A U H ∧ vx_L C n d A U H
theorem vx_Zq.moved {C n d : String} {A : Nat → Prop} {u U : State} {H : Heap} (hvm : u.vm.Alike U.vm) (h : vx_Zq C n d A u H) : vx_Zq C n d A U H := ⟨va_Zq.moved hvm h.1, vx_L.moved hvm h.2⟩
theorem vx_Zq.kept {C n d : String} {A : Nat → Prop} {U : State} {H H1 : Heap} (h : vx_Zq C n d A U H) (hq : ∀ a : Nat, a < H.size → ¬ A a → H1[a]? = H[a]?) : vx_Zq C n d A U H1 := ⟨va_Zq.kept h.1 hq, vx_L.kept h.2 hq⟩
theorem vx_Zq.narrow {C n d : String} {A B : Nat → Prop} {U : State} {H : Heap} (h : vx_Zq C n d A U H) (hAB : ∀ q, B q → A q) : vx_Zq C n d B U H := ⟨va_Zq.narrow h.1 hAB, vx_L.narrow h.2 hAB⟩
theorem vx_Zqof {args : Array Value} {s : State} {C n d : String} {A : Nat → Prop} (hl : (Cond.laysStatic C n d).before args s = true) (hini : (Cond.initialized C).before args s = true) (h : (Cond.isRef (.static C n d)).before args s = true) (hA : ∀ a : Nat, a < s.heap.size → ¬ A a) : vx_Zq C n d A s s.heap := by
  refine ⟨va_Zqof hl hini h hA, ?_⟩
  obtain ⟨c, k, i, f, a, cell, h1, h2, h3, h4, h5, h6, h7, h8, h9⟩ := Cond.laysStatic_spec hl
  exact ⟨c, k, i, f, a, cell, h1, h2, h3, h4, h5, h6, h7, h8, h9, hA a (Array.getElem?_eq_some_iff.mp h5).1⟩
theorem vx_isRef {C n d : String} {v : Value} {A : Nat → Prop} {s : State} {args : Array Value} (h : va_Z C n d v A s s.heap) (hv : v.isRef = true) : (Cond.isRef (.static C n d)).before args s = true := by
  obtain ⟨cf, kf, fi, f, a, cell, h1, h2, h3, h4, h5, h6, h7, -⟩ := h
  have he : (Term.static C n d).eval args s none [] s = some v := by
    simp [Term.eval, State.fieldNamed?, h1, h2, h4, h5, h6, h7]
  simp only [Cond.before, Cond.holds, Cond.value, he]
  cases v <;> simp_all [Value.isRef]
theorem vx_isRefq {C n d : String} {A : Nat → Prop} {s : State} {args : Array Value} (h : va_Zq C n d A s s.heap) : (Cond.isRef (.static C n d)).before args s = true := by
  rcases h with h | ⟨t, h⟩
  · exact vx_isRef h rfl
  · exact vx_isRef h rfl
/-- the same frame, seen from here: as if the method were called anew in this heap -/
theorem vx_rebase {T : State} (X : Stand p l e R s m args below meth c T locs cells slots) {R' : Room} (hf : R'.frames ≤ R.frames) (hl : R'.locals ≤ R.locals) (hc : cells + R'.cells ≤ R.cells) (hs : slots + R'.slots ≤ R.slots) :
    Stand p l e R' ((T.setVm s.vm).setFrames (.invoking m args :: below)) m args below meth c T [] 0 0 := by
  have htop : (T.setVm s.vm).topJava?.isSome := X.here.top
  have hF : ((T.setVm s.vm).setFrames (.invoking m args :: below)).frames = .invoking m args :: below := State.frames_setFrames _ (State.cur_lt_of_top htop)
  obtain ⟨g₀, hg0⟩ := Option.isSome_iff_exists.mp htop
  obtain ⟨r, hr⟩ := State.topJava?_eq_some.mp hg0
  have hl9 : e.platform.stackLimits (T.setVm s.vm).me = e.platform.stackLimits s.me := X.limits
  have hb9 : (T.setVm s.vm).me.stackBytes = s.me.stackBytes := X.bytes
  refine ⟨X.admits, X.cas, X.clock, hF, ?_, X.hears, X.method, X.code, X.here, X.tail, X.warmed, ?_, ?_, ?_⟩
  · have h := X.room
    have hU : ((T.setVm s.vm).setFrames (.invoking m args :: below)).localsInUse = s.localsInUse := by
      rw [State.localsInUse_invoking hF (meth := meth) (c := c) X.method X.code, State.localsInUse_invoking X.frames X.method X.code]
    simp only [State.hasRoom, Bool.and_eq_true, decide_eq_true_eq] at h ⊢
    obtain ⟨⟨⟨⟨h1, h2, h3, h4, h5, h6⟩, h7⟩, h8⟩, h9⟩ := h
    rw [X.frames, List.length_cons] at h2 h3
    have q1 := X.heapSize
    have q2 := X.used
    simp only [hF, hU, List.length_cons, State.stackLimits_setFrames, State.stackBytes_setFrames, hl9, hb9]
    refine ⟨⟨⟨⟨by omega, by omega, by omega, by omega, by omega, h6⟩, ?_⟩, ?_⟩, X.book⟩
    · show T.heap.size + R'.cells ≤ e.platform.maxCells
      omega
    · show T.slotsUsed + R'.slots ≤ e.platform.maxSlots
      omega
  · rw [State.stackLimits_setFrames]; rfl
  · rw [State.stackBytes_setFrames]; rfl
  · refine ⟨?_, Nat.le_refl _, Nat.le_refl _, ?_, ?_, fun a c9 h9 => ⟨c9, h9, rfl, rfl, fun _ _ => rfl⟩⟩
    · obtain ⟨t, ht, -⟩ := State.frames_cons hr
      show T.setVm s.vm = { ((T.setVm s.vm).setFrames (.invoking m args :: below)).setFrames (T.setVm s.vm).frames with heap := T.heap, slotsUsed := T.slotsUsed }
      rw [State.setFrames_setFrames, State.setFrames_self ht]
      rfl
    · show T.slotsUsed = T.slotsUsed + ((T.heap.toList.drop T.heap.size).map (·.slots.size)).sum
      rw [List.drop_eq_nil_of_le (Nat.le_of_eq Array.length_toList)]
      rfl
    · show ((T.heap.toList.drop T.heap.size).map (·.slots.size)).sum ≤ 0
      rw [List.drop_eq_nil_of_le (Nat.le_of_eq Array.length_toList)]
      exact Nat.le_refl _
/-- 'throw new E()': new; dup; invokespecial; athrow -/
theorem vx_throw0 {cc : ByteArray} {pc : Nat} (hexec : p.tables.exec = Jvm.exec) (hb : c.code = cc) (hl : l.stackTraces = false) {own cls : String} {names : List String} {ik ic mc ms : Nat} {A : Nat → Prop}
    (hown : s.vm.findClass own = some m.cls) (hcls : Bundle.fit cls = true) (hnames : ∀ n ∈ names, Bundle.fit n = true)
    (hk : (Cond.classLink own ik cls).before args s = true) (hini : (Cond.initialized cls).before args s = true) (hat : ∀ w ∈ vx_at0 own ic cls names, w.before args s = true)
    (hgood : ∀ w ∈ Cond.classLink own ik cls :: Cond.initialized cls :: vx_at0 own ic cls names, vx_ot w = true)
    (hU : vx_Zq Bundle.tN "UNASSIGNED_STACK" Bundle.steD A s s.heap) (hN : vx_Zq Bundle.tN "SUPPRESSED_SENTINEL" Bundle.listD A s s.heap) (hS : va_S A s.heap H locs) (hsize : ls.size = c.maxLocals)
    (d0 : decode cc pc = .ok (.new ik, 3)) (d3 : decode cc (pc + 3) = .ok (.dup, 1)) (d4 : decode cc (pc + 4) = .ok (.invokespecial ic, 3)) (d7 : decode cc (pc + 7) = .ok (.athrow, 1))
    (hout : ∀ x ∈ c.exceptionTable.toList, covers x (pc + 7) = false)
    (hRframes : names.length + 3 < R.frames) (hRlocals : (rest.map fun v => v.category).sum + (13 * (names.length + 1) + 42) ≤ R.locals) (hRcells : cells + 1 ≤ R.cells) (hRslots : slots + 6 ≤ R.slots) (hlocks : meth.locks = false)
    (hx : ∀ t : State, s.vm.Alike t.vm → H.size ≤ t.heap.size → (∀ q : Nat, q < H.size → t.heap[q]? = H[q]?) → XC cls s t)
    (hf : ∀ z ∈ locs, free z.base) (hc : cells + 1 ≤ mc) (hs : slots + 6 ≤ ms) :
    W p l e R s m args below meth c H locs cells slots (vx_MQ below Qc XC args s mc ms free) (F0 m pc ls rest) := by
  intro T hT X
  have htr : e.platform.stackTraces = false := (show e.platform.stackTraces = l.stackTraces by rw [X.admits.platform]).trans hl
  have Y := vx_rebase X (R' := { frames := R.frames, locals := R.locals, cells := 1, slots := 6 }) (Nat.le_refl _) (Nat.le_refl _) hRcells hRslots
  obtain ⟨s', hA⟩ : ∃ z, z = (T.setVm s.vm).setFrames (.invoking m args :: below) := ⟨_, rfl⟩
  rw [← hA] at Y
  have hvm : s'.vm = s.vm := by rw [hA]; rfl
  have hhp : s'.heap = H := by rw [hA]; exact hT
  have hW0 : s.WarmedH s'.vm := by rw [hvm]; exact State.WarmedH.refl s
  have hat' : ∀ w ∈ vx_at0 own ic cls names, w.before args s' = true := fun w hw => vx_ot_at hW0 hvm.symm (hgood w (List.mem_cons_of_mem _ (List.mem_cons_of_mem _ hw))) (hat w hw)
  have hk' : (Cond.classLink own ik cls).before args s' = true := vx_ot_at hW0 hvm.symm (hgood _ List.mem_cons_self) hk
  have hini' : (Cond.initialized cls).before args s' = true := vx_ot_at hW0 hvm.symm (hgood _ (List.mem_cons_of_mem _ List.mem_cons_self)) hini
  have hU' : vx_Zq Bundle.tN "UNASSIGNED_STACK" Bundle.steD A s' s'.heap := by rw [hhp]; exact vx_Zq.moved hW0.alike (hU.kept hS.2.1)
  have hN' : vx_Zq Bundle.tN "SUPPRESSED_SENTINEL" Bundle.listD A s' s'.heap := by rw [hhp]; exact vx_Zq.moved hW0.alike (hN.kept hS.2.1)
  have h : ∀ w ∈ Bundle.ownAtoms0 own ic cls names, w.before args s' = true := vx_own hat' (vx_isRefq hU'.1) (vx_isRefq hN'.1) hU'.2.word hN'.2.word
  have hown' : s'.vm.findClass own = some m.cls := by rw [hvm]; exact hown
  have hins : (Cond.instantiable cls 6).before args s' = true := h _ (by simp [Bundle.ownAtoms0])
  obtain ⟨vm₁, cX, kX, hfX, hkX, -, -, X₁, st1⟩ := Y.newCold hexec (own := own) (C := cls) (index := ik) (n := 6) hown' hk' hins hini'
    (g := F0 m pc ls rest) rfl (by rw [hb]; exact d0) (Nat.le_refl _) (Nat.le_refl _)
  generalize hT1 : (T.setVm vm₁).pushCell { cls := cX, slots := kX.instanceTypes.map defaultValue, vm := .none } = T1 at X₁ st1
  have hcat : (Value.ref T.heap.size).category = 1 := rfl
  have hcellA : T1.heap[T.heap.size]? = some (freshCell cX kX) := by rw [← hT1]; exact State.heap_pushCell_size _ _
  have d3' : decode c.code (pc + 3) = .ok (.dup, 1) := by rw [hb]; exact d3
  obtain ⟨U, hsteps, hrun, hend, hW, hsame, ce, hce, hO⟩ := X₁.ctorThrow0 hexec htr (own := own) (cls := cls) (names := names) (ic := ic) hown' hcls hnames h (fun x hx => nomatch hx) hfX hkX hcellA (by rw [hhp, hT]; exact Nat.le_refl _)
    (g := { method := m, pc := pc + 4, locals := ls, stack := .ref T.heap.size :: .ref T.heap.size :: rest, locked := none }) rfl hsize rfl rfl (rest := rest) rfl
    (by rw [hb]; exact d4) (by rw [hb]; exact d7) hout hRframes (by simp only [List.map_cons, List.sum_cons, hcat]; omega) hlocks
  obtain ⟨f1, f2⟩ := vx_frame hsame
  rw [hhp] at f1 f2
  have hWs : s.WarmedH U.vm := State.WarmedH.trans hW0 hW
  have hcl : s.vm.findClass cls = some ce.cls := by
    have h9 := hO.cls
    rw [hvm] at h9
    exact h9
  have hall : s.sameButNew ({ U with vm := s.vm } : State) locs mc ms := by
    subst hA
    obtain ⟨e1, e2⟩ := hsame
    rw [State.setFrames_setFrames] at e1
    have h2 : (T.setVm s.vm).sameButNew ({ U with vm := s.vm } : State) [] (0 + 1) (0 + 6) := ⟨e1, e2⟩
    have h3 := X.same.trans h2
    rw [List.append_nil] at h3
    exact h3.mono hc hs
  refine ⟨U, ?_, .threw T.heap.size, hrun, hend, Or.inr ⟨T.heap.size, rfl, cls, ce, locs, hx U hWs.alike f1 (fun q hq => f2 q hq (fun z hz => nomatch hz)), hce, hO.vm, hcl, hWs, hall, hf⟩⟩
  refine st1 _ ?_
  show Steps p.tables e below (T1.setTop { method := m, pc := pc + 3, locals := ls, stack := .ref T.heap.size :: rest, locked := none }) _
  jvm_step X₁.here [X₁.here.top, hexec, d3', Value.category]
  exact hsteps
/-- 'throw new E("text")': new; dup; ldc; invokespecial; athrow -/
theorem vx_throwS {cc : ByteArray} {pc : Nat} (hexec : p.tables.exec = Jvm.exec) (hb : c.code = cc) (hl : l.stackTraces = false) {own cls text : String} {names : List String} {ik is ic mc ms sa : Nat} {A : Nat → Prop}
    (hown : s.vm.findClass own = some m.cls) (hcls : Bundle.fit cls = true) (hnames : ∀ n ∈ names, Bundle.fit n = true)
    (hk : (Cond.classLink own ik cls).before args s = true) (hini : (Cond.initialized cls).before args s = true) (hstr : vk_R own is text sa s) (hat : ∀ w ∈ vx_atS own ic cls names, w.before args s = true)
    (hgood : ∀ w ∈ Cond.classLink own ik cls :: Cond.initialized cls :: vx_atS own ic cls names, vx_ot w = true)
    (hU : vx_Zq Bundle.tN "UNASSIGNED_STACK" Bundle.steD A s s.heap) (hN : vx_Zq Bundle.tN "SUPPRESSED_SENTINEL" Bundle.listD A s s.heap) (hS : va_S A s.heap H locs) (hsize : ls.size = c.maxLocals)
    (d0 : decode cc pc = .ok (.new ik, 3)) (d3 : decode cc (pc + 3) = .ok (.dup, 1)) (d4 : decode cc (pc + 4) = .ok (.ldc is, 2)) (d6 : decode cc (pc + 6) = .ok (.invokespecial ic, 3)) (d9 : decode cc (pc + 9) = .ok (.athrow, 1))
    (hout : ∀ x ∈ c.exceptionTable.toList, covers x (pc + 9) = false)
    (hRframes : names.length + 3 < R.frames) (hRlocals : (rest.map fun v => v.category).sum + (13 * (names.length + 1) + 43) ≤ R.locals) (hRcells : cells + 1 ≤ R.cells) (hRslots : slots + 6 ≤ R.slots) (hlocks : meth.locks = false)
    (hx : ∀ t : State, s.vm.Alike t.vm → H.size ≤ t.heap.size → (∀ q : Nat, q < H.size → t.heap[q]? = H[q]?) → XC cls s t)
    (hf : ∀ z ∈ locs, free z.base) (hc : cells + 1 ≤ mc) (hs : slots + 6 ≤ ms) :
    W p l e R s m args below meth c H locs cells slots (vx_MQ below Qc XC args s mc ms free) (F0 m pc ls rest) := by
  intro T hT X
  have htr : e.platform.stackTraces = false := (show e.platform.stackTraces = l.stackTraces by rw [X.admits.platform]).trans hl
  have Y := vx_rebase X (R' := { frames := R.frames, locals := R.locals, cells := 1, slots := 6 }) (Nat.le_refl _) (Nat.le_refl _) hRcells hRslots
  obtain ⟨s', hA⟩ : ∃ z, z = (T.setVm s.vm).setFrames (.invoking m args :: below) := ⟨_, rfl⟩
  rw [← hA] at Y
  have hvm : s'.vm = s.vm := by rw [hA]; rfl
  have hhp : s'.heap = H := by rw [hA]; exact hT
  have hW0 : s.WarmedH s'.vm := by rw [hvm]; exact State.WarmedH.refl s
  have hat' : ∀ w ∈ vx_atS own ic cls names, w.before args s' = true := fun w hw => vx_ot_at hW0 hvm.symm (hgood w (List.mem_cons_of_mem _ (List.mem_cons_of_mem _ hw))) (hat w hw)
  have hk' : (Cond.classLink own ik cls).before args s' = true := vx_ot_at hW0 hvm.symm (hgood _ List.mem_cons_self) hk
  have hini' : (Cond.initialized cls).before args s' = true := vx_ot_at hW0 hvm.symm (hgood _ (List.mem_cons_of_mem _ List.mem_cons_self)) hini
  have hU' : vx_Zq Bundle.tN "UNASSIGNED_STACK" Bundle.steD A s' s'.heap := by rw [hhp]; exact vx_Zq.moved hW0.alike (hU.kept hS.2.1)
  have hN' : vx_Zq Bundle.tN "SUPPRESSED_SENTINEL" Bundle.listD A s' s'.heap := by rw [hhp]; exact vx_Zq.moved hW0.alike (hN.kept hS.2.1)
  have h : ∀ w ∈ Bundle.ownAtoms own ic cls names, w.before args s' = true := vx_own hat' (vx_isRefq hU'.1) (vx_isRefq hN'.1) hU'.2.word hN'.2.word
  have hown' : s'.vm.findClass own = some m.cls := by rw [hvm]; exact hown
  have hins : (Cond.instantiable cls 6).before args s' = true := h _ (by simp [Bundle.ownAtoms])
  obtain ⟨vm₁, cX, kX, hfX, hkX, -, -, X₁, st1⟩ := Y.newCold hexec (own := own) (C := cls) (index := ik) (n := 6) hown' hk' hins hini'
    (g := F0 m pc ls rest) rfl (by rw [hb]; exact d0) (Nat.le_refl _) (Nat.le_refl _)
  generalize hT1 : (T.setVm vm₁).pushCell { cls := cX, slots := kX.instanceTypes.map defaultValue, vm := .none } = T1 at X₁ st1
  have hcat : (Value.ref T.heap.size).category = 1 := rfl
  have hcellA : T1.heap[T.heap.size]? = some (freshCell cX kX) := by rw [← hT1]; exact State.heap_pushCell_size _ _
  have d3' : decode c.code (pc + 3) = .ok (.dup, 1) := by rw [hb]; exact d3
  have d4' : decode c.code (pc + 4) = .ok (.ldc is, 2) := by rw [hb]; exact d4
  have hstr' : vk_R own is text sa s' := vk_R.warm hW0 hstr
  obtain ⟨U, hsteps, hrun, hend, hW, hsame, ce, hce, hO⟩ := X₁.ctorThrowS hexec htr (own := own) (cls := cls) (names := names) (ic := ic) hown' hcls hnames h (fun x hx => nomatch hx) hfX hkX hcellA (by rw [hhp, hT]; exact Nat.le_refl _) (msg := .ref sa) rfl
    (g := { method := m, pc := pc + 6, locals := ls, stack := .ref sa :: .ref T.heap.size :: .ref T.heap.size :: rest, locked := none }) rfl hsize rfl rfl (rest := rest) rfl
    (by rw [hb]; exact d6) (by rw [hb]; exact d9) hout hRframes (by simp only [List.map_cons, List.sum_cons, hcat]; omega) hlocks
  obtain ⟨f1, f2⟩ := vx_frame hsame
  rw [hhp] at f1 f2
  have hWs : s.WarmedH U.vm := State.WarmedH.trans hW0 hW
  have hcl : s.vm.findClass cls = some ce.cls := by
    have h9 := hO.cls
    rw [hvm] at h9
    exact h9
  have hall : s.sameButNew ({ U with vm := s.vm } : State) locs mc ms := by
    subst hA
    obtain ⟨e1, e2⟩ := hsame
    rw [State.setFrames_setFrames] at e1
    have h2 : (T.setVm s.vm).sameButNew ({ U with vm := s.vm } : State) [] (0 + 1) (0 + 6) := ⟨e1, e2⟩
    have h3 := X.same.trans h2
    rw [List.append_nil] at h3
    exact h3.mono hc hs
  refine ⟨U, ?_, .threw T.heap.size, hrun, hend, Or.inr ⟨T.heap.size, rfl, cls, ce, locs, hx U hWs.alike f1 (fun q hq => f2 q hq (fun z hz => nomatch hz)), hce, hO.vm, hcl, hWs, hall, hf⟩⟩
  refine st1 _ ?_
  show Steps p.tables e below (T1.setTop { method := m, pc := pc + 3, locals := ls, stack := .ref T.heap.size :: rest, locked := none }) _
  jvm_step X₁.here [X₁.here.top, hexec, d3', Value.category]
  exact X₁.ldcString hexec (own := own) (text := text) (index := is) (a := sa) hown' hstr'.1 hstr'.2
    (g := { method := m, pc := pc + 4, locals := ls, stack := .ref T.heap.size :: .ref T.heap.size :: rest, locked := none }) rfl d4' _ hsteps
/-- 'throw new E("text")', the text by a wide index -/
theorem vx_throwSW {cc : ByteArray} {pc : Nat} (hexec : p.tables.exec = Jvm.exec) (hb : c.code = cc) (hl : l.stackTraces = false) {own cls text : String} {names : List String} {ik is ic mc ms sa : Nat} {A : Nat → Prop}
    (hown : s.vm.findClass own = some m.cls) (hcls : Bundle.fit cls = true) (hnames : ∀ n ∈ names, Bundle.fit n = true)
    (hk : (Cond.classLink own ik cls).before args s = true) (hini : (Cond.initialized cls).before args s = true) (hstr : vk_R own is text sa s) (hat : ∀ w ∈ vx_atS own ic cls names, w.before args s = true)
    (hgood : ∀ w ∈ Cond.classLink own ik cls :: Cond.initialized cls :: vx_atS own ic cls names, vx_ot w = true)
    (hU : vx_Zq Bundle.tN "UNASSIGNED_STACK" Bundle.steD A s s.heap) (hN : vx_Zq Bundle.tN "SUPPRESSED_SENTINEL" Bundle.listD A s s.heap) (hS : va_S A s.heap H locs) (hsize : ls.size = c.maxLocals)
    (d0 : decode cc pc = .ok (.new ik, 3)) (d3 : decode cc (pc + 3) = .ok (.dup, 1)) (d4 : decode cc (pc + 4) = .ok (.ldc_w is, 3)) (d7 : decode cc (pc + 7) = .ok (.invokespecial ic, 3)) (d10 : decode cc (pc + 10) = .ok (.athrow, 1))
    (hout : ∀ x ∈ c.exceptionTable.toList, covers x (pc + 10) = false)
    (hRframes : names.length + 3 < R.frames) (hRlocals : (rest.map fun v => v.category).sum + (13 * (names.length + 1) + 43) ≤ R.locals) (hRcells : cells + 1 ≤ R.cells) (hRslots : slots + 6 ≤ R.slots) (hlocks : meth.locks = false)
    (hx : ∀ t : State, s.vm.Alike t.vm → H.size ≤ t.heap.size → (∀ q : Nat, q < H.size → t.heap[q]? = H[q]?) → XC cls s t)
    (hf : ∀ z ∈ locs, free z.base) (hc : cells + 1 ≤ mc) (hs : slots + 6 ≤ ms) :
    W p l e R s m args below meth c H locs cells slots (vx_MQ below Qc XC args s mc ms free) (F0 m pc ls rest) := by
  intro T hT X
  have htr : e.platform.stackTraces = false := (show e.platform.stackTraces = l.stackTraces by rw [X.admits.platform]).trans hl
  have Y := vx_rebase X (R' := { frames := R.frames, locals := R.locals, cells := 1, slots := 6 }) (Nat.le_refl _) (Nat.le_refl _) hRcells hRslots
  obtain ⟨s', hA⟩ : ∃ z, z = (T.setVm s.vm).setFrames (.invoking m args :: below) := ⟨_, rfl⟩
  rw [← hA] at Y
  have hvm : s'.vm = s.vm := by rw [hA]; rfl
  have hhp : s'.heap = H := by rw [hA]; exact hT
  have hW0 : s.WarmedH s'.vm := by rw [hvm]; exact State.WarmedH.refl s
  have hat' : ∀ w ∈ vx_atS own ic cls names, w.before args s' = true := fun w hw => vx_ot_at hW0 hvm.symm (hgood w (List.mem_cons_of_mem _ (List.mem_cons_of_mem _ hw))) (hat w hw)
  have hk' : (Cond.classLink own ik cls).before args s' = true := vx_ot_at hW0 hvm.symm (hgood _ List.mem_cons_self) hk
  have hini' : (Cond.initialized cls).before args s' = true := vx_ot_at hW0 hvm.symm (hgood _ (List.mem_cons_of_mem _ List.mem_cons_self)) hini
  have hU' : vx_Zq Bundle.tN "UNASSIGNED_STACK" Bundle.steD A s' s'.heap := by rw [hhp]; exact vx_Zq.moved hW0.alike (hU.kept hS.2.1)
  have hN' : vx_Zq Bundle.tN "SUPPRESSED_SENTINEL" Bundle.listD A s' s'.heap := by rw [hhp]; exact vx_Zq.moved hW0.alike (hN.kept hS.2.1)
  have h : ∀ w ∈ Bundle.ownAtoms own ic cls names, w.before args s' = true := vx_own hat' (vx_isRefq hU'.1) (vx_isRefq hN'.1) hU'.2.word hN'.2.word
  have hown' : s'.vm.findClass own = some m.cls := by rw [hvm]; exact hown
  have hins : (Cond.instantiable cls 6).before args s' = true := h _ (by simp [Bundle.ownAtoms])
  obtain ⟨vm₁, cX, kX, hfX, hkX, -, -, X₁, st1⟩ := Y.newCold hexec (own := own) (C := cls) (index := ik) (n := 6) hown' hk' hins hini'
    (g := F0 m pc ls rest) rfl (by rw [hb]; exact d0) (Nat.le_refl _) (Nat.le_refl _)
  generalize hT1 : (T.setVm vm₁).pushCell { cls := cX, slots := kX.instanceTypes.map defaultValue, vm := .none } = T1 at X₁ st1
  have hcat : (Value.ref T.heap.size).category = 1 := rfl
  have hcellA : T1.heap[T.heap.size]? = some (freshCell cX kX) := by rw [← hT1]; exact State.heap_pushCell_size _ _
  have d3' : decode c.code (pc + 3) = .ok (.dup, 1) := by rw [hb]; exact d3
  have d4' : decode c.code (pc + 4) = .ok (.ldc_w is, 3) := by rw [hb]; exact d4
  have hstr' : vk_R own is text sa s' := vk_R.warm hW0 hstr
  obtain ⟨U, hsteps, hrun, hend, hW, hsame, ce, hce, hO⟩ := X₁.ctorThrowS hexec htr (own := own) (cls := cls) (names := names) (ic := ic) hown' hcls hnames h (fun x hx => nomatch hx) hfX hkX hcellA (by rw [hhp, hT]; exact Nat.le_refl _) (msg := .ref sa) rfl
    (g := { method := m, pc := pc + 7, locals := ls, stack := .ref sa :: .ref T.heap.size :: .ref T.heap.size :: rest, locked := none }) rfl hsize rfl rfl (rest := rest) rfl
    (by rw [hb]; exact d7) (by rw [hb]; exact d10) hout hRframes (by simp only [List.map_cons, List.sum_cons, hcat]; omega) hlocks
  obtain ⟨f1, f2⟩ := vx_frame hsame
  rw [hhp] at f1 f2
  have hWs : s.WarmedH U.vm := State.WarmedH.trans hW0 hW
  have hcl : s.vm.findClass cls = some ce.cls := by
    have h9 := hO.cls
    rw [hvm] at h9
    exact h9
  have hall : s.sameButNew ({ U with vm := s.vm } : State) locs mc ms := by
    subst hA
    obtain ⟨e1, e2⟩ := hsame
    rw [State.setFrames_setFrames] at e1
    have h2 : (T.setVm s.vm).sameButNew ({ U with vm := s.vm } : State) [] (0 + 1) (0 + 6) := ⟨e1, e2⟩
    have h3 := X.same.trans h2
    rw [List.append_nil] at h3
    exact h3.mono hc hs
  refine ⟨U, ?_, .threw T.heap.size, hrun, hend, Or.inr ⟨T.heap.size, rfl, cls, ce, locs, hx U hWs.alike f1 (fun q hq => f2 q hq (fun z hz => nomatch hz)), hce, hO.vm, hcl, hWs, hall, hf⟩⟩
  refine st1 _ ?_
  show Steps p.tables e below (T1.setTop { method := m, pc := pc + 3, locals := ls, stack := .ref T.heap.size :: rest, locked := none }) _
  jvm_step X₁.here [X₁.here.top, hexec, d3', Value.category]
  exact X₁.ldcStringW hexec (own := own) (text := text) (index := is) (a := sa) hown' hstr'.1 hstr'.2
    (g := { method := m, pc := pc + 4, locals := ls, stack := .ref T.heap.size :: .ref T.heap.size :: rest, locked := none }) rfl d4' _ hsteps
end Ends
section Bodies
variable {l : Launch}
theorem vx_ofW {y : MethodName} {ws ws' : List Cond} {rm : Room} {Pc : Array Value → State → Prop} {Qc : Array Value → State → Outcome → State → Prop} {XC : String → State → State → Prop} {mc ms : Nat} {free : Addr → Prop} {cc : ByteArray} {maxL : Nat} {ret : Option FieldType}
    (hy : plainName y.cls = true) (hw : ws = Cond.code y cc maxL ret :: ws')
    (body : ∀ p e s m args below meth c s₁, BodyLoose p l y (headSpec ws rm) cc maxL ret e s m args below meth c s₁ → c.maxLocals = maxL → (∀ x ∈ c.exceptionTable.toList, False) → Pc args s →
      W p l e (headSpec ws rm).room s m args below meth c s.heap [] 0 0 (vx_MQ below Qc XC args s mc ms free) (entryFrame m args maxL)) : vx_Met l y ws rm Pc Qc XC mc ms free := by
  refine MetFree.of_bodyS (code := cc) (maxLocals := maxL) (ret := ret) hy ?_ ?_
  · intro args s m h hn
    obtain ⟨meth, c, h1, h2, h3, h4, h5, h6, -, -⟩ := Cond.code_spec hn (atoms_spec (ws := ws) h _ (by rw [hw]; exact List.mem_cons_self))
    exact ⟨meth, c, h1, h2, h3, h4, h5, h6⟩
  · intro p e s m args below meth c s₁ B hml hP _
    have hh0 : s₁.heap = s.heap := by rw [B.state]; rfl
    have ht : ∀ x ∈ c.exceptionTable.toList, False := by
      obtain ⟨meth9, c9, h1, h2, -, -, -, -, h7, -⟩ := Cond.code_spec B.named (atoms_spec (ws := ws) B.pre _ (by rw [hw]; exact List.mem_cons_self))
      cases Option.some.inj (h1.symm.trans B.method)
      cases Option.some.inj (h2.symm.trans (Stand.of_body B).code)
      intro x hx
      rw [Array.isEmpty_iff.mp h7] at hx
      cases hx
    obtain ⟨t, a1, o, b1, b2, b3⟩ := body p e s m args below meth c s₁ B hml ht hP s₁ hh0 (Stand.of_body B)
    exact ⟨t, o, a1, b1, b2, b3⟩
/-- the table of a body with handlers -/
theorem vx_table {p : Program} {x y : MethodName} {S : Spec} {cc bytes : ByteArray} {maxL maxL' : Nat} {ret ret' : Option FieldType} {e : Env} {s s₁ : State} {m : MethodId} {args : Array Value} {below : List Frame} {meth : Method} {c : Code} {hh : List (Nat × Nat × Nat × Nat)}
    (B : BodyLoose p l y S cc maxL ret e s m args below meth c s₁) (h : (Cond.codeWith y bytes maxL' ret' hh).before args s = true) : c.exceptionTable.toList = tableOf hh := by
  obtain ⟨m9, meth9, c9, hn9, h1, h2, -, -, h6, -⟩ := Cond.codeWith_spec h
  cases Option.some.inj (hn9.symm.trans B.named)
  cases Option.some.inj (h1.symm.trans B.method)
  cases Option.some.inj (h2.symm.trans (Stand.of_body B).code)
  rw [← h6, table_eq]
end Bodies
end VXA
/-! ===== END ===== -/
/-! ===== BEGIN a static call of a method with an exception table ===== -/
section VXS
variable {p : Program} {l : Launch} {e : Env} {R : Room} {s : State} {m : MethodId} {args : Array Value} {below : List Frame} {meth : Method} {c : Code} {T : State} {H : Heap} {locs : List Loc} {cells slots : Nat}
abbrev vx_CSW (R : Room) (s : State) (args : Array Value) (own : String) (index : Nat) (y : MethodName) (bytes : ByteArray) (maxL : Nat) (ret : Option FieldType) (hh : List (Nat × Nat × Nat × Nat)) (ws : List Cond) (rm : Room) (mc ms n : Nat) : Prop :=
  (rm.cells = mc ∧ rm.slots = ms ∧ rm.frames + 1 ≤ R.frames ∧ 8 + (maxL + 11) + rm.locals ≤ R.locals ∧ (∀ w ∈ ws, ∀ (a' : Array Value) (U : State), s.WarmedH U.vm → w.before a' U = true) ∧ Cond.codeWith y bytes maxL ret hh ∈ ws) ∧
  (Cond.codeWith y bytes maxL ret hh).before args s = true ∧ (Cond.initialized y.cls).before args s = true ∧ (y.cls ≠ "java/lang/invoke/MethodHandle" ∧ y.cls ≠ "java/lang/invoke/VarHandle") ∧
  (∀ sig, parseMethodDescriptor y.desc = some sig → n = sig.parameters.length) ∧ (Cond.methodLink own index y).before args s = true ∧ (Cond.static y).before args s = true
theorem vx_cwSW {own : String} {index maxL mc ms : Nat} {y : MethodName} {bytes : ByteArray} {ret : Option FieldType} {hh : List (Nat × Nat × Nat × Nat)} {Ts ws ws' : List Cond} {rm : Room} (n : Nat) (ht : ∀ w ∈ Ts, w.before args s = true) (hT : GoodIn Ts (va_wsS own index y ws)) (hw : ws = Cond.codeWith y bytes maxL ret hh :: ws') (hrc : rm.cells = mc) (hrs : rm.slots = ms)
    (hd : y.cls ≠ "java/lang/invoke/MethodHandle" ∧ y.cls ≠ "java/lang/invoke/VarHandle" ∧ (parseMethodDescriptor y.desc).map (fun d => d.parameters.length) = some n) (hR : rm.frames + 1 ≤ R.frames ∧ 8 + (maxL + 11) + rm.locals ≤ R.locals) :
    vx_CSW R s args own index y bytes maxL ret hh ws rm mc ms n := by
  have ok : ∀ w ∈ va_wsS own index y ws, w.before args s = true := fun w h => ht w (hT w h).1
  have hG : GoodIn Ts ws := fun w h => hT w (by unfold va_wsS; exact List.mem_append_right _ h)
  have hc : Cond.codeWith y bytes maxL ret hh ∈ ws := by rw [hw]; exact List.mem_cons_self
  refine ⟨⟨hrc, hrs, hR.1, hR.2, pay_in ht hG, hc⟩, ht _ (hG _ hc).1, ok _ (by simp [va_wsS]), ⟨hd.1, hd.2.1⟩, fun sig h => ?_, ok _ (by simp [va_wsS]), ok _ (by simp [va_wsS])⟩
  have h2 := hd.2.2
  rw [h] at h2
  exact (Option.some.inj h2).symm
theorem vx_callSW (X : Stand p l e R s m args below meth c T locs cells slots) (hexec : p.tables.exec = Jvm.exec) {own : String} {index : Nat} {y : MethodName} {bytes : ByteArray} {maxL : Nat} {ret : Option FieldType} {hh : List (Nat × Nat × Nat × Nat)}
    (hown : s.vm.findClass own = some m.cls) (hlink : (Cond.methodLink own index y).before args s = true) (hstat : (Cond.static y).before args s = true) (hinit : (Cond.initialized y.cls).before args s = true)
    (hcode : (Cond.codeWith y bytes maxL ret hh).before args s = true) (hy : y.cls ≠ "java/lang/invoke/MethodHandle" ∧ y.cls ≠ "java/lang/invoke/VarHandle")
    {W9 : Nat} {Pre : Pt → Array Value → Prop} {Post : Pt → Array Value → Option Value → Pt → Prop} (hK : Back l R p e below s args y 3 W9 Pre Post)
    {g : JFrame} (hg : g.method = m) (hsize : g.locals.size = c.maxLocals) {argsL rest : List Value} (hlen : ∀ sig, parseMethodDescriptor y.desc = some sig → argsL.length = sig.parameters.length)
    (hstack : g.stack = argsL.reverse ++ rest) (hW : 2 * g.monitorRoom + (rest.map fun v => v.category).sum ≤ W9) (hdg : decode c.code g.pc = .ok (.invokestatic index, 3))
    (hpre : ∀ vm₁, s.WarmedH vm₁ → Pre ⟨T.setVm vm₁, locs, cells, slots⟩ argsL.toArray) :
    ∃ (v : Option Value) (vm₁ : Vm) (B : Pt), s.WarmedH vm₁ ∧ Stand p l e R s m args below meth c B.U B.locs B.cells B.slots ∧ Post ⟨T.setVm vm₁, locs, cells, slots⟩ argsL.toArray v B ∧
      ∀ target, Steps p.tables e below (B.U.setTop { g with pc := g.pc + 3, stack := v.toList ++ rest }) target → Steps p.tables e below (T.setTop g) target := by
  obtain ⟨mk, methM, cM, hnamed, hmethM, -, -, -, -, -, -, hsigM⟩ := Cond.codeWith_spec hcode
  have hstatic : methM.isStatic = true := Cond.static_spec hnamed hmethM hstat
  obtain ⟨kP, hkP, -⟩ := className_of_methodNamed hnamed
  have hinitP : kP.init = .initialized := Cond.initialized_spec (findClass_of_methodNamed hnamed) hkP hinit
  obtain ⟨vm₁, X₁, hstep₁⟩ := X.invokestatic hexec hown hlink hnamed hmethM hstatic hkP hinitP hy (g := g) hg (argsL := argsL) (rest := rest) (hlen _ hsigM) hstack hdg
  obtain ⟨v, B, X', hpost, hsteps⟩ := hK m meth c ⟨T.setVm vm₁, locs, cells, slots⟩ { g with stack := rest } (.invokestatic index) mk argsL.toArray X₁ hg hsize hdg hW (X₁.named hnamed) (hpre vm₁ X₁.warmed)
  exact ⟨v, vm₁, B, X₁.warmed, X', hpost, fun target h => hstep₁ _ fun acts => by rw [doInvoke_state]; exact hsteps.trans h⟩
theorem vx_runSW {y : MethodName} {bytes cc : ByteArray} {maxL nL mc ms n index : Nat} {ret : Option FieldType} {hh : List (Nat × Nat × Nat × Nat)} {ws : List Cond} {rm : Room} {Pc : Array Value → State → Prop} {Qc : Array Value → State → Outcome → State → Prop} {free : Addr → Prop} {Ts : List Cond} {own : String} {As rest : List Value} {g : JFrame}
    (S : CallFix p m c cc nL s args Ts own) (hM : Met l y ws rm Pc Qc mc ms free) (cw : vx_CSW R s args own index y bytes maxL ret hh ws rm mc ms n) (hp : PreS s H Pc As)
    (hg : g.method = m) (hn : As.length = n) (hsize : g.locals.size = nL) (hstack : g.stack = As.reverse ++ rest) (hW : 2 * g.monitorRoom + (rest.map fun v => v.category).sum ≤ 8) (hdg : decode cc g.pc = .ok (.invokestatic index, 3)) (hf : cells + mc ≤ R.cells ∧ slots + ms ≤ R.slots) :
    va_Run p l e R s m args below meth c H locs cells slots mc ms g rest (Qc As.toArray) (free) := by
  obtain ⟨⟨hrc, hrs, hfr, hlo, hws, hcw⟩, hcode, hini, hy, hlen, hl, hstt⟩ := cw
  have hK : Back l R p e below s args y 3 8 (PreOf R mc ms Pc) (PostOf Qc mc ms free) := va_backW (hh := hh) (bytes := bytes) (maxL := maxL) (ret := ret) hM hp.1 hrc hrs hfr hlo hws hcw (fun a' U hW => word_at hW (Or.inl (by first | rfl | simp [Cond.onTables, Cond.keeps, Cond.steady])) hini)
  obtain ⟨hx, hb, hml, ho, -⟩ := S
  intro T hT X
  obtain ⟨v, vm₁, ⟨U', l2, c2, s2⟩, hW₁, X', ⟨g', mk, t, L, e1, e2, hq, h1, hL, h2, h3⟩, st⟩ := vx_callSW X hx (hh := hh) (bytes := bytes) (maxL := maxL) (ret := ret) ho hl hstt hini hcode hy hK hg (hsize.trans hml.symm) (argsL := As) (rest := rest) (fun sig h => hn.trans (hlen sig h)) hstack hW (by rw [hb]; exact hdg)
    (fun vm₁ hW₁ => ⟨hf.1, hf.2, hp.2 (T.setVm vm₁) hT hW₁⟩)
  dsimp only [Pt.U, Pt.locs, Pt.cells, Pt.slots] at X' e1 e2 h1 h2 h3 st
  subst h1; subst h2; subst h3
  exact ⟨v, (T.setVm vm₁).calling g' mk As.toArray, t, U', L, hT, X', hL, e1, e2, hq, st⟩
/-- not caught here, past rows that name other classes: it goes on to the caller -/
theorem vx_outP {p : Program} {l : Launch} {e : Env} {R : Room} {s : State} {m : MethodId} {args : Array Value} {below : List Frame} {meth : Method} {c : Code} {H : Heap} {locs : List Loc} {cells slots : Nat} {free : Addr → Prop} {ls : Array Slot} {rest : List Value} {Qc : Array Value → State → Outcome → State → Prop} {XC : String → State → State → Prop}
    {pc : Nat} {own E : String} {ce : Cell} {q : Addr} {mc ms : Nat} (hown : s.vm.findClass own = some m.cls) (hlocks : meth.locks = false)
    (hpass : ∀ z ∈ c.exceptionTable.toList, covers z pc = false ∨ (z.catchType ≠ 0 ∧ ∃ nm : String, (Cond.classLink own z.catchType nm).before args s = true ∧ va_Nc E nm s)) (hcell : H[q]? = some ce) (hv : ce.vm = .none) (hcl : s.vm.findClass E = some ce.cls)
    (hx : ∀ t : State, t.heap = H → s.vm.Alike t.vm → XC E s t) (hf : ∀ z ∈ locs, free z.base) (hc : cells ≤ mc) (hs : slots ≤ ms) :
    vx_W p l e R s m args below meth c H locs cells slots (vx_MQ below Qc XC args s mc ms free) (F0 m pc ls rest) q := by
  intro T hT X
  have hpl : e.platform.magicAccessors = ({} : Platform).magicAccessors := by rw [X.admits.platform]
  obtain ⟨vm', hW', X', st⟩ := X.outThrough hlocks q (g := F0 m pc ls rest) rfl rfl rfl (cell := ce) (by rw [hT]; exact hcell) (by rw [hv]; rfl)
    (by obtain ⟨k9, h9, -⟩ := Vm.findClass_spec hcl; exact ⟨k9, h9⟩) (fun z hz => by
      rcases hpass z hz with h | ⟨hz0, nm, hl1, hn1⟩
      · exact Or.inl h
      · obtain ⟨c6, hc6, hcl6⟩ := Cond.classLink_spec hown hl1 e.platform hpl
        obtain ⟨a8, b8, h1, h2, h3⟩ := hn1
        cases Option.some.inj (h1.symm.trans hcl)
        cases Option.some.inj (h2.symm.trans hc6)
        exact Or.inr ⟨hz0, _, hcl6, h3⟩)
  obtain ⟨g₀, hfr⟩ := X'.frames_eq
  have hcell9 : ((T.setVm vm').setFrames (.throwing q :: below)).heap[q]? = some ce := by
    show T.heap[q]? = some ce
    rw [hT]; exact hcell
  have hend : Ended ((T.setVm vm').setFrames (.throwing q :: below)) below (.threw q) := State.frames_setFrames _ (State.cur_lt_of_frames hfr)
  refine ⟨(T.setVm vm').setFrames (.throwing q :: below), ?_, .threw q, X'.here.running, hend, Or.inr ⟨q, rfl, E, ce, locs, hx _ hT (X'.ends _).1.alike, hcell9, hv, hcl, (X'.ends _).1, (X'.ends _).2.mono hc hs, hf⟩⟩
  rw [X.pushThrowing_eq]
  exact st
/-- a thing of a world lies in the heap -/
theorem vx_lt {D : va_G} {cl : List vw_C} {ws : va_W} {H1 : Heap} (h : va_P D cl ws H1) {k : Nat} {q : Nat × va_E} (hk : ws[k]? = some q) : q.1 < H1.size := (h k q hk).lt
end VXS
/-! ===== END ===== -/
/-! ===== BEGIN methods with a table of their own: called by a name, returning or throwing ===== -/
section VXH
/-! vx_backW, vx_callVX, vx_callSX, vx_callVW, vx_runVW, vx_runVX, vx_runSX, vx_ofWH follow the same proofs as their sisters above (Free/Laws.lean, Shelf42/LK1.lean); vx_outP calls Shelf42/NT130.lean (outThrough). -/
section
variable {l : Launch} {R : Room} {p : Program} {e : Env} {below : List Frame} {s : State} {sargs : Array Value} {y : MethodName} {len W9 : Nat}
theorem vx_backW {ws : List Cond} {rm : Room} {Pc : Array Value → State → Prop} {Qc : Array Value → State → Outcome → State → Prop} {XC : String → State → State → Prop} {mc ms : Nat} {free : Addr → Prop} {bytes : ByteArray} {maxL : Nat} {ret : Option FieldType} {hh : List (Nat × Nat × Nat × Nat)}
    (hM : vx_Met l y ws rm Pc Qc XC mc ms free) (hblind : FrameBlind Pc) (hrc : rm.cells = mc) (hrs : rm.slots = ms)
    (hframes : rm.frames + 1 ≤ R.frames) (hlocals : W9 + (maxL + 11) + rm.locals ≤ R.locals)
    (hws : ∀ w ∈ ws, ∀ a' U, s.WarmedH U.vm → w.before a' U = true) (hcode : Cond.codeWith y bytes maxL ret hh ∈ ws) (hinit : ∀ a' U, s.WarmedH U.vm → (Cond.initialized y.cls).before a' U = true) :
    vx_Back l R p e below s sargs y len W9 (PreOf R mc ms Pc) (PostOf Qc mc ms free) (vx_Post XC mc ms free) := by
  intro m meth c A g ig mk a X hg hsize hdg hW hn hp
  have h1 : (headSpec ws rm).pre.before a A.U = true := atoms_intro fun w hw => hws w hw _ _ X.warmed
  have h2 : (Cond.codeWith y bytes maxL ret hh).before a A.U = true := hws _ hcode _ _ X.warmed
  have h3 : (Cond.initialized y.cls).before a A.U = true := hinit _ _ X.warmed
  have h4 : A.cells + (headSpec ws rm).room.cells ≤ R.cells := by rw [show (headSpec ws rm).room.cells = mc from hrc]; exact hp.1
  have h5 : A.slots + (headSpec ws rm).room.slots ≤ R.slots := by rw [show (headSpec ws rm).room.slots = ms from hrs]; exact hp.2.1
  have hPc : Pc a (A.U.calling g mk a) := hblind _ _ _ _ hp.2.2
  obtain ⟨U, Ls, c0, s0⟩ := A
  dsimp only [Pt.U, Pt.locs, Pt.cells, Pt.slots] at h1 h2 h3 h4 h5 X hn hPc ⊢
  obtain ⟨m9, methY, cY, hn9, hmY, hcY, -, hlY, -⟩ := Cond.codeWith_spec h2
  cases Option.some.inj (hn9.symm.trans hn)
  obtain ⟨kY, hkY, -⟩ := className_of_methodNamed hn
  have hinitY : kY.init = .initialized := Cond.initialized_spec (findClass_of_methodNamed hn) hkY h3
  have h : At U g.method c below := by rw [hg]; exact X.here
  have hlocals9 : W9 + (maxL + 11) + (headSpec ws rm).room.locals ≤ R.locals := hlocals
  have happ : (headSpec ws rm).appliesLoose y e.platform (U.calling g mk a) = true :=
    Spec.appliesLoose_calling (g := g) h hdg hn hkY hinitY
      (X.room_calling (g := g) (R' := (headSpec ws rm).room) hsize hmY hcY hframes (by rw [hlY]; omega) h4 h5) h1
  obtain ⟨mid, hmid⟩ := h.above
  have hfr : (U.setTop g).frames = (.java g :: mid) ++ below := by rw [State.frames_setTop' g h.top, hmid]; rfl
  obtain ⟨o, s₂, hsteps, -, hend, hq⟩ := Steps.callFree hM p X.admits X.cas X.clock (acts := []) hfr happ hPc trivial
  have hq' : vx_Q Qc XC mc ms free a (U.calling g mk a) o s₂ := hq
  rw [State.frames_setTop' g h.top] at hend
  obtain ⟨g₀, hg0⟩ := Option.isSome_iff_exists.mp h.top
  obtain ⟨r, hr⟩ := State.topJava?_eq_some.mp hg0
  have hr' : (({ U with heap := s₂.heap, slotsUsed := s₂.slotsUsed } : State).setVm s₂.vm).frames = .java g₀ :: r := hr
  rcases hq' with ⟨hqc, L, hfe, hL⟩ | ⟨q, rfl, E, ce, L, hx, hce, hcv, hcl, hW₂, hsm, hL⟩
  · obtain ⟨⟨v, rfl⟩, hW₂, e2, q2, q3, q4, q5, q6⟩ := id hfe
    have e3 : s₂ = ({ (U.calling g mk a).setFrames s₂.frames with heap := s₂.heap, slotsUsed := s₂.slotsUsed } : State).setVm s₂.vm := by
      have : s₂ = ({ s₂ with vm := (U.calling g mk a).vm } : State).setVm s₂.vm := rfl
      rw [e2] at this
      exact this
    obtain ⟨c₂, i₂, len₂, hc₂, hd₂, hf₂⟩ := hend
    have hW' : U.WarmedH s₂.vm := hW₂
    have hcc : c₂ = c := by
      have h1 : s₂.code? g.method = U.code? g.method := by
        rw [State.code?_eq, State.code?_eq, hW'.alike.method?]
      exact Option.some.inj (hc₂.symm.trans (h1.trans h.code))
    subst hcc
    have hlen : len₂ = len := by rw [hdg] at hd₂; cases hd₂; rfl
    subst hlen
    have hs₂ : s₂ = (({ U with heap := s₂.heap, slotsUsed := s₂.slotsUsed } : State).setVm s₂.vm).setTop { g with pc := g.pc + len₂, stack := v.toList ++ g.stack } := by
      refine e3.trans ?_
      rw [hf₂, State.calling_eq h.top, State.setFrames_setFrames, State.setTop_of_frames _ hr', hr]
      rfl
    have hsame : U.sameButNew ({ U with heap := s₂.heap, slotsUsed := s₂.slotsUsed } : State) L mc ms := by
      refine ⟨?_, q2, q3, q4, q5, q6⟩
      obtain ⟨t, ht, -⟩ := State.frames_cons hr
      show ({ U with heap := s₂.heap, slotsUsed := s₂.slotsUsed } : State) = { U.setFrames U.frames with heap := s₂.heap, slotsUsed := s₂.slotsUsed }
      rw [State.setFrames_self ht]
    subst hg
    refine Or.inl ⟨v, ⟨(({ U with heap := s₂.heap, slotsUsed := s₂.slotsUsed } : State).setVm s₂.vm), Ls ++ L, c0 + mc, s0 + ms⟩,
      ⟨X.admits, X.cas, X.clock, X.frames, X.room, X.hears, X.method, X.code, (X.here.setHeapUsed s₂.heap s₂.slotsUsed).setVm hW'.alike, X.tail, State.WarmedH.trans X.warmed hW', X.limits, X.bytes, X.same.trans (hsame.setVm s.vm)⟩,
      ⟨g, mk, s₂, L, rfl, rfl, hqc, rfl, hL, rfl, rfl⟩, ?_⟩
    show Steps p.tables e below _ ((({ U with heap := s₂.heap, slotsUsed := s₂.slotsUsed } : State).setVm s₂.vm).setTop { g with pc := g.pc + len₂, stack := v.toList ++ g.stack })
    rw [← hs₂]
    exact hsteps
  · obtain ⟨e2, q2, q3, q4, q5, q6⟩ := id hsm
    have e3 : s₂ = ({ (U.calling g mk a).setFrames s₂.frames with heap := s₂.heap, slotsUsed := s₂.slotsUsed } : State).setVm s₂.vm := by
      have : s₂ = ({ s₂ with vm := (U.calling g mk a).vm } : State).setVm s₂.vm := rfl
      rw [e2] at this
      exact this
    have hf₂ : s₂.frames = .throwing q :: .java g :: U.frames.tail := hend
    have hW' : U.WarmedH s₂.vm := hW₂
    have hs₂ : s₂ = ((({ U with heap := s₂.heap, slotsUsed := s₂.slotsUsed } : State).setVm s₂.vm).setTop g).pushFrame (.throwing q) := by
      refine e3.trans ?_
      rw [hf₂, State.calling_eq h.top, State.setFrames_setFrames, State.pushFrame, State.frames_setTop _ hr', State.setTop_of_frames _ hr', State.setFrames_setFrames, hr]
      rfl
    have hsame : U.sameButNew ({ U with heap := s₂.heap, slotsUsed := s₂.slotsUsed } : State) L mc ms := by
      refine ⟨?_, q2, q3, q4, q5, q6⟩
      obtain ⟨t, ht, -⟩ := State.frames_cons hr
      show ({ U with heap := s₂.heap, slotsUsed := s₂.slotsUsed } : State) = { U.setFrames U.frames with heap := s₂.heap, slotsUsed := s₂.slotsUsed }
      rw [State.setFrames_self ht]
    subst hg
    refine Or.inr ⟨q, ⟨(({ U with heap := s₂.heap, slotsUsed := s₂.slotsUsed } : State).setVm s₂.vm), Ls ++ L, c0 + mc, s0 + ms⟩,
      ⟨X.admits, X.cas, X.clock, X.frames, X.room, X.hears, X.method, X.code, (X.here.setHeapUsed s₂.heap s₂.slotsUsed).setVm hW'.alike, X.tail, State.WarmedH.trans X.warmed hW', X.limits, X.bytes, X.same.trans (hsame.setVm s.vm)⟩,
      ⟨g, mk, s₂, L, E, ce, rfl, rfl, hx, hce, hcv, hcl, rfl, hL, rfl, rfl⟩, ?_⟩
    show Steps p.tables e below _ (((({ U with heap := s₂.heap, slotsUsed := s₂.slotsUsed } : State).setVm s₂.vm).setTop g).pushFrame (.throwing q))
    rw [← hs₂]
    exact hsteps
end
variable {p : Program} {l : Launch} {e : Env} {R : Room} {s : State} {m : MethodId} {args : Array Value} {below : List Frame} {meth : Method} {c : Code} {T : State} {H : Heap} {locs : List Loc} {cells slots : Nat}
theorem vx_callVX (X : Stand p l e R s m args below meth c T locs cells slots) (hexec : p.tables.exec = Jvm.exec) {own C : String} {index : Nat} {y : MethodName} {bytes : ByteArray} {maxL : Nat} {ret : Option FieldType} {hh : List (Nat × Nat × Nat × Nat)}
    (hown : s.vm.findClass own = some m.cls) (hlink : (Cond.methodLink own index y).before args s = true) (hinst : (Cond.instanceMethod y).before args s = true) (hsel : (Cond.selects C y y).before args s = true)
    (hcode : (Cond.codeWith y bytes maxL ret hh).before args s = true) (hy : y.cls ≠ "java/lang/invoke/MethodHandle" ∧ y.cls ≠ "java/lang/invoke/VarHandle")
    {W9 : Nat} {Pre : Pt → Array Value → Prop} {Post : Pt → Array Value → Option Value → Pt → Prop} {PostX : Pt → Array Value → Addr → Pt → Prop} (hK : vx_Back l R p e below s args y 3 W9 Pre Post PostX)
    {b : Addr} {cellB : Cell} (hcell : T.heap[b]? = some cellB) (hobj : cellB.vm.isStatics = false) (hcls : s.vm.findClass C = some cellB.cls)
    {g : JFrame} (hg : g.method = m) (hsize : g.locals.size = c.maxLocals) {argsL rest : List Value} (hlen : ∀ sig, parseMethodDescriptor y.desc = some sig → argsL.length = sig.parameters.length)
    (hstack : g.stack = argsL.reverse ++ .ref b :: rest) (hW : 2 * g.monitorRoom + (rest.map fun v => v.category).sum ≤ W9) (hdg : decode c.code g.pc = .ok (.invokevirtual index, 3))
    (hpre : ∀ vm₁, s.WarmedH vm₁ → Pre ⟨T.setVm vm₁, locs, cells, slots⟩ (Value.ref b :: argsL).toArray) :
    (∃ (v : Option Value) (vm₁ : Vm) (B : Pt), s.WarmedH vm₁ ∧ Stand p l e R s m args below meth c B.U B.locs B.cells B.slots ∧ Post ⟨T.setVm vm₁, locs, cells, slots⟩ (Value.ref b :: argsL).toArray v B ∧
      ∀ target, Steps p.tables e below (B.U.setTop { g with pc := g.pc + 3, stack := v.toList ++ rest }) target → Steps p.tables e below (T.setTop g) target) ∨
    (∃ (q : Addr) (vm₁ : Vm) (B : Pt), s.WarmedH vm₁ ∧ Stand p l e R s m args below meth c B.U B.locs B.cells B.slots ∧ PostX ⟨T.setVm vm₁, locs, cells, slots⟩ (Value.ref b :: argsL).toArray q B ∧
      Steps p.tables e below (T.setTop g) ((B.U.setTop { g with stack := rest }).pushFrame (.throwing q))) := by
  obtain ⟨mk, methM, hnamed, hmethM, hstM, habM⟩ := Cond.instanceMethod_spec hinst
  obtain ⟨m8, methM', cM, hn8, hmethM', -, -, -, -, -, -, hsigM⟩ := Cond.codeWith_spec hcode
  cases Option.some.inj (hn8.symm.trans hnamed)
  cases hmethM.symm.trans hmethM'
  obtain ⟨c2, r2, m2, q1, q2, q3, q4, kP, hkP, hkPi⟩ := Cond.selects_spec hsel
  cases hcls.symm.trans q1
  cases (State.methodFound?_of_named hnamed hy).symm.trans q2
  cases hnamed.symm.trans q3
  have hselP : selectMethod e.platform s.vm cellB.cls mk = .method mk := by rw [Launch.admits_selectMethod X.admits]; exact q4
  obtain ⟨vm₁, X₁, hstep₁⟩ := X.invokevirtual hexec hown hlink hnamed hmethM hstM hkP hkPi hy (a := b) (cell := cellB) hcell
    (fun z h => by rw [h] at hobj; cases hobj) hselP hmethM habM hkP hkPi (g := g) hg (argsL := argsL) (rest := rest) (hlen _ hsigM) hstack hdg
  rcases hK m meth c ⟨T.setVm vm₁, locs, cells, slots⟩ { g with stack := rest } (.invokevirtual index) mk (Value.ref b :: argsL).toArray X₁ hg hsize hdg hW (X₁.named hnamed) (hpre vm₁ X₁.warmed) with ⟨v, B, X', hpost, hsteps⟩ | ⟨q, B, X', hpost, hsteps⟩
  · exact Or.inl ⟨v, vm₁, B, X₁.warmed, X', hpost, fun target h => hstep₁ _ fun acts => by rw [doInvoke_state]; exact hsteps.trans h⟩
  · exact Or.inr ⟨q, vm₁, B, X₁.warmed, X', hpost, hstep₁ _ fun acts => by rw [doInvoke_state]; exact hsteps⟩
theorem vx_callSX (X : Stand p l e R s m args below meth c T locs cells slots) (hexec : p.tables.exec = Jvm.exec) {own : String} {index : Nat} {y : MethodName} {bytes : ByteArray} {maxL : Nat} {ret : Option FieldType} {hh : List (Nat × Nat × Nat × Nat)}
    (hown : s.vm.findClass own = some m.cls) (hlink : (Cond.methodLink own index y).before args s = true) (hstat : (Cond.static y).before args s = true) (hinit : (Cond.initialized y.cls).before args s = true)
    (hcode : (Cond.codeWith y bytes maxL ret hh).before args s = true) (hy : y.cls ≠ "java/lang/invoke/MethodHandle" ∧ y.cls ≠ "java/lang/invoke/VarHandle")
    {W9 : Nat} {Pre : Pt → Array Value → Prop} {Post : Pt → Array Value → Option Value → Pt → Prop} {PostX : Pt → Array Value → Addr → Pt → Prop} (hK : vx_Back l R p e below s args y 3 W9 Pre Post PostX)
    {g : JFrame} (hg : g.method = m) (hsize : g.locals.size = c.maxLocals) {argsL rest : List Value} (hlen : ∀ sig, parseMethodDescriptor y.desc = some sig → argsL.length = sig.parameters.length)
    (hstack : g.stack = argsL.reverse ++ rest) (hW : 2 * g.monitorRoom + (rest.map fun v => v.category).sum ≤ W9) (hdg : decode c.code g.pc = .ok (.invokestatic index, 3))
    (hpre : ∀ vm₁, s.WarmedH vm₁ → Pre ⟨T.setVm vm₁, locs, cells, slots⟩ argsL.toArray) :
    (∃ (v : Option Value) (vm₁ : Vm) (B : Pt), s.WarmedH vm₁ ∧ Stand p l e R s m args below meth c B.U B.locs B.cells B.slots ∧ Post ⟨T.setVm vm₁, locs, cells, slots⟩ argsL.toArray v B ∧
      ∀ target, Steps p.tables e below (B.U.setTop { g with pc := g.pc + 3, stack := v.toList ++ rest }) target → Steps p.tables e below (T.setTop g) target) ∨
    (∃ (q : Addr) (vm₁ : Vm) (B : Pt), s.WarmedH vm₁ ∧ Stand p l e R s m args below meth c B.U B.locs B.cells B.slots ∧ PostX ⟨T.setVm vm₁, locs, cells, slots⟩ argsL.toArray q B ∧
      Steps p.tables e below (T.setTop g) ((B.U.setTop { g with stack := rest }).pushFrame (.throwing q))) := by
  obtain ⟨mk, methM, cM, hnamed, hmethM, -, -, -, -, -, -, hsigM⟩ := Cond.codeWith_spec hcode
  have hstatic : methM.isStatic = true := Cond.static_spec hnamed hmethM hstat
  obtain ⟨kP, hkP, -⟩ := className_of_methodNamed hnamed
  have hinitP : kP.init = .initialized := Cond.initialized_spec (findClass_of_methodNamed hnamed) hkP hinit
  obtain ⟨vm₁, X₁, hstep₁⟩ := X.invokestatic hexec hown hlink hnamed hmethM hstatic hkP hinitP hy (g := g) hg (argsL := argsL) (rest := rest) (hlen _ hsigM) hstack hdg
  rcases hK m meth c ⟨T.setVm vm₁, locs, cells, slots⟩ { g with stack := rest } (.invokestatic index) mk argsL.toArray X₁ hg hsize hdg hW (X₁.named hnamed) (hpre vm₁ X₁.warmed) with ⟨v, B, X', hpost, hsteps⟩ | ⟨q, B, X', hpost, hsteps⟩
  · exact Or.inl ⟨v, vm₁, B, X₁.warmed, X', hpost, fun target h => hstep₁ _ fun acts => by rw [doInvoke_state]; exact hsteps.trans h⟩
  · exact Or.inr ⟨q, vm₁, B, X₁.warmed, X', hpost, hstep₁ _ fun acts => by rw [doInvoke_state]; exact hsteps⟩
theorem vx_callVW (X : Stand p l e R s m args below meth c T locs cells slots) (hexec : p.tables.exec = Jvm.exec) {own C : String} {index : Nat} {y : MethodName} {bytes : ByteArray} {maxL : Nat} {ret : Option FieldType} {hh : List (Nat × Nat × Nat × Nat)}
    (hown : s.vm.findClass own = some m.cls) (hlink : (Cond.methodLink own index y).before args s = true) (hinst : (Cond.instanceMethod y).before args s = true) (hsel : (Cond.selects C y y).before args s = true)
    (hcode : (Cond.codeWith y bytes maxL ret hh).before args s = true) (hy : y.cls ≠ "java/lang/invoke/MethodHandle" ∧ y.cls ≠ "java/lang/invoke/VarHandle")
    {W9 : Nat} {Pre : Pt → Array Value → Prop} {Post : Pt → Array Value → Option Value → Pt → Prop} (hK : Back l R p e below s args y 3 W9 Pre Post)
    {b : Addr} {cellB : Cell} (hcell : T.heap[b]? = some cellB) (hobj : cellB.vm.isStatics = false) (hcls : s.vm.findClass C = some cellB.cls)
    {g : JFrame} (hg : g.method = m) (hsize : g.locals.size = c.maxLocals) {argsL rest : List Value} (hlen : ∀ sig, parseMethodDescriptor y.desc = some sig → argsL.length = sig.parameters.length)
    (hstack : g.stack = argsL.reverse ++ .ref b :: rest) (hW : 2 * g.monitorRoom + (rest.map fun v => v.category).sum ≤ W9) (hdg : decode c.code g.pc = .ok (.invokevirtual index, 3))
    (hpre : ∀ vm₁, s.WarmedH vm₁ → Pre ⟨T.setVm vm₁, locs, cells, slots⟩ (Value.ref b :: argsL).toArray) :
    ∃ (v : Option Value) (vm₁ : Vm) (B : Pt), s.WarmedH vm₁ ∧ Stand p l e R s m args below meth c B.U B.locs B.cells B.slots ∧ Post ⟨T.setVm vm₁, locs, cells, slots⟩ (Value.ref b :: argsL).toArray v B ∧
      ∀ target, Steps p.tables e below (B.U.setTop { g with pc := g.pc + 3, stack := v.toList ++ rest }) target → Steps p.tables e below (T.setTop g) target := by
  obtain ⟨mk, methM, hnamed, hmethM, hstM, habM⟩ := Cond.instanceMethod_spec hinst
  obtain ⟨m8, methM', cM, hn8, hmethM', -, -, -, -, -, -, hsigM⟩ := Cond.codeWith_spec hcode
  cases Option.some.inj (hn8.symm.trans hnamed)
  cases hmethM.symm.trans hmethM'
  obtain ⟨c2, r2, m2, q1, q2, q3, q4, kP, hkP, hkPi⟩ := Cond.selects_spec hsel
  cases hcls.symm.trans q1
  cases (State.methodFound?_of_named hnamed hy).symm.trans q2
  cases hnamed.symm.trans q3
  have hselP : selectMethod e.platform s.vm cellB.cls mk = .method mk := by rw [Launch.admits_selectMethod X.admits]; exact q4
  obtain ⟨vm₁, X₁, hstep₁⟩ := X.invokevirtual hexec hown hlink hnamed hmethM hstM hkP hkPi hy (a := b) (cell := cellB) hcell
    (fun z h => by rw [h] at hobj; cases hobj) hselP hmethM habM hkP hkPi (g := g) hg (argsL := argsL) (rest := rest) (hlen _ hsigM) hstack hdg
  obtain ⟨v, B, X', hpost, hsteps⟩ := hK m meth c ⟨T.setVm vm₁, locs, cells, slots⟩ { g with stack := rest } (.invokevirtual index) mk (Value.ref b :: argsL).toArray X₁ hg hsize hdg hW (X₁.named hnamed) (hpre vm₁ X₁.warmed)
  exact ⟨v, vm₁, B, X₁.warmed, X', hpost, fun target h => hstep₁ _ fun acts => by rw [doInvoke_state]; exact hsteps.trans h⟩
abbrev vx_CVW (R : Room) (s : State) (args : Array Value) (own C : String) (index : Nat) (y : MethodName) (bytes : ByteArray) (maxL : Nat) (ret : Option FieldType) (hh : List (Nat × Nat × Nat × Nat)) (ws : List Cond) (rm : Room) (mc ms n : Nat) : Prop :=
  (rm.cells = mc ∧ rm.slots = ms ∧ rm.frames + 1 ≤ R.frames ∧ 8 + (maxL + 11) + rm.locals ≤ R.locals ∧ (∀ w ∈ ws, ∀ (a' : Array Value) (U : State), s.WarmedH U.vm → w.before a' U = true) ∧ Cond.codeWith y bytes maxL ret hh ∈ ws) ∧
  (Cond.codeWith y bytes maxL ret hh).before args s = true ∧ (Cond.initialized y.cls).before args s = true ∧ (y.cls ≠ "java/lang/invoke/MethodHandle" ∧ y.cls ≠ "java/lang/invoke/VarHandle") ∧
  (∀ sig, parseMethodDescriptor y.desc = some sig → n = sig.parameters.length) ∧ (Cond.methodLink own index y).before args s = true ∧ (Cond.instanceMethod y).before args s = true ∧ (Cond.selects C y y).before args s = true
theorem vx_cwVW {own C : String} {index maxL mc ms : Nat} {y : MethodName} {bytes : ByteArray} {ret : Option FieldType} {hh : List (Nat × Nat × Nat × Nat)} {Ts ws ws' : List Cond} {rm : Room} (n : Nat) (ht : ∀ w ∈ Ts, w.before args s = true) (hT : GoodIn Ts (wsV own index C y ws)) (hw : ws = Cond.codeWith y bytes maxL ret hh :: ws') (hrc : rm.cells = mc) (hrs : rm.slots = ms)
    (hd : y.cls = C ∧ y.cls ≠ "java/lang/invoke/MethodHandle" ∧ y.cls ≠ "java/lang/invoke/VarHandle" ∧ (parseMethodDescriptor y.desc).map (fun d => d.parameters.length) = some n) (hR : rm.frames + 1 ≤ R.frames ∧ 8 + (maxL + 11) + rm.locals ≤ R.locals) :
    vx_CVW R s args own C index y bytes maxL ret hh ws rm mc ms n := by
  obtain ⟨hC, hd⟩ := hd
  subst hC
  have ok : ∀ w ∈ wsV own index y.cls y ws, w.before args s = true := fun w h => ht w (hT w h).1
  have hG : GoodIn Ts ws := fun w h => hT w (by unfold wsV; exact List.mem_append_right _ h)
  have hc : Cond.codeWith y bytes maxL ret hh ∈ ws := by rw [hw]; exact List.mem_cons_self
  refine ⟨⟨hrc, hrs, hR.1, hR.2, pay_in ht hG, hc⟩, ht _ (hG _ hc).1, ok _ (by simp [wsV]), ⟨hd.1, hd.2.1⟩, fun sig h => ?_, ok _ (by simp [wsV]), ok _ (by simp [wsV]), ok _ (by simp [wsV])⟩
  have h2 := hd.2.2
  rw [h] at h2
  exact (Option.some.inj h2).symm
theorem vx_runVW {y : MethodName} {bytes cc : ByteArray} {maxL nL mc ms n index : Nat} {ret : Option FieldType} {hh : List (Nat × Nat × Nat × Nat)} {ws : List Cond} {rm : Room} {Pc : Array Value → State → Prop} {Qc : Array Value → State → Outcome → State → Prop} {free : Addr → Prop} {Ts : List Cond} {own C : String} {b : Addr} {As rest : List Value} {g : JFrame}
    (S : CallFix p m c cc nL s args Ts own) (hM : Met l y ws rm Pc Qc mc ms free) (cw : vx_CVW R s args own C index y bytes maxL ret hh ws rm mc ms n) (hp : PreV s H C b Pc As)
    (hg : g.method = m) (hn : As.length = n) (hsize : g.locals.size = nL) (hstack : g.stack = As.reverse ++ .ref b :: rest) (hW : 2 * g.monitorRoom + (rest.map fun v => v.category).sum ≤ 8) (hdg : decode cc g.pc = .ok (.invokevirtual index, 3)) (hf : cells + mc ≤ R.cells ∧ slots + ms ≤ R.slots) :
    va_Run p l e R s m args below meth c H locs cells slots mc ms g rest (Qc (Value.ref b :: As).toArray) free := by
  obtain ⟨⟨hrc, hrs, hfr, hlo, hws, hcw⟩, hcode, hini, hy, hlen, hl, hin, hse⟩ := cw
  have hK : Back l R p e below s args y 3 8 (PreOf R mc ms Pc) (PostOf Qc mc ms free) := va_backW (hh := hh) (bytes := bytes) (maxL := maxL) (ret := ret) hM hp.1 hrc hrs hfr hlo hws hcw (fun a' U hW => word_at hW (Or.inl (by first | rfl | simp [Cond.onTables, Cond.keeps, Cond.steady])) hini)
  obtain ⟨hx, hb, hml, ho, -⟩ := S
  obtain ⟨-, ⟨cellB, hcB, hoB, hclB⟩, hPc⟩ := hp
  intro T hT X
  obtain ⟨v, vm₁, ⟨U', l2, c2, s2⟩, hW₁, X', ⟨g', mk, t, L, e1, e2, hq, h1, hL, h2, h3⟩, st⟩ := vx_callVW X hx (C := C) (hh := hh) (bytes := bytes) (maxL := maxL) (ret := ret) ho hl hin hse hcode hy hK (by rw [hT]; exact hcB) hoB hclB hg (hsize.trans hml.symm) (argsL := As) (rest := rest) (fun sig h => hn.trans (hlen sig h)) hstack hW (by rw [hb]; exact hdg)
    (fun vm₁ hW₁ => ⟨hf.1, hf.2, hPc (T.setVm vm₁) hT hW₁⟩)
  dsimp only [Pt.U, Pt.locs, Pt.cells, Pt.slots] at X' e1 e2 h1 h2 h3 st
  subst h1; subst h2; subst h3
  exact ⟨v, (T.setVm vm₁).calling g' mk (Value.ref b :: As).toArray, t, U', L, hT, X', hL, e1, e2, hq, st⟩
section
variable {y : MethodName} {bytes cc : ByteArray} {maxL nL mc ms n index : Nat} {ret : Option FieldType} {ws : List Cond} {rm : Room} {Pc : Array Value → State → Prop} {Qc : Array Value → State → Outcome → State → Prop} {XC : String → State → State → Prop} {free : Addr → Prop} {Ts : List Cond} {own C : String} {b : Addr} {As rest : List Value} {g : JFrame}
theorem vx_runVX {hh : List (Nat × Nat × Nat × Nat)} (S : CallFix p m c cc nL s args Ts own) (hM : vx_Met l y ws rm Pc Qc XC mc ms free) (cw : vx_CVW R s args own C index y bytes maxL ret hh ws rm mc ms n) (hp : PreV s H C b Pc As)
    (hg : g.method = m) (hn : As.length = n) (hsize : g.locals.size = nL) (hstack : g.stack = As.reverse ++ .ref b :: rest) (hW : 2 * g.monitorRoom + (rest.map fun v => v.category).sum ≤ 8) (hdg : decode cc g.pc = .ok (.invokevirtual index, 3)) (hf : cells + mc ≤ R.cells ∧ slots + ms ≤ R.slots) :
    vx_Run p l e R s m args below meth c H locs cells slots mc ms g rest (Qc (Value.ref b :: As).toArray) XC free := by
  obtain ⟨⟨hrc, hrs, hfr, hlo, hws, hcw⟩, hcode, hini, hy, hlen, hl, hin, hse⟩ := cw
  have hK : vx_Back l R p e below s args y 3 8 (PreOf R mc ms Pc) (PostOf Qc mc ms free) (vx_Post XC mc ms free) := vx_backW (hh := hh) (bytes := bytes) (maxL := maxL) (ret := ret) hM hp.1 hrc hrs hfr hlo hws hcw (fun a' U hW => word_at hW (Or.inl (by first | rfl | simp [Cond.onTables, Cond.keeps, Cond.steady])) hini)
  obtain ⟨hx, hb, hml, ho, -⟩ := S
  obtain ⟨-, ⟨cellB, hcB, hoB, hclB⟩, hPc⟩ := hp
  intro T hT X
  rcases vx_callVX X hx (C := C) (hh := hh) (bytes := bytes) (maxL := maxL) (ret := ret) ho hl hin hse hcode hy hK (by rw [hT]; exact hcB) hoB hclB hg (hsize.trans hml.symm) (argsL := As) (rest := rest) (fun sig h => hn.trans (hlen sig h)) hstack hW (by rw [hb]; exact hdg)
    (fun vm₁ hW₁ => ⟨hf.1, hf.2, hPc (T.setVm vm₁) hT hW₁⟩) with ⟨v, vm₁, ⟨U', l2, c2, s2⟩, hW₁, X', ⟨g', mk, t, L, e1, e2, hq, h1, hL, h2, h3⟩, st⟩ | ⟨q, vm₁, ⟨U', l2, c2, s2⟩, hW₁, X', ⟨g', mk, t, L, E, ce, e1, e2, hq, hce, hcv, hcl, h1, hL, h2, h3⟩, st⟩
  · dsimp only [Pt.U, Pt.locs, Pt.cells, Pt.slots] at X' e1 e2 h1 h2 h3 st
    subst h1; subst h2; subst h3
    exact Or.inl ⟨v, (T.setVm vm₁).calling g' mk (Value.ref b :: As).toArray, t, U', L, hT, X', hL, e1, e2, hq, st⟩
  · dsimp only [Pt.U, Pt.locs, Pt.cells, Pt.slots] at X' e1 e2 h1 h2 h3 st hcl
    subst h1; subst h2; subst h3
    exact Or.inr ⟨q, (T.setVm vm₁).calling g' mk (Value.ref b :: As).toArray, t, U', L, E, ce, hT, X', hL, e1, e2, hq, hce, hcv, vx_cls hW₁ hcl, st⟩
theorem vx_runSX {hh : List (Nat × Nat × Nat × Nat)} (S : CallFix p m c cc nL s args Ts own) (hM : vx_Met l y ws rm Pc Qc XC mc ms free) (cw : vx_CSW R s args own index y bytes maxL ret hh ws rm mc ms n) (hp : PreS s H Pc As)
    (hg : g.method = m) (hn : As.length = n) (hsize : g.locals.size = nL) (hstack : g.stack = As.reverse ++ rest) (hW : 2 * g.monitorRoom + (rest.map fun v => v.category).sum ≤ 8) (hdg : decode cc g.pc = .ok (.invokestatic index, 3)) (hf : cells + mc ≤ R.cells ∧ slots + ms ≤ R.slots) :
    vx_Run p l e R s m args below meth c H locs cells slots mc ms g rest (Qc As.toArray) XC free := by
  obtain ⟨⟨hrc, hrs, hfr, hlo, hws, hcw⟩, hcode, hini, hy, hlen, hl, hstt⟩ := cw
  have hK : vx_Back l R p e below s args y 3 8 (PreOf R mc ms Pc) (PostOf Qc mc ms free) (vx_Post XC mc ms free) := vx_backW (hh := hh) (bytes := bytes) (maxL := maxL) (ret := ret) hM hp.1 hrc hrs hfr hlo hws hcw (fun a' U hW => word_at hW (Or.inl (by first | rfl | simp [Cond.onTables, Cond.keeps, Cond.steady])) hini)
  obtain ⟨hx, hb, hml, ho, -⟩ := S
  intro T hT X
  rcases vx_callSX X hx (hh := hh) (bytes := bytes) (maxL := maxL) (ret := ret) ho hl hstt hini hcode hy hK hg (hsize.trans hml.symm) (argsL := As) (rest := rest) (fun sig h => hn.trans (hlen sig h)) hstack hW (by rw [hb]; exact hdg)
    (fun vm₁ hW₁ => ⟨hf.1, hf.2, hp.2 (T.setVm vm₁) hT hW₁⟩) with ⟨v, vm₁, ⟨U', l2, c2, s2⟩, hW₁, X', ⟨g', mk, t, L, e1, e2, hq, h1, hL, h2, h3⟩, st⟩ | ⟨q, vm₁, ⟨U', l2, c2, s2⟩, hW₁, X', ⟨g', mk, t, L, E, ce, e1, e2, hq, hce, hcv, hcl, h1, hL, h2, h3⟩, st⟩
  · dsimp only [Pt.U, Pt.locs, Pt.cells, Pt.slots] at X' e1 e2 h1 h2 h3 st
    subst h1; subst h2; subst h3
    exact Or.inl ⟨v, (T.setVm vm₁).calling g' mk As.toArray, t, U', L, hT, X', hL, e1, e2, hq, st⟩
  · dsimp only [Pt.U, Pt.locs, Pt.cells, Pt.slots] at X' e1 e2 h1 h2 h3 st hcl
    subst h1; subst h2; subst h3
    exact Or.inr ⟨q, (T.setVm vm₁).calling g' mk As.toArray, t, U', L, E, ce, hT, X', hL, e1, e2, hq, hce, hcv, vx_cls hW₁ hcl, st⟩
end
end VXH
theorem vx_ofWH {l : Launch} {y : MethodName} {ws ws' : List Cond} {rm : Room} {Pc : Array Value → State → Prop} {Qc : Array Value → State → Outcome → State → Prop} {XC : String → State → State → Prop} {mc ms : Nat} {free : Addr → Prop} {cc : ByteArray} {maxL : Nat} {ret : Option FieldType} {hh : List (Nat × Nat × Nat × Nat)}
    (hy : plainName y.cls = true) (hw : ws = Cond.codeWith y cc maxL ret hh :: ws')
    (body : ∀ p e s m args below meth c s₁, BodyLoose p l y (headSpec ws rm) cc maxL ret e s m args below meth c s₁ → c.maxLocals = maxL → Pc args s →
      W p l e (headSpec ws rm).room s m args below meth c s.heap [] 0 0 (vx_MQ below Qc XC args s mc ms free) (entryFrame m args maxL)) : vx_Met l y ws rm Pc Qc XC mc ms free := by
  refine MetFree.of_bodyS (code := cc) (maxLocals := maxL) (ret := ret) hy ?_ ?_
  · intro args s m h hn
    obtain ⟨m9, meth, c, hn9, h1, h2, h3, h4, -, h5, h6, -⟩ := Cond.codeWith_spec (atoms_spec (ws := ws) h _ (by rw [hw]; exact List.mem_cons_self))
    cases hn.symm.trans hn9
    exact ⟨meth, c, h1, h2, h3, h4, h5, h6⟩
  · intro p e s m args below meth c s₁ B hml hP _
    have hh0 : s₁.heap = s.heap := by rw [B.state]; rfl
    obtain ⟨t, a1, o, b1, b2, b3⟩ := body p e s m args below meth c s₁ B hml hP s₁ hh0 (Stand.of_body B)
    exact ⟨t, o, a1, b1, b2, b3⟩
/-! ===== END ===== -/
end
section
def RX0 : String := "StudioAirtime$Airing"
def TX0 : u_T := fun k => match k with
  | 0 => ("StudioAirtime$Airing", "starts", "[I", true)
  | 1 => ("StudioAirtime$Airing", "minutes", "[I", true)
  | 2 => ("StudioAirtime$Airing", "delays", "[I", true)
  | 3 => ("StudioAirtime$Airing", "cuts", "[Z", true)
  | _ => ("StudioAirtime$Airing", "clocks", "[I", true)
def tyX0 : Nat → FieldType := fun k => match k with
  | 0 => .array .int
  | 1 => .array .int
  | 2 => .array .int
  | 3 => .array .boolean
  | _ => .array .int
abbrev wsX00 : List Cond := u_ws RX0 TX0 5
theorem nmX0 : ∀ a, a < 5 → ∀ b, b < 5 → a ≠ b → (TX0 a).2.1 ≠ (TX0 b).2.1 := by decide +kernel
theorem tyX0_ok : ∀ k, k < 5 → parseFieldDescriptor (TX0 k).2.2.1 = some (tyX0 k) := by decide +kernel
abbrev cX0_init : ByteArray := prog_2_method_1_code
def yX0_init : MethodName := ⟨RX0, "<init>", "()V"⟩
abbrev cX0_play : ByteArray := prog_2_method_2_code
def yX0_play : MethodName := ⟨RX0, "play", "(LStudioAirtime$Plan;)V"⟩
abbrev cX0_playWith : ByteArray := prog_2_method_3_code
def yX0_playWith : MethodName := ⟨RX0, "playWith", "(LStudioAirtime$Plan;II)V"⟩
abbrev cX0_playShow : ByteArray := prog_2_method_4_code
def yX0_playShow : MethodName := ⟨RX0, "playShow", "(LStudioAirtime$Plan;II)V"⟩
abbrev cX0_isDropped : ByteArray := prog_2_method_5_code
def yX0_isDropped : MethodName := ⟨RX0, "isDropped", "(I)Z"⟩
abbrev cX0_isDelayed : ByteArray := prog_2_method_6_code
def yX0_isDelayed : MethodName := ⟨RX0, "isDelayed", "(I)Z"⟩
abbrev cX0_fate : ByteArray := prog_2_method_7_code
def yX0_fate : MethodName := ⟨RX0, "fate", "(I)I"⟩
abbrev cX0_worthOfGroup : ByteArray := prog_2_method_8_code
def yX0_worthOfGroup : MethodName := ⟨RX0, "worthOfGroup", "(LStudioAirtime$Plan;I)I"⟩
abbrev cX0_sponsorsInHour : ByteArray := prog_2_method_9_code
def yX0_sponsorsInHour : MethodName := ⟨RX0, "sponsorsInHour", "(LStudioAirtime$Plan;II)I"⟩
abbrev cX0_dayProperty : ByteArray := prog_2_method_10_code
def yX0_dayProperty : MethodName := ⟨RX0, "dayProperty", "(LStudioAirtime$Plan;II)I"⟩
abbrev cX0_minutesOfWeek : ByteArray := prog_2_method_11_code
def yX0_minutesOfWeek : MethodName := ⟨RX0, "minutesOfWeek", "(LStudioAirtime$Plan;)I"⟩
abbrev cX0_delayedShows : ByteArray := prog_2_method_12_code
def yX0_delayedShows : MethodName := ⟨RX0, "delayedShows", "(LStudioAirtime$Plan;)I"⟩
abbrev cX0_droppedShows : ByteArray := prog_2_method_13_code
def yX0_droppedShows : MethodName := ⟨RX0, "droppedShows", "(LStudioAirtime$Plan;)I"⟩
abbrev cX0_sumOverWeek : ByteArray := prog_2_method_14_code
def yX0_sumOverWeek : MethodName := ⟨RX0, "sumOverWeek", "(LStudioAirtime$Plan;I)I"⟩
abbrev cX0_partOfDay : ByteArray := prog_2_method_15_code
def yX0_partOfDay : MethodName := ⟨RX0, "partOfDay", "(LStudioAirtime$Plan;II)I"⟩
abbrev cX0_hoursAboveLimit : ByteArray := prog_2_method_16_code
def yX0_hoursAboveLimit : MethodName := ⟨RX0, "hoursAboveLimit", "(LStudioAirtime$Plan;I)I"⟩
def RX1 : String := "StudioAirtime$Hash"
def TX1 : u_T := fun k => match k with
  | _ => ("StudioAirtime$Hash", "value", "J", false)
def tyX1 : Nat → FieldType := fun k => match k with
  | _ => .long
abbrev wsX10 : List Cond := u_ws RX1 TX1 1
theorem nmX1 : ∀ a, a < 1 → ∀ b, b < 1 → a ≠ b → (TX1 a).2.1 ≠ (TX1 b).2.1 := by decide +kernel
theorem tyX1_ok : ∀ k, k < 1 → parseFieldDescriptor (TX1 k).2.2.1 = some (tyX1 k) := by decide +kernel
abbrev cX1_init : ByteArray := prog_3_method_1_code
def yX1_init : MethodName := ⟨RX1, "<init>", "()V"⟩
abbrev cX1_take : ByteArray := prog_3_method_2_code
def yX1_take : MethodName := ⟨RX1, "take", "(J)V"⟩
def RX2 : String := "StudioAirtime$History"
def TX2 : u_T := fun k => match k with
  | 0 => ("StudioAirtime$History", "plans", "[LStudioAirtime$Plan;", true)
  | 1 => ("StudioAirtime$History", "oldest", "I", false)
  | _ => ("StudioAirtime$History", "size", "I", false)
def tyX2 : Nat → FieldType := fun k => match k with
  | 0 => .array (.object "StudioAirtime$Plan")
  | 1 => .int
  | _ => .int
abbrev wsX20 : List Cond := u_ws RX2 TX2 3
theorem nmX2 : ∀ a, a < 3 → ∀ b, b < 3 → a ≠ b → (TX2 a).2.1 ≠ (TX2 b).2.1 := by decide +kernel
theorem tyX2_ok : ∀ k, k < 3 → parseFieldDescriptor (TX2 k).2.2.1 = some (tyX2 k) := by decide +kernel
abbrev cX2_init : ByteArray := prog_4_method_1_code
def yX2_init : MethodName := ⟨RX2, "<init>", "()V"⟩
abbrev cX2_save : ByteArray := prog_4_method_2_code
def yX2_save : MethodName := ⟨RX2, "save", "(LStudioAirtime$Plan;)V"⟩
abbrev cX2_restore : ByteArray := prog_4_method_3_code
def yX2_restore : MethodName := ⟨RX2, "restore", "(LStudioAirtime$Plan;)V"⟩
def RX3 : String := "StudioAirtime$Plan"
def TX3 : u_T := fun k => match k with
  | 0 => ("StudioAirtime$Plan", "settings", "[I", true)
  | 1 => ("StudioAirtime$Plan", "quotas", "[I", true)
  | 2 => ("StudioAirtime$Plan", "carried", "[I", true)
  | 3 => ("StudioAirtime$Plan", "closedQuotas", "[I", true)
  | 4 => ("StudioAirtime$Plan", "closedMinutes", "[I", true)
  | 5 => ("StudioAirtime$Plan", "lost", "[I", true)
  | 6 => ("StudioAirtime$Plan", "week", "I", false)
  | 7 => ("StudioAirtime$Plan", "size", "I", false)
  | 8 => ("StudioAirtime$Plan", "kinds", "[I", true)
  | 9 => ("StudioAirtime$Plan", "groups", "[I", true)
  | 10 => ("StudioAirtime$Plan", "days", "[I", true)
  | 11 => ("StudioAirtime$Plan", "starts", "[I", true)
  | 12 => ("StudioAirtime$Plan", "lengths", "[I", true)
  | 13 => ("StudioAirtime$Plan", "sponsors", "[I", true)
  | 14 => ("StudioAirtime$Plan", "overruns", "[I", true)
  | _ => ("StudioAirtime$Plan", "originals", "[I", true)
def tyX3 : Nat → FieldType := fun k => match k with
  | 0 => .array .int
  | 1 => .array .int
  | 2 => .array .int
  | 3 => .array .int
  | 4 => .array .int
  | 5 => .array .int
  | 6 => .int
  | 7 => .int
  | 8 => .array .int
  | 9 => .array .int
  | 10 => .array .int
  | 11 => .array .int
  | 12 => .array .int
  | 13 => .array .int
  | 14 => .array .int
  | _ => .array .int
abbrev wsX30 : List Cond := u_ws RX3 TX3 16
theorem nmX3 : ∀ a, a < 16 → ∀ b, b < 16 → a ≠ b → (TX3 a).2.1 ≠ (TX3 b).2.1 := by decide +kernel
theorem tyX3_ok : ∀ k, k < 16 → parseFieldDescriptor (TX3 k).2.2.1 = some (tyX3 k) := by decide +kernel
abbrev cX3_init : ByteArray := prog_5_method_1_code
def yX3_init : MethodName := ⟨RX3, "<init>", "()V"⟩
abbrev cX3_copyFrom : ByteArray := prog_5_method_2_code
def yX3_copyFrom : MethodName := ⟨RX3, "copyFrom", "(LStudioAirtime$Plan;)V"⟩
abbrev cX3_hasShow : ByteArray := prog_5_method_3_code
def yX3_hasShow : MethodName := ⟨RX3, "hasShow", "(I)Z"⟩
abbrev cX3_allowance : ByteArray := prog_5_method_4_code
def yX3_allowance : MethodName := ⟨RX3, "allowance", "(I)I"⟩
abbrev cX3_worth : ByteArray := prog_5_method_5_code
def yX3_worth : MethodName := ⟨RX3, "worth", "(II)I"⟩
abbrev cX3_worthOfLengths : ByteArray := prog_5_method_6_code
def yX3_worthOfLengths : MethodName := ⟨RX3, "worthOfLengths", "(I)I"⟩
abbrev cX3_showsOfGroup : ByteArray := prog_5_method_7_code
def yX3_showsOfGroup : MethodName := ⟨RX3, "showsOfGroup", "(I)I"⟩
abbrev cX3_showsOfKind : ByteArray := prog_5_method_8_code
def yX3_showsOfKind : MethodName := ⟨RX3, "showsOfKind", "(I)I"⟩
abbrev cX3_plannedSponsors : ByteArray := prog_5_method_9_code
def yX3_plannedSponsors : MethodName := ⟨RX3, "plannedSponsors", "(II)I"⟩
abbrev cX3_patience : ByteArray := prog_5_method_10_code
def yX3_patience : MethodName := ⟨RX3, "patience", "(I)I"⟩
abbrev cX3_inheritFromOriginal : ByteArray := prog_5_method_11_code
def yX3_inheritFromOriginal : MethodName := ⟨RX3, "inheritFromOriginal", "(LStudioAirtime$Proposal;)Z"⟩
abbrev cX3_refusal : ByteArray := prog_5_method_12_code
def yX3_refusal : MethodName := ⟨RX3, "refusal", "(LStudioAirtime$Proposal;)I"⟩
abbrev cX3_showInTheWay : ByteArray := prog_5_method_13_code
def yX3_showInTheWay : MethodName := ⟨RX3, "showInTheWay", "(III)I"⟩
abbrev cX3_earliestRepeat : ByteArray := prog_5_method_14_code
def yX3_earliestRepeat : MethodName := ⟨RX3, "earliestRepeat", "(I)I"⟩
abbrev cX3_exceedsAllowance : ByteArray := prog_5_method_15_code
def yX3_exceedsAllowance : MethodName := ⟨RX3, "exceedsAllowance", "(II)Z"⟩
abbrev cX3_exceedsSponsorLimit : ByteArray := prog_5_method_16_code
def yX3_exceedsSponsorLimit : MethodName := ⟨RX3, "exceedsSponsorLimit", "(III)Z"⟩
abbrev cX3_firstTapeTime : ByteArray := prog_5_method_17_code
def yX3_firstTapeTime : MethodName := ⟨RX3, "firstTapeTime", "(III)I"⟩
abbrev cX3_firstRepeatTime : ByteArray := prog_5_method_18_code
def yX3_firstRepeatTime : MethodName := ⟨RX3, "firstRepeatTime", "(I)I"⟩
abbrev cX3_firstFreeStart : ByteArray := prog_5_method_19_code
def yX3_firstFreeStart : MethodName := ⟨RX3, "firstFreeStart", "(III)I"⟩
abbrev cX3_nextTimeStep : ByteArray := prog_5_method_20_code
def yX3_nextTimeStep : MethodName := ⟨RX3, "nextTimeStep", "(I)I"⟩
abbrev cX3_insert : ByteArray := prog_5_method_21_code
def yX3_insert : MethodName := ⟨RX3, "insert", "(LStudioAirtime$Proposal;)I"⟩
abbrev cX3_numberFor : ByteArray := prog_5_method_22_code
def yX3_numberFor : MethodName := ⟨RX3, "numberFor", "(II)I"⟩
abbrev cX3_takeOutWithRepeats : ByteArray := prog_5_method_23_code
def yX3_takeOutWithRepeats : MethodName := ⟨RX3, "takeOutWithRepeats", "(I)I"⟩
abbrev cX3_takeOut : ByteArray := prog_5_method_24_code
def yX3_takeOut : MethodName := ⟨RX3, "takeOut", "(I)V"⟩
abbrev cX3_moveShow : ByteArray := prog_5_method_25_code
def yX3_moveShow : MethodName := ⟨RX3, "moveShow", "(II)V"⟩
abbrev cX3_closeGroup : ByteArray := prog_5_method_26_code
def yX3_closeGroup : MethodName := ⟨RX3, "closeGroup", "(II)V"⟩
abbrev cX3_beginNextWeek : ByteArray := prog_5_method_27_code
def yX3_beginNextWeek : MethodName := ⟨RX3, "beginNextWeek", "()V"⟩
def RX4 : String := "StudioAirtime$Proposal"
def TX4 : u_T := fun k => match k with
  | 0 => ("StudioAirtime$Proposal", "kind", "I", false)
  | 1 => ("StudioAirtime$Proposal", "group", "I", false)
  | 2 => ("StudioAirtime$Proposal", "day", "I", false)
  | 3 => ("StudioAirtime$Proposal", "start", "I", false)
  | 4 => ("StudioAirtime$Proposal", "length", "I", false)
  | 5 => ("StudioAirtime$Proposal", "sponsors", "I", false)
  | _ => ("StudioAirtime$Proposal", "original", "I", false)
def tyX4 : Nat → FieldType := fun k => match k with
  | 0 => .int
  | 1 => .int
  | 2 => .int
  | 3 => .int
  | 4 => .int
  | 5 => .int
  | _ => .int
abbrev wsX40 : List Cond := u_ws RX4 TX4 7
theorem nmX4 : ∀ a, a < 7 → ∀ b, b < 7 → a ≠ b → (TX4 a).2.1 ≠ (TX4 b).2.1 := by decide +kernel
theorem tyX4_ok : ∀ k, k < 7 → parseFieldDescriptor (TX4 k).2.2.1 = some (tyX4 k) := by decide +kernel
abbrev cX4_init : ByteArray := prog_6_method_1_code
def yX4_init : MethodName := ⟨RX4, "<init>", "()V"⟩
abbrev cX4_become : ByteArray := prog_6_method_2_code
def yX4_become : MethodName := ⟨RX4, "become", "(IIIIII)V"⟩
abbrev cX4_becomeRepeat : ByteArray := prog_6_method_3_code
def yX4_becomeRepeat : MethodName := ⟨RX4, "becomeRepeat", "(III)V"⟩
abbrev cX4_isInRange : ByteArray := prog_6_method_4_code
def yX4_isInRange : MethodName := ⟨RX4, "isInRange", "()Z"⟩
def RX5 : String := "StudioAirtime$Text"
def TX5 : u_T := fun k => match k with
  | 0 => ("StudioAirtime$Text", "signs", "[I", true)
  | 1 => ("StudioAirtime$Text", "length", "I", false)
  | 2 => ("StudioAirtime$Text", "at", "I", false)
  | _ => ("StudioAirtime$Text", "number", "I", false)
def tyX5 : Nat → FieldType := fun k => match k with
  | 0 => .array .int
  | 1 => .int
  | 2 => .int
  | _ => .int
abbrev wsX50 : List Cond := u_ws RX5 TX5 4
theorem nmX5 : ∀ a, a < 4 → ∀ b, b < 4 → a ≠ b → (TX5 a).2.1 ≠ (TX5 b).2.1 := by decide +kernel
theorem tyX5_ok : ∀ k, k < 4 → parseFieldDescriptor (TX5 k).2.2.1 = some (tyX5 k) := by decide +kernel
abbrev cX5_init : ByteArray := prog_7_method_1_code
def yX5_init : MethodName := ⟨RX5, "<init>", "()V"⟩
abbrev cX5_readAll : ByteArray := prog_7_method_2_code
def yX5_readAll : MethodName := ⟨RX5, "readAll", "(LStudioAirtime$Proposal;)Z"⟩
abbrev cX5_readShow : ByteArray := prog_7_method_3_code
def yX5_readShow : MethodName := ⟨RX5, "readShow", "(LStudioAirtime$Proposal;)Z"⟩
abbrev cX5_readOwnShow : ByteArray := prog_7_method_4_code
def yX5_readOwnShow : MethodName := ⟨RX5, "readOwnShow", "(LStudioAirtime$Proposal;I)Z"⟩
abbrev cX5_readRepeat : ByteArray := prog_7_method_5_code
def yX5_readRepeat : MethodName := ⟨RX5, "readRepeat", "(LStudioAirtime$Proposal;)Z"⟩
abbrev cX5_readSign : ByteArray := prog_7_method_6_code
def yX5_readSign : MethodName := ⟨RX5, "readSign", "(C)Z"⟩
abbrev cX5_readDigit : ByteArray := prog_7_method_7_code
def yX5_readDigit : MethodName := ⟨RX5, "readDigit", "(I)Z"⟩
abbrev cX5_readNumber : ByteArray := prog_7_method_8_code
def yX5_readNumber : MethodName := ⟨RX5, "readNumber", "()Z"⟩
def RX6 : String := "StudioAirtime"
def TX6 : u_T := fun k => match k with
  | 0 => ("StudioAirtime", "now", "LStudioAirtime$Plan;", true)
  | 1 => ("StudioAirtime", "history", "LStudioAirtime$History;", true)
  | 2 => ("StudioAirtime", "text", "LStudioAirtime$Text;", true)
  | 3 => ("StudioAirtime", "proposal", "LStudioAirtime$Proposal;", true)
  | 4 => ("StudioAirtime", "air", "LStudioAirtime$Airing;", true)
  | 5 => ("StudioAirtime", "trial", "LStudioAirtime$Airing;", true)
  | _ => ("StudioAirtime", "latestReason", "I", false)
def tyX6 : Nat → FieldType := fun k => match k with
  | 0 => .object "StudioAirtime$Plan"
  | 1 => .object "StudioAirtime$History"
  | 2 => .object "StudioAirtime$Text"
  | 3 => .object "StudioAirtime$Proposal"
  | 4 => .object "StudioAirtime$Airing"
  | 5 => .object "StudioAirtime$Airing"
  | _ => .int
abbrev wsX60 : List Cond := u_ws RX6 TX6 7
theorem nmX6 : ∀ a, a < 7 → ∀ b, b < 7 → a ≠ b → (TX6 a).2.1 ≠ (TX6 b).2.1 := by decide +kernel
theorem tyX6_ok : ∀ k, k < 7 → parseFieldDescriptor (TX6 k).2.2.1 = some (tyX6 k) := by decide +kernel
abbrev cX6_init : ByteArray := prog_1_method_1_code
def yX6_init : MethodName := ⟨RX6, "<init>", "()V"⟩
abbrev cX6_set : ByteArray := prog_1_method_2_code
def yX6_set : MethodName := ⟨RX6, "set", "(II)I"⟩
abbrev cX6_setQuota : ByteArray := prog_1_method_3_code
def yX6_setQuota : MethodName := ⟨RX6, "setQuota", "(II)I"⟩
abbrev cX6_add : ByteArray := prog_1_method_4_code
def yX6_add : MethodName := ⟨RX6, "add", "(ZIIIII)I"⟩
abbrev cX6_repeat : ByteArray := prog_1_method_5_code
def yX6_repeat : MethodName := ⟨RX6, "repeat", "(III)I"⟩
abbrev cX6_remove : ByteArray := prog_1_method_6_code
def yX6_remove : MethodName := ⟨RX6, "remove", "(I)I"⟩
abbrev cX6_overrun : ByteArray := prog_1_method_7_code
def yX6_overrun : MethodName := ⟨RX6, "overrun", "(II)I"⟩
abbrev cX6_closeWeek : ByteArray := prog_1_method_8_code
def yX6_closeWeek : MethodName := ⟨RX6, "closeWeek", "()I"⟩
abbrev cX6_append : ByteArray := prog_1_method_9_code
def yX6_append : MethodName := ⟨RX6, "append", "(I)I"⟩
abbrev cX6_clearBuffer : ByteArray := prog_1_method_10_code
def yX6_clearBuffer : MethodName := ⟨RX6, "clearBuffer", "()I"⟩
abbrev cX6_firstError : ByteArray := prog_1_method_11_code
def yX6_firstError : MethodName := ⟨RX6, "firstError", "()I"⟩
abbrev cX6_load : ByteArray := prog_1_method_12_code
def yX6_load : MethodName := ⟨RX6, "load", "()I"⟩
abbrev cX6_undo : ByteArray := prog_1_method_13_code
def yX6_undo : MethodName := ⟨RX6, "undo", "()I"⟩
abbrev cX6_reason : ByteArray := prog_1_method_14_code
def yX6_reason : MethodName := ⟨RX6, "reason", "()I"⟩
abbrev cX6_show : ByteArray := prog_1_method_15_code
def yX6_show : MethodName := ⟨RX6, "show", "(II)I"⟩
abbrev cX6_group : ByteArray := prog_1_method_16_code
def yX6_group : MethodName := ⟨RX6, "group", "(II)I"⟩
abbrev cX6_sponsors : ByteArray := prog_1_method_17_code
def yX6_sponsors : MethodName := ⟨RX6, "sponsors", "(IIZ)I"⟩
abbrev cX6_day : ByteArray := prog_1_method_18_code
def yX6_day : MethodName := ⟨RX6, "day", "(II)I"⟩
abbrev cX6_count : ByteArray := prog_1_method_19_code
def yX6_count : MethodName := ⟨RX6, "count", "(I)I"⟩
abbrev cX6_setting : ByteArray := prog_1_method_20_code
def yX6_setting : MethodName := ⟨RX6, "setting", "(I)I"⟩
abbrev cX6_why : ByteArray := prog_1_method_21_code
def yX6_why : MethodName := ⟨RX6, "why", "(IIII)I"⟩
abbrev cX6_firstTime : ByteArray := prog_1_method_22_code
def yX6_firstTime : MethodName := ⟨RX6, "firstTime", "(III)I"⟩
abbrev cX6_firstRepeat : ByteArray := prog_1_method_23_code
def yX6_firstRepeat : MethodName := ⟨RX6, "firstRepeat", "(I)I"⟩
abbrev cX6_ifOverrun : ByteArray := prog_1_method_24_code
def yX6_ifOverrun : MethodName := ⟨RX6, "ifOverrun", "(III)I"⟩
abbrev cX6_greatestOverrun : ByteArray := prog_1_method_25_code
def yX6_greatestOverrun : MethodName := ⟨RX6, "greatestOverrun", "(I)I"⟩
abbrev cX6_share : ByteArray := prog_1_method_26_code
def yX6_share : MethodName := ⟨RX6, "share", "()D"⟩
abbrev cX6_digest : ByteArray := prog_1_method_27_code
def yX6_digest : MethodName := ⟨RX6, "digest", "()J"⟩
abbrev cX6_isWithin : ByteArray := prog_1_method_28_code
def yX6_isWithin : MethodName := ⟨RX6, "isWithin", "(III)Z"⟩
abbrev cX6_minutesInHour : ByteArray := prog_1_method_29_code
def yX6_minutesInHour : MethodName := ⟨RX6, "minutesInHour", "(III)I"⟩
abbrev cX6_enterProposal : ByteArray := prog_1_method_30_code
def yX6_enterProposal : MethodName := ⟨RX6, "enterProposal", "()I"⟩
abbrev cX6_refusalOfReadShow : ByteArray := prog_1_method_31_code
def yX6_refusalOfReadShow : MethodName := ⟨RX6, "refusalOfReadShow", "()I"⟩
abbrev cX6_showProperty : ByteArray := prog_1_method_32_code
def yX6_showProperty : MethodName := ⟨RX6, "showProperty", "(II)I"⟩
abbrev cX6_groupProperty : ByteArray := prog_1_method_33_code
def yX6_groupProperty : MethodName := ⟨RX6, "groupProperty", "(II)I"⟩
abbrev cX6_weekNumber : ByteArray := prog_1_method_34_code
def yX6_weekNumber : MethodName := ⟨RX6, "weekNumber", "(I)I"⟩
abbrev cX6_greatestHarmlessOverrun : ByteArray := prog_1_method_35_code
def yX6_greatestHarmlessOverrun : MethodName := ⟨RX6, "greatestHarmlessOverrun", "(I)I"⟩
abbrev cX6_isHarmless : ByteArray := prog_1_method_36_code
def yX6_isHarmless : MethodName := ⟨RX6, "isHarmless", "(II)Z"⟩
abbrev cX6_shareOnAir : ByteArray := prog_1_method_37_code
def yX6_shareOnAir : MethodName := ⟨RX6, "shareOnAir", "()D"⟩
abbrev cX6_bitsOf : ByteArray := prog_1_method_38_code
def yX6_bitsOf : MethodName := ⟨RX6, "bitsOf", "(D)J"⟩
abbrev cX6_takeShow : ByteArray := prog_1_method_39_code
def yX6_takeShow : MethodName := ⟨RX6, "takeShow", "(LStudioAirtime$Hash;I)V"⟩
abbrev cX6_takeDay : ByteArray := prog_1_method_40_code
def yX6_takeDay : MethodName := ⟨RX6, "takeDay", "(LStudioAirtime$Hash;I)V"⟩
def RX7 : String := "StudioAirtimeModel"
def TX7 : u_T := fun k => match k with
  | 0 => ("StudioAirtimeModel", "thrown", "I", false)
  | 1 => ("StudioAirtimeModel", "z", "[I", true)
  | 2 => ("StudioAirtimeModel", "saves", "I", false)
  | 3 => ("StudioAirtimeModel", "saved", "[I", true)
  | 4 => ("StudioAirtimeModel", "latest", "I", false)
  | 5 => ("StudioAirtimeModel", "length", "I", false)
  | 6 => ("StudioAirtimeModel", "text", "[I", true)
  | 7 => ("StudioAirtimeModel", "fresh", "[I", true)
  | 8 => ("StudioAirtimeModel", "airAt", "[I", true)
  | 9 => ("StudioAirtimeModel", "airFor", "[I", true)
  | 10 => ("StudioAirtimeModel", "delays", "[I", true)
  | 11 => ("StudioAirtimeModel", "states", "[I", true)
  | 12 => ("StudioAirtimeModel", "clock", "I", false)
  | 13 => ("StudioAirtimeModel", "step", "I", false)
  | 14 => ("StudioAirtimeModel", "digits", "I", false)
  | 15 => ("StudioAirtimeModel", "items", "I", false)
  | 16 => ("StudioAirtimeModel", "read", "[I", true)
  | _ => ("StudioAirtimeModel", "h", "J", false)
def tyX7 : Nat → FieldType := fun k => match k with
  | 0 => .int
  | 1 => .array .int
  | 2 => .int
  | 3 => .array .int
  | 4 => .int
  | 5 => .int
  | 6 => .array .int
  | 7 => .array .int
  | 8 => .array .int
  | 9 => .array .int
  | 10 => .array .int
  | 11 => .array .int
  | 12 => .int
  | 13 => .int
  | 14 => .int
  | 15 => .int
  | 16 => .array .int
  | _ => .long
abbrev wsX70 : List Cond := u_ws RX7 TX7 18
theorem nmX7 : ∀ a, a < 18 → ∀ b, b < 18 → a ≠ b → (TX7 a).2.1 ≠ (TX7 b).2.1 := by decide +kernel
theorem tyX7_ok : ∀ k, k < 18 → parseFieldDescriptor (TX7 k).2.2.1 = some (tyX7 k) := by decide +kernel
abbrev cX7_init : ByteArray := prog_9_method_1_code
def yX7_init : MethodName := ⟨RX7, "<init>", "()V"⟩
abbrev cX7_thrown : ByteArray := prog_9_method_2_code
def yX7_thrown : MethodName := ⟨RX7, "thrown", "()I"⟩
abbrev cX7_within : ByteArray := prog_9_method_3_code
def yX7_within : MethodName := ⟨RX7, "within", "(III)Z"⟩
abbrev cX7_of : ByteArray := prog_9_method_4_code
def yX7_of : MethodName := ⟨RX7, "of", "(II)I"⟩
abbrev cX7_put : ByteArray := prog_9_method_5_code
def yX7_put : MethodName := ⟨RX7, "put", "(III)V"⟩
abbrev cX7_isShow : ByteArray := prog_9_method_6_code
def yX7_isShow : MethodName := ⟨RX7, "isShow", "(I)Z"⟩
abbrev cX7_isGroup : ByteArray := prog_9_method_7_code
def yX7_isGroup : MethodName := ⟨RX7, "isGroup", "(I)Z"⟩
abbrev cX7_isDay : ByteArray := prog_9_method_8_code
def yX7_isDay : MethodName := ⟨RX7, "isDay", "(I)Z"⟩
abbrev cX7_isStart : ByteArray := prog_9_method_9_code
def yX7_isStart : MethodName := ⟨RX7, "isStart", "(I)Z"⟩
abbrev cX7_isLength : ByteArray := prog_9_method_10_code
def yX7_isLength : MethodName := ⟨RX7, "isLength", "(I)Z"⟩
abbrev cX7_worth : ByteArray := prog_9_method_11_code
def yX7_worth : MethodName := ⟨RX7, "worth", "(II)I"⟩
abbrev cX7_allowance : ByteArray := prog_9_method_12_code
def yX7_allowance : MethodName := ⟨RX7, "allowance", "(I)I"⟩
abbrev cX7_tape : ByteArray := prog_9_method_13_code
def yX7_tape : MethodName := ⟨RX7, "tape", "(IIIIII)V"⟩
abbrev cX7_again : ByteArray := prog_9_method_14_code
def yX7_again : MethodName := ⟨RX7, "again", "(III)V"⟩
abbrev cX7_meetsOther : ByteArray := prog_9_method_15_code
def yX7_meetsOther : MethodName := ⟨RX7, "meetsOther", "()Z"⟩
abbrev cX7_isEarly : ByteArray := prog_9_method_16_code
def yX7_isEarly : MethodName := ⟨RX7, "isEarly", "()Z"⟩
abbrev cX7_plannedWorth : ByteArray := prog_9_method_17_code
def yX7_plannedWorth : MethodName := ⟨RX7, "plannedWorth", "(I)I"⟩
abbrev cX7_inHour : ByteArray := prog_9_method_18_code
def yX7_inHour : MethodName := ⟨RX7, "inHour", "(III)I"⟩
abbrev cX7_planned : ByteArray := prog_9_method_19_code
def yX7_planned : MethodName := ⟨RX7, "planned", "(II)I"⟩
abbrev cX7_sponsorsTooMuch : ByteArray := prog_9_method_20_code
def yX7_sponsorsTooMuch : MethodName := ⟨RX7, "sponsorsTooMuch", "()Z"⟩
abbrev cX7_refusal : ByteArray := prog_9_method_21_code
def yX7_refusal : MethodName := ⟨RX7, "refusal", "()I"⟩
abbrev cX7_putIn : ByteArray := prog_9_method_22_code
def yX7_putIn : MethodName := ⟨RX7, "putIn", "()I"⟩
abbrev cX7_takeOut : ByteArray := prog_9_method_23_code
def yX7_takeOut : MethodName := ⟨RX7, "takeOut", "(I)V"⟩
abbrev cX7_layDay : ByteArray := prog_9_method_24_code
def yX7_layDay : MethodName := ⟨RX7, "layDay", "(I)V"⟩
abbrev cX7_layShow : ByteArray := prog_9_method_25_code
def yX7_layShow : MethodName := ⟨RX7, "layShow", "(I)V"⟩
abbrev cX7_layAll : ByteArray := prog_9_method_26_code
def yX7_layAll : MethodName := ⟨RX7, "layAll", "()V"⟩
abbrev cX7_aired : ByteArray := prog_9_method_27_code
def yX7_aired : MethodName := ⟨RX7, "aired", "(II)I"⟩
abbrev cX7_dayNow : ByteArray := prog_9_method_28_code
def yX7_dayNow : MethodName := ⟨RX7, "dayNow", "(II)I"⟩
abbrev cX7_showPart : ByteArray := prog_9_method_29_code
def yX7_showPart : MethodName := ⟨RX7, "showPart", "(II)I"⟩
abbrev cX7_inWeek : ByteArray := prog_9_method_30_code
def yX7_inWeek : MethodName := ⟨RX7, "inWeek", "(I)I"⟩
abbrev cX7_airWorth : ByteArray := prog_9_method_31_code
def yX7_airWorth : MethodName := ⟨RX7, "airWorth", "(I)I"⟩
abbrev cX7_save : ByteArray := prog_9_method_32_code
def yX7_save : MethodName := ⟨RX7, "save", "()V"⟩
abbrev cX7_undo : ByteArray := prog_9_method_33_code
def yX7_undo : MethodName := ⟨RX7, "undo", "()I"⟩
abbrev cX7_isValue : ByteArray := prog_9_method_34_code
def yX7_isValue : MethodName := ⟨RX7, "isValue", "(II)Z"⟩
abbrev cX7_isSetting : ByteArray := prog_9_method_35_code
def yX7_isSetting : MethodName := ⟨RX7, "isSetting", "(I)Z"⟩
abbrev cX7_replaced : ByteArray := prog_9_method_36_code
def yX7_replaced : MethodName := ⟨RX7, "replaced", "(II)I"⟩
abbrev cX7_set : ByteArray := prog_9_method_37_code
def yX7_set : MethodName := ⟨RX7, "set", "(II)I"⟩
abbrev cX7_setQuota : ByteArray := prog_9_method_38_code
def yX7_setQuota : MethodName := ⟨RX7, "setQuota", "(II)I"⟩
abbrev cX7_areRight : ByteArray := prog_9_method_39_code
def yX7_areRight : MethodName := ⟨RX7, "areRight", "(IIIII)Z"⟩
abbrev cX7_added : ByteArray := prog_9_method_40_code
def yX7_added : MethodName := ⟨RX7, "added", "(I)I"⟩
abbrev cX7_add : ByteArray := prog_9_method_41_code
def yX7_add : MethodName := ⟨RX7, "add", "(ZIIIII)I"⟩
abbrev cX7_repeat : ByteArray := prog_9_method_42_code
def yX7_repeat : MethodName := ⟨RX7, "repeat", "(III)I"⟩
abbrev cX7_remove : ByteArray := prog_9_method_43_code
def yX7_remove : MethodName := ⟨RX7, "remove", "(I)I"⟩
abbrev cX7_isLive : ByteArray := prog_9_method_44_code
def yX7_isLive : MethodName := ⟨RX7, "isLive", "(I)Z"⟩
abbrev cX7_isOverrun : ByteArray := prog_9_method_45_code
def yX7_isOverrun : MethodName := ⟨RX7, "isOverrun", "(I)Z"⟩
abbrev cX7_overrun : ByteArray := prog_9_method_46_code
def yX7_overrun : MethodName := ⟨RX7, "overrun", "(II)I"⟩
abbrev cX7_closeGroup : ByteArray := prog_9_method_47_code
def yX7_closeGroup : MethodName := ⟨RX7, "closeGroup", "(I)V"⟩
abbrev cX7_closeWeek : ByteArray := prog_9_method_48_code
def yX7_closeWeek : MethodName := ⟨RX7, "closeWeek", "()I"⟩
abbrev cX7_append : ByteArray := prog_9_method_49_code
def yX7_append : MethodName := ⟨RX7, "append", "(I)I"⟩
abbrev cX7_clearBuffer : ByteArray := prog_9_method_50_code
def yX7_clearBuffer : MethodName := ⟨RX7, "clearBuffer", "()I"⟩
abbrev cX7_goes : ByteArray := prog_9_method_51_code
def yX7_goes : MethodName := ⟨RX7, "goes", "(ZI)Z"⟩
abbrev cX7_putRead : ByteArray := prog_9_method_52_code
def yX7_putRead : MethodName := ⟨RX7, "putRead", "(II)V"⟩
abbrev cX7_placeOf : ByteArray := prog_9_method_53_code
def yX7_placeOf : MethodName := ⟨RX7, "placeOf", "(I)I"⟩
abbrev cX7_begins : ByteArray := prog_9_method_54_code
def yX7_begins : MethodName := ⟨RX7, "begins", "(I)Z"⟩
abbrev cX7_beginsNumber : ByteArray := prog_9_method_55_code
def yX7_beginsNumber : MethodName := ⟨RX7, "beginsNumber", "(II)Z"⟩
abbrev cX7_endsShow : ByteArray := prog_9_method_56_code
def yX7_endsShow : MethodName := ⟨RX7, "endsShow", "(I)Z"⟩
abbrev cX7_goesOn : ByteArray := prog_9_method_57_code
def yX7_goesOn : MethodName := ⟨RX7, "goesOn", "(II)Z"⟩
abbrev cX7_takesDigit : ByteArray := prog_9_method_58_code
def yX7_takesDigit : MethodName := ⟨RX7, "takesDigit", "(IIII)Z"⟩
abbrev cX7_takes : ByteArray := prog_9_method_59_code
def yX7_takes : MethodName := ⟨RX7, "takes", "(I)Z"⟩
abbrev cX7_readText : ByteArray := prog_9_method_60_code
def yX7_readText : MethodName := ⟨RX7, "readText", "()I"⟩
abbrev cX7_firstError : ByteArray := prog_9_method_61_code
def yX7_firstError : MethodName := ⟨RX7, "firstError", "()I"⟩
abbrev cX7_isComplete : ByteArray := prog_9_method_62_code
def yX7_isComplete : MethodName := ⟨RX7, "isComplete", "()Z"⟩
abbrev cX7_addRead : ByteArray := prog_9_method_63_code
def yX7_addRead : MethodName := ⟨RX7, "addRead", "(I)I"⟩
abbrev cX7_load : ByteArray := prog_9_method_64_code
def yX7_load : MethodName := ⟨RX7, "load", "()I"⟩
abbrev cX7_reason : ByteArray := prog_9_method_65_code
def yX7_reason : MethodName := ⟨RX7, "reason", "()I"⟩
abbrev cX7_showNow : ByteArray := prog_9_method_66_code
def yX7_showNow : MethodName := ⟨RX7, "showNow", "(II)I"⟩
abbrev cX7_show : ByteArray := prog_9_method_67_code
def yX7_show : MethodName := ⟨RX7, "show", "(II)I"⟩
abbrev cX7_showsOf : ByteArray := prog_9_method_68_code
def yX7_showsOf : MethodName := ⟨RX7, "showsOf", "(I)I"⟩
abbrev cX7_groupNow : ByteArray := prog_9_method_69_code
def yX7_groupNow : MethodName := ⟨RX7, "groupNow", "(II)I"⟩
abbrev cX7_group : ByteArray := prog_9_method_70_code
def yX7_group : MethodName := ⟨RX7, "group", "(II)I"⟩
abbrev cX7_sponsorsNow : ByteArray := prog_9_method_71_code
def yX7_sponsorsNow : MethodName := ⟨RX7, "sponsorsNow", "(IIZ)I"⟩
abbrev cX7_sponsors : ByteArray := prog_9_method_72_code
def yX7_sponsors : MethodName := ⟨RX7, "sponsors", "(IIZ)I"⟩
abbrev cX7_day : ByteArray := prog_9_method_73_code
def yX7_day : MethodName := ⟨RX7, "day", "(II)I"⟩
abbrev cX7_ofKind : ByteArray := prog_9_method_74_code
def yX7_ofKind : MethodName := ⟨RX7, "ofKind", "(I)I"⟩
abbrev cX7_counted : ByteArray := prog_9_method_75_code
def yX7_counted : MethodName := ⟨RX7, "counted", "(I)I"⟩
abbrev cX7_count : ByteArray := prog_9_method_76_code
def yX7_count : MethodName := ⟨RX7, "count", "(I)I"⟩
abbrev cX7_setting : ByteArray := prog_9_method_77_code
def yX7_setting : MethodName := ⟨RX7, "setting", "(I)I"⟩
abbrev cX7_whyTape : ByteArray := prog_9_method_78_code
def yX7_whyTape : MethodName := ⟨RX7, "whyTape", "(IIII)I"⟩
abbrev cX7_why : ByteArray := prog_9_method_79_code
def yX7_why : MethodName := ⟨RX7, "why", "(IIII)I"⟩
abbrev cX7_firstOf : ByteArray := prog_9_method_80_code
def yX7_firstOf : MethodName := ⟨RX7, "firstOf", "(III)I"⟩
abbrev cX7_firstTime : ByteArray := prog_9_method_81_code
def yX7_firstTime : MethodName := ⟨RX7, "firstTime", "(III)I"⟩
abbrev cX7_repeatOf : ByteArray := prog_9_method_82_code
def yX7_repeatOf : MethodName := ⟨RX7, "repeatOf", "(I)I"⟩
abbrev cX7_firstRepeat : ByteArray := prog_9_method_83_code
def yX7_firstRepeat : MethodName := ⟨RX7, "firstRepeat", "(I)I"⟩
abbrev cX7_dayWith : ByteArray := prog_9_method_84_code
def yX7_dayWith : MethodName := ⟨RX7, "dayWith", "(III)I"⟩
abbrev cX7_ifOverrun : ByteArray := prog_9_method_85_code
def yX7_ifOverrun : MethodName := ⟨RX7, "ifOverrun", "(III)I"⟩
abbrev cX7_mostOverrun : ByteArray := prog_9_method_86_code
def yX7_mostOverrun : MethodName := ⟨RX7, "mostOverrun", "(I)I"⟩
abbrev cX7_greatestOverrun : ByteArray := prog_9_method_87_code
def yX7_greatestOverrun : MethodName := ⟨RX7, "greatestOverrun", "(I)I"⟩
abbrev cX7_shareNow : ByteArray := prog_9_method_88_code
def yX7_shareNow : MethodName := ⟨RX7, "shareNow", "()D"⟩
abbrev cX7_share : ByteArray := prog_9_method_89_code
def yX7_share : MethodName := ⟨RX7, "share", "()D"⟩
abbrev cX7_mix : ByteArray := prog_9_method_90_code
def yX7_mix : MethodName := ⟨RX7, "mix", "(J)V"⟩
abbrev cX7_mixDays : ByteArray := prog_9_method_91_code
def yX7_mixDays : MethodName := ⟨RX7, "mixDays", "()V"⟩
abbrev cX7_digest : ByteArray := prog_9_method_92_code
def yX7_digest : MethodName := ⟨RX7, "digest", "()J"⟩
def RJxe99ae : String := "java/lang/Double"
def TJxe99ae : u_T := fun k => match k with
  | _ => ("", "", "", false)
def tyJxe99ae : Nat → FieldType := fun k => match k with
  | _ => .int
theorem nmJxe99ae : ∀ a, a < 0 → ∀ b, b < 0 → a ≠ b → (TJxe99ae a).2.1 ≠ (TJxe99ae b).2.1 := by decide +kernel
theorem tyJxe99ae_ok : ∀ k, k < 0 → parseFieldDescriptor (TJxe99ae k).2.2.1 = some (tyJxe99ae k) := by decide +kernel
abbrev cJxe99ae_isNaN_b9ae7 : ByteArray := prog_10_method_6_code
def yJxe99ae_isNaN_b9ae7 : MethodName := ⟨RJxe99ae, "isNaN", "(D)Z"⟩
abbrev cJxe99ae_doubleToLongBits_ccdee : ByteArray := prog_10_method_23_code
def yJxe99ae_doubleToLongBits_ccdee : MethodName := ⟨RJxe99ae, "doubleToLongBits", "(D)J"⟩
def RJ9 : String := "java/lang/Math"
def TJ9 : u_T := fun k => match k with
  | _ => ("", "", "", false)
def tyJ9 : Nat → FieldType := fun k => match k with
  | _ => .int
abbrev wsJ90 : List Cond := u_ws RJ9 TJ9 0
theorem nmJ9 : ∀ a, a < 0 → ∀ b, b < 0 → a ≠ b → (TJ9 a).2.1 ≠ (TJ9 b).2.1 := by decide +kernel
theorem tyJ9_ok : ∀ k, k < 0 → parseFieldDescriptor (TJ9 k).2.2.1 = some (tyJ9 k) := by decide +kernel
abbrev cJ9_max_7cf53 : ByteArray := prog_15_method_65_code
def yJ9_max_7cf53 : MethodName := ⟨RJ9, "max", "(II)I"⟩
abbrev cJ9_min_7cf53 : ByteArray := prog_15_method_69_code
def yJ9_min_7cf53 : MethodName := ⟨RJ9, "min", "(II)I"⟩
def RJ0 : String := "java/lang/String"
def TJ0 : u_T := fun k => match k with
  | _ => ("", "", "", false)
def tyJ0 : Nat → FieldType := fun k => match k with
  | _ => .int
abbrev wsJ00 : List Cond := u_ws RJ0 TJ0 0
theorem nmJ0 : ∀ a, a < 0 → ∀ b, b < 0 → a ≠ b → (TJ0 a).2.1 ≠ (TJ0 b).2.1 := by decide +kernel
theorem tyJ0_ok : ∀ k, k < 0 → parseFieldDescriptor (TJ0 k).2.2.1 = some (tyJ0 k) := by decide +kernel
def RJ10 : String := "java/lang/System"
def TJ10 : u_T := fun k => match k with
  | _ => ("", "", "", false)
def tyJ10 : Nat → FieldType := fun k => match k with
  | _ => .int
abbrev wsJ100 : List Cond := u_ws RJ10 TJ10 0
theorem nmJ10 : ∀ a, a < 0 → ∀ b, b < 0 → a ≠ b → (TJ10 a).2.1 ≠ (TJ10 b).2.1 := by decide +kernel
theorem tyJ10_ok : ∀ k, k < 0 → parseFieldDescriptor (TJ10 k).2.2.1 = some (tyJ10 k) := by decide +kernel
def RL : String := "StudioAirtimeLaw"
abbrev cL_set : ByteArray := method_3_code
def yL_set : MethodName := ⟨RL, "set", "(LStudioAirtime;II[J)I"⟩
abbrev cL_setQuota : ByteArray := method_4_code
def yL_setQuota : MethodName := ⟨RL, "setQuota", "(LStudioAirtime;II[J)I"⟩
abbrev cL_add : ByteArray := method_5_code
def yL_add : MethodName := ⟨RL, "add", "(LStudioAirtime;ZIIIII[J)I"⟩
abbrev cL_repeat : ByteArray := method_6_code
def yL_repeat : MethodName := ⟨RL, "repeat", "(LStudioAirtime;III[J)I"⟩
abbrev cL_remove : ByteArray := method_7_code
def yL_remove : MethodName := ⟨RL, "remove", "(LStudioAirtime;I[J)I"⟩
abbrev cL_overrun : ByteArray := method_8_code
def yL_overrun : MethodName := ⟨RL, "overrun", "(LStudioAirtime;II[J)I"⟩
abbrev cL_closeWeek : ByteArray := method_9_code
def yL_closeWeek : MethodName := ⟨RL, "closeWeek", "(LStudioAirtime;[J)I"⟩
abbrev cL_append : ByteArray := method_10_code
def yL_append : MethodName := ⟨RL, "append", "(LStudioAirtime;I[J)I"⟩
abbrev cL_load : ByteArray := method_11_code
def yL_load : MethodName := ⟨RL, "load", "(LStudioAirtime;[J)I"⟩
abbrev cL_undo : ByteArray := method_12_code
def yL_undo : MethodName := ⟨RL, "undo", "(LStudioAirtime;[J)I"⟩
abbrev cL_show : ByteArray := method_13_code
def yL_show : MethodName := ⟨RL, "show", "(LStudioAirtime;II[J)I"⟩
abbrev cL_group : ByteArray := method_14_code
def yL_group : MethodName := ⟨RL, "group", "(LStudioAirtime;II[J)I"⟩
abbrev cL_sponsors : ByteArray := method_15_code
def yL_sponsors : MethodName := ⟨RL, "sponsors", "(LStudioAirtime;IIZ[J)I"⟩
abbrev cL_day : ByteArray := method_16_code
def yL_day : MethodName := ⟨RL, "day", "(LStudioAirtime;II[J)I"⟩
abbrev cL_count : ByteArray := method_17_code
def yL_count : MethodName := ⟨RL, "count", "(LStudioAirtime;I[J)I"⟩
abbrev cL_setting : ByteArray := method_18_code
def yL_setting : MethodName := ⟨RL, "setting", "(LStudioAirtime;I[J)I"⟩
abbrev cL_why : ByteArray := method_19_code
def yL_why : MethodName := ⟨RL, "why", "(LStudioAirtime;IIII[J)I"⟩
abbrev cL_firstTime : ByteArray := method_20_code
def yL_firstTime : MethodName := ⟨RL, "firstTime", "(LStudioAirtime;III[J)I"⟩
abbrev cL_firstRepeat : ByteArray := method_21_code
def yL_firstRepeat : MethodName := ⟨RL, "firstRepeat", "(LStudioAirtime;I[J)I"⟩
abbrev cL_ifOverrun : ByteArray := method_22_code
def yL_ifOverrun : MethodName := ⟨RL, "ifOverrun", "(LStudioAirtime;III[J)I"⟩
abbrev cL_greatestOverrun : ByteArray := method_23_code
def yL_greatestOverrun : MethodName := ⟨RL, "greatestOverrun", "(LStudioAirtime;I[J)I"⟩
abbrev cL_law : ByteArray := code
def yL_law : MethodName := ⟨RL, "law", "([I)Z"⟩
abbrev vwCl : List vw_C := [(RX0, TX0, 5), (RX1, TX1, 1), (RX2, TX2, 3), (RX3, TX3, 16), (RX4, TX4, 7), (RX5, TX5, 4), (RX6, TX6, 7), (RX7, TX7, 18)]
end
section
theorem dX0_init_0 : decode cX0_init 0 = .ok (.aload_n 0, 1) := by decide +kernel
theorem dX0_init_1 : decode cX0_init 1 = .ok (.invokespecial 3, 3) := by decide +kernel
theorem dX0_init_4 : decode cX0_init 4 = .ok (.aload_n 0, 1) := by decide +kernel
theorem dX0_init_5 : decode cX0_init 5 = .ok (.bipush 24, 2) := by decide +kernel
theorem dX0_init_7 : decode cX0_init 7 = .ok (.newarray .int, 2) := by decide +kernel
theorem dX0_init_9 : decode cX0_init 9 = .ok (.putfield 9, 3) := by decide +kernel
theorem dX0_init_12 : decode cX0_init 12 = .ok (.aload_n 0, 1) := by decide +kernel
theorem dX0_init_13 : decode cX0_init 13 = .ok (.bipush 24, 2) := by decide +kernel
theorem dX0_init_15 : decode cX0_init 15 = .ok (.newarray .int, 2) := by decide +kernel
theorem dX0_init_17 : decode cX0_init 17 = .ok (.putfield 15, 3) := by decide +kernel
theorem dX0_init_20 : decode cX0_init 20 = .ok (.aload_n 0, 1) := by decide +kernel
theorem dX0_init_21 : decode cX0_init 21 = .ok (.bipush 24, 2) := by decide +kernel
theorem dX0_init_23 : decode cX0_init 23 = .ok (.newarray .int, 2) := by decide +kernel
theorem dX0_init_25 : decode cX0_init 25 = .ok (.putfield 18, 3) := by decide +kernel
theorem dX0_init_28 : decode cX0_init 28 = .ok (.aload_n 0, 1) := by decide +kernel
theorem dX0_init_29 : decode cX0_init 29 = .ok (.bipush 24, 2) := by decide +kernel
theorem dX0_init_31 : decode cX0_init 31 = .ok (.newarray .boolean, 2) := by decide +kernel
theorem dX0_init_33 : decode cX0_init 33 = .ok (.putfield 21, 3) := by decide +kernel
theorem dX0_init_36 : decode cX0_init 36 = .ok (.aload_n 0, 1) := by decide +kernel
theorem dX0_init_37 : decode cX0_init 37 = .ok (.bipush 7, 2) := by decide +kernel
theorem dX0_init_39 : decode cX0_init 39 = .ok (.newarray .int, 2) := by decide +kernel
theorem dX0_init_41 : decode cX0_init 41 = .ok (.putfield 25, 3) := by decide +kernel
theorem dX0_init_44 : decode cX0_init 44 = .ok (.return_, 1) := by decide +kernel
theorem dX0_play_0 : decode cX0_play 0 = .ok (.aload_n 0, 1) := by decide +kernel
theorem dX0_play_1 : decode cX0_play 1 = .ok (.aload_n 1, 1) := by decide +kernel
theorem dX0_play_2 : decode cX0_play 2 = .ok (.iconst (-1), 1) := by decide +kernel
theorem dX0_play_3 : decode cX0_play 3 = .ok (.iconst 0, 1) := by decide +kernel
theorem dX0_play_4 : decode cX0_play 4 = .ok (.invokevirtual 28, 3) := by decide +kernel
theorem dX0_play_7 : decode cX0_play 7 = .ok (.return_, 1) := by decide +kernel
theorem dX0_playWith_0 : decode cX0_playWith 0 = .ok (.iconst 0, 1) := by decide +kernel
theorem dX0_playWith_1 : decode cX0_playWith 1 = .ok (.istore 4, 2) := by decide +kernel
theorem dX0_playWith_3 : decode cX0_playWith 3 = .ok (.iload 4, 2) := by decide +kernel
theorem dX0_playWith_5 : decode cX0_playWith 5 = .ok (.bipush 7, 2) := by decide +kernel
theorem dX0_playWith_7 : decode cX0_playWith 7 = .ok (.if_icmp .ge 22, 3) := by decide +kernel
theorem dX0_playWith_10 : decode cX0_playWith 10 = .ok (.aload_n 0, 1) := by decide +kernel
theorem dX0_playWith_11 : decode cX0_playWith 11 = .ok (.getfield 25, 3) := by decide +kernel
theorem dX0_playWith_14 : decode cX0_playWith 14 = .ok (.iload 4, 2) := by decide +kernel
theorem dX0_playWith_16 : decode cX0_playWith 16 = .ok (.aload_n 1, 1) := by decide +kernel
theorem dX0_playWith_17 : decode cX0_playWith 17 = .ok (.getfield 32, 3) := by decide +kernel
theorem dX0_playWith_20 : decode cX0_playWith 20 = .ok (.iconst 0, 1) := by decide +kernel
theorem dX0_playWith_21 : decode cX0_playWith 21 = .ok (.iaload, 1) := by decide +kernel
theorem dX0_playWith_22 : decode cX0_playWith 22 = .ok (.iastore, 1) := by decide +kernel
theorem dX0_playWith_23 : decode cX0_playWith 23 = .ok (.iinc 4 1, 3) := by decide +kernel
theorem dX0_playWith_26 : decode cX0_playWith 26 = .ok (.goto (-23), 3) := by decide +kernel
theorem dX0_playWith_29 : decode cX0_playWith 29 = .ok (.iconst 0, 1) := by decide +kernel
theorem dX0_playWith_30 : decode cX0_playWith 30 = .ok (.istore 4, 2) := by decide +kernel
theorem dX0_playWith_32 : decode cX0_playWith 32 = .ok (.iload 4, 2) := by decide +kernel
theorem dX0_playWith_34 : decode cX0_playWith 34 = .ok (.aload_n 1, 1) := by decide +kernel
theorem dX0_playWith_35 : decode cX0_playWith 35 = .ok (.getfield 37, 3) := by decide +kernel
theorem dX0_playWith_38 : decode cX0_playWith 38 = .ok (.if_icmp .ge 33, 3) := by decide +kernel
theorem dX0_playWith_41 : decode cX0_playWith 41 = .ok (.aload_n 0, 1) := by decide +kernel
theorem dX0_playWith_42 : decode cX0_playWith 42 = .ok (.aload_n 1, 1) := by decide +kernel
theorem dX0_playWith_43 : decode cX0_playWith 43 = .ok (.iload 4, 2) := by decide +kernel
theorem dX0_playWith_45 : decode cX0_playWith 45 = .ok (.iload 4, 2) := by decide +kernel
theorem dX0_playWith_47 : decode cX0_playWith 47 = .ok (.iload_n 2, 1) := by decide +kernel
theorem dX0_playWith_48 : decode cX0_playWith 48 = .ok (.if_icmp .ne 7, 3) := by decide +kernel
theorem dX0_playWith_51 : decode cX0_playWith 51 = .ok (.iload_n 3, 1) := by decide +kernel
theorem dX0_playWith_52 : decode cX0_playWith 52 = .ok (.goto 10, 3) := by decide +kernel
theorem dX0_playWith_55 : decode cX0_playWith 55 = .ok (.aload_n 1, 1) := by decide +kernel
theorem dX0_playWith_56 : decode cX0_playWith 56 = .ok (.getfield 41, 3) := by decide +kernel
theorem dX0_playWith_59 : decode cX0_playWith 59 = .ok (.iload 4, 2) := by decide +kernel
theorem dX0_playWith_61 : decode cX0_playWith 61 = .ok (.iaload, 1) := by decide +kernel
theorem dX0_playWith_62 : decode cX0_playWith 62 = .ok (.invokevirtual 44, 3) := by decide +kernel
theorem dX0_playWith_65 : decode cX0_playWith 65 = .ok (.iinc 4 1, 3) := by decide +kernel
theorem dX0_playWith_68 : decode cX0_playWith 68 = .ok (.goto (-36), 3) := by decide +kernel
theorem dX0_playWith_71 : decode cX0_playWith 71 = .ok (.return_, 1) := by decide +kernel
theorem dX0_playShow_0 : decode cX0_playShow 0 = .ok (.aload_n 1, 1) := by decide +kernel
theorem dX0_playShow_1 : decode cX0_playShow 1 = .ok (.getfield 47, 3) := by decide +kernel
theorem dX0_playShow_4 : decode cX0_playShow 4 = .ok (.iload_n 2, 1) := by decide +kernel
theorem dX0_playShow_5 : decode cX0_playShow 5 = .ok (.iaload, 1) := by decide +kernel
theorem dX0_playShow_6 : decode cX0_playShow 6 = .ok (.istore 4, 2) := by decide +kernel
theorem dX0_playShow_8 : decode cX0_playShow 8 = .ok (.aload_n 1, 1) := by decide +kernel
theorem dX0_playShow_9 : decode cX0_playShow 9 = .ok (.getfield 50, 3) := by decide +kernel
theorem dX0_playShow_12 : decode cX0_playShow 12 = .ok (.iload_n 2, 1) := by decide +kernel
theorem dX0_playShow_13 : decode cX0_playShow 13 = .ok (.iaload, 1) := by decide +kernel
theorem dX0_playShow_14 : decode cX0_playShow 14 = .ok (.aload_n 0, 1) := by decide +kernel
theorem dX0_playShow_15 : decode cX0_playShow 15 = .ok (.getfield 25, 3) := by decide +kernel
theorem dX0_playShow_18 : decode cX0_playShow 18 = .ok (.iload 4, 2) := by decide +kernel
theorem dX0_playShow_20 : decode cX0_playShow 20 = .ok (.iaload, 1) := by decide +kernel
theorem dX0_playShow_21 : decode cX0_playShow 21 = .ok (.invokestatic 51, 3) := by decide +kernel
theorem dX0_playShow_24 : decode cX0_playShow 24 = .ok (.istore 5, 2) := by decide +kernel
theorem dX0_playShow_26 : decode cX0_playShow 26 = .ok (.aload_n 1, 1) := by decide +kernel
theorem dX0_playShow_27 : decode cX0_playShow 27 = .ok (.getfield 32, 3) := by decide +kernel
theorem dX0_playShow_30 : decode cX0_playShow 30 = .ok (.iconst 1, 1) := by decide +kernel
theorem dX0_playShow_31 : decode cX0_playShow 31 = .ok (.iaload, 1) := by decide +kernel
theorem dX0_playShow_32 : decode cX0_playShow 32 = .ok (.iload 5, 2) := by decide +kernel
theorem dX0_playShow_34 : decode cX0_playShow 34 = .ok (.isub, 1) := by decide +kernel
theorem dX0_playShow_35 : decode cX0_playShow 35 = .ok (.istore 6, 2) := by decide +kernel
theorem dX0_playShow_37 : decode cX0_playShow 37 = .ok (.aload_n 0, 1) := by decide +kernel
theorem dX0_playShow_38 : decode cX0_playShow 38 = .ok (.getfield 18, 3) := by decide +kernel
theorem dX0_playShow_41 : decode cX0_playShow 41 = .ok (.iload_n 2, 1) := by decide +kernel
theorem dX0_playShow_42 : decode cX0_playShow 42 = .ok (.iload 5, 2) := by decide +kernel
theorem dX0_playShow_44 : decode cX0_playShow 44 = .ok (.aload_n 1, 1) := by decide +kernel
theorem dX0_playShow_45 : decode cX0_playShow 45 = .ok (.getfield 50, 3) := by decide +kernel
theorem dX0_playShow_48 : decode cX0_playShow 48 = .ok (.iload_n 2, 1) := by decide +kernel
theorem dX0_playShow_49 : decode cX0_playShow 49 = .ok (.iaload, 1) := by decide +kernel
theorem dX0_playShow_50 : decode cX0_playShow 50 = .ok (.isub, 1) := by decide +kernel
theorem dX0_playShow_51 : decode cX0_playShow 51 = .ok (.iastore, 1) := by decide +kernel
theorem dX0_playShow_52 : decode cX0_playShow 52 = .ok (.aload_n 0, 1) := by decide +kernel
theorem dX0_playShow_53 : decode cX0_playShow 53 = .ok (.getfield 18, 3) := by decide +kernel
theorem dX0_playShow_56 : decode cX0_playShow 56 = .ok (.iload_n 2, 1) := by decide +kernel
theorem dX0_playShow_57 : decode cX0_playShow 57 = .ok (.iaload, 1) := by decide +kernel
theorem dX0_playShow_58 : decode cX0_playShow 58 = .ok (.aload_n 1, 1) := by decide +kernel
theorem dX0_playShow_59 : decode cX0_playShow 59 = .ok (.iload_n 2, 1) := by decide +kernel
theorem dX0_playShow_60 : decode cX0_playShow 60 = .ok (.invokevirtual 57, 3) := by decide +kernel
theorem dX0_playShow_63 : decode cX0_playShow 63 = .ok (.if_icmp .gt 8, 3) := by decide +kernel
theorem dX0_playShow_66 : decode cX0_playShow 66 = .ok (.iload 6, 2) := by decide +kernel
theorem dX0_playShow_68 : decode cX0_playShow 68 = .ok (.ifCond .gt 25, 3) := by decide +kernel
theorem dX0_playShow_71 : decode cX0_playShow 71 = .ok (.aload_n 0, 1) := by decide +kernel
theorem dX0_playShow_72 : decode cX0_playShow 72 = .ok (.getfield 9, 3) := by decide +kernel
theorem dX0_playShow_75 : decode cX0_playShow 75 = .ok (.iload_n 2, 1) := by decide +kernel
theorem dX0_playShow_76 : decode cX0_playShow 76 = .ok (.iconst (-1), 1) := by decide +kernel
theorem dX0_playShow_77 : decode cX0_playShow 77 = .ok (.iastore, 1) := by decide +kernel
theorem dX0_playShow_78 : decode cX0_playShow 78 = .ok (.aload_n 0, 1) := by decide +kernel
theorem dX0_playShow_79 : decode cX0_playShow 79 = .ok (.getfield 15, 3) := by decide +kernel
theorem dX0_playShow_82 : decode cX0_playShow 82 = .ok (.iload_n 2, 1) := by decide +kernel
theorem dX0_playShow_83 : decode cX0_playShow 83 = .ok (.iconst 0, 1) := by decide +kernel
theorem dX0_playShow_84 : decode cX0_playShow 84 = .ok (.iastore, 1) := by decide +kernel
theorem dX0_playShow_85 : decode cX0_playShow 85 = .ok (.aload_n 0, 1) := by decide +kernel
theorem dX0_playShow_86 : decode cX0_playShow 86 = .ok (.getfield 21, 3) := by decide +kernel
theorem dX0_playShow_89 : decode cX0_playShow 89 = .ok (.iload_n 2, 1) := by decide +kernel
theorem dX0_playShow_90 : decode cX0_playShow 90 = .ok (.iconst 0, 1) := by decide +kernel
theorem dX0_playShow_91 : decode cX0_playShow 91 = .ok (.bastore, 1) := by decide +kernel
theorem dX0_playShow_92 : decode cX0_playShow 92 = .ok (.return_, 1) := by decide +kernel
theorem dX0_playShow_93 : decode cX0_playShow 93 = .ok (.iconst 1, 1) := by decide +kernel
theorem dX0_playShow_94 : decode cX0_playShow 94 = .ok (.aload_n 1, 1) := by decide +kernel
theorem dX0_playShow_95 : decode cX0_playShow 95 = .ok (.getfield 61, 3) := by decide +kernel
theorem dX0_playShow_98 : decode cX0_playShow 98 = .ok (.iload_n 2, 1) := by decide +kernel
theorem dX0_playShow_99 : decode cX0_playShow 99 = .ok (.iaload, 1) := by decide +kernel
theorem dX0_playShow_100 : decode cX0_playShow 100 = .ok (.iload_n 3, 1) := by decide +kernel
theorem dX0_playShow_101 : decode cX0_playShow 101 = .ok (.iadd, 1) := by decide +kernel
theorem dX0_playShow_102 : decode cX0_playShow 102 = .ok (.invokestatic 51, 3) := by decide +kernel
theorem dX0_playShow_105 : decode cX0_playShow 105 = .ok (.istore 7, 2) := by decide +kernel
theorem dX0_playShow_107 : decode cX0_playShow 107 = .ok (.aload_n 0, 1) := by decide +kernel
theorem dX0_playShow_108 : decode cX0_playShow 108 = .ok (.getfield 9, 3) := by decide +kernel
theorem dX0_playShow_111 : decode cX0_playShow 111 = .ok (.iload_n 2, 1) := by decide +kernel
theorem dX0_playShow_112 : decode cX0_playShow 112 = .ok (.iload 5, 2) := by decide +kernel
theorem dX0_playShow_114 : decode cX0_playShow 114 = .ok (.iastore, 1) := by decide +kernel
theorem dX0_playShow_115 : decode cX0_playShow 115 = .ok (.aload_n 0, 1) := by decide +kernel
theorem dX0_playShow_116 : decode cX0_playShow 116 = .ok (.getfield 15, 3) := by decide +kernel
theorem dX0_playShow_119 : decode cX0_playShow 119 = .ok (.iload_n 2, 1) := by decide +kernel
theorem dX0_playShow_120 : decode cX0_playShow 120 = .ok (.iload 7, 2) := by decide +kernel
theorem dX0_playShow_122 : decode cX0_playShow 122 = .ok (.iload 6, 2) := by decide +kernel
theorem dX0_playShow_124 : decode cX0_playShow 124 = .ok (.invokestatic 64, 3) := by decide +kernel
theorem dX0_playShow_127 : decode cX0_playShow 127 = .ok (.iastore, 1) := by decide +kernel
theorem dX0_playShow_128 : decode cX0_playShow 128 = .ok (.aload_n 0, 1) := by decide +kernel
theorem dX0_playShow_129 : decode cX0_playShow 129 = .ok (.getfield 21, 3) := by decide +kernel
theorem dX0_playShow_132 : decode cX0_playShow 132 = .ok (.iload_n 2, 1) := by decide +kernel
theorem dX0_playShow_133 : decode cX0_playShow 133 = .ok (.iload 7, 2) := by decide +kernel
theorem dX0_playShow_135 : decode cX0_playShow 135 = .ok (.iload 6, 2) := by decide +kernel
theorem dX0_playShow_137 : decode cX0_playShow 137 = .ok (.if_icmp .le 7, 3) := by decide +kernel
theorem dX0_playShow_140 : decode cX0_playShow 140 = .ok (.iconst 1, 1) := by decide +kernel
theorem dX0_playShow_141 : decode cX0_playShow 141 = .ok (.goto 4, 3) := by decide +kernel
theorem dX0_playShow_144 : decode cX0_playShow 144 = .ok (.iconst 0, 1) := by decide +kernel
theorem dX0_playShow_145 : decode cX0_playShow 145 = .ok (.bastore, 1) := by decide +kernel
theorem dX0_playShow_146 : decode cX0_playShow 146 = .ok (.aload_n 0, 1) := by decide +kernel
theorem dX0_playShow_147 : decode cX0_playShow 147 = .ok (.getfield 25, 3) := by decide +kernel
theorem dX0_playShow_150 : decode cX0_playShow 150 = .ok (.iload 4, 2) := by decide +kernel
theorem dX0_playShow_152 : decode cX0_playShow 152 = .ok (.iload 5, 2) := by decide +kernel
theorem dX0_playShow_154 : decode cX0_playShow 154 = .ok (.aload_n 0, 1) := by decide +kernel
theorem dX0_playShow_155 : decode cX0_playShow 155 = .ok (.getfield 15, 3) := by decide +kernel
theorem dX0_playShow_158 : decode cX0_playShow 158 = .ok (.iload_n 2, 1) := by decide +kernel
theorem dX0_playShow_159 : decode cX0_playShow 159 = .ok (.iaload, 1) := by decide +kernel
theorem dX0_playShow_160 : decode cX0_playShow 160 = .ok (.iadd, 1) := by decide +kernel
theorem dX0_playShow_161 : decode cX0_playShow 161 = .ok (.iastore, 1) := by decide +kernel
theorem dX0_playShow_162 : decode cX0_playShow 162 = .ok (.return_, 1) := by decide +kernel
theorem dX0_isDropped_0 : decode cX0_isDropped 0 = .ok (.aload_n 0, 1) := by decide +kernel
theorem dX0_isDropped_1 : decode cX0_isDropped 1 = .ok (.getfield 9, 3) := by decide +kernel
theorem dX0_isDropped_4 : decode cX0_isDropped 4 = .ok (.iload_n 1, 1) := by decide +kernel
theorem dX0_isDropped_5 : decode cX0_isDropped 5 = .ok (.iaload, 1) := by decide +kernel
theorem dX0_isDropped_6 : decode cX0_isDropped 6 = .ok (.iconst (-1), 1) := by decide +kernel
theorem dX0_isDropped_7 : decode cX0_isDropped 7 = .ok (.if_icmp .ne 7, 3) := by decide +kernel
theorem dX0_isDropped_10 : decode cX0_isDropped 10 = .ok (.iconst 1, 1) := by decide +kernel
theorem dX0_isDropped_11 : decode cX0_isDropped 11 = .ok (.goto 4, 3) := by decide +kernel
theorem dX0_isDropped_14 : decode cX0_isDropped 14 = .ok (.iconst 0, 1) := by decide +kernel
theorem dX0_isDropped_15 : decode cX0_isDropped 15 = .ok (.ireturn, 1) := by decide +kernel
theorem dX0_isDelayed_0 : decode cX0_isDelayed 0 = .ok (.aload_n 0, 1) := by decide +kernel
theorem dX0_isDelayed_1 : decode cX0_isDelayed 1 = .ok (.iload_n 1, 1) := by decide +kernel
theorem dX0_isDelayed_2 : decode cX0_isDelayed 2 = .ok (.invokevirtual 67, 3) := by decide +kernel
theorem dX0_isDelayed_5 : decode cX0_isDelayed 5 = .ok (.ifCond .ne 16, 3) := by decide +kernel
theorem dX0_isDelayed_8 : decode cX0_isDelayed 8 = .ok (.aload_n 0, 1) := by decide +kernel
theorem dX0_isDelayed_9 : decode cX0_isDelayed 9 = .ok (.getfield 18, 3) := by decide +kernel
theorem dX0_isDelayed_12 : decode cX0_isDelayed 12 = .ok (.iload_n 1, 1) := by decide +kernel
theorem dX0_isDelayed_13 : decode cX0_isDelayed 13 = .ok (.iaload, 1) := by decide +kernel
theorem dX0_isDelayed_14 : decode cX0_isDelayed 14 = .ok (.ifCond .le 7, 3) := by decide +kernel
theorem dX0_isDelayed_17 : decode cX0_isDelayed 17 = .ok (.iconst 1, 1) := by decide +kernel
theorem dX0_isDelayed_18 : decode cX0_isDelayed 18 = .ok (.goto 4, 3) := by decide +kernel
theorem dX0_isDelayed_21 : decode cX0_isDelayed 21 = .ok (.iconst 0, 1) := by decide +kernel
theorem dX0_isDelayed_22 : decode cX0_isDelayed 22 = .ok (.ireturn, 1) := by decide +kernel
theorem dX0_fate_0 : decode cX0_fate 0 = .ok (.aload_n 0, 1) := by decide +kernel
theorem dX0_fate_1 : decode cX0_fate 1 = .ok (.iload_n 1, 1) := by decide +kernel
theorem dX0_fate_2 : decode cX0_fate 2 = .ok (.invokevirtual 67, 3) := by decide +kernel
theorem dX0_fate_5 : decode cX0_fate 5 = .ok (.ifCond .eq 7, 3) := by decide +kernel
theorem dX0_fate_8 : decode cX0_fate 8 = .ok (.iconst 2, 1) := by decide +kernel
theorem dX0_fate_9 : decode cX0_fate 9 = .ok (.goto 16, 3) := by decide +kernel
theorem dX0_fate_12 : decode cX0_fate 12 = .ok (.aload_n 0, 1) := by decide +kernel
theorem dX0_fate_13 : decode cX0_fate 13 = .ok (.iload_n 1, 1) := by decide +kernel
theorem dX0_fate_14 : decode cX0_fate 14 = .ok (.invokevirtual 71, 3) := by decide +kernel
theorem dX0_fate_17 : decode cX0_fate 17 = .ok (.ifCond .eq 7, 3) := by decide +kernel
theorem dX0_fate_20 : decode cX0_fate 20 = .ok (.iconst 1, 1) := by decide +kernel
theorem dX0_fate_21 : decode cX0_fate 21 = .ok (.goto 4, 3) := by decide +kernel
theorem dX0_fate_24 : decode cX0_fate 24 = .ok (.iconst 0, 1) := by decide +kernel
theorem dX0_fate_25 : decode cX0_fate 25 = .ok (.istore_n 2, 1) := by decide +kernel
theorem dX0_fate_26 : decode cX0_fate 26 = .ok (.aload_n 0, 1) := by decide +kernel
theorem dX0_fate_27 : decode cX0_fate 27 = .ok (.getfield 21, 3) := by decide +kernel
theorem dX0_fate_30 : decode cX0_fate 30 = .ok (.iload_n 1, 1) := by decide +kernel
theorem dX0_fate_31 : decode cX0_fate 31 = .ok (.baload, 1) := by decide +kernel
theorem dX0_fate_32 : decode cX0_fate 32 = .ok (.ifCond .eq 9, 3) := by decide +kernel
theorem dX0_fate_35 : decode cX0_fate 35 = .ok (.iload_n 2, 1) := by decide +kernel
theorem dX0_fate_36 : decode cX0_fate 36 = .ok (.iconst 4, 1) := by decide +kernel
theorem dX0_fate_37 : decode cX0_fate 37 = .ok (.iadd, 1) := by decide +kernel
theorem dX0_fate_38 : decode cX0_fate 38 = .ok (.goto 4, 3) := by decide +kernel
theorem dX0_fate_41 : decode cX0_fate 41 = .ok (.iload_n 2, 1) := by decide +kernel
theorem dX0_fate_42 : decode cX0_fate 42 = .ok (.ireturn, 1) := by decide +kernel
theorem dX0_worthOfGroup_0 : decode cX0_worthOfGroup 0 = .ok (.iconst 0, 1) := by decide +kernel
theorem dX0_worthOfGroup_1 : decode cX0_worthOfGroup 1 = .ok (.istore_n 3, 1) := by decide +kernel
theorem dX0_worthOfGroup_2 : decode cX0_worthOfGroup 2 = .ok (.iconst 0, 1) := by decide +kernel
theorem dX0_worthOfGroup_3 : decode cX0_worthOfGroup 3 = .ok (.istore 4, 2) := by decide +kernel
theorem dX0_worthOfGroup_5 : decode cX0_worthOfGroup 5 = .ok (.iload 4, 2) := by decide +kernel
theorem dX0_worthOfGroup_7 : decode cX0_worthOfGroup 7 = .ok (.aload_n 1, 1) := by decide +kernel
theorem dX0_worthOfGroup_8 : decode cX0_worthOfGroup 8 = .ok (.getfield 37, 3) := by decide +kernel
theorem dX0_worthOfGroup_11 : decode cX0_worthOfGroup 11 = .ok (.if_icmp .ge 41, 3) := by decide +kernel
theorem dX0_worthOfGroup_14 : decode cX0_worthOfGroup 14 = .ok (.aload_n 1, 1) := by decide +kernel
theorem dX0_worthOfGroup_15 : decode cX0_worthOfGroup 15 = .ok (.getfield 74, 3) := by decide +kernel
theorem dX0_worthOfGroup_18 : decode cX0_worthOfGroup 18 = .ok (.iload 4, 2) := by decide +kernel
theorem dX0_worthOfGroup_20 : decode cX0_worthOfGroup 20 = .ok (.iaload, 1) := by decide +kernel
theorem dX0_worthOfGroup_21 : decode cX0_worthOfGroup 21 = .ok (.iload_n 2, 1) := by decide +kernel
theorem dX0_worthOfGroup_22 : decode cX0_worthOfGroup 22 = .ok (.if_icmp .ne 24, 3) := by decide +kernel
theorem dX0_worthOfGroup_25 : decode cX0_worthOfGroup 25 = .ok (.iload_n 3, 1) := by decide +kernel
theorem dX0_worthOfGroup_26 : decode cX0_worthOfGroup 26 = .ok (.aload_n 1, 1) := by decide +kernel
theorem dX0_worthOfGroup_27 : decode cX0_worthOfGroup 27 = .ok (.aload_n 1, 1) := by decide +kernel
theorem dX0_worthOfGroup_28 : decode cX0_worthOfGroup 28 = .ok (.getfield 77, 3) := by decide +kernel
theorem dX0_worthOfGroup_31 : decode cX0_worthOfGroup 31 = .ok (.iload 4, 2) := by decide +kernel
theorem dX0_worthOfGroup_33 : decode cX0_worthOfGroup 33 = .ok (.iaload, 1) := by decide +kernel
theorem dX0_worthOfGroup_34 : decode cX0_worthOfGroup 34 = .ok (.aload_n 0, 1) := by decide +kernel
theorem dX0_worthOfGroup_35 : decode cX0_worthOfGroup 35 = .ok (.getfield 15, 3) := by decide +kernel
theorem dX0_worthOfGroup_38 : decode cX0_worthOfGroup 38 = .ok (.iload 4, 2) := by decide +kernel
theorem dX0_worthOfGroup_40 : decode cX0_worthOfGroup 40 = .ok (.iaload, 1) := by decide +kernel
theorem dX0_worthOfGroup_41 : decode cX0_worthOfGroup 41 = .ok (.invokevirtual 80, 3) := by decide +kernel
theorem dX0_worthOfGroup_44 : decode cX0_worthOfGroup 44 = .ok (.iadd, 1) := by decide +kernel
theorem dX0_worthOfGroup_45 : decode cX0_worthOfGroup 45 = .ok (.istore_n 3, 1) := by decide +kernel
theorem dX0_worthOfGroup_46 : decode cX0_worthOfGroup 46 = .ok (.iinc 4 1, 3) := by decide +kernel
theorem dX0_worthOfGroup_49 : decode cX0_worthOfGroup 49 = .ok (.goto (-44), 3) := by decide +kernel
theorem dX0_worthOfGroup_52 : decode cX0_worthOfGroup 52 = .ok (.iload_n 3, 1) := by decide +kernel
theorem dX0_worthOfGroup_53 : decode cX0_worthOfGroup 53 = .ok (.ireturn, 1) := by decide +kernel
theorem dX0_sponsorsInHour_0 : decode cX0_sponsorsInHour 0 = .ok (.iconst 0, 1) := by decide +kernel
theorem dX0_sponsorsInHour_1 : decode cX0_sponsorsInHour 1 = .ok (.istore 4, 2) := by decide +kernel
theorem dX0_sponsorsInHour_3 : decode cX0_sponsorsInHour 3 = .ok (.iconst 0, 1) := by decide +kernel
theorem dX0_sponsorsInHour_4 : decode cX0_sponsorsInHour 4 = .ok (.istore 5, 2) := by decide +kernel
theorem dX0_sponsorsInHour_6 : decode cX0_sponsorsInHour 6 = .ok (.iload 5, 2) := by decide +kernel
theorem dX0_sponsorsInHour_8 : decode cX0_sponsorsInHour 8 = .ok (.aload_n 1, 1) := by decide +kernel
theorem dX0_sponsorsInHour_9 : decode cX0_sponsorsInHour 9 = .ok (.getfield 37, 3) := by decide +kernel
theorem dX0_sponsorsInHour_12 : decode cX0_sponsorsInHour 12 = .ok (.if_icmp .ge 62, 3) := by decide +kernel
theorem dX0_sponsorsInHour_15 : decode cX0_sponsorsInHour 15 = .ok (.aload_n 1, 1) := by decide +kernel
theorem dX0_sponsorsInHour_16 : decode cX0_sponsorsInHour 16 = .ok (.getfield 47, 3) := by decide +kernel
theorem dX0_sponsorsInHour_19 : decode cX0_sponsorsInHour 19 = .ok (.iload 5, 2) := by decide +kernel
theorem dX0_sponsorsInHour_21 : decode cX0_sponsorsInHour 21 = .ok (.iaload, 1) := by decide +kernel
theorem dX0_sponsorsInHour_22 : decode cX0_sponsorsInHour 22 = .ok (.iload_n 2, 1) := by decide +kernel
theorem dX0_sponsorsInHour_23 : decode cX0_sponsorsInHour 23 = .ok (.if_icmp .ne 45, 3) := by decide +kernel
theorem dX0_sponsorsInHour_26 : decode cX0_sponsorsInHour 26 = .ok (.aload_n 0, 1) := by decide +kernel
theorem dX0_sponsorsInHour_27 : decode cX0_sponsorsInHour 27 = .ok (.iload 5, 2) := by decide +kernel
theorem dX0_sponsorsInHour_29 : decode cX0_sponsorsInHour 29 = .ok (.invokevirtual 67, 3) := by decide +kernel
theorem dX0_sponsorsInHour_32 : decode cX0_sponsorsInHour 32 = .ok (.ifCond .ne 36, 3) := by decide +kernel
theorem dX0_sponsorsInHour_35 : decode cX0_sponsorsInHour 35 = .ok (.iload 4, 2) := by decide +kernel
theorem dX0_sponsorsInHour_37 : decode cX0_sponsorsInHour 37 = .ok (.aload_n 0, 1) := by decide +kernel
theorem dX0_sponsorsInHour_38 : decode cX0_sponsorsInHour 38 = .ok (.getfield 9, 3) := by decide +kernel
theorem dX0_sponsorsInHour_41 : decode cX0_sponsorsInHour 41 = .ok (.iload 5, 2) := by decide +kernel
theorem dX0_sponsorsInHour_43 : decode cX0_sponsorsInHour 43 = .ok (.iaload, 1) := by decide +kernel
theorem dX0_sponsorsInHour_44 : decode cX0_sponsorsInHour 44 = .ok (.aload_n 1, 1) := by decide +kernel
theorem dX0_sponsorsInHour_45 : decode cX0_sponsorsInHour 45 = .ok (.getfield 83, 3) := by decide +kernel
theorem dX0_sponsorsInHour_48 : decode cX0_sponsorsInHour 48 = .ok (.iload 5, 2) := by decide +kernel
theorem dX0_sponsorsInHour_50 : decode cX0_sponsorsInHour 50 = .ok (.iaload, 1) := by decide +kernel
theorem dX0_sponsorsInHour_51 : decode cX0_sponsorsInHour 51 = .ok (.aload_n 0, 1) := by decide +kernel
theorem dX0_sponsorsInHour_52 : decode cX0_sponsorsInHour 52 = .ok (.getfield 15, 3) := by decide +kernel
theorem dX0_sponsorsInHour_55 : decode cX0_sponsorsInHour 55 = .ok (.iload 5, 2) := by decide +kernel
theorem dX0_sponsorsInHour_57 : decode cX0_sponsorsInHour 57 = .ok (.iaload, 1) := by decide +kernel
theorem dX0_sponsorsInHour_58 : decode cX0_sponsorsInHour 58 = .ok (.invokestatic 64, 3) := by decide +kernel
theorem dX0_sponsorsInHour_61 : decode cX0_sponsorsInHour 61 = .ok (.iload_n 3, 1) := by decide +kernel
theorem dX0_sponsorsInHour_62 : decode cX0_sponsorsInHour 62 = .ok (.invokestatic 86, 3) := by decide +kernel
theorem dX0_sponsorsInHour_65 : decode cX0_sponsorsInHour 65 = .ok (.iadd, 1) := by decide +kernel
theorem dX0_sponsorsInHour_66 : decode cX0_sponsorsInHour 66 = .ok (.istore 4, 2) := by decide +kernel
theorem dX0_sponsorsInHour_68 : decode cX0_sponsorsInHour 68 = .ok (.iinc 5 1, 3) := by decide +kernel
theorem dX0_sponsorsInHour_71 : decode cX0_sponsorsInHour 71 = .ok (.goto (-65), 3) := by decide +kernel
theorem dX0_sponsorsInHour_74 : decode cX0_sponsorsInHour 74 = .ok (.iload 4, 2) := by decide +kernel
theorem dX0_sponsorsInHour_76 : decode cX0_sponsorsInHour 76 = .ok (.ireturn, 1) := by decide +kernel
theorem dX0_dayProperty_0 : decode cX0_dayProperty 0 = .ok (.iload_n 3, 1) := by decide +kernel
theorem dX0_dayProperty_1 : decode cX0_dayProperty 1 = .ok (.bipush 6, 2) := by decide +kernel
theorem dX0_dayProperty_3 : decode cX0_dayProperty 3 = .ok (.if_icmp .ne 10, 3) := by decide +kernel
theorem dX0_dayProperty_6 : decode cX0_dayProperty 6 = .ok (.aload_n 0, 1) := by decide +kernel
theorem dX0_dayProperty_7 : decode cX0_dayProperty 7 = .ok (.getfield 25, 3) := by decide +kernel
theorem dX0_dayProperty_10 : decode cX0_dayProperty 10 = .ok (.iload_n 2, 1) := by decide +kernel
theorem dX0_dayProperty_11 : decode cX0_dayProperty 11 = .ok (.iaload, 1) := by decide +kernel
theorem dX0_dayProperty_12 : decode cX0_dayProperty 12 = .ok (.ireturn, 1) := by decide +kernel
theorem dX0_dayProperty_13 : decode cX0_dayProperty 13 = .ok (.iload_n 3, 1) := by decide +kernel
theorem dX0_dayProperty_14 : decode cX0_dayProperty 14 = .ok (.bipush 7, 2) := by decide +kernel
theorem dX0_dayProperty_16 : decode cX0_dayProperty 16 = .ok (.if_icmp .ne 10, 3) := by decide +kernel
theorem dX0_dayProperty_19 : decode cX0_dayProperty 19 = .ok (.aload_n 0, 1) := by decide +kernel
theorem dX0_dayProperty_20 : decode cX0_dayProperty 20 = .ok (.aload_n 1, 1) := by decide +kernel
theorem dX0_dayProperty_21 : decode cX0_dayProperty 21 = .ok (.iload_n 2, 1) := by decide +kernel
theorem dX0_dayProperty_22 : decode cX0_dayProperty 22 = .ok (.invokevirtual 90, 3) := by decide +kernel
theorem dX0_dayProperty_25 : decode cX0_dayProperty 25 = .ok (.ireturn, 1) := by decide +kernel
theorem dX0_dayProperty_26 : decode cX0_dayProperty 26 = .ok (.iconst 0, 1) := by decide +kernel
theorem dX0_dayProperty_27 : decode cX0_dayProperty 27 = .ok (.istore 4, 2) := by decide +kernel
theorem dX0_dayProperty_29 : decode cX0_dayProperty 29 = .ok (.iconst 0, 1) := by decide +kernel
theorem dX0_dayProperty_30 : decode cX0_dayProperty 30 = .ok (.istore 5, 2) := by decide +kernel
theorem dX0_dayProperty_32 : decode cX0_dayProperty 32 = .ok (.iload 5, 2) := by decide +kernel
theorem dX0_dayProperty_34 : decode cX0_dayProperty 34 = .ok (.aload_n 1, 1) := by decide +kernel
theorem dX0_dayProperty_35 : decode cX0_dayProperty 35 = .ok (.getfield 37, 3) := by decide +kernel
theorem dX0_dayProperty_38 : decode cX0_dayProperty 38 = .ok (.if_icmp .ge 33, 3) := by decide +kernel
theorem dX0_dayProperty_41 : decode cX0_dayProperty 41 = .ok (.aload_n 1, 1) := by decide +kernel
theorem dX0_dayProperty_42 : decode cX0_dayProperty 42 = .ok (.getfield 47, 3) := by decide +kernel
theorem dX0_dayProperty_45 : decode cX0_dayProperty 45 = .ok (.iload 5, 2) := by decide +kernel
theorem dX0_dayProperty_47 : decode cX0_dayProperty 47 = .ok (.iaload, 1) := by decide +kernel
theorem dX0_dayProperty_48 : decode cX0_dayProperty 48 = .ok (.iload_n 2, 1) := by decide +kernel
theorem dX0_dayProperty_49 : decode cX0_dayProperty 49 = .ok (.if_icmp .ne 16, 3) := by decide +kernel
theorem dX0_dayProperty_52 : decode cX0_dayProperty 52 = .ok (.iload 4, 2) := by decide +kernel
theorem dX0_dayProperty_54 : decode cX0_dayProperty 54 = .ok (.aload_n 0, 1) := by decide +kernel
theorem dX0_dayProperty_55 : decode cX0_dayProperty 55 = .ok (.aload_n 1, 1) := by decide +kernel
theorem dX0_dayProperty_56 : decode cX0_dayProperty 56 = .ok (.iload 5, 2) := by decide +kernel
theorem dX0_dayProperty_58 : decode cX0_dayProperty 58 = .ok (.iload_n 3, 1) := by decide +kernel
theorem dX0_dayProperty_59 : decode cX0_dayProperty 59 = .ok (.invokevirtual 94, 3) := by decide +kernel
theorem dX0_dayProperty_62 : decode cX0_dayProperty 62 = .ok (.iadd, 1) := by decide +kernel
theorem dX0_dayProperty_63 : decode cX0_dayProperty 63 = .ok (.istore 4, 2) := by decide +kernel
theorem dX0_dayProperty_65 : decode cX0_dayProperty 65 = .ok (.iinc 5 1, 3) := by decide +kernel
theorem dX0_dayProperty_68 : decode cX0_dayProperty 68 = .ok (.goto (-36), 3) := by decide +kernel
theorem dX0_dayProperty_71 : decode cX0_dayProperty 71 = .ok (.iload 4, 2) := by decide +kernel
theorem dX0_dayProperty_73 : decode cX0_dayProperty 73 = .ok (.ireturn, 1) := by decide +kernel
theorem dX0_minutesOfWeek_0 : decode cX0_minutesOfWeek 0 = .ok (.aload_n 0, 1) := by decide +kernel
theorem dX0_minutesOfWeek_1 : decode cX0_minutesOfWeek 1 = .ok (.aload_n 1, 1) := by decide +kernel
theorem dX0_minutesOfWeek_2 : decode cX0_minutesOfWeek 2 = .ok (.iconst 2, 1) := by decide +kernel
theorem dX0_minutesOfWeek_3 : decode cX0_minutesOfWeek 3 = .ok (.invokevirtual 98, 3) := by decide +kernel
theorem dX0_minutesOfWeek_6 : decode cX0_minutesOfWeek 6 = .ok (.ireturn, 1) := by decide +kernel
theorem dX0_delayedShows_0 : decode cX0_delayedShows 0 = .ok (.aload_n 0, 1) := by decide +kernel
theorem dX0_delayedShows_1 : decode cX0_delayedShows 1 = .ok (.aload_n 1, 1) := by decide +kernel
theorem dX0_delayedShows_2 : decode cX0_delayedShows 2 = .ok (.iconst 3, 1) := by decide +kernel
theorem dX0_delayedShows_3 : decode cX0_delayedShows 3 = .ok (.invokevirtual 98, 3) := by decide +kernel
theorem dX0_delayedShows_6 : decode cX0_delayedShows 6 = .ok (.ireturn, 1) := by decide +kernel
theorem dX0_droppedShows_0 : decode cX0_droppedShows 0 = .ok (.aload_n 0, 1) := by decide +kernel
theorem dX0_droppedShows_1 : decode cX0_droppedShows 1 = .ok (.aload_n 1, 1) := by decide +kernel
theorem dX0_droppedShows_2 : decode cX0_droppedShows 2 = .ok (.iconst 4, 1) := by decide +kernel
theorem dX0_droppedShows_3 : decode cX0_droppedShows 3 = .ok (.invokevirtual 98, 3) := by decide +kernel
theorem dX0_droppedShows_6 : decode cX0_droppedShows 6 = .ok (.ireturn, 1) := by decide +kernel
theorem dX0_sumOverWeek_0 : decode cX0_sumOverWeek 0 = .ok (.iconst 0, 1) := by decide +kernel
theorem dX0_sumOverWeek_1 : decode cX0_sumOverWeek 1 = .ok (.istore_n 3, 1) := by decide +kernel
theorem dX0_sumOverWeek_2 : decode cX0_sumOverWeek 2 = .ok (.iconst 0, 1) := by decide +kernel
theorem dX0_sumOverWeek_3 : decode cX0_sumOverWeek 3 = .ok (.istore 4, 2) := by decide +kernel
theorem dX0_sumOverWeek_5 : decode cX0_sumOverWeek 5 = .ok (.iload 4, 2) := by decide +kernel
theorem dX0_sumOverWeek_7 : decode cX0_sumOverWeek 7 = .ok (.aload_n 1, 1) := by decide +kernel
theorem dX0_sumOverWeek_8 : decode cX0_sumOverWeek 8 = .ok (.getfield 37, 3) := by decide +kernel
theorem dX0_sumOverWeek_11 : decode cX0_sumOverWeek 11 = .ok (.if_icmp .ge 20, 3) := by decide +kernel
theorem dX0_sumOverWeek_14 : decode cX0_sumOverWeek 14 = .ok (.iload_n 3, 1) := by decide +kernel
theorem dX0_sumOverWeek_15 : decode cX0_sumOverWeek 15 = .ok (.aload_n 0, 1) := by decide +kernel
theorem dX0_sumOverWeek_16 : decode cX0_sumOverWeek 16 = .ok (.aload_n 1, 1) := by decide +kernel
theorem dX0_sumOverWeek_17 : decode cX0_sumOverWeek 17 = .ok (.iload 4, 2) := by decide +kernel
theorem dX0_sumOverWeek_19 : decode cX0_sumOverWeek 19 = .ok (.iload_n 2, 1) := by decide +kernel
theorem dX0_sumOverWeek_20 : decode cX0_sumOverWeek 20 = .ok (.invokevirtual 94, 3) := by decide +kernel
theorem dX0_sumOverWeek_23 : decode cX0_sumOverWeek 23 = .ok (.iadd, 1) := by decide +kernel
theorem dX0_sumOverWeek_24 : decode cX0_sumOverWeek 24 = .ok (.istore_n 3, 1) := by decide +kernel
theorem dX0_sumOverWeek_25 : decode cX0_sumOverWeek 25 = .ok (.iinc 4 1, 3) := by decide +kernel
theorem dX0_sumOverWeek_28 : decode cX0_sumOverWeek 28 = .ok (.goto (-23), 3) := by decide +kernel
theorem dX0_sumOverWeek_31 : decode cX0_sumOverWeek 31 = .ok (.iload_n 3, 1) := by decide +kernel
theorem dX0_sumOverWeek_32 : decode cX0_sumOverWeek 32 = .ok (.ireturn, 1) := by decide +kernel
theorem dX0_partOfDay_0 : decode cX0_partOfDay 0 = .ok (.iload_n 3, 1) := by decide +kernel
theorem dX0_partOfDay_1 : decode cX0_partOfDay 1 = .ok (.tableswitch 79 0 4 #[35, 37, 44, 51, 65], 35) := by decide +kernel
theorem dX0_partOfDay_36 : decode cX0_partOfDay 36 = .ok (.iconst 1, 1) := by decide +kernel
theorem dX0_partOfDay_37 : decode cX0_partOfDay 37 = .ok (.ireturn, 1) := by decide +kernel
theorem dX0_partOfDay_38 : decode cX0_partOfDay 38 = .ok (.aload_n 1, 1) := by decide +kernel
theorem dX0_partOfDay_39 : decode cX0_partOfDay 39 = .ok (.getfield 61, 3) := by decide +kernel
theorem dX0_partOfDay_42 : decode cX0_partOfDay 42 = .ok (.iload_n 2, 1) := by decide +kernel
theorem dX0_partOfDay_43 : decode cX0_partOfDay 43 = .ok (.iaload, 1) := by decide +kernel
theorem dX0_partOfDay_44 : decode cX0_partOfDay 44 = .ok (.ireturn, 1) := by decide +kernel
theorem dX0_partOfDay_45 : decode cX0_partOfDay 45 = .ok (.aload_n 0, 1) := by decide +kernel
theorem dX0_partOfDay_46 : decode cX0_partOfDay 46 = .ok (.getfield 15, 3) := by decide +kernel
theorem dX0_partOfDay_49 : decode cX0_partOfDay 49 = .ok (.iload_n 2, 1) := by decide +kernel
theorem dX0_partOfDay_50 : decode cX0_partOfDay 50 = .ok (.iaload, 1) := by decide +kernel
theorem dX0_partOfDay_51 : decode cX0_partOfDay 51 = .ok (.ireturn, 1) := by decide +kernel
theorem dX0_partOfDay_52 : decode cX0_partOfDay 52 = .ok (.aload_n 0, 1) := by decide +kernel
theorem dX0_partOfDay_53 : decode cX0_partOfDay 53 = .ok (.iload_n 2, 1) := by decide +kernel
theorem dX0_partOfDay_54 : decode cX0_partOfDay 54 = .ok (.invokevirtual 71, 3) := by decide +kernel
theorem dX0_partOfDay_57 : decode cX0_partOfDay 57 = .ok (.ifCond .eq 7, 3) := by decide +kernel
theorem dX0_partOfDay_60 : decode cX0_partOfDay 60 = .ok (.iconst 1, 1) := by decide +kernel
theorem dX0_partOfDay_61 : decode cX0_partOfDay 61 = .ok (.goto 4, 3) := by decide +kernel
theorem dX0_partOfDay_64 : decode cX0_partOfDay 64 = .ok (.iconst 0, 1) := by decide +kernel
theorem dX0_partOfDay_65 : decode cX0_partOfDay 65 = .ok (.ireturn, 1) := by decide +kernel
theorem dX0_partOfDay_66 : decode cX0_partOfDay 66 = .ok (.aload_n 0, 1) := by decide +kernel
theorem dX0_partOfDay_67 : decode cX0_partOfDay 67 = .ok (.iload_n 2, 1) := by decide +kernel
theorem dX0_partOfDay_68 : decode cX0_partOfDay 68 = .ok (.invokevirtual 67, 3) := by decide +kernel
theorem dX0_partOfDay_71 : decode cX0_partOfDay 71 = .ok (.ifCond .eq 7, 3) := by decide +kernel
theorem dX0_partOfDay_74 : decode cX0_partOfDay 74 = .ok (.iconst 1, 1) := by decide +kernel
theorem dX0_partOfDay_75 : decode cX0_partOfDay 75 = .ok (.goto 4, 3) := by decide +kernel
theorem dX0_partOfDay_78 : decode cX0_partOfDay 78 = .ok (.iconst 0, 1) := by decide +kernel
theorem dX0_partOfDay_79 : decode cX0_partOfDay 79 = .ok (.ireturn, 1) := by decide +kernel
theorem dX0_partOfDay_80 : decode cX0_partOfDay 80 = .ok (.aload_n 0, 1) := by decide +kernel
theorem dX0_partOfDay_81 : decode cX0_partOfDay 81 = .ok (.iload_n 2, 1) := by decide +kernel
theorem dX0_partOfDay_82 : decode cX0_partOfDay 82 = .ok (.invokevirtual 67, 3) := by decide +kernel
theorem dX0_partOfDay_85 : decode cX0_partOfDay 85 = .ok (.ifCond .eq 7, 3) := by decide +kernel
theorem dX0_partOfDay_88 : decode cX0_partOfDay 88 = .ok (.iconst 0, 1) := by decide +kernel
theorem dX0_partOfDay_89 : decode cX0_partOfDay 89 = .ok (.goto 9, 3) := by decide +kernel
theorem dX0_partOfDay_92 : decode cX0_partOfDay 92 = .ok (.aload_n 0, 1) := by decide +kernel
theorem dX0_partOfDay_93 : decode cX0_partOfDay 93 = .ok (.getfield 18, 3) := by decide +kernel
theorem dX0_partOfDay_96 : decode cX0_partOfDay 96 = .ok (.iload_n 2, 1) := by decide +kernel
theorem dX0_partOfDay_97 : decode cX0_partOfDay 97 = .ok (.iaload, 1) := by decide +kernel
theorem dX0_partOfDay_98 : decode cX0_partOfDay 98 = .ok (.ireturn, 1) := by decide +kernel
theorem dX0_hoursAboveLimit_0 : decode cX0_hoursAboveLimit 0 = .ok (.iconst 0, 1) := by decide +kernel
theorem dX0_hoursAboveLimit_1 : decode cX0_hoursAboveLimit 1 = .ok (.istore_n 3, 1) := by decide +kernel
theorem dX0_hoursAboveLimit_2 : decode cX0_hoursAboveLimit 2 = .ok (.iconst 0, 1) := by decide +kernel
theorem dX0_hoursAboveLimit_3 : decode cX0_hoursAboveLimit 3 = .ok (.istore 4, 2) := by decide +kernel
theorem dX0_hoursAboveLimit_5 : decode cX0_hoursAboveLimit 5 = .ok (.iload 4, 2) := by decide +kernel
theorem dX0_hoursAboveLimit_7 : decode cX0_hoursAboveLimit 7 = .ok (.bipush 24, 2) := by decide +kernel
theorem dX0_hoursAboveLimit_9 : decode cX0_hoursAboveLimit 9 = .ok (.if_icmp .ge 30, 3) := by decide +kernel
theorem dX0_hoursAboveLimit_12 : decode cX0_hoursAboveLimit 12 = .ok (.aload_n 0, 1) := by decide +kernel
theorem dX0_hoursAboveLimit_13 : decode cX0_hoursAboveLimit 13 = .ok (.aload_n 1, 1) := by decide +kernel
theorem dX0_hoursAboveLimit_14 : decode cX0_hoursAboveLimit 14 = .ok (.iload_n 2, 1) := by decide +kernel
theorem dX0_hoursAboveLimit_15 : decode cX0_hoursAboveLimit 15 = .ok (.iload 4, 2) := by decide +kernel
theorem dX0_hoursAboveLimit_17 : decode cX0_hoursAboveLimit 17 = .ok (.invokevirtual 101, 3) := by decide +kernel
theorem dX0_hoursAboveLimit_20 : decode cX0_hoursAboveLimit 20 = .ok (.aload_n 1, 1) := by decide +kernel
theorem dX0_hoursAboveLimit_21 : decode cX0_hoursAboveLimit 21 = .ok (.getfield 32, 3) := by decide +kernel
theorem dX0_hoursAboveLimit_24 : decode cX0_hoursAboveLimit 24 = .ok (.bipush 6, 2) := by decide +kernel
theorem dX0_hoursAboveLimit_26 : decode cX0_hoursAboveLimit 26 = .ok (.iaload, 1) := by decide +kernel
theorem dX0_hoursAboveLimit_27 : decode cX0_hoursAboveLimit 27 = .ok (.if_icmp .le 6, 3) := by decide +kernel
theorem dX0_hoursAboveLimit_30 : decode cX0_hoursAboveLimit 30 = .ok (.iinc 3 1, 3) := by decide +kernel
theorem dX0_hoursAboveLimit_33 : decode cX0_hoursAboveLimit 33 = .ok (.iinc 4 1, 3) := by decide +kernel
theorem dX0_hoursAboveLimit_36 : decode cX0_hoursAboveLimit 36 = .ok (.goto (-31), 3) := by decide +kernel
theorem dX0_hoursAboveLimit_39 : decode cX0_hoursAboveLimit 39 = .ok (.iload_n 3, 1) := by decide +kernel
theorem dX0_hoursAboveLimit_40 : decode cX0_hoursAboveLimit 40 = .ok (.ireturn, 1) := by decide +kernel
theorem dX1_init_0 : decode cX1_init 0 = .ok (.aload_n 0, 1) := by decide +kernel
theorem dX1_init_1 : decode cX1_init 1 = .ok (.invokespecial 1, 3) := by decide +kernel
theorem dX1_init_4 : decode cX1_init 4 = .ok (.aload_n 0, 1) := by decide +kernel
theorem dX1_init_5 : decode cX1_init 5 = .ok (.ldc2_w 7, 3) := by decide +kernel
theorem dX1_init_8 : decode cX1_init 8 = .ok (.putfield 9, 3) := by decide +kernel
theorem dX1_init_11 : decode cX1_init 11 = .ok (.return_, 1) := by decide +kernel
theorem dX1_take_0 : decode cX1_take 0 = .ok (.aload_n 0, 1) := by decide +kernel
theorem dX1_take_1 : decode cX1_take 1 = .ok (.ldc2_w 15, 3) := by decide +kernel
theorem dX1_take_4 : decode cX1_take 4 = .ok (.aload_n 0, 1) := by decide +kernel
theorem dX1_take_5 : decode cX1_take 5 = .ok (.getfield 9, 3) := by decide +kernel
theorem dX1_take_8 : decode cX1_take 8 = .ok (.lmul, 1) := by decide +kernel
theorem dX1_take_9 : decode cX1_take 9 = .ok (.lload_n 1, 1) := by decide +kernel
theorem dX1_take_10 : decode cX1_take 10 = .ok (.ladd, 1) := by decide +kernel
theorem dX1_take_11 : decode cX1_take 11 = .ok (.putfield 9, 3) := by decide +kernel
theorem dX1_take_14 : decode cX1_take 14 = .ok (.return_, 1) := by decide +kernel
theorem dX2_init_0 : decode cX2_init 0 = .ok (.aload_n 0, 1) := by decide +kernel
theorem dX2_init_1 : decode cX2_init 1 = .ok (.invokespecial 3, 3) := by decide +kernel
theorem dX2_init_4 : decode cX2_init 4 = .ok (.aload_n 0, 1) := by decide +kernel
theorem dX2_init_5 : decode cX2_init 5 = .ok (.bipush 6, 2) := by decide +kernel
theorem dX2_init_7 : decode cX2_init 7 = .ok (.anewarray 9, 3) := by decide +kernel
theorem dX2_init_10 : decode cX2_init 10 = .ok (.putfield 11, 3) := by decide +kernel
theorem dX2_init_13 : decode cX2_init 13 = .ok (.return_, 1) := by decide +kernel
theorem dX2_save_0 : decode cX2_save 0 = .ok (.aload_n 0, 1) := by decide +kernel
theorem dX2_save_1 : decode cX2_save 1 = .ok (.getfield 17, 3) := by decide +kernel
theorem dX2_save_4 : decode cX2_save 4 = .ok (.bipush 6, 2) := by decide +kernel
theorem dX2_save_6 : decode cX2_save 6 = .ok (.if_icmp .ne 26, 3) := by decide +kernel
theorem dX2_save_9 : decode cX2_save 9 = .ok (.aload_n 0, 1) := by decide +kernel
theorem dX2_save_10 : decode cX2_save 10 = .ok (.aload_n 0, 1) := by decide +kernel
theorem dX2_save_11 : decode cX2_save 11 = .ok (.getfield 21, 3) := by decide +kernel
theorem dX2_save_14 : decode cX2_save 14 = .ok (.iconst 1, 1) := by decide +kernel
theorem dX2_save_15 : decode cX2_save 15 = .ok (.iadd, 1) := by decide +kernel
theorem dX2_save_16 : decode cX2_save 16 = .ok (.bipush 6, 2) := by decide +kernel
theorem dX2_save_18 : decode cX2_save 18 = .ok (.irem, 1) := by decide +kernel
theorem dX2_save_19 : decode cX2_save 19 = .ok (.putfield 21, 3) := by decide +kernel
theorem dX2_save_22 : decode cX2_save 22 = .ok (.aload_n 0, 1) := by decide +kernel
theorem dX2_save_23 : decode cX2_save 23 = .ok (.dup, 1) := by decide +kernel
theorem dX2_save_24 : decode cX2_save 24 = .ok (.getfield 17, 3) := by decide +kernel
theorem dX2_save_27 : decode cX2_save 27 = .ok (.iconst 1, 1) := by decide +kernel
theorem dX2_save_28 : decode cX2_save 28 = .ok (.isub, 1) := by decide +kernel
theorem dX2_save_29 : decode cX2_save 29 = .ok (.putfield 17, 3) := by decide +kernel
theorem dX2_save_32 : decode cX2_save 32 = .ok (.aload_n 0, 1) := by decide +kernel
theorem dX2_save_33 : decode cX2_save 33 = .ok (.getfield 21, 3) := by decide +kernel
theorem dX2_save_36 : decode cX2_save 36 = .ok (.aload_n 0, 1) := by decide +kernel
theorem dX2_save_37 : decode cX2_save 37 = .ok (.getfield 17, 3) := by decide +kernel
theorem dX2_save_40 : decode cX2_save 40 = .ok (.iadd, 1) := by decide +kernel
theorem dX2_save_41 : decode cX2_save 41 = .ok (.bipush 6, 2) := by decide +kernel
theorem dX2_save_43 : decode cX2_save 43 = .ok (.irem, 1) := by decide +kernel
theorem dX2_save_44 : decode cX2_save 44 = .ok (.istore_n 2, 1) := by decide +kernel
theorem dX2_save_45 : decode cX2_save 45 = .ok (.aload_n 0, 1) := by decide +kernel
theorem dX2_save_46 : decode cX2_save 46 = .ok (.getfield 11, 3) := by decide +kernel
theorem dX2_save_49 : decode cX2_save 49 = .ok (.iload_n 2, 1) := by decide +kernel
theorem dX2_save_50 : decode cX2_save 50 = .ok (.aaload, 1) := by decide +kernel
theorem dX2_save_51 : decode cX2_save 51 = .ok (.ifnonnull 16, 3) := by decide +kernel
theorem dX2_save_54 : decode cX2_save 54 = .ok (.aload_n 0, 1) := by decide +kernel
theorem dX2_save_55 : decode cX2_save 55 = .ok (.getfield 11, 3) := by decide +kernel
theorem dX2_save_58 : decode cX2_save 58 = .ok (.iload_n 2, 1) := by decide +kernel
theorem dX2_save_59 : decode cX2_save 59 = .ok (.new 9, 3) := by decide +kernel
theorem dX2_save_62 : decode cX2_save 62 = .ok (.dup, 1) := by decide +kernel
theorem dX2_save_63 : decode cX2_save 63 = .ok (.invokespecial 24, 3) := by decide +kernel
theorem dX2_save_66 : decode cX2_save 66 = .ok (.aastore, 1) := by decide +kernel
theorem dX2_save_67 : decode cX2_save 67 = .ok (.aload_n 0, 1) := by decide +kernel
theorem dX2_save_68 : decode cX2_save 68 = .ok (.getfield 11, 3) := by decide +kernel
theorem dX2_save_71 : decode cX2_save 71 = .ok (.iload_n 2, 1) := by decide +kernel
theorem dX2_save_72 : decode cX2_save 72 = .ok (.aaload, 1) := by decide +kernel
theorem dX2_save_73 : decode cX2_save 73 = .ok (.aload_n 1, 1) := by decide +kernel
theorem dX2_save_74 : decode cX2_save 74 = .ok (.invokevirtual 25, 3) := by decide +kernel
theorem dX2_save_77 : decode cX2_save 77 = .ok (.aload_n 0, 1) := by decide +kernel
theorem dX2_save_78 : decode cX2_save 78 = .ok (.dup, 1) := by decide +kernel
theorem dX2_save_79 : decode cX2_save 79 = .ok (.getfield 17, 3) := by decide +kernel
theorem dX2_save_82 : decode cX2_save 82 = .ok (.iconst 1, 1) := by decide +kernel
theorem dX2_save_83 : decode cX2_save 83 = .ok (.iadd, 1) := by decide +kernel
theorem dX2_save_84 : decode cX2_save 84 = .ok (.putfield 17, 3) := by decide +kernel
theorem dX2_save_87 : decode cX2_save 87 = .ok (.return_, 1) := by decide +kernel
theorem dX2_restore_0 : decode cX2_restore 0 = .ok (.aload_n 0, 1) := by decide +kernel
theorem dX2_restore_1 : decode cX2_restore 1 = .ok (.getfield 17, 3) := by decide +kernel
theorem dX2_restore_4 : decode cX2_restore 4 = .ok (.ifCond .ne 4, 3) := by decide +kernel
theorem dX2_restore_7 : decode cX2_restore 7 = .ok (.return_, 1) := by decide +kernel
theorem dX2_restore_8 : decode cX2_restore 8 = .ok (.aload_n 0, 1) := by decide +kernel
theorem dX2_restore_9 : decode cX2_restore 9 = .ok (.dup, 1) := by decide +kernel
theorem dX2_restore_10 : decode cX2_restore 10 = .ok (.getfield 17, 3) := by decide +kernel
theorem dX2_restore_13 : decode cX2_restore 13 = .ok (.iconst 1, 1) := by decide +kernel
theorem dX2_restore_14 : decode cX2_restore 14 = .ok (.isub, 1) := by decide +kernel
theorem dX2_restore_15 : decode cX2_restore 15 = .ok (.putfield 17, 3) := by decide +kernel
theorem dX2_restore_18 : decode cX2_restore 18 = .ok (.aload_n 0, 1) := by decide +kernel
theorem dX2_restore_19 : decode cX2_restore 19 = .ok (.getfield 11, 3) := by decide +kernel
theorem dX2_restore_22 : decode cX2_restore 22 = .ok (.aload_n 0, 1) := by decide +kernel
theorem dX2_restore_23 : decode cX2_restore 23 = .ok (.getfield 21, 3) := by decide +kernel
theorem dX2_restore_26 : decode cX2_restore 26 = .ok (.aload_n 0, 1) := by decide +kernel
theorem dX2_restore_27 : decode cX2_restore 27 = .ok (.getfield 17, 3) := by decide +kernel
theorem dX2_restore_30 : decode cX2_restore 30 = .ok (.iadd, 1) := by decide +kernel
theorem dX2_restore_31 : decode cX2_restore 31 = .ok (.bipush 6, 2) := by decide +kernel
theorem dX2_restore_33 : decode cX2_restore 33 = .ok (.irem, 1) := by decide +kernel
theorem dX2_restore_34 : decode cX2_restore 34 = .ok (.aaload, 1) := by decide +kernel
theorem dX2_restore_35 : decode cX2_restore 35 = .ok (.astore_n 2, 1) := by decide +kernel
theorem dX2_restore_36 : decode cX2_restore 36 = .ok (.aload_n 2, 1) := by decide +kernel
theorem dX2_restore_37 : decode cX2_restore 37 = .ok (.ifnull 8, 3) := by decide +kernel
theorem dX2_restore_40 : decode cX2_restore 40 = .ok (.aload_n 1, 1) := by decide +kernel
theorem dX2_restore_41 : decode cX2_restore 41 = .ok (.aload_n 2, 1) := by decide +kernel
theorem dX2_restore_42 : decode cX2_restore 42 = .ok (.invokevirtual 25, 3) := by decide +kernel
theorem dX2_restore_45 : decode cX2_restore 45 = .ok (.return_, 1) := by decide +kernel
theorem dX3_init_0 : decode cX3_init 0 = .ok (.aload_n 0, 1) := by decide +kernel
theorem dX3_init_1 : decode cX3_init 1 = .ok (.invokespecial 3, 3) := by decide +kernel
theorem dX3_init_4 : decode cX3_init 4 = .ok (.aload_n 0, 1) := by decide +kernel
theorem dX3_init_5 : decode cX3_init 5 = .ok (.bipush 8, 2) := by decide +kernel
theorem dX3_init_7 : decode cX3_init 7 = .ok (.newarray .int, 2) := by decide +kernel
theorem dX3_init_9 : decode cX3_init 9 = .ok (.putfield 9, 3) := by decide +kernel
theorem dX3_init_12 : decode cX3_init 12 = .ok (.aload_n 0, 1) := by decide +kernel
theorem dX3_init_13 : decode cX3_init 13 = .ok (.bipush 6, 2) := by decide +kernel
theorem dX3_init_15 : decode cX3_init 15 = .ok (.newarray .int, 2) := by decide +kernel
theorem dX3_init_17 : decode cX3_init 17 = .ok (.putfield 15, 3) := by decide +kernel
theorem dX3_init_20 : decode cX3_init 20 = .ok (.aload_n 0, 1) := by decide +kernel
theorem dX3_init_21 : decode cX3_init 21 = .ok (.bipush 6, 2) := by decide +kernel
theorem dX3_init_23 : decode cX3_init 23 = .ok (.newarray .int, 2) := by decide +kernel
theorem dX3_init_25 : decode cX3_init 25 = .ok (.putfield 18, 3) := by decide +kernel
theorem dX3_init_28 : decode cX3_init 28 = .ok (.aload_n 0, 1) := by decide +kernel
theorem dX3_init_29 : decode cX3_init 29 = .ok (.bipush 6, 2) := by decide +kernel
theorem dX3_init_31 : decode cX3_init 31 = .ok (.newarray .int, 2) := by decide +kernel
theorem dX3_init_33 : decode cX3_init 33 = .ok (.putfield 21, 3) := by decide +kernel
theorem dX3_init_36 : decode cX3_init 36 = .ok (.aload_n 0, 1) := by decide +kernel
theorem dX3_init_37 : decode cX3_init 37 = .ok (.bipush 6, 2) := by decide +kernel
theorem dX3_init_39 : decode cX3_init 39 = .ok (.newarray .int, 2) := by decide +kernel
theorem dX3_init_41 : decode cX3_init 41 = .ok (.putfield 24, 3) := by decide +kernel
theorem dX3_init_44 : decode cX3_init 44 = .ok (.aload_n 0, 1) := by decide +kernel
theorem dX3_init_45 : decode cX3_init 45 = .ok (.bipush 6, 2) := by decide +kernel
theorem dX3_init_47 : decode cX3_init 47 = .ok (.newarray .int, 2) := by decide +kernel
theorem dX3_init_49 : decode cX3_init 49 = .ok (.putfield 27, 3) := by decide +kernel
theorem dX3_init_52 : decode cX3_init 52 = .ok (.aload_n 0, 1) := by decide +kernel
theorem dX3_init_53 : decode cX3_init 53 = .ok (.bipush 24, 2) := by decide +kernel
theorem dX3_init_55 : decode cX3_init 55 = .ok (.newarray .int, 2) := by decide +kernel
theorem dX3_init_57 : decode cX3_init 57 = .ok (.putfield 30, 3) := by decide +kernel
theorem dX3_init_60 : decode cX3_init 60 = .ok (.aload_n 0, 1) := by decide +kernel
theorem dX3_init_61 : decode cX3_init 61 = .ok (.bipush 24, 2) := by decide +kernel
theorem dX3_init_63 : decode cX3_init 63 = .ok (.newarray .int, 2) := by decide +kernel
theorem dX3_init_65 : decode cX3_init 65 = .ok (.putfield 33, 3) := by decide +kernel
theorem dX3_init_68 : decode cX3_init 68 = .ok (.aload_n 0, 1) := by decide +kernel
theorem dX3_init_69 : decode cX3_init 69 = .ok (.bipush 24, 2) := by decide +kernel
theorem dX3_init_71 : decode cX3_init 71 = .ok (.newarray .int, 2) := by decide +kernel
theorem dX3_init_73 : decode cX3_init 73 = .ok (.putfield 36, 3) := by decide +kernel
theorem dX3_init_76 : decode cX3_init 76 = .ok (.aload_n 0, 1) := by decide +kernel
theorem dX3_init_77 : decode cX3_init 77 = .ok (.bipush 24, 2) := by decide +kernel
theorem dX3_init_79 : decode cX3_init 79 = .ok (.newarray .int, 2) := by decide +kernel
theorem dX3_init_81 : decode cX3_init 81 = .ok (.putfield 39, 3) := by decide +kernel
theorem dX3_init_84 : decode cX3_init 84 = .ok (.aload_n 0, 1) := by decide +kernel
theorem dX3_init_85 : decode cX3_init 85 = .ok (.bipush 24, 2) := by decide +kernel
theorem dX3_init_87 : decode cX3_init 87 = .ok (.newarray .int, 2) := by decide +kernel
theorem dX3_init_89 : decode cX3_init 89 = .ok (.putfield 42, 3) := by decide +kernel
theorem dX3_init_92 : decode cX3_init 92 = .ok (.aload_n 0, 1) := by decide +kernel
theorem dX3_init_93 : decode cX3_init 93 = .ok (.bipush 24, 2) := by decide +kernel
theorem dX3_init_95 : decode cX3_init 95 = .ok (.newarray .int, 2) := by decide +kernel
theorem dX3_init_97 : decode cX3_init 97 = .ok (.putfield 45, 3) := by decide +kernel
theorem dX3_init_100 : decode cX3_init 100 = .ok (.aload_n 0, 1) := by decide +kernel
theorem dX3_init_101 : decode cX3_init 101 = .ok (.bipush 24, 2) := by decide +kernel
theorem dX3_init_103 : decode cX3_init 103 = .ok (.newarray .int, 2) := by decide +kernel
theorem dX3_init_105 : decode cX3_init 105 = .ok (.putfield 48, 3) := by decide +kernel
theorem dX3_init_108 : decode cX3_init 108 = .ok (.aload_n 0, 1) := by decide +kernel
theorem dX3_init_109 : decode cX3_init 109 = .ok (.bipush 24, 2) := by decide +kernel
theorem dX3_init_111 : decode cX3_init 111 = .ok (.newarray .int, 2) := by decide +kernel
theorem dX3_init_113 : decode cX3_init 113 = .ok (.putfield 51, 3) := by decide +kernel
theorem dX3_init_116 : decode cX3_init 116 = .ok (.iconst 0, 1) := by decide +kernel
theorem dX3_init_117 : decode cX3_init 117 = .ok (.istore_n 1, 1) := by decide +kernel
theorem dX3_init_118 : decode cX3_init 118 = .ok (.iload_n 1, 1) := by decide +kernel
theorem dX3_init_119 : decode cX3_init 119 = .ok (.bipush 8, 2) := by decide +kernel
theorem dX3_init_121 : decode cX3_init 121 = .ok (.if_icmp .ge 20, 3) := by decide +kernel
theorem dX3_init_124 : decode cX3_init 124 = .ok (.aload_n 0, 1) := by decide +kernel
theorem dX3_init_125 : decode cX3_init 125 = .ok (.getfield 9, 3) := by decide +kernel
theorem dX3_init_128 : decode cX3_init 128 = .ok (.iload_n 1, 1) := by decide +kernel
theorem dX3_init_129 : decode cX3_init 129 = .ok (.getstatic 54, 3) := by decide +kernel
theorem dX3_init_132 : decode cX3_init 132 = .ok (.iload_n 1, 1) := by decide +kernel
theorem dX3_init_133 : decode cX3_init 133 = .ok (.iaload, 1) := by decide +kernel
theorem dX3_init_134 : decode cX3_init 134 = .ok (.iastore, 1) := by decide +kernel
theorem dX3_init_135 : decode cX3_init 135 = .ok (.iinc 1 1, 3) := by decide +kernel
theorem dX3_init_138 : decode cX3_init 138 = .ok (.goto (-20), 3) := by decide +kernel
theorem dX3_init_141 : decode cX3_init 141 = .ok (.iconst 0, 1) := by decide +kernel
theorem dX3_init_142 : decode cX3_init 142 = .ok (.istore_n 1, 1) := by decide +kernel
theorem dX3_init_143 : decode cX3_init 143 = .ok (.iload_n 1, 1) := by decide +kernel
theorem dX3_init_144 : decode cX3_init 144 = .ok (.bipush 6, 2) := by decide +kernel
theorem dX3_init_146 : decode cX3_init 146 = .ok (.if_icmp .ge 18, 3) := by decide +kernel
theorem dX3_init_149 : decode cX3_init 149 = .ok (.aload_n 0, 1) := by decide +kernel
theorem dX3_init_150 : decode cX3_init 150 = .ok (.getfield 15, 3) := by decide +kernel
theorem dX3_init_153 : decode cX3_init 153 = .ok (.iload_n 1, 1) := by decide +kernel
theorem dX3_init_154 : decode cX3_init 154 = .ok (.sipush 300, 3) := by decide +kernel
theorem dX3_init_157 : decode cX3_init 157 = .ok (.iastore, 1) := by decide +kernel
theorem dX3_init_158 : decode cX3_init 158 = .ok (.iinc 1 1, 3) := by decide +kernel
theorem dX3_init_161 : decode cX3_init 161 = .ok (.goto (-18), 3) := by decide +kernel
theorem dX3_init_164 : decode cX3_init 164 = .ok (.return_, 1) := by decide +kernel
theorem dX3_copyFrom_0 : decode cX3_copyFrom 0 = .ok (.aload_n 1, 1) := by decide +kernel
theorem dX3_copyFrom_1 : decode cX3_copyFrom 1 = .ok (.getfield 9, 3) := by decide +kernel
theorem dX3_copyFrom_4 : decode cX3_copyFrom 4 = .ok (.iconst 0, 1) := by decide +kernel
theorem dX3_copyFrom_5 : decode cX3_copyFrom 5 = .ok (.aload_n 0, 1) := by decide +kernel
theorem dX3_copyFrom_6 : decode cX3_copyFrom 6 = .ok (.getfield 9, 3) := by decide +kernel
theorem dX3_copyFrom_9 : decode cX3_copyFrom 9 = .ok (.iconst 0, 1) := by decide +kernel
theorem dX3_copyFrom_10 : decode cX3_copyFrom 10 = .ok (.bipush 8, 2) := by decide +kernel
theorem dX3_copyFrom_12 : decode cX3_copyFrom 12 = .ok (.invokestatic 57, 3) := by decide +kernel
theorem dX3_copyFrom_15 : decode cX3_copyFrom 15 = .ok (.aload_n 1, 1) := by decide +kernel
theorem dX3_copyFrom_16 : decode cX3_copyFrom 16 = .ok (.getfield 15, 3) := by decide +kernel
theorem dX3_copyFrom_19 : decode cX3_copyFrom 19 = .ok (.iconst 0, 1) := by decide +kernel
theorem dX3_copyFrom_20 : decode cX3_copyFrom 20 = .ok (.aload_n 0, 1) := by decide +kernel
theorem dX3_copyFrom_21 : decode cX3_copyFrom 21 = .ok (.getfield 15, 3) := by decide +kernel
theorem dX3_copyFrom_24 : decode cX3_copyFrom 24 = .ok (.iconst 0, 1) := by decide +kernel
theorem dX3_copyFrom_25 : decode cX3_copyFrom 25 = .ok (.bipush 6, 2) := by decide +kernel
theorem dX3_copyFrom_27 : decode cX3_copyFrom 27 = .ok (.invokestatic 57, 3) := by decide +kernel
theorem dX3_copyFrom_30 : decode cX3_copyFrom 30 = .ok (.aload_n 1, 1) := by decide +kernel
theorem dX3_copyFrom_31 : decode cX3_copyFrom 31 = .ok (.getfield 18, 3) := by decide +kernel
theorem dX3_copyFrom_34 : decode cX3_copyFrom 34 = .ok (.iconst 0, 1) := by decide +kernel
theorem dX3_copyFrom_35 : decode cX3_copyFrom 35 = .ok (.aload_n 0, 1) := by decide +kernel
theorem dX3_copyFrom_36 : decode cX3_copyFrom 36 = .ok (.getfield 18, 3) := by decide +kernel
theorem dX3_copyFrom_39 : decode cX3_copyFrom 39 = .ok (.iconst 0, 1) := by decide +kernel
theorem dX3_copyFrom_40 : decode cX3_copyFrom 40 = .ok (.bipush 6, 2) := by decide +kernel
theorem dX3_copyFrom_42 : decode cX3_copyFrom 42 = .ok (.invokestatic 57, 3) := by decide +kernel
theorem dX3_copyFrom_45 : decode cX3_copyFrom 45 = .ok (.aload_n 1, 1) := by decide +kernel
theorem dX3_copyFrom_46 : decode cX3_copyFrom 46 = .ok (.getfield 21, 3) := by decide +kernel
theorem dX3_copyFrom_49 : decode cX3_copyFrom 49 = .ok (.iconst 0, 1) := by decide +kernel
theorem dX3_copyFrom_50 : decode cX3_copyFrom 50 = .ok (.aload_n 0, 1) := by decide +kernel
theorem dX3_copyFrom_51 : decode cX3_copyFrom 51 = .ok (.getfield 21, 3) := by decide +kernel
theorem dX3_copyFrom_54 : decode cX3_copyFrom 54 = .ok (.iconst 0, 1) := by decide +kernel
theorem dX3_copyFrom_55 : decode cX3_copyFrom 55 = .ok (.bipush 6, 2) := by decide +kernel
theorem dX3_copyFrom_57 : decode cX3_copyFrom 57 = .ok (.invokestatic 57, 3) := by decide +kernel
theorem dX3_copyFrom_60 : decode cX3_copyFrom 60 = .ok (.aload_n 1, 1) := by decide +kernel
theorem dX3_copyFrom_61 : decode cX3_copyFrom 61 = .ok (.getfield 24, 3) := by decide +kernel
theorem dX3_copyFrom_64 : decode cX3_copyFrom 64 = .ok (.iconst 0, 1) := by decide +kernel
theorem dX3_copyFrom_65 : decode cX3_copyFrom 65 = .ok (.aload_n 0, 1) := by decide +kernel
theorem dX3_copyFrom_66 : decode cX3_copyFrom 66 = .ok (.getfield 24, 3) := by decide +kernel
theorem dX3_copyFrom_69 : decode cX3_copyFrom 69 = .ok (.iconst 0, 1) := by decide +kernel
theorem dX3_copyFrom_70 : decode cX3_copyFrom 70 = .ok (.bipush 6, 2) := by decide +kernel
theorem dX3_copyFrom_72 : decode cX3_copyFrom 72 = .ok (.invokestatic 57, 3) := by decide +kernel
theorem dX3_copyFrom_75 : decode cX3_copyFrom 75 = .ok (.aload_n 1, 1) := by decide +kernel
theorem dX3_copyFrom_76 : decode cX3_copyFrom 76 = .ok (.getfield 27, 3) := by decide +kernel
theorem dX3_copyFrom_79 : decode cX3_copyFrom 79 = .ok (.iconst 0, 1) := by decide +kernel
theorem dX3_copyFrom_80 : decode cX3_copyFrom 80 = .ok (.aload_n 0, 1) := by decide +kernel
theorem dX3_copyFrom_81 : decode cX3_copyFrom 81 = .ok (.getfield 27, 3) := by decide +kernel
theorem dX3_copyFrom_84 : decode cX3_copyFrom 84 = .ok (.iconst 0, 1) := by decide +kernel
theorem dX3_copyFrom_85 : decode cX3_copyFrom 85 = .ok (.bipush 6, 2) := by decide +kernel
theorem dX3_copyFrom_87 : decode cX3_copyFrom 87 = .ok (.invokestatic 57, 3) := by decide +kernel
theorem dX3_copyFrom_90 : decode cX3_copyFrom 90 = .ok (.aload_n 0, 1) := by decide +kernel
theorem dX3_copyFrom_91 : decode cX3_copyFrom 91 = .ok (.aload_n 1, 1) := by decide +kernel
theorem dX3_copyFrom_92 : decode cX3_copyFrom 92 = .ok (.getfield 63, 3) := by decide +kernel
theorem dX3_copyFrom_95 : decode cX3_copyFrom 95 = .ok (.putfield 63, 3) := by decide +kernel
theorem dX3_copyFrom_98 : decode cX3_copyFrom 98 = .ok (.aload_n 0, 1) := by decide +kernel
theorem dX3_copyFrom_99 : decode cX3_copyFrom 99 = .ok (.aload_n 1, 1) := by decide +kernel
theorem dX3_copyFrom_100 : decode cX3_copyFrom 100 = .ok (.getfield 67, 3) := by decide +kernel
theorem dX3_copyFrom_103 : decode cX3_copyFrom 103 = .ok (.putfield 67, 3) := by decide +kernel
theorem dX3_copyFrom_106 : decode cX3_copyFrom 106 = .ok (.aload_n 1, 1) := by decide +kernel
theorem dX3_copyFrom_107 : decode cX3_copyFrom 107 = .ok (.getfield 30, 3) := by decide +kernel
theorem dX3_copyFrom_110 : decode cX3_copyFrom 110 = .ok (.iconst 0, 1) := by decide +kernel
theorem dX3_copyFrom_111 : decode cX3_copyFrom 111 = .ok (.aload_n 0, 1) := by decide +kernel
theorem dX3_copyFrom_112 : decode cX3_copyFrom 112 = .ok (.getfield 30, 3) := by decide +kernel
theorem dX3_copyFrom_115 : decode cX3_copyFrom 115 = .ok (.iconst 0, 1) := by decide +kernel
theorem dX3_copyFrom_116 : decode cX3_copyFrom 116 = .ok (.bipush 24, 2) := by decide +kernel
theorem dX3_copyFrom_118 : decode cX3_copyFrom 118 = .ok (.invokestatic 57, 3) := by decide +kernel
theorem dX3_copyFrom_121 : decode cX3_copyFrom 121 = .ok (.aload_n 1, 1) := by decide +kernel
theorem dX3_copyFrom_122 : decode cX3_copyFrom 122 = .ok (.getfield 33, 3) := by decide +kernel
theorem dX3_copyFrom_125 : decode cX3_copyFrom 125 = .ok (.iconst 0, 1) := by decide +kernel
theorem dX3_copyFrom_126 : decode cX3_copyFrom 126 = .ok (.aload_n 0, 1) := by decide +kernel
theorem dX3_copyFrom_127 : decode cX3_copyFrom 127 = .ok (.getfield 33, 3) := by decide +kernel
theorem dX3_copyFrom_130 : decode cX3_copyFrom 130 = .ok (.iconst 0, 1) := by decide +kernel
theorem dX3_copyFrom_131 : decode cX3_copyFrom 131 = .ok (.bipush 24, 2) := by decide +kernel
theorem dX3_copyFrom_133 : decode cX3_copyFrom 133 = .ok (.invokestatic 57, 3) := by decide +kernel
theorem dX3_copyFrom_136 : decode cX3_copyFrom 136 = .ok (.aload_n 1, 1) := by decide +kernel
theorem dX3_copyFrom_137 : decode cX3_copyFrom 137 = .ok (.getfield 36, 3) := by decide +kernel
theorem dX3_copyFrom_140 : decode cX3_copyFrom 140 = .ok (.iconst 0, 1) := by decide +kernel
theorem dX3_copyFrom_141 : decode cX3_copyFrom 141 = .ok (.aload_n 0, 1) := by decide +kernel
theorem dX3_copyFrom_142 : decode cX3_copyFrom 142 = .ok (.getfield 36, 3) := by decide +kernel
theorem dX3_copyFrom_145 : decode cX3_copyFrom 145 = .ok (.iconst 0, 1) := by decide +kernel
theorem dX3_copyFrom_146 : decode cX3_copyFrom 146 = .ok (.bipush 24, 2) := by decide +kernel
theorem dX3_copyFrom_148 : decode cX3_copyFrom 148 = .ok (.invokestatic 57, 3) := by decide +kernel
theorem dX3_copyFrom_151 : decode cX3_copyFrom 151 = .ok (.aload_n 1, 1) := by decide +kernel
theorem dX3_copyFrom_152 : decode cX3_copyFrom 152 = .ok (.getfield 39, 3) := by decide +kernel
theorem dX3_copyFrom_155 : decode cX3_copyFrom 155 = .ok (.iconst 0, 1) := by decide +kernel
theorem dX3_copyFrom_156 : decode cX3_copyFrom 156 = .ok (.aload_n 0, 1) := by decide +kernel
theorem dX3_copyFrom_157 : decode cX3_copyFrom 157 = .ok (.getfield 39, 3) := by decide +kernel
theorem dX3_copyFrom_160 : decode cX3_copyFrom 160 = .ok (.iconst 0, 1) := by decide +kernel
theorem dX3_copyFrom_161 : decode cX3_copyFrom 161 = .ok (.bipush 24, 2) := by decide +kernel
theorem dX3_copyFrom_163 : decode cX3_copyFrom 163 = .ok (.invokestatic 57, 3) := by decide +kernel
theorem dX3_copyFrom_166 : decode cX3_copyFrom 166 = .ok (.aload_n 1, 1) := by decide +kernel
theorem dX3_copyFrom_167 : decode cX3_copyFrom 167 = .ok (.getfield 42, 3) := by decide +kernel
theorem dX3_copyFrom_170 : decode cX3_copyFrom 170 = .ok (.iconst 0, 1) := by decide +kernel
theorem dX3_copyFrom_171 : decode cX3_copyFrom 171 = .ok (.aload_n 0, 1) := by decide +kernel
theorem dX3_copyFrom_172 : decode cX3_copyFrom 172 = .ok (.getfield 42, 3) := by decide +kernel
theorem dX3_copyFrom_175 : decode cX3_copyFrom 175 = .ok (.iconst 0, 1) := by decide +kernel
theorem dX3_copyFrom_176 : decode cX3_copyFrom 176 = .ok (.bipush 24, 2) := by decide +kernel
theorem dX3_copyFrom_178 : decode cX3_copyFrom 178 = .ok (.invokestatic 57, 3) := by decide +kernel
theorem dX3_copyFrom_181 : decode cX3_copyFrom 181 = .ok (.aload_n 1, 1) := by decide +kernel
theorem dX3_copyFrom_182 : decode cX3_copyFrom 182 = .ok (.getfield 45, 3) := by decide +kernel
theorem dX3_copyFrom_185 : decode cX3_copyFrom 185 = .ok (.iconst 0, 1) := by decide +kernel
theorem dX3_copyFrom_186 : decode cX3_copyFrom 186 = .ok (.aload_n 0, 1) := by decide +kernel
theorem dX3_copyFrom_187 : decode cX3_copyFrom 187 = .ok (.getfield 45, 3) := by decide +kernel
theorem dX3_copyFrom_190 : decode cX3_copyFrom 190 = .ok (.iconst 0, 1) := by decide +kernel
theorem dX3_copyFrom_191 : decode cX3_copyFrom 191 = .ok (.bipush 24, 2) := by decide +kernel
theorem dX3_copyFrom_193 : decode cX3_copyFrom 193 = .ok (.invokestatic 57, 3) := by decide +kernel
theorem dX3_copyFrom_196 : decode cX3_copyFrom 196 = .ok (.aload_n 1, 1) := by decide +kernel
theorem dX3_copyFrom_197 : decode cX3_copyFrom 197 = .ok (.getfield 48, 3) := by decide +kernel
theorem dX3_copyFrom_200 : decode cX3_copyFrom 200 = .ok (.iconst 0, 1) := by decide +kernel
theorem dX3_copyFrom_201 : decode cX3_copyFrom 201 = .ok (.aload_n 0, 1) := by decide +kernel
theorem dX3_copyFrom_202 : decode cX3_copyFrom 202 = .ok (.getfield 48, 3) := by decide +kernel
theorem dX3_copyFrom_205 : decode cX3_copyFrom 205 = .ok (.iconst 0, 1) := by decide +kernel
theorem dX3_copyFrom_206 : decode cX3_copyFrom 206 = .ok (.bipush 24, 2) := by decide +kernel
theorem dX3_copyFrom_208 : decode cX3_copyFrom 208 = .ok (.invokestatic 57, 3) := by decide +kernel
theorem dX3_copyFrom_211 : decode cX3_copyFrom 211 = .ok (.aload_n 1, 1) := by decide +kernel
theorem dX3_copyFrom_212 : decode cX3_copyFrom 212 = .ok (.getfield 51, 3) := by decide +kernel
theorem dX3_copyFrom_215 : decode cX3_copyFrom 215 = .ok (.iconst 0, 1) := by decide +kernel
theorem dX3_copyFrom_216 : decode cX3_copyFrom 216 = .ok (.aload_n 0, 1) := by decide +kernel
theorem dX3_copyFrom_217 : decode cX3_copyFrom 217 = .ok (.getfield 51, 3) := by decide +kernel
theorem dX3_copyFrom_220 : decode cX3_copyFrom 220 = .ok (.iconst 0, 1) := by decide +kernel
theorem dX3_copyFrom_221 : decode cX3_copyFrom 221 = .ok (.bipush 24, 2) := by decide +kernel
theorem dX3_copyFrom_223 : decode cX3_copyFrom 223 = .ok (.invokestatic 57, 3) := by decide +kernel
theorem dX3_copyFrom_226 : decode cX3_copyFrom 226 = .ok (.return_, 1) := by decide +kernel
theorem dX3_hasShow_0 : decode cX3_hasShow 0 = .ok (.iload_n 1, 1) := by decide +kernel
theorem dX3_hasShow_1 : decode cX3_hasShow 1 = .ok (.ifCond .lt 15, 3) := by decide +kernel
theorem dX3_hasShow_4 : decode cX3_hasShow 4 = .ok (.iload_n 1, 1) := by decide +kernel
theorem dX3_hasShow_5 : decode cX3_hasShow 5 = .ok (.aload_n 0, 1) := by decide +kernel
theorem dX3_hasShow_6 : decode cX3_hasShow 6 = .ok (.getfield 67, 3) := by decide +kernel
theorem dX3_hasShow_9 : decode cX3_hasShow 9 = .ok (.if_icmp .ge 7, 3) := by decide +kernel
theorem dX3_hasShow_12 : decode cX3_hasShow 12 = .ok (.iconst 1, 1) := by decide +kernel
theorem dX3_hasShow_13 : decode cX3_hasShow 13 = .ok (.goto 4, 3) := by decide +kernel
theorem dX3_hasShow_16 : decode cX3_hasShow 16 = .ok (.iconst 0, 1) := by decide +kernel
theorem dX3_hasShow_17 : decode cX3_hasShow 17 = .ok (.ireturn, 1) := by decide +kernel
theorem dX3_allowance_0 : decode cX3_allowance 0 = .ok (.aload_n 0, 1) := by decide +kernel
theorem dX3_allowance_1 : decode cX3_allowance 1 = .ok (.getfield 15, 3) := by decide +kernel
theorem dX3_allowance_4 : decode cX3_allowance 4 = .ok (.iload_n 1, 1) := by decide +kernel
theorem dX3_allowance_5 : decode cX3_allowance 5 = .ok (.iaload, 1) := by decide +kernel
theorem dX3_allowance_6 : decode cX3_allowance 6 = .ok (.aload_n 0, 1) := by decide +kernel
theorem dX3_allowance_7 : decode cX3_allowance 7 = .ok (.getfield 18, 3) := by decide +kernel
theorem dX3_allowance_10 : decode cX3_allowance 10 = .ok (.iload_n 1, 1) := by decide +kernel
theorem dX3_allowance_11 : decode cX3_allowance 11 = .ok (.iaload, 1) := by decide +kernel
theorem dX3_allowance_12 : decode cX3_allowance 12 = .ok (.iadd, 1) := by decide +kernel
theorem dX3_allowance_13 : decode cX3_allowance 13 = .ok (.ireturn, 1) := by decide +kernel
theorem dX3_worth_0 : decode cX3_worth 0 = .ok (.iload_n 1, 1) := by decide +kernel
theorem dX3_worth_1 : decode cX3_worth 1 = .ok (.iconst 2, 1) := by decide +kernel
theorem dX3_worth_2 : decode cX3_worth 2 = .ok (.if_icmp .ne 17, 3) := by decide +kernel
theorem dX3_worth_5 : decode cX3_worth 5 = .ok (.iload_n 2, 1) := by decide +kernel
theorem dX3_worth_6 : decode cX3_worth 6 = .ok (.aload_n 0, 1) := by decide +kernel
theorem dX3_worth_7 : decode cX3_worth 7 = .ok (.getfield 9, 3) := by decide +kernel
theorem dX3_worth_10 : decode cX3_worth 10 = .ok (.iconst 5, 1) := by decide +kernel
theorem dX3_worth_11 : decode cX3_worth 11 = .ok (.iaload, 1) := by decide +kernel
theorem dX3_worth_12 : decode cX3_worth 12 = .ok (.imul, 1) := by decide +kernel
theorem dX3_worth_13 : decode cX3_worth 13 = .ok (.bipush 100, 2) := by decide +kernel
theorem dX3_worth_15 : decode cX3_worth 15 = .ok (.idiv, 1) := by decide +kernel
theorem dX3_worth_16 : decode cX3_worth 16 = .ok (.goto 4, 3) := by decide +kernel
theorem dX3_worth_19 : decode cX3_worth 19 = .ok (.iload_n 2, 1) := by decide +kernel
theorem dX3_worth_20 : decode cX3_worth 20 = .ok (.ireturn, 1) := by decide +kernel
theorem dX3_worthOfLengths_0 : decode cX3_worthOfLengths 0 = .ok (.iconst 0, 1) := by decide +kernel
theorem dX3_worthOfLengths_1 : decode cX3_worthOfLengths 1 = .ok (.istore_n 2, 1) := by decide +kernel
theorem dX3_worthOfLengths_2 : decode cX3_worthOfLengths 2 = .ok (.iconst 0, 1) := by decide +kernel
theorem dX3_worthOfLengths_3 : decode cX3_worthOfLengths 3 = .ok (.istore_n 3, 1) := by decide +kernel
theorem dX3_worthOfLengths_4 : decode cX3_worthOfLengths 4 = .ok (.iload_n 3, 1) := by decide +kernel
theorem dX3_worthOfLengths_5 : decode cX3_worthOfLengths 5 = .ok (.aload_n 0, 1) := by decide +kernel
theorem dX3_worthOfLengths_6 : decode cX3_worthOfLengths 6 = .ok (.getfield 67, 3) := by decide +kernel
theorem dX3_worthOfLengths_9 : decode cX3_worthOfLengths 9 = .ok (.if_icmp .ge 38, 3) := by decide +kernel
theorem dX3_worthOfLengths_12 : decode cX3_worthOfLengths 12 = .ok (.aload_n 0, 1) := by decide +kernel
theorem dX3_worthOfLengths_13 : decode cX3_worthOfLengths 13 = .ok (.getfield 33, 3) := by decide +kernel
theorem dX3_worthOfLengths_16 : decode cX3_worthOfLengths 16 = .ok (.iload_n 3, 1) := by decide +kernel
theorem dX3_worthOfLengths_17 : decode cX3_worthOfLengths 17 = .ok (.iaload, 1) := by decide +kernel
theorem dX3_worthOfLengths_18 : decode cX3_worthOfLengths 18 = .ok (.iload_n 1, 1) := by decide +kernel
theorem dX3_worthOfLengths_19 : decode cX3_worthOfLengths 19 = .ok (.if_icmp .ne 22, 3) := by decide +kernel
theorem dX3_worthOfLengths_22 : decode cX3_worthOfLengths 22 = .ok (.iload_n 2, 1) := by decide +kernel
theorem dX3_worthOfLengths_23 : decode cX3_worthOfLengths 23 = .ok (.aload_n 0, 1) := by decide +kernel
theorem dX3_worthOfLengths_24 : decode cX3_worthOfLengths 24 = .ok (.aload_n 0, 1) := by decide +kernel
theorem dX3_worthOfLengths_25 : decode cX3_worthOfLengths 25 = .ok (.getfield 30, 3) := by decide +kernel
theorem dX3_worthOfLengths_28 : decode cX3_worthOfLengths 28 = .ok (.iload_n 3, 1) := by decide +kernel
theorem dX3_worthOfLengths_29 : decode cX3_worthOfLengths 29 = .ok (.iaload, 1) := by decide +kernel
theorem dX3_worthOfLengths_30 : decode cX3_worthOfLengths 30 = .ok (.aload_n 0, 1) := by decide +kernel
theorem dX3_worthOfLengths_31 : decode cX3_worthOfLengths 31 = .ok (.getfield 42, 3) := by decide +kernel
theorem dX3_worthOfLengths_34 : decode cX3_worthOfLengths 34 = .ok (.iload_n 3, 1) := by decide +kernel
theorem dX3_worthOfLengths_35 : decode cX3_worthOfLengths 35 = .ok (.iaload, 1) := by decide +kernel
theorem dX3_worthOfLengths_36 : decode cX3_worthOfLengths 36 = .ok (.invokevirtual 70, 3) := by decide +kernel
theorem dX3_worthOfLengths_39 : decode cX3_worthOfLengths 39 = .ok (.iadd, 1) := by decide +kernel
theorem dX3_worthOfLengths_40 : decode cX3_worthOfLengths 40 = .ok (.istore_n 2, 1) := by decide +kernel
theorem dX3_worthOfLengths_41 : decode cX3_worthOfLengths 41 = .ok (.iinc 3 1, 3) := by decide +kernel
theorem dX3_worthOfLengths_44 : decode cX3_worthOfLengths 44 = .ok (.goto (-40), 3) := by decide +kernel
theorem dX3_worthOfLengths_47 : decode cX3_worthOfLengths 47 = .ok (.iload_n 2, 1) := by decide +kernel
theorem dX3_worthOfLengths_48 : decode cX3_worthOfLengths 48 = .ok (.ireturn, 1) := by decide +kernel
theorem dX3_showsOfGroup_0 : decode cX3_showsOfGroup 0 = .ok (.iconst 0, 1) := by decide +kernel
theorem dX3_showsOfGroup_1 : decode cX3_showsOfGroup 1 = .ok (.istore_n 2, 1) := by decide +kernel
theorem dX3_showsOfGroup_2 : decode cX3_showsOfGroup 2 = .ok (.iconst 0, 1) := by decide +kernel
theorem dX3_showsOfGroup_3 : decode cX3_showsOfGroup 3 = .ok (.istore_n 3, 1) := by decide +kernel
theorem dX3_showsOfGroup_4 : decode cX3_showsOfGroup 4 = .ok (.iload_n 3, 1) := by decide +kernel
theorem dX3_showsOfGroup_5 : decode cX3_showsOfGroup 5 = .ok (.aload_n 0, 1) := by decide +kernel
theorem dX3_showsOfGroup_6 : decode cX3_showsOfGroup 6 = .ok (.getfield 67, 3) := by decide +kernel
theorem dX3_showsOfGroup_9 : decode cX3_showsOfGroup 9 = .ok (.if_icmp .ge 22, 3) := by decide +kernel
theorem dX3_showsOfGroup_12 : decode cX3_showsOfGroup 12 = .ok (.aload_n 0, 1) := by decide +kernel
theorem dX3_showsOfGroup_13 : decode cX3_showsOfGroup 13 = .ok (.getfield 33, 3) := by decide +kernel
theorem dX3_showsOfGroup_16 : decode cX3_showsOfGroup 16 = .ok (.iload_n 3, 1) := by decide +kernel
theorem dX3_showsOfGroup_17 : decode cX3_showsOfGroup 17 = .ok (.iaload, 1) := by decide +kernel
theorem dX3_showsOfGroup_18 : decode cX3_showsOfGroup 18 = .ok (.iload_n 1, 1) := by decide +kernel
theorem dX3_showsOfGroup_19 : decode cX3_showsOfGroup 19 = .ok (.if_icmp .ne 6, 3) := by decide +kernel
theorem dX3_showsOfGroup_22 : decode cX3_showsOfGroup 22 = .ok (.iinc 2 1, 3) := by decide +kernel
theorem dX3_showsOfGroup_25 : decode cX3_showsOfGroup 25 = .ok (.iinc 3 1, 3) := by decide +kernel
theorem dX3_showsOfGroup_28 : decode cX3_showsOfGroup 28 = .ok (.goto (-24), 3) := by decide +kernel
theorem dX3_showsOfGroup_31 : decode cX3_showsOfGroup 31 = .ok (.iload_n 2, 1) := by decide +kernel
theorem dX3_showsOfGroup_32 : decode cX3_showsOfGroup 32 = .ok (.ireturn, 1) := by decide +kernel
theorem dX3_showsOfKind_0 : decode cX3_showsOfKind 0 = .ok (.iconst 0, 1) := by decide +kernel
theorem dX3_showsOfKind_1 : decode cX3_showsOfKind 1 = .ok (.istore_n 2, 1) := by decide +kernel
theorem dX3_showsOfKind_2 : decode cX3_showsOfKind 2 = .ok (.iconst 0, 1) := by decide +kernel
theorem dX3_showsOfKind_3 : decode cX3_showsOfKind 3 = .ok (.istore_n 3, 1) := by decide +kernel
theorem dX3_showsOfKind_4 : decode cX3_showsOfKind 4 = .ok (.iload_n 3, 1) := by decide +kernel
theorem dX3_showsOfKind_5 : decode cX3_showsOfKind 5 = .ok (.aload_n 0, 1) := by decide +kernel
theorem dX3_showsOfKind_6 : decode cX3_showsOfKind 6 = .ok (.getfield 67, 3) := by decide +kernel
theorem dX3_showsOfKind_9 : decode cX3_showsOfKind 9 = .ok (.if_icmp .ge 22, 3) := by decide +kernel
theorem dX3_showsOfKind_12 : decode cX3_showsOfKind 12 = .ok (.aload_n 0, 1) := by decide +kernel
theorem dX3_showsOfKind_13 : decode cX3_showsOfKind 13 = .ok (.getfield 30, 3) := by decide +kernel
theorem dX3_showsOfKind_16 : decode cX3_showsOfKind 16 = .ok (.iload_n 3, 1) := by decide +kernel
theorem dX3_showsOfKind_17 : decode cX3_showsOfKind 17 = .ok (.iaload, 1) := by decide +kernel
theorem dX3_showsOfKind_18 : decode cX3_showsOfKind 18 = .ok (.iload_n 1, 1) := by decide +kernel
theorem dX3_showsOfKind_19 : decode cX3_showsOfKind 19 = .ok (.if_icmp .ne 6, 3) := by decide +kernel
theorem dX3_showsOfKind_22 : decode cX3_showsOfKind 22 = .ok (.iinc 2 1, 3) := by decide +kernel
theorem dX3_showsOfKind_25 : decode cX3_showsOfKind 25 = .ok (.iinc 3 1, 3) := by decide +kernel
theorem dX3_showsOfKind_28 : decode cX3_showsOfKind 28 = .ok (.goto (-24), 3) := by decide +kernel
theorem dX3_showsOfKind_31 : decode cX3_showsOfKind 31 = .ok (.iload_n 2, 1) := by decide +kernel
theorem dX3_showsOfKind_32 : decode cX3_showsOfKind 32 = .ok (.ireturn, 1) := by decide +kernel
theorem dX3_plannedSponsors_0 : decode cX3_plannedSponsors 0 = .ok (.iconst 0, 1) := by decide +kernel
theorem dX3_plannedSponsors_1 : decode cX3_plannedSponsors 1 = .ok (.istore_n 3, 1) := by decide +kernel
theorem dX3_plannedSponsors_2 : decode cX3_plannedSponsors 2 = .ok (.iconst 0, 1) := by decide +kernel
theorem dX3_plannedSponsors_3 : decode cX3_plannedSponsors 3 = .ok (.istore 4, 2) := by decide +kernel
theorem dX3_plannedSponsors_5 : decode cX3_plannedSponsors 5 = .ok (.iload 4, 2) := by decide +kernel
theorem dX3_plannedSponsors_7 : decode cX3_plannedSponsors 7 = .ok (.aload_n 0, 1) := by decide +kernel
theorem dX3_plannedSponsors_8 : decode cX3_plannedSponsors 8 = .ok (.getfield 67, 3) := by decide +kernel
theorem dX3_plannedSponsors_11 : decode cX3_plannedSponsors 11 = .ok (.if_icmp .ge 41, 3) := by decide +kernel
theorem dX3_plannedSponsors_14 : decode cX3_plannedSponsors 14 = .ok (.aload_n 0, 1) := by decide +kernel
theorem dX3_plannedSponsors_15 : decode cX3_plannedSponsors 15 = .ok (.getfield 36, 3) := by decide +kernel
theorem dX3_plannedSponsors_18 : decode cX3_plannedSponsors 18 = .ok (.iload 4, 2) := by decide +kernel
theorem dX3_plannedSponsors_20 : decode cX3_plannedSponsors 20 = .ok (.iaload, 1) := by decide +kernel
theorem dX3_plannedSponsors_21 : decode cX3_plannedSponsors 21 = .ok (.iload_n 1, 1) := by decide +kernel
theorem dX3_plannedSponsors_22 : decode cX3_plannedSponsors 22 = .ok (.if_icmp .ne 24, 3) := by decide +kernel
theorem dX3_plannedSponsors_25 : decode cX3_plannedSponsors 25 = .ok (.iload_n 3, 1) := by decide +kernel
theorem dX3_plannedSponsors_26 : decode cX3_plannedSponsors 26 = .ok (.aload_n 0, 1) := by decide +kernel
theorem dX3_plannedSponsors_27 : decode cX3_plannedSponsors 27 = .ok (.getfield 39, 3) := by decide +kernel
theorem dX3_plannedSponsors_30 : decode cX3_plannedSponsors 30 = .ok (.iload 4, 2) := by decide +kernel
theorem dX3_plannedSponsors_32 : decode cX3_plannedSponsors 32 = .ok (.iaload, 1) := by decide +kernel
theorem dX3_plannedSponsors_33 : decode cX3_plannedSponsors 33 = .ok (.aload_n 0, 1) := by decide +kernel
theorem dX3_plannedSponsors_34 : decode cX3_plannedSponsors 34 = .ok (.getfield 45, 3) := by decide +kernel
theorem dX3_plannedSponsors_37 : decode cX3_plannedSponsors 37 = .ok (.iload 4, 2) := by decide +kernel
theorem dX3_plannedSponsors_39 : decode cX3_plannedSponsors 39 = .ok (.iaload, 1) := by decide +kernel
theorem dX3_plannedSponsors_40 : decode cX3_plannedSponsors 40 = .ok (.iload_n 2, 1) := by decide +kernel
theorem dX3_plannedSponsors_41 : decode cX3_plannedSponsors 41 = .ok (.invokestatic 74, 3) := by decide +kernel
theorem dX3_plannedSponsors_44 : decode cX3_plannedSponsors 44 = .ok (.iadd, 1) := by decide +kernel
theorem dX3_plannedSponsors_45 : decode cX3_plannedSponsors 45 = .ok (.istore_n 3, 1) := by decide +kernel
theorem dX3_plannedSponsors_46 : decode cX3_plannedSponsors 46 = .ok (.iinc 4 1, 3) := by decide +kernel
theorem dX3_plannedSponsors_49 : decode cX3_plannedSponsors 49 = .ok (.goto (-44), 3) := by decide +kernel
theorem dX3_plannedSponsors_52 : decode cX3_plannedSponsors 52 = .ok (.iload_n 3, 1) := by decide +kernel
theorem dX3_plannedSponsors_53 : decode cX3_plannedSponsors 53 = .ok (.ireturn, 1) := by decide +kernel
theorem dX3_patience_0 : decode cX3_patience 0 = .ok (.aload_n 0, 1) := by decide +kernel
theorem dX3_patience_1 : decode cX3_patience 1 = .ok (.getfield 9, 3) := by decide +kernel
theorem dX3_patience_4 : decode cX3_patience 4 = .ok (.aload_n 0, 1) := by decide +kernel
theorem dX3_patience_5 : decode cX3_patience 5 = .ok (.getfield 30, 3) := by decide +kernel
theorem dX3_patience_8 : decode cX3_patience 8 = .ok (.iload_n 1, 1) := by decide +kernel
theorem dX3_patience_9 : decode cX3_patience 9 = .ok (.iaload, 1) := by decide +kernel
theorem dX3_patience_10 : decode cX3_patience 10 = .ok (.ifCond .ne 7, 3) := by decide +kernel
theorem dX3_patience_13 : decode cX3_patience 13 = .ok (.iconst 2, 1) := by decide +kernel
theorem dX3_patience_14 : decode cX3_patience 14 = .ok (.goto 4, 3) := by decide +kernel
theorem dX3_patience_17 : decode cX3_patience 17 = .ok (.iconst 3, 1) := by decide +kernel
theorem dX3_patience_18 : decode cX3_patience 18 = .ok (.iaload, 1) := by decide +kernel
theorem dX3_patience_19 : decode cX3_patience 19 = .ok (.ireturn, 1) := by decide +kernel
theorem dX3_inheritFromOriginal_0 : decode cX3_inheritFromOriginal 0 = .ok (.aload_n 0, 1) := by decide +kernel
theorem dX3_inheritFromOriginal_1 : decode cX3_inheritFromOriginal 1 = .ok (.aload_n 1, 1) := by decide +kernel
theorem dX3_inheritFromOriginal_2 : decode cX3_inheritFromOriginal 2 = .ok (.getfield 78, 3) := by decide +kernel
theorem dX3_inheritFromOriginal_5 : decode cX3_inheritFromOriginal 5 = .ok (.invokevirtual 83, 3) := by decide +kernel
theorem dX3_inheritFromOriginal_8 : decode cX3_inheritFromOriginal 8 = .ok (.ifCond .ne 5, 3) := by decide +kernel
theorem dX3_inheritFromOriginal_11 : decode cX3_inheritFromOriginal 11 = .ok (.iconst 0, 1) := by decide +kernel
theorem dX3_inheritFromOriginal_12 : decode cX3_inheritFromOriginal 12 = .ok (.ireturn, 1) := by decide +kernel
theorem dX3_inheritFromOriginal_13 : decode cX3_inheritFromOriginal 13 = .ok (.aload_n 1, 1) := by decide +kernel
theorem dX3_inheritFromOriginal_14 : decode cX3_inheritFromOriginal 14 = .ok (.aload_n 0, 1) := by decide +kernel
theorem dX3_inheritFromOriginal_15 : decode cX3_inheritFromOriginal 15 = .ok (.getfield 33, 3) := by decide +kernel
theorem dX3_inheritFromOriginal_18 : decode cX3_inheritFromOriginal 18 = .ok (.aload_n 1, 1) := by decide +kernel
theorem dX3_inheritFromOriginal_19 : decode cX3_inheritFromOriginal 19 = .ok (.getfield 78, 3) := by decide +kernel
theorem dX3_inheritFromOriginal_22 : decode cX3_inheritFromOriginal 22 = .ok (.iaload, 1) := by decide +kernel
theorem dX3_inheritFromOriginal_23 : decode cX3_inheritFromOriginal 23 = .ok (.putfield 87, 3) := by decide +kernel
theorem dX3_inheritFromOriginal_26 : decode cX3_inheritFromOriginal 26 = .ok (.aload_n 1, 1) := by decide +kernel
theorem dX3_inheritFromOriginal_27 : decode cX3_inheritFromOriginal 27 = .ok (.aload_n 0, 1) := by decide +kernel
theorem dX3_inheritFromOriginal_28 : decode cX3_inheritFromOriginal 28 = .ok (.getfield 42, 3) := by decide +kernel
theorem dX3_inheritFromOriginal_31 : decode cX3_inheritFromOriginal 31 = .ok (.aload_n 1, 1) := by decide +kernel
theorem dX3_inheritFromOriginal_32 : decode cX3_inheritFromOriginal 32 = .ok (.getfield 78, 3) := by decide +kernel
theorem dX3_inheritFromOriginal_35 : decode cX3_inheritFromOriginal 35 = .ok (.iaload, 1) := by decide +kernel
theorem dX3_inheritFromOriginal_36 : decode cX3_inheritFromOriginal 36 = .ok (.putfield 90, 3) := by decide +kernel
theorem dX3_inheritFromOriginal_39 : decode cX3_inheritFromOriginal 39 = .ok (.iconst 1, 1) := by decide +kernel
theorem dX3_inheritFromOriginal_40 : decode cX3_inheritFromOriginal 40 = .ok (.ireturn, 1) := by decide +kernel
theorem dX3_refusal_0 : decode cX3_refusal 0 = .ok (.aload_n 1, 1) := by decide +kernel
theorem dX3_refusal_1 : decode cX3_refusal 1 = .ok (.getfield 93, 3) := by decide +kernel
theorem dX3_refusal_4 : decode cX3_refusal 4 = .ok (.iconst 2, 1) := by decide +kernel
theorem dX3_refusal_5 : decode cX3_refusal 5 = .ok (.if_icmp .ne 18, 3) := by decide +kernel
theorem dX3_refusal_8 : decode cX3_refusal 8 = .ok (.aload_n 0, 1) := by decide +kernel
theorem dX3_refusal_9 : decode cX3_refusal 9 = .ok (.aload_n 1, 1) := by decide +kernel
theorem dX3_refusal_10 : decode cX3_refusal 10 = .ok (.getfield 78, 3) := by decide +kernel
theorem dX3_refusal_13 : decode cX3_refusal 13 = .ok (.invokevirtual 83, 3) := by decide +kernel
theorem dX3_refusal_16 : decode cX3_refusal 16 = .ok (.ifCond .eq 7, 3) := by decide +kernel
theorem dX3_refusal_19 : decode cX3_refusal 19 = .ok (.iconst 1, 1) := by decide +kernel
theorem dX3_refusal_20 : decode cX3_refusal 20 = .ok (.goto 4, 3) := by decide +kernel
theorem dX3_refusal_23 : decode cX3_refusal 23 = .ok (.iconst 0, 1) := by decide +kernel
theorem dX3_refusal_24 : decode cX3_refusal 24 = .ok (.istore_n 2, 1) := by decide +kernel
theorem dX3_refusal_25 : decode cX3_refusal 25 = .ok (.aload_n 0, 1) := by decide +kernel
theorem dX3_refusal_26 : decode cX3_refusal 26 = .ok (.getfield 67, 3) := by decide +kernel
theorem dX3_refusal_29 : decode cX3_refusal 29 = .ok (.bipush 24, 2) := by decide +kernel
theorem dX3_refusal_31 : decode cX3_refusal 31 = .ok (.if_icmp .lt 5, 3) := by decide +kernel
theorem dX3_refusal_34 : decode cX3_refusal 34 = .ok (.iconst 1, 1) := by decide +kernel
theorem dX3_refusal_35 : decode cX3_refusal 35 = .ok (.ireturn, 1) := by decide +kernel
theorem dX3_refusal_36 : decode cX3_refusal 36 = .ok (.iload_n 2, 1) := by decide +kernel
theorem dX3_refusal_37 : decode cX3_refusal 37 = .ok (.ifCond .eq 18, 3) := by decide +kernel
theorem dX3_refusal_40 : decode cX3_refusal 40 = .ok (.aload_n 0, 1) := by decide +kernel
theorem dX3_refusal_41 : decode cX3_refusal 41 = .ok (.getfield 30, 3) := by decide +kernel
theorem dX3_refusal_44 : decode cX3_refusal 44 = .ok (.aload_n 1, 1) := by decide +kernel
theorem dX3_refusal_45 : decode cX3_refusal 45 = .ok (.getfield 78, 3) := by decide +kernel
theorem dX3_refusal_48 : decode cX3_refusal 48 = .ok (.iaload, 1) := by decide +kernel
theorem dX3_refusal_49 : decode cX3_refusal 49 = .ok (.iconst 2, 1) := by decide +kernel
theorem dX3_refusal_50 : decode cX3_refusal 50 = .ok (.if_icmp .ne 5, 3) := by decide +kernel
theorem dX3_refusal_53 : decode cX3_refusal 53 = .ok (.iconst 2, 1) := by decide +kernel
theorem dX3_refusal_54 : decode cX3_refusal 54 = .ok (.ireturn, 1) := by decide +kernel
theorem dX3_refusal_55 : decode cX3_refusal 55 = .ok (.aload_n 1, 1) := by decide +kernel
theorem dX3_refusal_56 : decode cX3_refusal 56 = .ok (.getfield 96, 3) := by decide +kernel
theorem dX3_refusal_59 : decode cX3_refusal 59 = .ok (.aload_n 0, 1) := by decide +kernel
theorem dX3_refusal_60 : decode cX3_refusal 60 = .ok (.getfield 9, 3) := by decide +kernel
theorem dX3_refusal_63 : decode cX3_refusal 63 = .ok (.iconst 0, 1) := by decide +kernel
theorem dX3_refusal_64 : decode cX3_refusal 64 = .ok (.iaload, 1) := by decide +kernel
theorem dX3_refusal_65 : decode cX3_refusal 65 = .ok (.if_icmp .lt 21, 3) := by decide +kernel
theorem dX3_refusal_68 : decode cX3_refusal 68 = .ok (.aload_n 1, 1) := by decide +kernel
theorem dX3_refusal_69 : decode cX3_refusal 69 = .ok (.getfield 96, 3) := by decide +kernel
theorem dX3_refusal_72 : decode cX3_refusal 72 = .ok (.aload_n 1, 1) := by decide +kernel
theorem dX3_refusal_73 : decode cX3_refusal 73 = .ok (.getfield 90, 3) := by decide +kernel
theorem dX3_refusal_76 : decode cX3_refusal 76 = .ok (.iadd, 1) := by decide +kernel
theorem dX3_refusal_77 : decode cX3_refusal 77 = .ok (.aload_n 0, 1) := by decide +kernel
theorem dX3_refusal_78 : decode cX3_refusal 78 = .ok (.getfield 9, 3) := by decide +kernel
theorem dX3_refusal_81 : decode cX3_refusal 81 = .ok (.iconst 1, 1) := by decide +kernel
theorem dX3_refusal_82 : decode cX3_refusal 82 = .ok (.iaload, 1) := by decide +kernel
theorem dX3_refusal_83 : decode cX3_refusal 83 = .ok (.if_icmp .le 5, 3) := by decide +kernel
theorem dX3_refusal_86 : decode cX3_refusal 86 = .ok (.iconst 3, 1) := by decide +kernel
theorem dX3_refusal_87 : decode cX3_refusal 87 = .ok (.ireturn, 1) := by decide +kernel
theorem dX3_refusal_88 : decode cX3_refusal 88 = .ok (.aload_n 0, 1) := by decide +kernel
theorem dX3_refusal_89 : decode cX3_refusal 89 = .ok (.aload_n 1, 1) := by decide +kernel
theorem dX3_refusal_90 : decode cX3_refusal 90 = .ok (.getfield 99, 3) := by decide +kernel
theorem dX3_refusal_93 : decode cX3_refusal 93 = .ok (.aload_n 1, 1) := by decide +kernel
theorem dX3_refusal_94 : decode cX3_refusal 94 = .ok (.getfield 96, 3) := by decide +kernel
theorem dX3_refusal_97 : decode cX3_refusal 97 = .ok (.aload_n 1, 1) := by decide +kernel
theorem dX3_refusal_98 : decode cX3_refusal 98 = .ok (.getfield 90, 3) := by decide +kernel
theorem dX3_refusal_101 : decode cX3_refusal 101 = .ok (.invokevirtual 102, 3) := by decide +kernel
theorem dX3_refusal_104 : decode cX3_refusal 104 = .ok (.iconst (-1), 1) := by decide +kernel
theorem dX3_refusal_105 : decode cX3_refusal 105 = .ok (.if_icmp .eq 5, 3) := by decide +kernel
theorem dX3_refusal_108 : decode cX3_refusal 108 = .ok (.iconst 4, 1) := by decide +kernel
theorem dX3_refusal_109 : decode cX3_refusal 109 = .ok (.ireturn, 1) := by decide +kernel
theorem dX3_refusal_110 : decode cX3_refusal 110 = .ok (.iload_n 2, 1) := by decide +kernel
theorem dX3_refusal_111 : decode cX3_refusal 111 = .ok (.ifCond .eq 29, 3) := by decide +kernel
theorem dX3_refusal_114 : decode cX3_refusal 114 = .ok (.sipush 1440, 3) := by decide +kernel
theorem dX3_refusal_117 : decode cX3_refusal 117 = .ok (.aload_n 1, 1) := by decide +kernel
theorem dX3_refusal_118 : decode cX3_refusal 118 = .ok (.getfield 99, 3) := by decide +kernel
theorem dX3_refusal_121 : decode cX3_refusal 121 = .ok (.imul, 1) := by decide +kernel
theorem dX3_refusal_122 : decode cX3_refusal 122 = .ok (.aload_n 1, 1) := by decide +kernel
theorem dX3_refusal_123 : decode cX3_refusal 123 = .ok (.getfield 96, 3) := by decide +kernel
theorem dX3_refusal_126 : decode cX3_refusal 126 = .ok (.iadd, 1) := by decide +kernel
theorem dX3_refusal_127 : decode cX3_refusal 127 = .ok (.aload_n 0, 1) := by decide +kernel
theorem dX3_refusal_128 : decode cX3_refusal 128 = .ok (.aload_n 1, 1) := by decide +kernel
theorem dX3_refusal_129 : decode cX3_refusal 129 = .ok (.getfield 78, 3) := by decide +kernel
theorem dX3_refusal_132 : decode cX3_refusal 132 = .ok (.invokevirtual 105, 3) := by decide +kernel
theorem dX3_refusal_135 : decode cX3_refusal 135 = .ok (.if_icmp .ge 5, 3) := by decide +kernel
theorem dX3_refusal_138 : decode cX3_refusal 138 = .ok (.iconst 5, 1) := by decide +kernel
theorem dX3_refusal_139 : decode cX3_refusal 139 = .ok (.ireturn, 1) := by decide +kernel
theorem dX3_refusal_140 : decode cX3_refusal 140 = .ok (.aload_n 0, 1) := by decide +kernel
theorem dX3_refusal_141 : decode cX3_refusal 141 = .ok (.aload_n 1, 1) := by decide +kernel
theorem dX3_refusal_142 : decode cX3_refusal 142 = .ok (.getfield 87, 3) := by decide +kernel
theorem dX3_refusal_145 : decode cX3_refusal 145 = .ok (.aload_n 0, 1) := by decide +kernel
theorem dX3_refusal_146 : decode cX3_refusal 146 = .ok (.aload_n 1, 1) := by decide +kernel
theorem dX3_refusal_147 : decode cX3_refusal 147 = .ok (.getfield 93, 3) := by decide +kernel
theorem dX3_refusal_150 : decode cX3_refusal 150 = .ok (.aload_n 1, 1) := by decide +kernel
theorem dX3_refusal_151 : decode cX3_refusal 151 = .ok (.getfield 90, 3) := by decide +kernel
theorem dX3_refusal_154 : decode cX3_refusal 154 = .ok (.invokevirtual 70, 3) := by decide +kernel
theorem dX3_refusal_157 : decode cX3_refusal 157 = .ok (.invokevirtual 109, 3) := by decide +kernel
theorem dX3_refusal_160 : decode cX3_refusal 160 = .ok (.ifCond .eq 6, 3) := by decide +kernel
theorem dX3_refusal_163 : decode cX3_refusal 163 = .ok (.bipush 6, 2) := by decide +kernel
theorem dX3_refusal_165 : decode cX3_refusal 165 = .ok (.ireturn, 1) := by decide +kernel
theorem dX3_refusal_166 : decode cX3_refusal 166 = .ok (.aload_n 0, 1) := by decide +kernel
theorem dX3_refusal_167 : decode cX3_refusal 167 = .ok (.aload_n 1, 1) := by decide +kernel
theorem dX3_refusal_168 : decode cX3_refusal 168 = .ok (.getfield 99, 3) := by decide +kernel
theorem dX3_refusal_171 : decode cX3_refusal 171 = .ok (.aload_n 1, 1) := by decide +kernel
theorem dX3_refusal_172 : decode cX3_refusal 172 = .ok (.getfield 96, 3) := by decide +kernel
theorem dX3_refusal_175 : decode cX3_refusal 175 = .ok (.aload_n 1, 1) := by decide +kernel
theorem dX3_refusal_176 : decode cX3_refusal 176 = .ok (.getfield 113, 3) := by decide +kernel
theorem dX3_refusal_179 : decode cX3_refusal 179 = .ok (.invokevirtual 115, 3) := by decide +kernel
theorem dX3_refusal_182 : decode cX3_refusal 182 = .ok (.ifCond .eq 8, 3) := by decide +kernel
theorem dX3_refusal_185 : decode cX3_refusal 185 = .ok (.bipush 7, 2) := by decide +kernel
theorem dX3_refusal_187 : decode cX3_refusal 187 = .ok (.goto 4, 3) := by decide +kernel
theorem dX3_refusal_190 : decode cX3_refusal 190 = .ok (.iconst 0, 1) := by decide +kernel
theorem dX3_refusal_191 : decode cX3_refusal 191 = .ok (.ireturn, 1) := by decide +kernel
theorem dX3_showInTheWay_0 : decode cX3_showInTheWay 0 = .ok (.iconst 0, 1) := by decide +kernel
theorem dX3_showInTheWay_1 : decode cX3_showInTheWay 1 = .ok (.istore 4, 2) := by decide +kernel
theorem dX3_showInTheWay_3 : decode cX3_showInTheWay 3 = .ok (.iload 4, 2) := by decide +kernel
theorem dX3_showInTheWay_5 : decode cX3_showInTheWay 5 = .ok (.aload_n 0, 1) := by decide +kernel
theorem dX3_showInTheWay_6 : decode cX3_showInTheWay 6 = .ok (.getfield 67, 3) := by decide +kernel
theorem dX3_showInTheWay_9 : decode cX3_showInTheWay 9 = .ok (.if_icmp .ge 55, 3) := by decide +kernel
theorem dX3_showInTheWay_12 : decode cX3_showInTheWay 12 = .ok (.aload_n 0, 1) := by decide +kernel
theorem dX3_showInTheWay_13 : decode cX3_showInTheWay 13 = .ok (.getfield 36, 3) := by decide +kernel
theorem dX3_showInTheWay_16 : decode cX3_showInTheWay 16 = .ok (.iload 4, 2) := by decide +kernel
theorem dX3_showInTheWay_18 : decode cX3_showInTheWay 18 = .ok (.iaload, 1) := by decide +kernel
theorem dX3_showInTheWay_19 : decode cX3_showInTheWay 19 = .ok (.iload_n 1, 1) := by decide +kernel
theorem dX3_showInTheWay_20 : decode cX3_showInTheWay 20 = .ok (.if_icmp .ne 38, 3) := by decide +kernel
theorem dX3_showInTheWay_23 : decode cX3_showInTheWay 23 = .ok (.aload_n 0, 1) := by decide +kernel
theorem dX3_showInTheWay_24 : decode cX3_showInTheWay 24 = .ok (.getfield 39, 3) := by decide +kernel
theorem dX3_showInTheWay_27 : decode cX3_showInTheWay 27 = .ok (.iload 4, 2) := by decide +kernel
theorem dX3_showInTheWay_29 : decode cX3_showInTheWay 29 = .ok (.iaload, 1) := by decide +kernel
theorem dX3_showInTheWay_30 : decode cX3_showInTheWay 30 = .ok (.iload_n 2, 1) := by decide +kernel
theorem dX3_showInTheWay_31 : decode cX3_showInTheWay 31 = .ok (.iload_n 3, 1) := by decide +kernel
theorem dX3_showInTheWay_32 : decode cX3_showInTheWay 32 = .ok (.iadd, 1) := by decide +kernel
theorem dX3_showInTheWay_33 : decode cX3_showInTheWay 33 = .ok (.if_icmp .ge 25, 3) := by decide +kernel
theorem dX3_showInTheWay_36 : decode cX3_showInTheWay 36 = .ok (.aload_n 0, 1) := by decide +kernel
theorem dX3_showInTheWay_37 : decode cX3_showInTheWay 37 = .ok (.getfield 39, 3) := by decide +kernel
theorem dX3_showInTheWay_40 : decode cX3_showInTheWay 40 = .ok (.iload 4, 2) := by decide +kernel
theorem dX3_showInTheWay_42 : decode cX3_showInTheWay 42 = .ok (.iaload, 1) := by decide +kernel
theorem dX3_showInTheWay_43 : decode cX3_showInTheWay 43 = .ok (.aload_n 0, 1) := by decide +kernel
theorem dX3_showInTheWay_44 : decode cX3_showInTheWay 44 = .ok (.getfield 42, 3) := by decide +kernel
theorem dX3_showInTheWay_47 : decode cX3_showInTheWay 47 = .ok (.iload 4, 2) := by decide +kernel
theorem dX3_showInTheWay_49 : decode cX3_showInTheWay 49 = .ok (.iaload, 1) := by decide +kernel
theorem dX3_showInTheWay_50 : decode cX3_showInTheWay 50 = .ok (.iadd, 1) := by decide +kernel
theorem dX3_showInTheWay_51 : decode cX3_showInTheWay 51 = .ok (.iload_n 2, 1) := by decide +kernel
theorem dX3_showInTheWay_52 : decode cX3_showInTheWay 52 = .ok (.if_icmp .le 6, 3) := by decide +kernel
theorem dX3_showInTheWay_55 : decode cX3_showInTheWay 55 = .ok (.iload 4, 2) := by decide +kernel
theorem dX3_showInTheWay_57 : decode cX3_showInTheWay 57 = .ok (.ireturn, 1) := by decide +kernel
theorem dX3_showInTheWay_58 : decode cX3_showInTheWay 58 = .ok (.iinc 4 1, 3) := by decide +kernel
theorem dX3_showInTheWay_61 : decode cX3_showInTheWay 61 = .ok (.goto (-58), 3) := by decide +kernel
theorem dX3_showInTheWay_64 : decode cX3_showInTheWay 64 = .ok (.iconst (-1), 1) := by decide +kernel
theorem dX3_showInTheWay_65 : decode cX3_showInTheWay 65 = .ok (.ireturn, 1) := by decide +kernel
theorem dX3_earliestRepeat_0 : decode cX3_earliestRepeat 0 = .ok (.sipush 1440, 3) := by decide +kernel
theorem dX3_earliestRepeat_3 : decode cX3_earliestRepeat 3 = .ok (.aload_n 0, 1) := by decide +kernel
theorem dX3_earliestRepeat_4 : decode cX3_earliestRepeat 4 = .ok (.getfield 36, 3) := by decide +kernel
theorem dX3_earliestRepeat_7 : decode cX3_earliestRepeat 7 = .ok (.iload_n 1, 1) := by decide +kernel
theorem dX3_earliestRepeat_8 : decode cX3_earliestRepeat 8 = .ok (.iaload, 1) := by decide +kernel
theorem dX3_earliestRepeat_9 : decode cX3_earliestRepeat 9 = .ok (.imul, 1) := by decide +kernel
theorem dX3_earliestRepeat_10 : decode cX3_earliestRepeat 10 = .ok (.aload_n 0, 1) := by decide +kernel
theorem dX3_earliestRepeat_11 : decode cX3_earliestRepeat 11 = .ok (.getfield 39, 3) := by decide +kernel
theorem dX3_earliestRepeat_14 : decode cX3_earliestRepeat 14 = .ok (.iload_n 1, 1) := by decide +kernel
theorem dX3_earliestRepeat_15 : decode cX3_earliestRepeat 15 = .ok (.iaload, 1) := by decide +kernel
theorem dX3_earliestRepeat_16 : decode cX3_earliestRepeat 16 = .ok (.iadd, 1) := by decide +kernel
theorem dX3_earliestRepeat_17 : decode cX3_earliestRepeat 17 = .ok (.aload_n 0, 1) := by decide +kernel
theorem dX3_earliestRepeat_18 : decode cX3_earliestRepeat 18 = .ok (.getfield 42, 3) := by decide +kernel
theorem dX3_earliestRepeat_21 : decode cX3_earliestRepeat 21 = .ok (.iload_n 1, 1) := by decide +kernel
theorem dX3_earliestRepeat_22 : decode cX3_earliestRepeat 22 = .ok (.iaload, 1) := by decide +kernel
theorem dX3_earliestRepeat_23 : decode cX3_earliestRepeat 23 = .ok (.iadd, 1) := by decide +kernel
theorem dX3_earliestRepeat_24 : decode cX3_earliestRepeat 24 = .ok (.bipush 60, 2) := by decide +kernel
theorem dX3_earliestRepeat_26 : decode cX3_earliestRepeat 26 = .ok (.aload_n 0, 1) := by decide +kernel
theorem dX3_earliestRepeat_27 : decode cX3_earliestRepeat 27 = .ok (.getfield 9, 3) := by decide +kernel
theorem dX3_earliestRepeat_30 : decode cX3_earliestRepeat 30 = .ok (.iconst 4, 1) := by decide +kernel
theorem dX3_earliestRepeat_31 : decode cX3_earliestRepeat 31 = .ok (.iaload, 1) := by decide +kernel
theorem dX3_earliestRepeat_32 : decode cX3_earliestRepeat 32 = .ok (.imul, 1) := by decide +kernel
theorem dX3_earliestRepeat_33 : decode cX3_earliestRepeat 33 = .ok (.iadd, 1) := by decide +kernel
theorem dX3_earliestRepeat_34 : decode cX3_earliestRepeat 34 = .ok (.ireturn, 1) := by decide +kernel
theorem dX3_exceedsAllowance_0 : decode cX3_exceedsAllowance 0 = .ok (.aload_n 0, 1) := by decide +kernel
theorem dX3_exceedsAllowance_1 : decode cX3_exceedsAllowance 1 = .ok (.iload_n 1, 1) := by decide +kernel
theorem dX3_exceedsAllowance_2 : decode cX3_exceedsAllowance 2 = .ok (.invokevirtual 119, 3) := by decide +kernel
theorem dX3_exceedsAllowance_5 : decode cX3_exceedsAllowance 5 = .ok (.iload_n 2, 1) := by decide +kernel
theorem dX3_exceedsAllowance_6 : decode cX3_exceedsAllowance 6 = .ok (.iadd, 1) := by decide +kernel
theorem dX3_exceedsAllowance_7 : decode cX3_exceedsAllowance 7 = .ok (.aload_n 0, 1) := by decide +kernel
theorem dX3_exceedsAllowance_8 : decode cX3_exceedsAllowance 8 = .ok (.iload_n 1, 1) := by decide +kernel
theorem dX3_exceedsAllowance_9 : decode cX3_exceedsAllowance 9 = .ok (.invokevirtual 122, 3) := by decide +kernel
theorem dX3_exceedsAllowance_12 : decode cX3_exceedsAllowance 12 = .ok (.if_icmp .le 7, 3) := by decide +kernel
theorem dX3_exceedsAllowance_15 : decode cX3_exceedsAllowance 15 = .ok (.iconst 1, 1) := by decide +kernel
theorem dX3_exceedsAllowance_16 : decode cX3_exceedsAllowance 16 = .ok (.goto 4, 3) := by decide +kernel
theorem dX3_exceedsAllowance_19 : decode cX3_exceedsAllowance 19 = .ok (.iconst 0, 1) := by decide +kernel
theorem dX3_exceedsAllowance_20 : decode cX3_exceedsAllowance 20 = .ok (.ireturn, 1) := by decide +kernel
theorem dX3_exceedsSponsorLimit_0 : decode cX3_exceedsSponsorLimit 0 = .ok (.iconst 0, 1) := by decide +kernel
theorem dX3_exceedsSponsorLimit_1 : decode cX3_exceedsSponsorLimit 1 = .ok (.istore 4, 2) := by decide +kernel
theorem dX3_exceedsSponsorLimit_3 : decode cX3_exceedsSponsorLimit 3 = .ok (.iload 4, 2) := by decide +kernel
theorem dX3_exceedsSponsorLimit_5 : decode cX3_exceedsSponsorLimit 5 = .ok (.bipush 24, 2) := by decide +kernel
theorem dX3_exceedsSponsorLimit_7 : decode cX3_exceedsSponsorLimit 7 = .ok (.if_icmp .ge 40, 3) := by decide +kernel
theorem dX3_exceedsSponsorLimit_10 : decode cX3_exceedsSponsorLimit 10 = .ok (.aload_n 0, 1) := by decide +kernel
theorem dX3_exceedsSponsorLimit_11 : decode cX3_exceedsSponsorLimit 11 = .ok (.iload_n 1, 1) := by decide +kernel
theorem dX3_exceedsSponsorLimit_12 : decode cX3_exceedsSponsorLimit 12 = .ok (.iload 4, 2) := by decide +kernel
theorem dX3_exceedsSponsorLimit_14 : decode cX3_exceedsSponsorLimit 14 = .ok (.invokevirtual 125, 3) := by decide +kernel
theorem dX3_exceedsSponsorLimit_17 : decode cX3_exceedsSponsorLimit 17 = .ok (.iload_n 2, 1) := by decide +kernel
theorem dX3_exceedsSponsorLimit_18 : decode cX3_exceedsSponsorLimit 18 = .ok (.iload_n 3, 1) := by decide +kernel
theorem dX3_exceedsSponsorLimit_19 : decode cX3_exceedsSponsorLimit 19 = .ok (.iload 4, 2) := by decide +kernel
theorem dX3_exceedsSponsorLimit_21 : decode cX3_exceedsSponsorLimit 21 = .ok (.invokestatic 74, 3) := by decide +kernel
theorem dX3_exceedsSponsorLimit_24 : decode cX3_exceedsSponsorLimit 24 = .ok (.iadd, 1) := by decide +kernel
theorem dX3_exceedsSponsorLimit_25 : decode cX3_exceedsSponsorLimit 25 = .ok (.istore 5, 2) := by decide +kernel
theorem dX3_exceedsSponsorLimit_27 : decode cX3_exceedsSponsorLimit 27 = .ok (.iload 5, 2) := by decide +kernel
theorem dX3_exceedsSponsorLimit_29 : decode cX3_exceedsSponsorLimit 29 = .ok (.aload_n 0, 1) := by decide +kernel
theorem dX3_exceedsSponsorLimit_30 : decode cX3_exceedsSponsorLimit 30 = .ok (.getfield 9, 3) := by decide +kernel
theorem dX3_exceedsSponsorLimit_33 : decode cX3_exceedsSponsorLimit 33 = .ok (.bipush 6, 2) := by decide +kernel
theorem dX3_exceedsSponsorLimit_35 : decode cX3_exceedsSponsorLimit 35 = .ok (.iaload, 1) := by decide +kernel
theorem dX3_exceedsSponsorLimit_36 : decode cX3_exceedsSponsorLimit 36 = .ok (.if_icmp .le 5, 3) := by decide +kernel
theorem dX3_exceedsSponsorLimit_39 : decode cX3_exceedsSponsorLimit 39 = .ok (.iconst 1, 1) := by decide +kernel
theorem dX3_exceedsSponsorLimit_40 : decode cX3_exceedsSponsorLimit 40 = .ok (.ireturn, 1) := by decide +kernel
theorem dX3_exceedsSponsorLimit_41 : decode cX3_exceedsSponsorLimit 41 = .ok (.iinc 4 1, 3) := by decide +kernel
theorem dX3_exceedsSponsorLimit_44 : decode cX3_exceedsSponsorLimit 44 = .ok (.goto (-41), 3) := by decide +kernel
theorem dX3_exceedsSponsorLimit_47 : decode cX3_exceedsSponsorLimit 47 = .ok (.iconst 0, 1) := by decide +kernel
theorem dX3_exceedsSponsorLimit_48 : decode cX3_exceedsSponsorLimit 48 = .ok (.ireturn, 1) := by decide +kernel
theorem dX3_firstTapeTime_0 : decode cX3_firstTapeTime 0 = .ok (.aload_n 0, 1) := by decide +kernel
theorem dX3_firstTapeTime_1 : decode cX3_firstTapeTime 1 = .ok (.getfield 67, 3) := by decide +kernel
theorem dX3_firstTapeTime_4 : decode cX3_firstTapeTime 4 = .ok (.bipush 24, 2) := by decide +kernel
theorem dX3_firstTapeTime_6 : decode cX3_firstTapeTime 6 = .ok (.if_icmp .ge 22, 3) := by decide +kernel
theorem dX3_firstTapeTime_9 : decode cX3_firstTapeTime 9 = .ok (.aload_n 0, 1) := by decide +kernel
theorem dX3_firstTapeTime_10 : decode cX3_firstTapeTime 10 = .ok (.iload_n 1, 1) := by decide +kernel
theorem dX3_firstTapeTime_11 : decode cX3_firstTapeTime 11 = .ok (.iload_n 3, 1) := by decide +kernel
theorem dX3_firstTapeTime_12 : decode cX3_firstTapeTime 12 = .ok (.invokevirtual 109, 3) := by decide +kernel
theorem dX3_firstTapeTime_15 : decode cX3_firstTapeTime 15 = .ok (.ifCond .ne 13, 3) := by decide +kernel
theorem dX3_firstTapeTime_18 : decode cX3_firstTapeTime 18 = .ok (.aload_n 0, 1) := by decide +kernel
theorem dX3_firstTapeTime_19 : decode cX3_firstTapeTime 19 = .ok (.iload_n 2, 1) := by decide +kernel
theorem dX3_firstTapeTime_20 : decode cX3_firstTapeTime 20 = .ok (.iconst 0, 1) := by decide +kernel
theorem dX3_firstTapeTime_21 : decode cX3_firstTapeTime 21 = .ok (.iconst 0, 1) := by decide +kernel
theorem dX3_firstTapeTime_22 : decode cX3_firstTapeTime 22 = .ok (.invokevirtual 115, 3) := by decide +kernel
theorem dX3_firstTapeTime_25 : decode cX3_firstTapeTime 25 = .ok (.ifCond .eq 5, 3) := by decide +kernel
theorem dX3_firstTapeTime_28 : decode cX3_firstTapeTime 28 = .ok (.iconst (-1), 1) := by decide +kernel
theorem dX3_firstTapeTime_29 : decode cX3_firstTapeTime 29 = .ok (.ireturn, 1) := by decide +kernel
theorem dX3_firstTapeTime_30 : decode cX3_firstTapeTime 30 = .ok (.aload_n 0, 1) := by decide +kernel
theorem dX3_firstTapeTime_31 : decode cX3_firstTapeTime 31 = .ok (.iload_n 2, 1) := by decide +kernel
theorem dX3_firstTapeTime_32 : decode cX3_firstTapeTime 32 = .ok (.iload_n 3, 1) := by decide +kernel
theorem dX3_firstTapeTime_33 : decode cX3_firstTapeTime 33 = .ok (.iconst 0, 1) := by decide +kernel
theorem dX3_firstTapeTime_34 : decode cX3_firstTapeTime 34 = .ok (.invokevirtual 128, 3) := by decide +kernel
theorem dX3_firstTapeTime_37 : decode cX3_firstTapeTime 37 = .ok (.ireturn, 1) := by decide +kernel
theorem dX3_firstRepeatTime_0 : decode cX3_firstRepeatTime 0 = .ok (.aload_n 0, 1) := by decide +kernel
theorem dX3_firstRepeatTime_1 : decode cX3_firstRepeatTime 1 = .ok (.getfield 42, 3) := by decide +kernel
theorem dX3_firstRepeatTime_4 : decode cX3_firstRepeatTime 4 = .ok (.iload_n 1, 1) := by decide +kernel
theorem dX3_firstRepeatTime_5 : decode cX3_firstRepeatTime 5 = .ok (.iaload, 1) := by decide +kernel
theorem dX3_firstRepeatTime_6 : decode cX3_firstRepeatTime 6 = .ok (.istore_n 2, 1) := by decide +kernel
theorem dX3_firstRepeatTime_7 : decode cX3_firstRepeatTime 7 = .ok (.aload_n 0, 1) := by decide +kernel
theorem dX3_firstRepeatTime_8 : decode cX3_firstRepeatTime 8 = .ok (.getfield 67, 3) := by decide +kernel
theorem dX3_firstRepeatTime_11 : decode cX3_firstRepeatTime 11 = .ok (.bipush 24, 2) := by decide +kernel
theorem dX3_firstRepeatTime_13 : decode cX3_firstRepeatTime 13 = .ok (.if_icmp .ge 32, 3) := by decide +kernel
theorem dX3_firstRepeatTime_16 : decode cX3_firstRepeatTime 16 = .ok (.aload_n 0, 1) := by decide +kernel
theorem dX3_firstRepeatTime_17 : decode cX3_firstRepeatTime 17 = .ok (.getfield 30, 3) := by decide +kernel
theorem dX3_firstRepeatTime_20 : decode cX3_firstRepeatTime 20 = .ok (.iload_n 1, 1) := by decide +kernel
theorem dX3_firstRepeatTime_21 : decode cX3_firstRepeatTime 21 = .ok (.iaload, 1) := by decide +kernel
theorem dX3_firstRepeatTime_22 : decode cX3_firstRepeatTime 22 = .ok (.iconst 2, 1) := by decide +kernel
theorem dX3_firstRepeatTime_23 : decode cX3_firstRepeatTime 23 = .ok (.if_icmp .eq 22, 3) := by decide +kernel
theorem dX3_firstRepeatTime_26 : decode cX3_firstRepeatTime 26 = .ok (.aload_n 0, 1) := by decide +kernel
theorem dX3_firstRepeatTime_27 : decode cX3_firstRepeatTime 27 = .ok (.aload_n 0, 1) := by decide +kernel
theorem dX3_firstRepeatTime_28 : decode cX3_firstRepeatTime 28 = .ok (.getfield 33, 3) := by decide +kernel
theorem dX3_firstRepeatTime_31 : decode cX3_firstRepeatTime 31 = .ok (.iload_n 1, 1) := by decide +kernel
theorem dX3_firstRepeatTime_32 : decode cX3_firstRepeatTime 32 = .ok (.iaload, 1) := by decide +kernel
theorem dX3_firstRepeatTime_33 : decode cX3_firstRepeatTime 33 = .ok (.aload_n 0, 1) := by decide +kernel
theorem dX3_firstRepeatTime_34 : decode cX3_firstRepeatTime 34 = .ok (.iconst 2, 1) := by decide +kernel
theorem dX3_firstRepeatTime_35 : decode cX3_firstRepeatTime 35 = .ok (.iload_n 2, 1) := by decide +kernel
theorem dX3_firstRepeatTime_36 : decode cX3_firstRepeatTime 36 = .ok (.invokevirtual 70, 3) := by decide +kernel
theorem dX3_firstRepeatTime_39 : decode cX3_firstRepeatTime 39 = .ok (.invokevirtual 109, 3) := by decide +kernel
theorem dX3_firstRepeatTime_42 : decode cX3_firstRepeatTime 42 = .ok (.ifCond .eq 5, 3) := by decide +kernel
theorem dX3_firstRepeatTime_45 : decode cX3_firstRepeatTime 45 = .ok (.iconst (-1), 1) := by decide +kernel
theorem dX3_firstRepeatTime_46 : decode cX3_firstRepeatTime 46 = .ok (.ireturn, 1) := by decide +kernel
theorem dX3_firstRepeatTime_47 : decode cX3_firstRepeatTime 47 = .ok (.iconst 0, 1) := by decide +kernel
theorem dX3_firstRepeatTime_48 : decode cX3_firstRepeatTime 48 = .ok (.istore_n 3, 1) := by decide +kernel
theorem dX3_firstRepeatTime_49 : decode cX3_firstRepeatTime 49 = .ok (.iload_n 3, 1) := by decide +kernel
theorem dX3_firstRepeatTime_50 : decode cX3_firstRepeatTime 50 = .ok (.bipush 7, 2) := by decide +kernel
theorem dX3_firstRepeatTime_52 : decode cX3_firstRepeatTime 52 = .ok (.if_icmp .ge 53, 3) := by decide +kernel
theorem dX3_firstRepeatTime_55 : decode cX3_firstRepeatTime 55 = .ok (.aload_n 0, 1) := by decide +kernel
theorem dX3_firstRepeatTime_56 : decode cX3_firstRepeatTime 56 = .ok (.iload_n 3, 1) := by decide +kernel
theorem dX3_firstRepeatTime_57 : decode cX3_firstRepeatTime 57 = .ok (.iload_n 2, 1) := by decide +kernel
theorem dX3_firstRepeatTime_58 : decode cX3_firstRepeatTime 58 = .ok (.aload_n 0, 1) := by decide +kernel
theorem dX3_firstRepeatTime_59 : decode cX3_firstRepeatTime 59 = .ok (.iload_n 1, 1) := by decide +kernel
theorem dX3_firstRepeatTime_60 : decode cX3_firstRepeatTime 60 = .ok (.invokevirtual 105, 3) := by decide +kernel
theorem dX3_firstRepeatTime_63 : decode cX3_firstRepeatTime 63 = .ok (.sipush 1440, 3) := by decide +kernel
theorem dX3_firstRepeatTime_66 : decode cX3_firstRepeatTime 66 = .ok (.iload_n 3, 1) := by decide +kernel
theorem dX3_firstRepeatTime_67 : decode cX3_firstRepeatTime 67 = .ok (.imul, 1) := by decide +kernel
theorem dX3_firstRepeatTime_68 : decode cX3_firstRepeatTime 68 = .ok (.isub, 1) := by decide +kernel
theorem dX3_firstRepeatTime_69 : decode cX3_firstRepeatTime 69 = .ok (.invokevirtual 128, 3) := by decide +kernel
theorem dX3_firstRepeatTime_72 : decode cX3_firstRepeatTime 72 = .ok (.istore 4, 2) := by decide +kernel
theorem dX3_firstRepeatTime_74 : decode cX3_firstRepeatTime 74 = .ok (.iload 4, 2) := by decide +kernel
theorem dX3_firstRepeatTime_76 : decode cX3_firstRepeatTime 76 = .ok (.iconst (-1), 1) := by decide +kernel
theorem dX3_firstRepeatTime_77 : decode cX3_firstRepeatTime 77 = .ok (.if_icmp .eq 22, 3) := by decide +kernel
theorem dX3_firstRepeatTime_80 : decode cX3_firstRepeatTime 80 = .ok (.aload_n 0, 1) := by decide +kernel
theorem dX3_firstRepeatTime_81 : decode cX3_firstRepeatTime 81 = .ok (.iload_n 3, 1) := by decide +kernel
theorem dX3_firstRepeatTime_82 : decode cX3_firstRepeatTime 82 = .ok (.iconst 0, 1) := by decide +kernel
theorem dX3_firstRepeatTime_83 : decode cX3_firstRepeatTime 83 = .ok (.iconst 0, 1) := by decide +kernel
theorem dX3_firstRepeatTime_84 : decode cX3_firstRepeatTime 84 = .ok (.invokevirtual 115, 3) := by decide +kernel
theorem dX3_firstRepeatTime_87 : decode cX3_firstRepeatTime 87 = .ok (.ifCond .ne 12, 3) := by decide +kernel
theorem dX3_firstRepeatTime_90 : decode cX3_firstRepeatTime 90 = .ok (.sipush 1440, 3) := by decide +kernel
theorem dX3_firstRepeatTime_93 : decode cX3_firstRepeatTime 93 = .ok (.iload_n 3, 1) := by decide +kernel
theorem dX3_firstRepeatTime_94 : decode cX3_firstRepeatTime 94 = .ok (.imul, 1) := by decide +kernel
theorem dX3_firstRepeatTime_95 : decode cX3_firstRepeatTime 95 = .ok (.iload 4, 2) := by decide +kernel
theorem dX3_firstRepeatTime_97 : decode cX3_firstRepeatTime 97 = .ok (.iadd, 1) := by decide +kernel
theorem dX3_firstRepeatTime_98 : decode cX3_firstRepeatTime 98 = .ok (.ireturn, 1) := by decide +kernel
theorem dX3_firstRepeatTime_99 : decode cX3_firstRepeatTime 99 = .ok (.iinc 3 1, 3) := by decide +kernel
theorem dX3_firstRepeatTime_102 : decode cX3_firstRepeatTime 102 = .ok (.goto (-53), 3) := by decide +kernel
theorem dX3_firstRepeatTime_105 : decode cX3_firstRepeatTime 105 = .ok (.iconst (-1), 1) := by decide +kernel
theorem dX3_firstRepeatTime_106 : decode cX3_firstRepeatTime 106 = .ok (.ireturn, 1) := by decide +kernel
theorem dX3_firstFreeStart_0 : decode cX3_firstFreeStart 0 = .ok (.iload_n 3, 1) := by decide +kernel
theorem dX3_firstFreeStart_1 : decode cX3_firstFreeStart 1 = .ok (.aload_n 0, 1) := by decide +kernel
theorem dX3_firstFreeStart_2 : decode cX3_firstFreeStart 2 = .ok (.getfield 9, 3) := by decide +kernel
theorem dX3_firstFreeStart_5 : decode cX3_firstFreeStart 5 = .ok (.iconst 0, 1) := by decide +kernel
theorem dX3_firstFreeStart_6 : decode cX3_firstFreeStart 6 = .ok (.iaload, 1) := by decide +kernel
theorem dX3_firstFreeStart_7 : decode cX3_firstFreeStart 7 = .ok (.invokestatic 131, 3) := by decide +kernel
theorem dX3_firstFreeStart_10 : decode cX3_firstFreeStart 10 = .ok (.invokestatic 136, 3) := by decide +kernel
theorem dX3_firstFreeStart_13 : decode cX3_firstFreeStart 13 = .ok (.istore 4, 2) := by decide +kernel
theorem dX3_firstFreeStart_15 : decode cX3_firstFreeStart 15 = .ok (.iconst 0, 1) := by decide +kernel
theorem dX3_firstFreeStart_16 : decode cX3_firstFreeStart 16 = .ok (.istore 5, 2) := by decide +kernel
theorem dX3_firstFreeStart_18 : decode cX3_firstFreeStart 18 = .ok (.iload 5, 2) := by decide +kernel
theorem dX3_firstFreeStart_20 : decode cX3_firstFreeStart 20 = .ok (.aload_n 0, 1) := by decide +kernel
theorem dX3_firstFreeStart_21 : decode cX3_firstFreeStart 21 = .ok (.getfield 67, 3) := by decide +kernel
theorem dX3_firstFreeStart_24 : decode cX3_firstFreeStart 24 = .ok (.if_icmp .gt 61, 3) := by decide +kernel
theorem dX3_firstFreeStart_27 : decode cX3_firstFreeStart 27 = .ok (.iload 4, 2) := by decide +kernel
theorem dX3_firstFreeStart_29 : decode cX3_firstFreeStart 29 = .ok (.iload_n 2, 1) := by decide +kernel
theorem dX3_firstFreeStart_30 : decode cX3_firstFreeStart 30 = .ok (.iadd, 1) := by decide +kernel
theorem dX3_firstFreeStart_31 : decode cX3_firstFreeStart 31 = .ok (.aload_n 0, 1) := by decide +kernel
theorem dX3_firstFreeStart_32 : decode cX3_firstFreeStart 32 = .ok (.getfield 9, 3) := by decide +kernel
theorem dX3_firstFreeStart_35 : decode cX3_firstFreeStart 35 = .ok (.iconst 1, 1) := by decide +kernel
theorem dX3_firstFreeStart_36 : decode cX3_firstFreeStart 36 = .ok (.iaload, 1) := by decide +kernel
theorem dX3_firstFreeStart_37 : decode cX3_firstFreeStart 37 = .ok (.if_icmp .gt 48, 3) := by decide +kernel
theorem dX3_firstFreeStart_40 : decode cX3_firstFreeStart 40 = .ok (.aload_n 0, 1) := by decide +kernel
theorem dX3_firstFreeStart_41 : decode cX3_firstFreeStart 41 = .ok (.iload_n 1, 1) := by decide +kernel
theorem dX3_firstFreeStart_42 : decode cX3_firstFreeStart 42 = .ok (.iload 4, 2) := by decide +kernel
theorem dX3_firstFreeStart_44 : decode cX3_firstFreeStart 44 = .ok (.iload_n 2, 1) := by decide +kernel
theorem dX3_firstFreeStart_45 : decode cX3_firstFreeStart 45 = .ok (.invokevirtual 102, 3) := by decide +kernel
theorem dX3_firstFreeStart_48 : decode cX3_firstFreeStart 48 = .ok (.istore 6, 2) := by decide +kernel
theorem dX3_firstFreeStart_50 : decode cX3_firstFreeStart 50 = .ok (.iload 6, 2) := by decide +kernel
theorem dX3_firstFreeStart_52 : decode cX3_firstFreeStart 52 = .ok (.iconst (-1), 1) := by decide +kernel
theorem dX3_firstFreeStart_53 : decode cX3_firstFreeStart 53 = .ok (.if_icmp .ne 6, 3) := by decide +kernel
theorem dX3_firstFreeStart_56 : decode cX3_firstFreeStart 56 = .ok (.iload 4, 2) := by decide +kernel
theorem dX3_firstFreeStart_58 : decode cX3_firstFreeStart 58 = .ok (.ireturn, 1) := by decide +kernel
theorem dX3_firstFreeStart_59 : decode cX3_firstFreeStart 59 = .ok (.aload_n 0, 1) := by decide +kernel
theorem dX3_firstFreeStart_60 : decode cX3_firstFreeStart 60 = .ok (.getfield 39, 3) := by decide +kernel
theorem dX3_firstFreeStart_63 : decode cX3_firstFreeStart 63 = .ok (.iload 6, 2) := by decide +kernel
theorem dX3_firstFreeStart_65 : decode cX3_firstFreeStart 65 = .ok (.iaload, 1) := by decide +kernel
theorem dX3_firstFreeStart_66 : decode cX3_firstFreeStart 66 = .ok (.aload_n 0, 1) := by decide +kernel
theorem dX3_firstFreeStart_67 : decode cX3_firstFreeStart 67 = .ok (.getfield 42, 3) := by decide +kernel
theorem dX3_firstFreeStart_70 : decode cX3_firstFreeStart 70 = .ok (.iload 6, 2) := by decide +kernel
theorem dX3_firstFreeStart_72 : decode cX3_firstFreeStart 72 = .ok (.iaload, 1) := by decide +kernel
theorem dX3_firstFreeStart_73 : decode cX3_firstFreeStart 73 = .ok (.iadd, 1) := by decide +kernel
theorem dX3_firstFreeStart_74 : decode cX3_firstFreeStart 74 = .ok (.invokestatic 136, 3) := by decide +kernel
theorem dX3_firstFreeStart_77 : decode cX3_firstFreeStart 77 = .ok (.istore 4, 2) := by decide +kernel
theorem dX3_firstFreeStart_79 : decode cX3_firstFreeStart 79 = .ok (.iinc 5 1, 3) := by decide +kernel
theorem dX3_firstFreeStart_82 : decode cX3_firstFreeStart 82 = .ok (.goto (-64), 3) := by decide +kernel
theorem dX3_firstFreeStart_85 : decode cX3_firstFreeStart 85 = .ok (.iconst (-1), 1) := by decide +kernel
theorem dX3_firstFreeStart_86 : decode cX3_firstFreeStart 86 = .ok (.ireturn, 1) := by decide +kernel
theorem dX3_nextTimeStep_0 : decode cX3_nextTimeStep 0 = .ok (.iload_n 0, 1) := by decide +kernel
theorem dX3_nextTimeStep_1 : decode cX3_nextTimeStep 1 = .ok (.iconst 5, 1) := by decide +kernel
theorem dX3_nextTimeStep_2 : decode cX3_nextTimeStep 2 = .ok (.iadd, 1) := by decide +kernel
theorem dX3_nextTimeStep_3 : decode cX3_nextTimeStep 3 = .ok (.iconst 1, 1) := by decide +kernel
theorem dX3_nextTimeStep_4 : decode cX3_nextTimeStep 4 = .ok (.isub, 1) := by decide +kernel
theorem dX3_nextTimeStep_5 : decode cX3_nextTimeStep 5 = .ok (.iconst 5, 1) := by decide +kernel
theorem dX3_nextTimeStep_6 : decode cX3_nextTimeStep 6 = .ok (.idiv, 1) := by decide +kernel
theorem dX3_nextTimeStep_7 : decode cX3_nextTimeStep 7 = .ok (.iconst 5, 1) := by decide +kernel
theorem dX3_nextTimeStep_8 : decode cX3_nextTimeStep 8 = .ok (.imul, 1) := by decide +kernel
theorem dX3_nextTimeStep_9 : decode cX3_nextTimeStep 9 = .ok (.ireturn, 1) := by decide +kernel
theorem dX3_insert_0 : decode cX3_insert 0 = .ok (.aload_n 0, 1) := by decide +kernel
theorem dX3_insert_1 : decode cX3_insert 1 = .ok (.getfield 67, 3) := by decide +kernel
theorem dX3_insert_4 : decode cX3_insert 4 = .ok (.bipush 24, 2) := by decide +kernel
theorem dX3_insert_6 : decode cX3_insert 6 = .ok (.if_icmp .lt 5, 3) := by decide +kernel
theorem dX3_insert_9 : decode cX3_insert 9 = .ok (.iconst (-1), 1) := by decide +kernel
theorem dX3_insert_10 : decode cX3_insert 10 = .ok (.ireturn, 1) := by decide +kernel
theorem dX3_insert_11 : decode cX3_insert 11 = .ok (.aload_n 0, 1) := by decide +kernel
theorem dX3_insert_12 : decode cX3_insert 12 = .ok (.aload_n 1, 1) := by decide +kernel
theorem dX3_insert_13 : decode cX3_insert 13 = .ok (.getfield 99, 3) := by decide +kernel
theorem dX3_insert_16 : decode cX3_insert 16 = .ok (.aload_n 1, 1) := by decide +kernel
theorem dX3_insert_17 : decode cX3_insert 17 = .ok (.getfield 96, 3) := by decide +kernel
theorem dX3_insert_20 : decode cX3_insert 20 = .ok (.invokevirtual 139, 3) := by decide +kernel
theorem dX3_insert_23 : decode cX3_insert 23 = .ok (.istore_n 2, 1) := by decide +kernel
theorem dX3_insert_24 : decode cX3_insert 24 = .ok (.aload_n 0, 1) := by decide +kernel
theorem dX3_insert_25 : decode cX3_insert 25 = .ok (.getfield 67, 3) := by decide +kernel
theorem dX3_insert_28 : decode cX3_insert 28 = .ok (.istore_n 3, 1) := by decide +kernel
theorem dX3_insert_29 : decode cX3_insert 29 = .ok (.iload_n 3, 1) := by decide +kernel
theorem dX3_insert_30 : decode cX3_insert 30 = .ok (.iload_n 2, 1) := by decide +kernel
theorem dX3_insert_31 : decode cX3_insert 31 = .ok (.if_icmp .le 17, 3) := by decide +kernel
theorem dX3_insert_34 : decode cX3_insert 34 = .ok (.aload_n 0, 1) := by decide +kernel
theorem dX3_insert_35 : decode cX3_insert 35 = .ok (.iload_n 3, 1) := by decide +kernel
theorem dX3_insert_36 : decode cX3_insert 36 = .ok (.iconst 1, 1) := by decide +kernel
theorem dX3_insert_37 : decode cX3_insert 37 = .ok (.isub, 1) := by decide +kernel
theorem dX3_insert_38 : decode cX3_insert 38 = .ok (.iload_n 3, 1) := by decide +kernel
theorem dX3_insert_39 : decode cX3_insert 39 = .ok (.invokevirtual 142, 3) := by decide +kernel
theorem dX3_insert_42 : decode cX3_insert 42 = .ok (.iinc 3 (-1), 3) := by decide +kernel
theorem dX3_insert_45 : decode cX3_insert 45 = .ok (.goto (-16), 3) := by decide +kernel
theorem dX3_insert_48 : decode cX3_insert 48 = .ok (.aload_n 0, 1) := by decide +kernel
theorem dX3_insert_49 : decode cX3_insert 49 = .ok (.dup, 1) := by decide +kernel
theorem dX3_insert_50 : decode cX3_insert 50 = .ok (.getfield 67, 3) := by decide +kernel
theorem dX3_insert_53 : decode cX3_insert 53 = .ok (.iconst 1, 1) := by decide +kernel
theorem dX3_insert_54 : decode cX3_insert 54 = .ok (.iadd, 1) := by decide +kernel
theorem dX3_insert_55 : decode cX3_insert 55 = .ok (.putfield 67, 3) := by decide +kernel
theorem dX3_insert_58 : decode cX3_insert 58 = .ok (.aload_n 0, 1) := by decide +kernel
theorem dX3_insert_59 : decode cX3_insert 59 = .ok (.getfield 51, 3) := by decide +kernel
theorem dX3_insert_62 : decode cX3_insert 62 = .ok (.iload_n 2, 1) := by decide +kernel
theorem dX3_insert_63 : decode cX3_insert 63 = .ok (.aload_n 1, 1) := by decide +kernel
theorem dX3_insert_64 : decode cX3_insert 64 = .ok (.getfield 78, 3) := by decide +kernel
theorem dX3_insert_67 : decode cX3_insert 67 = .ok (.iastore, 1) := by decide +kernel
theorem dX3_insert_68 : decode cX3_insert 68 = .ok (.iconst 0, 1) := by decide +kernel
theorem dX3_insert_69 : decode cX3_insert 69 = .ok (.istore_n 3, 1) := by decide +kernel
theorem dX3_insert_70 : decode cX3_insert 70 = .ok (.iload_n 3, 1) := by decide +kernel
theorem dX3_insert_71 : decode cX3_insert 71 = .ok (.aload_n 0, 1) := by decide +kernel
theorem dX3_insert_72 : decode cX3_insert 72 = .ok (.getfield 67, 3) := by decide +kernel
theorem dX3_insert_75 : decode cX3_insert 75 = .ok (.if_icmp .ge 29, 3) := by decide +kernel
theorem dX3_insert_78 : decode cX3_insert 78 = .ok (.aload_n 0, 1) := by decide +kernel
theorem dX3_insert_79 : decode cX3_insert 79 = .ok (.getfield 51, 3) := by decide +kernel
theorem dX3_insert_82 : decode cX3_insert 82 = .ok (.iload_n 3, 1) := by decide +kernel
theorem dX3_insert_83 : decode cX3_insert 83 = .ok (.iaload, 1) := by decide +kernel
theorem dX3_insert_84 : decode cX3_insert 84 = .ok (.iload_n 2, 1) := by decide +kernel
theorem dX3_insert_85 : decode cX3_insert 85 = .ok (.if_icmp .lt 13, 3) := by decide +kernel
theorem dX3_insert_88 : decode cX3_insert 88 = .ok (.aload_n 0, 1) := by decide +kernel
theorem dX3_insert_89 : decode cX3_insert 89 = .ok (.getfield 51, 3) := by decide +kernel
theorem dX3_insert_92 : decode cX3_insert 92 = .ok (.iload_n 3, 1) := by decide +kernel
theorem dX3_insert_93 : decode cX3_insert 93 = .ok (.dup2, 1) := by decide +kernel
theorem dX3_insert_94 : decode cX3_insert 94 = .ok (.iaload, 1) := by decide +kernel
theorem dX3_insert_95 : decode cX3_insert 95 = .ok (.iconst 1, 1) := by decide +kernel
theorem dX3_insert_96 : decode cX3_insert 96 = .ok (.iadd, 1) := by decide +kernel
theorem dX3_insert_97 : decode cX3_insert 97 = .ok (.iastore, 1) := by decide +kernel
theorem dX3_insert_98 : decode cX3_insert 98 = .ok (.iinc 3 1, 3) := by decide +kernel
theorem dX3_insert_101 : decode cX3_insert 101 = .ok (.goto (-31), 3) := by decide +kernel
theorem dX3_insert_104 : decode cX3_insert 104 = .ok (.aload_n 0, 1) := by decide +kernel
theorem dX3_insert_105 : decode cX3_insert 105 = .ok (.getfield 30, 3) := by decide +kernel
theorem dX3_insert_108 : decode cX3_insert 108 = .ok (.iload_n 2, 1) := by decide +kernel
theorem dX3_insert_109 : decode cX3_insert 109 = .ok (.aload_n 1, 1) := by decide +kernel
theorem dX3_insert_110 : decode cX3_insert 110 = .ok (.getfield 93, 3) := by decide +kernel
theorem dX3_insert_113 : decode cX3_insert 113 = .ok (.iastore, 1) := by decide +kernel
theorem dX3_insert_114 : decode cX3_insert 114 = .ok (.aload_n 0, 1) := by decide +kernel
theorem dX3_insert_115 : decode cX3_insert 115 = .ok (.getfield 33, 3) := by decide +kernel
theorem dX3_insert_118 : decode cX3_insert 118 = .ok (.iload_n 2, 1) := by decide +kernel
theorem dX3_insert_119 : decode cX3_insert 119 = .ok (.aload_n 1, 1) := by decide +kernel
theorem dX3_insert_120 : decode cX3_insert 120 = .ok (.getfield 87, 3) := by decide +kernel
theorem dX3_insert_123 : decode cX3_insert 123 = .ok (.iastore, 1) := by decide +kernel
theorem dX3_insert_124 : decode cX3_insert 124 = .ok (.aload_n 0, 1) := by decide +kernel
theorem dX3_insert_125 : decode cX3_insert 125 = .ok (.getfield 36, 3) := by decide +kernel
theorem dX3_insert_128 : decode cX3_insert 128 = .ok (.iload_n 2, 1) := by decide +kernel
theorem dX3_insert_129 : decode cX3_insert 129 = .ok (.aload_n 1, 1) := by decide +kernel
theorem dX3_insert_130 : decode cX3_insert 130 = .ok (.getfield 99, 3) := by decide +kernel
theorem dX3_insert_133 : decode cX3_insert 133 = .ok (.iastore, 1) := by decide +kernel
theorem dX3_insert_134 : decode cX3_insert 134 = .ok (.aload_n 0, 1) := by decide +kernel
theorem dX3_insert_135 : decode cX3_insert 135 = .ok (.getfield 39, 3) := by decide +kernel
theorem dX3_insert_138 : decode cX3_insert 138 = .ok (.iload_n 2, 1) := by decide +kernel
theorem dX3_insert_139 : decode cX3_insert 139 = .ok (.aload_n 1, 1) := by decide +kernel
theorem dX3_insert_140 : decode cX3_insert 140 = .ok (.getfield 96, 3) := by decide +kernel
theorem dX3_insert_143 : decode cX3_insert 143 = .ok (.iastore, 1) := by decide +kernel
theorem dX3_insert_144 : decode cX3_insert 144 = .ok (.aload_n 0, 1) := by decide +kernel
theorem dX3_insert_145 : decode cX3_insert 145 = .ok (.getfield 42, 3) := by decide +kernel
theorem dX3_insert_148 : decode cX3_insert 148 = .ok (.iload_n 2, 1) := by decide +kernel
theorem dX3_insert_149 : decode cX3_insert 149 = .ok (.aload_n 1, 1) := by decide +kernel
theorem dX3_insert_150 : decode cX3_insert 150 = .ok (.getfield 90, 3) := by decide +kernel
theorem dX3_insert_153 : decode cX3_insert 153 = .ok (.iastore, 1) := by decide +kernel
theorem dX3_insert_154 : decode cX3_insert 154 = .ok (.aload_n 0, 1) := by decide +kernel
theorem dX3_insert_155 : decode cX3_insert 155 = .ok (.getfield 45, 3) := by decide +kernel
theorem dX3_insert_158 : decode cX3_insert 158 = .ok (.iload_n 2, 1) := by decide +kernel
theorem dX3_insert_159 : decode cX3_insert 159 = .ok (.aload_n 1, 1) := by decide +kernel
theorem dX3_insert_160 : decode cX3_insert 160 = .ok (.getfield 113, 3) := by decide +kernel
theorem dX3_insert_163 : decode cX3_insert 163 = .ok (.iastore, 1) := by decide +kernel
theorem dX3_insert_164 : decode cX3_insert 164 = .ok (.aload_n 0, 1) := by decide +kernel
theorem dX3_insert_165 : decode cX3_insert 165 = .ok (.getfield 48, 3) := by decide +kernel
theorem dX3_insert_168 : decode cX3_insert 168 = .ok (.iload_n 2, 1) := by decide +kernel
theorem dX3_insert_169 : decode cX3_insert 169 = .ok (.iconst 0, 1) := by decide +kernel
theorem dX3_insert_170 : decode cX3_insert 170 = .ok (.iastore, 1) := by decide +kernel
theorem dX3_insert_171 : decode cX3_insert 171 = .ok (.iload_n 2, 1) := by decide +kernel
theorem dX3_insert_172 : decode cX3_insert 172 = .ok (.ireturn, 1) := by decide +kernel
theorem dX3_numberFor_0 : decode cX3_numberFor 0 = .ok (.iconst 0, 1) := by decide +kernel
theorem dX3_numberFor_1 : decode cX3_numberFor 1 = .ok (.istore_n 3, 1) := by decide +kernel
theorem dX3_numberFor_2 : decode cX3_numberFor 2 = .ok (.iconst 0, 1) := by decide +kernel
theorem dX3_numberFor_3 : decode cX3_numberFor 3 = .ok (.istore 4, 2) := by decide +kernel
theorem dX3_numberFor_5 : decode cX3_numberFor 5 = .ok (.iload 4, 2) := by decide +kernel
theorem dX3_numberFor_7 : decode cX3_numberFor 7 = .ok (.aload_n 0, 1) := by decide +kernel
theorem dX3_numberFor_8 : decode cX3_numberFor 8 = .ok (.getfield 67, 3) := by decide +kernel
theorem dX3_numberFor_11 : decode cX3_numberFor 11 = .ok (.if_icmp .ge 45, 3) := by decide +kernel
theorem dX3_numberFor_14 : decode cX3_numberFor 14 = .ok (.aload_n 0, 1) := by decide +kernel
theorem dX3_numberFor_15 : decode cX3_numberFor 15 = .ok (.getfield 36, 3) := by decide +kernel
theorem dX3_numberFor_18 : decode cX3_numberFor 18 = .ok (.iload 4, 2) := by decide +kernel
theorem dX3_numberFor_20 : decode cX3_numberFor 20 = .ok (.iaload, 1) := by decide +kernel
theorem dX3_numberFor_21 : decode cX3_numberFor 21 = .ok (.iload_n 1, 1) := by decide +kernel
theorem dX3_numberFor_22 : decode cX3_numberFor 22 = .ok (.if_icmp .lt 25, 3) := by decide +kernel
theorem dX3_numberFor_25 : decode cX3_numberFor 25 = .ok (.aload_n 0, 1) := by decide +kernel
theorem dX3_numberFor_26 : decode cX3_numberFor 26 = .ok (.getfield 36, 3) := by decide +kernel
theorem dX3_numberFor_29 : decode cX3_numberFor 29 = .ok (.iload 4, 2) := by decide +kernel
theorem dX3_numberFor_31 : decode cX3_numberFor 31 = .ok (.iaload, 1) := by decide +kernel
theorem dX3_numberFor_32 : decode cX3_numberFor 32 = .ok (.iload_n 1, 1) := by decide +kernel
theorem dX3_numberFor_33 : decode cX3_numberFor 33 = .ok (.if_icmp .ne 17, 3) := by decide +kernel
theorem dX3_numberFor_36 : decode cX3_numberFor 36 = .ok (.aload_n 0, 1) := by decide +kernel
theorem dX3_numberFor_37 : decode cX3_numberFor 37 = .ok (.getfield 39, 3) := by decide +kernel
theorem dX3_numberFor_40 : decode cX3_numberFor 40 = .ok (.iload 4, 2) := by decide +kernel
theorem dX3_numberFor_42 : decode cX3_numberFor 42 = .ok (.iaload, 1) := by decide +kernel
theorem dX3_numberFor_43 : decode cX3_numberFor 43 = .ok (.iload_n 2, 1) := by decide +kernel
theorem dX3_numberFor_44 : decode cX3_numberFor 44 = .ok (.if_icmp .ge 6, 3) := by decide +kernel
theorem dX3_numberFor_47 : decode cX3_numberFor 47 = .ok (.iinc 3 1, 3) := by decide +kernel
theorem dX3_numberFor_50 : decode cX3_numberFor 50 = .ok (.iinc 4 1, 3) := by decide +kernel
theorem dX3_numberFor_53 : decode cX3_numberFor 53 = .ok (.goto (-48), 3) := by decide +kernel
theorem dX3_numberFor_56 : decode cX3_numberFor 56 = .ok (.iload_n 3, 1) := by decide +kernel
theorem dX3_numberFor_57 : decode cX3_numberFor 57 = .ok (.ireturn, 1) := by decide +kernel
theorem dX3_takeOutWithRepeats_0 : decode cX3_takeOutWithRepeats 0 = .ok (.aload_n 0, 1) := by decide +kernel
theorem dX3_takeOutWithRepeats_1 : decode cX3_takeOutWithRepeats 1 = .ok (.getfield 67, 3) := by decide +kernel
theorem dX3_takeOutWithRepeats_4 : decode cX3_takeOutWithRepeats 4 = .ok (.istore_n 2, 1) := by decide +kernel
theorem dX3_takeOutWithRepeats_5 : decode cX3_takeOutWithRepeats 5 = .ok (.aload_n 0, 1) := by decide +kernel
theorem dX3_takeOutWithRepeats_6 : decode cX3_takeOutWithRepeats 6 = .ok (.getfield 67, 3) := by decide +kernel
theorem dX3_takeOutWithRepeats_9 : decode cX3_takeOutWithRepeats 9 = .ok (.iconst 1, 1) := by decide +kernel
theorem dX3_takeOutWithRepeats_10 : decode cX3_takeOutWithRepeats 10 = .ok (.isub, 1) := by decide +kernel
theorem dX3_takeOutWithRepeats_11 : decode cX3_takeOutWithRepeats 11 = .ok (.istore_n 3, 1) := by decide +kernel
theorem dX3_takeOutWithRepeats_12 : decode cX3_takeOutWithRepeats 12 = .ok (.iload_n 3, 1) := by decide +kernel
theorem dX3_takeOutWithRepeats_13 : decode cX3_takeOutWithRepeats 13 = .ok (.iload_n 1, 1) := by decide +kernel
theorem dX3_takeOutWithRepeats_14 : decode cX3_takeOutWithRepeats 14 = .ok (.if_icmp .le 24, 3) := by decide +kernel
theorem dX3_takeOutWithRepeats_17 : decode cX3_takeOutWithRepeats 17 = .ok (.aload_n 0, 1) := by decide +kernel
theorem dX3_takeOutWithRepeats_18 : decode cX3_takeOutWithRepeats 18 = .ok (.getfield 51, 3) := by decide +kernel
theorem dX3_takeOutWithRepeats_21 : decode cX3_takeOutWithRepeats 21 = .ok (.iload_n 3, 1) := by decide +kernel
theorem dX3_takeOutWithRepeats_22 : decode cX3_takeOutWithRepeats 22 = .ok (.iaload, 1) := by decide +kernel
theorem dX3_takeOutWithRepeats_23 : decode cX3_takeOutWithRepeats 23 = .ok (.iload_n 1, 1) := by decide +kernel
theorem dX3_takeOutWithRepeats_24 : decode cX3_takeOutWithRepeats 24 = .ok (.if_icmp .ne 8, 3) := by decide +kernel
theorem dX3_takeOutWithRepeats_27 : decode cX3_takeOutWithRepeats 27 = .ok (.aload_n 0, 1) := by decide +kernel
theorem dX3_takeOutWithRepeats_28 : decode cX3_takeOutWithRepeats 28 = .ok (.iload_n 3, 1) := by decide +kernel
theorem dX3_takeOutWithRepeats_29 : decode cX3_takeOutWithRepeats 29 = .ok (.invokevirtual 146, 3) := by decide +kernel
theorem dX3_takeOutWithRepeats_32 : decode cX3_takeOutWithRepeats 32 = .ok (.iinc 3 (-1), 3) := by decide +kernel
theorem dX3_takeOutWithRepeats_35 : decode cX3_takeOutWithRepeats 35 = .ok (.goto (-23), 3) := by decide +kernel
theorem dX3_takeOutWithRepeats_38 : decode cX3_takeOutWithRepeats 38 = .ok (.aload_n 0, 1) := by decide +kernel
theorem dX3_takeOutWithRepeats_39 : decode cX3_takeOutWithRepeats 39 = .ok (.iload_n 1, 1) := by decide +kernel
theorem dX3_takeOutWithRepeats_40 : decode cX3_takeOutWithRepeats 40 = .ok (.invokevirtual 146, 3) := by decide +kernel
theorem dX3_takeOutWithRepeats_43 : decode cX3_takeOutWithRepeats 43 = .ok (.iload_n 2, 1) := by decide +kernel
theorem dX3_takeOutWithRepeats_44 : decode cX3_takeOutWithRepeats 44 = .ok (.aload_n 0, 1) := by decide +kernel
theorem dX3_takeOutWithRepeats_45 : decode cX3_takeOutWithRepeats 45 = .ok (.getfield 67, 3) := by decide +kernel
theorem dX3_takeOutWithRepeats_48 : decode cX3_takeOutWithRepeats 48 = .ok (.isub, 1) := by decide +kernel
theorem dX3_takeOutWithRepeats_49 : decode cX3_takeOutWithRepeats 49 = .ok (.ireturn, 1) := by decide +kernel
theorem dX3_takeOut_0 : decode cX3_takeOut 0 = .ok (.iload_n 1, 1) := by decide +kernel
theorem dX3_takeOut_1 : decode cX3_takeOut 1 = .ok (.istore_n 2, 1) := by decide +kernel
theorem dX3_takeOut_2 : decode cX3_takeOut 2 = .ok (.iload_n 2, 1) := by decide +kernel
theorem dX3_takeOut_3 : decode cX3_takeOut 3 = .ok (.aload_n 0, 1) := by decide +kernel
theorem dX3_takeOut_4 : decode cX3_takeOut 4 = .ok (.getfield 67, 3) := by decide +kernel
theorem dX3_takeOut_7 : decode cX3_takeOut 7 = .ok (.iconst 1, 1) := by decide +kernel
theorem dX3_takeOut_8 : decode cX3_takeOut 8 = .ok (.isub, 1) := by decide +kernel
theorem dX3_takeOut_9 : decode cX3_takeOut 9 = .ok (.if_icmp .ge 17, 3) := by decide +kernel
theorem dX3_takeOut_12 : decode cX3_takeOut 12 = .ok (.aload_n 0, 1) := by decide +kernel
theorem dX3_takeOut_13 : decode cX3_takeOut 13 = .ok (.iload_n 2, 1) := by decide +kernel
theorem dX3_takeOut_14 : decode cX3_takeOut 14 = .ok (.iconst 1, 1) := by decide +kernel
theorem dX3_takeOut_15 : decode cX3_takeOut 15 = .ok (.iadd, 1) := by decide +kernel
theorem dX3_takeOut_16 : decode cX3_takeOut 16 = .ok (.iload_n 2, 1) := by decide +kernel
theorem dX3_takeOut_17 : decode cX3_takeOut 17 = .ok (.invokevirtual 142, 3) := by decide +kernel
theorem dX3_takeOut_20 : decode cX3_takeOut 20 = .ok (.iinc 2 1, 3) := by decide +kernel
theorem dX3_takeOut_23 : decode cX3_takeOut 23 = .ok (.goto (-21), 3) := by decide +kernel
theorem dX3_takeOut_26 : decode cX3_takeOut 26 = .ok (.aload_n 0, 1) := by decide +kernel
theorem dX3_takeOut_27 : decode cX3_takeOut 27 = .ok (.dup, 1) := by decide +kernel
theorem dX3_takeOut_28 : decode cX3_takeOut 28 = .ok (.getfield 67, 3) := by decide +kernel
theorem dX3_takeOut_31 : decode cX3_takeOut 31 = .ok (.iconst 1, 1) := by decide +kernel
theorem dX3_takeOut_32 : decode cX3_takeOut 32 = .ok (.isub, 1) := by decide +kernel
theorem dX3_takeOut_33 : decode cX3_takeOut 33 = .ok (.putfield 67, 3) := by decide +kernel
theorem dX3_takeOut_36 : decode cX3_takeOut 36 = .ok (.iconst 0, 1) := by decide +kernel
theorem dX3_takeOut_37 : decode cX3_takeOut 37 = .ok (.istore_n 2, 1) := by decide +kernel
theorem dX3_takeOut_38 : decode cX3_takeOut 38 = .ok (.iload_n 2, 1) := by decide +kernel
theorem dX3_takeOut_39 : decode cX3_takeOut 39 = .ok (.aload_n 0, 1) := by decide +kernel
theorem dX3_takeOut_40 : decode cX3_takeOut 40 = .ok (.getfield 67, 3) := by decide +kernel
theorem dX3_takeOut_43 : decode cX3_takeOut 43 = .ok (.if_icmp .ge 29, 3) := by decide +kernel
theorem dX3_takeOut_46 : decode cX3_takeOut 46 = .ok (.aload_n 0, 1) := by decide +kernel
theorem dX3_takeOut_47 : decode cX3_takeOut 47 = .ok (.getfield 51, 3) := by decide +kernel
theorem dX3_takeOut_50 : decode cX3_takeOut 50 = .ok (.iload_n 2, 1) := by decide +kernel
theorem dX3_takeOut_51 : decode cX3_takeOut 51 = .ok (.iaload, 1) := by decide +kernel
theorem dX3_takeOut_52 : decode cX3_takeOut 52 = .ok (.iload_n 1, 1) := by decide +kernel
theorem dX3_takeOut_53 : decode cX3_takeOut 53 = .ok (.if_icmp .le 13, 3) := by decide +kernel
theorem dX3_takeOut_56 : decode cX3_takeOut 56 = .ok (.aload_n 0, 1) := by decide +kernel
theorem dX3_takeOut_57 : decode cX3_takeOut 57 = .ok (.getfield 51, 3) := by decide +kernel
theorem dX3_takeOut_60 : decode cX3_takeOut 60 = .ok (.iload_n 2, 1) := by decide +kernel
theorem dX3_takeOut_61 : decode cX3_takeOut 61 = .ok (.dup2, 1) := by decide +kernel
theorem dX3_takeOut_62 : decode cX3_takeOut 62 = .ok (.iaload, 1) := by decide +kernel
theorem dX3_takeOut_63 : decode cX3_takeOut 63 = .ok (.iconst 1, 1) := by decide +kernel
theorem dX3_takeOut_64 : decode cX3_takeOut 64 = .ok (.isub, 1) := by decide +kernel
theorem dX3_takeOut_65 : decode cX3_takeOut 65 = .ok (.iastore, 1) := by decide +kernel
theorem dX3_takeOut_66 : decode cX3_takeOut 66 = .ok (.iinc 2 1, 3) := by decide +kernel
theorem dX3_takeOut_69 : decode cX3_takeOut 69 = .ok (.goto (-31), 3) := by decide +kernel
theorem dX3_takeOut_72 : decode cX3_takeOut 72 = .ok (.return_, 1) := by decide +kernel
theorem dX3_moveShow_0 : decode cX3_moveShow 0 = .ok (.aload_n 0, 1) := by decide +kernel
theorem dX3_moveShow_1 : decode cX3_moveShow 1 = .ok (.getfield 30, 3) := by decide +kernel
theorem dX3_moveShow_4 : decode cX3_moveShow 4 = .ok (.iload_n 2, 1) := by decide +kernel
theorem dX3_moveShow_5 : decode cX3_moveShow 5 = .ok (.aload_n 0, 1) := by decide +kernel
theorem dX3_moveShow_6 : decode cX3_moveShow 6 = .ok (.getfield 30, 3) := by decide +kernel
theorem dX3_moveShow_9 : decode cX3_moveShow 9 = .ok (.iload_n 1, 1) := by decide +kernel
theorem dX3_moveShow_10 : decode cX3_moveShow 10 = .ok (.iaload, 1) := by decide +kernel
theorem dX3_moveShow_11 : decode cX3_moveShow 11 = .ok (.iastore, 1) := by decide +kernel
theorem dX3_moveShow_12 : decode cX3_moveShow 12 = .ok (.aload_n 0, 1) := by decide +kernel
theorem dX3_moveShow_13 : decode cX3_moveShow 13 = .ok (.getfield 33, 3) := by decide +kernel
theorem dX3_moveShow_16 : decode cX3_moveShow 16 = .ok (.iload_n 2, 1) := by decide +kernel
theorem dX3_moveShow_17 : decode cX3_moveShow 17 = .ok (.aload_n 0, 1) := by decide +kernel
theorem dX3_moveShow_18 : decode cX3_moveShow 18 = .ok (.getfield 33, 3) := by decide +kernel
theorem dX3_moveShow_21 : decode cX3_moveShow 21 = .ok (.iload_n 1, 1) := by decide +kernel
theorem dX3_moveShow_22 : decode cX3_moveShow 22 = .ok (.iaload, 1) := by decide +kernel
theorem dX3_moveShow_23 : decode cX3_moveShow 23 = .ok (.iastore, 1) := by decide +kernel
theorem dX3_moveShow_24 : decode cX3_moveShow 24 = .ok (.aload_n 0, 1) := by decide +kernel
theorem dX3_moveShow_25 : decode cX3_moveShow 25 = .ok (.getfield 36, 3) := by decide +kernel
theorem dX3_moveShow_28 : decode cX3_moveShow 28 = .ok (.iload_n 2, 1) := by decide +kernel
theorem dX3_moveShow_29 : decode cX3_moveShow 29 = .ok (.aload_n 0, 1) := by decide +kernel
theorem dX3_moveShow_30 : decode cX3_moveShow 30 = .ok (.getfield 36, 3) := by decide +kernel
theorem dX3_moveShow_33 : decode cX3_moveShow 33 = .ok (.iload_n 1, 1) := by decide +kernel
theorem dX3_moveShow_34 : decode cX3_moveShow 34 = .ok (.iaload, 1) := by decide +kernel
theorem dX3_moveShow_35 : decode cX3_moveShow 35 = .ok (.iastore, 1) := by decide +kernel
theorem dX3_moveShow_36 : decode cX3_moveShow 36 = .ok (.aload_n 0, 1) := by decide +kernel
theorem dX3_moveShow_37 : decode cX3_moveShow 37 = .ok (.getfield 39, 3) := by decide +kernel
theorem dX3_moveShow_40 : decode cX3_moveShow 40 = .ok (.iload_n 2, 1) := by decide +kernel
theorem dX3_moveShow_41 : decode cX3_moveShow 41 = .ok (.aload_n 0, 1) := by decide +kernel
theorem dX3_moveShow_42 : decode cX3_moveShow 42 = .ok (.getfield 39, 3) := by decide +kernel
theorem dX3_moveShow_45 : decode cX3_moveShow 45 = .ok (.iload_n 1, 1) := by decide +kernel
theorem dX3_moveShow_46 : decode cX3_moveShow 46 = .ok (.iaload, 1) := by decide +kernel
theorem dX3_moveShow_47 : decode cX3_moveShow 47 = .ok (.iastore, 1) := by decide +kernel
theorem dX3_moveShow_48 : decode cX3_moveShow 48 = .ok (.aload_n 0, 1) := by decide +kernel
theorem dX3_moveShow_49 : decode cX3_moveShow 49 = .ok (.getfield 42, 3) := by decide +kernel
theorem dX3_moveShow_52 : decode cX3_moveShow 52 = .ok (.iload_n 2, 1) := by decide +kernel
theorem dX3_moveShow_53 : decode cX3_moveShow 53 = .ok (.aload_n 0, 1) := by decide +kernel
theorem dX3_moveShow_54 : decode cX3_moveShow 54 = .ok (.getfield 42, 3) := by decide +kernel
theorem dX3_moveShow_57 : decode cX3_moveShow 57 = .ok (.iload_n 1, 1) := by decide +kernel
theorem dX3_moveShow_58 : decode cX3_moveShow 58 = .ok (.iaload, 1) := by decide +kernel
theorem dX3_moveShow_59 : decode cX3_moveShow 59 = .ok (.iastore, 1) := by decide +kernel
theorem dX3_moveShow_60 : decode cX3_moveShow 60 = .ok (.aload_n 0, 1) := by decide +kernel
theorem dX3_moveShow_61 : decode cX3_moveShow 61 = .ok (.getfield 45, 3) := by decide +kernel
theorem dX3_moveShow_64 : decode cX3_moveShow 64 = .ok (.iload_n 2, 1) := by decide +kernel
theorem dX3_moveShow_65 : decode cX3_moveShow 65 = .ok (.aload_n 0, 1) := by decide +kernel
theorem dX3_moveShow_66 : decode cX3_moveShow 66 = .ok (.getfield 45, 3) := by decide +kernel
theorem dX3_moveShow_69 : decode cX3_moveShow 69 = .ok (.iload_n 1, 1) := by decide +kernel
theorem dX3_moveShow_70 : decode cX3_moveShow 70 = .ok (.iaload, 1) := by decide +kernel
theorem dX3_moveShow_71 : decode cX3_moveShow 71 = .ok (.iastore, 1) := by decide +kernel
theorem dX3_moveShow_72 : decode cX3_moveShow 72 = .ok (.aload_n 0, 1) := by decide +kernel
theorem dX3_moveShow_73 : decode cX3_moveShow 73 = .ok (.getfield 48, 3) := by decide +kernel
theorem dX3_moveShow_76 : decode cX3_moveShow 76 = .ok (.iload_n 2, 1) := by decide +kernel
theorem dX3_moveShow_77 : decode cX3_moveShow 77 = .ok (.aload_n 0, 1) := by decide +kernel
theorem dX3_moveShow_78 : decode cX3_moveShow 78 = .ok (.getfield 48, 3) := by decide +kernel
theorem dX3_moveShow_81 : decode cX3_moveShow 81 = .ok (.iload_n 1, 1) := by decide +kernel
theorem dX3_moveShow_82 : decode cX3_moveShow 82 = .ok (.iaload, 1) := by decide +kernel
theorem dX3_moveShow_83 : decode cX3_moveShow 83 = .ok (.iastore, 1) := by decide +kernel
theorem dX3_moveShow_84 : decode cX3_moveShow 84 = .ok (.aload_n 0, 1) := by decide +kernel
theorem dX3_moveShow_85 : decode cX3_moveShow 85 = .ok (.getfield 51, 3) := by decide +kernel
theorem dX3_moveShow_88 : decode cX3_moveShow 88 = .ok (.iload_n 2, 1) := by decide +kernel
theorem dX3_moveShow_89 : decode cX3_moveShow 89 = .ok (.aload_n 0, 1) := by decide +kernel
theorem dX3_moveShow_90 : decode cX3_moveShow 90 = .ok (.getfield 51, 3) := by decide +kernel
theorem dX3_moveShow_93 : decode cX3_moveShow 93 = .ok (.iload_n 1, 1) := by decide +kernel
theorem dX3_moveShow_94 : decode cX3_moveShow 94 = .ok (.iaload, 1) := by decide +kernel
theorem dX3_moveShow_95 : decode cX3_moveShow 95 = .ok (.iastore, 1) := by decide +kernel
theorem dX3_moveShow_96 : decode cX3_moveShow 96 = .ok (.return_, 1) := by decide +kernel
theorem dX3_closeGroup_0 : decode cX3_closeGroup 0 = .ok (.aload_n 0, 1) := by decide +kernel
theorem dX3_closeGroup_1 : decode cX3_closeGroup 1 = .ok (.iload_n 1, 1) := by decide +kernel
theorem dX3_closeGroup_2 : decode cX3_closeGroup 2 = .ok (.invokevirtual 122, 3) := by decide +kernel
theorem dX3_closeGroup_5 : decode cX3_closeGroup 5 = .ok (.iload_n 2, 1) := by decide +kernel
theorem dX3_closeGroup_6 : decode cX3_closeGroup 6 = .ok (.isub, 1) := by decide +kernel
theorem dX3_closeGroup_7 : decode cX3_closeGroup 7 = .ok (.istore_n 3, 1) := by decide +kernel
theorem dX3_closeGroup_8 : decode cX3_closeGroup 8 = .ok (.aload_n 0, 1) := by decide +kernel
theorem dX3_closeGroup_9 : decode cX3_closeGroup 9 = .ok (.getfield 9, 3) := by decide +kernel
theorem dX3_closeGroup_12 : decode cX3_closeGroup 12 = .ok (.bipush 7, 2) := by decide +kernel
theorem dX3_closeGroup_14 : decode cX3_closeGroup 14 = .ok (.iaload, 1) := by decide +kernel
theorem dX3_closeGroup_15 : decode cX3_closeGroup 15 = .ok (.istore 4, 2) := by decide +kernel
theorem dX3_closeGroup_17 : decode cX3_closeGroup 17 = .ok (.aload_n 0, 1) := by decide +kernel
theorem dX3_closeGroup_18 : decode cX3_closeGroup 18 = .ok (.getfield 18, 3) := by decide +kernel
theorem dX3_closeGroup_21 : decode cX3_closeGroup 21 = .ok (.iload_n 1, 1) := by decide +kernel
theorem dX3_closeGroup_22 : decode cX3_closeGroup 22 = .ok (.iload 4, 2) := by decide +kernel
theorem dX3_closeGroup_24 : decode cX3_closeGroup 24 = .ok (.ineg, 1) := by decide +kernel
theorem dX3_closeGroup_25 : decode cX3_closeGroup 25 = .ok (.iload 4, 2) := by decide +kernel
theorem dX3_closeGroup_27 : decode cX3_closeGroup 27 = .ok (.iload_n 3, 1) := by decide +kernel
theorem dX3_closeGroup_28 : decode cX3_closeGroup 28 = .ok (.invokestatic 150, 3) := by decide +kernel
theorem dX3_closeGroup_31 : decode cX3_closeGroup 31 = .ok (.invokestatic 131, 3) := by decide +kernel
theorem dX3_closeGroup_34 : decode cX3_closeGroup 34 = .ok (.iastore, 1) := by decide +kernel
theorem dX3_closeGroup_35 : decode cX3_closeGroup 35 = .ok (.aload_n 0, 1) := by decide +kernel
theorem dX3_closeGroup_36 : decode cX3_closeGroup 36 = .ok (.getfield 27, 3) := by decide +kernel
theorem dX3_closeGroup_39 : decode cX3_closeGroup 39 = .ok (.iload_n 1, 1) := by decide +kernel
theorem dX3_closeGroup_40 : decode cX3_closeGroup 40 = .ok (.dup2, 1) := by decide +kernel
theorem dX3_closeGroup_41 : decode cX3_closeGroup 41 = .ok (.iaload, 1) := by decide +kernel
theorem dX3_closeGroup_42 : decode cX3_closeGroup 42 = .ok (.iload_n 3, 1) := by decide +kernel
theorem dX3_closeGroup_43 : decode cX3_closeGroup 43 = .ok (.aload_n 0, 1) := by decide +kernel
theorem dX3_closeGroup_44 : decode cX3_closeGroup 44 = .ok (.getfield 18, 3) := by decide +kernel
theorem dX3_closeGroup_47 : decode cX3_closeGroup 47 = .ok (.iload_n 1, 1) := by decide +kernel
theorem dX3_closeGroup_48 : decode cX3_closeGroup 48 = .ok (.iaload, 1) := by decide +kernel
theorem dX3_closeGroup_49 : decode cX3_closeGroup 49 = .ok (.isub, 1) := by decide +kernel
theorem dX3_closeGroup_50 : decode cX3_closeGroup 50 = .ok (.iadd, 1) := by decide +kernel
theorem dX3_closeGroup_51 : decode cX3_closeGroup 51 = .ok (.iastore, 1) := by decide +kernel
theorem dX3_closeGroup_52 : decode cX3_closeGroup 52 = .ok (.aload_n 0, 1) := by decide +kernel
theorem dX3_closeGroup_53 : decode cX3_closeGroup 53 = .ok (.getfield 24, 3) := by decide +kernel
theorem dX3_closeGroup_56 : decode cX3_closeGroup 56 = .ok (.iload_n 1, 1) := by decide +kernel
theorem dX3_closeGroup_57 : decode cX3_closeGroup 57 = .ok (.dup2, 1) := by decide +kernel
theorem dX3_closeGroup_58 : decode cX3_closeGroup 58 = .ok (.iaload, 1) := by decide +kernel
theorem dX3_closeGroup_59 : decode cX3_closeGroup 59 = .ok (.iload_n 2, 1) := by decide +kernel
theorem dX3_closeGroup_60 : decode cX3_closeGroup 60 = .ok (.iadd, 1) := by decide +kernel
theorem dX3_closeGroup_61 : decode cX3_closeGroup 61 = .ok (.iastore, 1) := by decide +kernel
theorem dX3_closeGroup_62 : decode cX3_closeGroup 62 = .ok (.aload_n 0, 1) := by decide +kernel
theorem dX3_closeGroup_63 : decode cX3_closeGroup 63 = .ok (.getfield 21, 3) := by decide +kernel
theorem dX3_closeGroup_66 : decode cX3_closeGroup 66 = .ok (.iload_n 1, 1) := by decide +kernel
theorem dX3_closeGroup_67 : decode cX3_closeGroup 67 = .ok (.dup2, 1) := by decide +kernel
theorem dX3_closeGroup_68 : decode cX3_closeGroup 68 = .ok (.iaload, 1) := by decide +kernel
theorem dX3_closeGroup_69 : decode cX3_closeGroup 69 = .ok (.aload_n 0, 1) := by decide +kernel
theorem dX3_closeGroup_70 : decode cX3_closeGroup 70 = .ok (.getfield 15, 3) := by decide +kernel
theorem dX3_closeGroup_73 : decode cX3_closeGroup 73 = .ok (.iload_n 1, 1) := by decide +kernel
theorem dX3_closeGroup_74 : decode cX3_closeGroup 74 = .ok (.iaload, 1) := by decide +kernel
theorem dX3_closeGroup_75 : decode cX3_closeGroup 75 = .ok (.iadd, 1) := by decide +kernel
theorem dX3_closeGroup_76 : decode cX3_closeGroup 76 = .ok (.iastore, 1) := by decide +kernel
theorem dX3_closeGroup_77 : decode cX3_closeGroup 77 = .ok (.return_, 1) := by decide +kernel
theorem dX3_beginNextWeek_0 : decode cX3_beginNextWeek 0 = .ok (.iconst 0, 1) := by decide +kernel
theorem dX3_beginNextWeek_1 : decode cX3_beginNextWeek 1 = .ok (.istore_n 1, 1) := by decide +kernel
theorem dX3_beginNextWeek_2 : decode cX3_beginNextWeek 2 = .ok (.iload_n 1, 1) := by decide +kernel
theorem dX3_beginNextWeek_3 : decode cX3_beginNextWeek 3 = .ok (.aload_n 0, 1) := by decide +kernel
theorem dX3_beginNextWeek_4 : decode cX3_beginNextWeek 4 = .ok (.getfield 67, 3) := by decide +kernel
theorem dX3_beginNextWeek_7 : decode cX3_beginNextWeek 7 = .ok (.if_icmp .ge 16, 3) := by decide +kernel
theorem dX3_beginNextWeek_10 : decode cX3_beginNextWeek 10 = .ok (.aload_n 0, 1) := by decide +kernel
theorem dX3_beginNextWeek_11 : decode cX3_beginNextWeek 11 = .ok (.getfield 48, 3) := by decide +kernel
theorem dX3_beginNextWeek_14 : decode cX3_beginNextWeek 14 = .ok (.iload_n 1, 1) := by decide +kernel
theorem dX3_beginNextWeek_15 : decode cX3_beginNextWeek 15 = .ok (.iconst 0, 1) := by decide +kernel
theorem dX3_beginNextWeek_16 : decode cX3_beginNextWeek 16 = .ok (.iastore, 1) := by decide +kernel
theorem dX3_beginNextWeek_17 : decode cX3_beginNextWeek 17 = .ok (.iinc 1 1, 3) := by decide +kernel
theorem dX3_beginNextWeek_20 : decode cX3_beginNextWeek 20 = .ok (.goto (-18), 3) := by decide +kernel
theorem dX3_beginNextWeek_23 : decode cX3_beginNextWeek 23 = .ok (.aload_n 0, 1) := by decide +kernel
theorem dX3_beginNextWeek_24 : decode cX3_beginNextWeek 24 = .ok (.dup, 1) := by decide +kernel
theorem dX3_beginNextWeek_25 : decode cX3_beginNextWeek 25 = .ok (.getfield 63, 3) := by decide +kernel
theorem dX3_beginNextWeek_28 : decode cX3_beginNextWeek 28 = .ok (.iconst 1, 1) := by decide +kernel
theorem dX3_beginNextWeek_29 : decode cX3_beginNextWeek 29 = .ok (.iadd, 1) := by decide +kernel
theorem dX3_beginNextWeek_30 : decode cX3_beginNextWeek 30 = .ok (.putfield 63, 3) := by decide +kernel
theorem dX3_beginNextWeek_33 : decode cX3_beginNextWeek 33 = .ok (.return_, 1) := by decide +kernel
theorem dX4_init_0 : decode cX4_init 0 = .ok (.aload_n 0, 1) := by decide +kernel
theorem dX4_init_1 : decode cX4_init 1 = .ok (.invokespecial 3, 3) := by decide +kernel
theorem dX4_init_4 : decode cX4_init 4 = .ok (.return_, 1) := by decide +kernel
theorem dX4_become_0 : decode cX4_become 0 = .ok (.aload_n 0, 1) := by decide +kernel
theorem dX4_become_1 : decode cX4_become 1 = .ok (.iload_n 1, 1) := by decide +kernel
theorem dX4_become_2 : decode cX4_become 2 = .ok (.putfield 9, 3) := by decide +kernel
theorem dX4_become_5 : decode cX4_become 5 = .ok (.aload_n 0, 1) := by decide +kernel
theorem dX4_become_6 : decode cX4_become 6 = .ok (.iload_n 2, 1) := by decide +kernel
theorem dX4_become_7 : decode cX4_become 7 = .ok (.putfield 15, 3) := by decide +kernel
theorem dX4_become_10 : decode cX4_become 10 = .ok (.aload_n 0, 1) := by decide +kernel
theorem dX4_become_11 : decode cX4_become 11 = .ok (.iload_n 3, 1) := by decide +kernel
theorem dX4_become_12 : decode cX4_become 12 = .ok (.putfield 18, 3) := by decide +kernel
theorem dX4_become_15 : decode cX4_become 15 = .ok (.aload_n 0, 1) := by decide +kernel
theorem dX4_become_16 : decode cX4_become 16 = .ok (.iload 4, 2) := by decide +kernel
theorem dX4_become_18 : decode cX4_become 18 = .ok (.putfield 21, 3) := by decide +kernel
theorem dX4_become_21 : decode cX4_become 21 = .ok (.aload_n 0, 1) := by decide +kernel
theorem dX4_become_22 : decode cX4_become 22 = .ok (.iload 5, 2) := by decide +kernel
theorem dX4_become_24 : decode cX4_become 24 = .ok (.putfield 24, 3) := by decide +kernel
theorem dX4_become_27 : decode cX4_become 27 = .ok (.aload_n 0, 1) := by decide +kernel
theorem dX4_become_28 : decode cX4_become 28 = .ok (.iload 6, 2) := by decide +kernel
theorem dX4_become_30 : decode cX4_become 30 = .ok (.putfield 27, 3) := by decide +kernel
theorem dX4_become_33 : decode cX4_become 33 = .ok (.aload_n 0, 1) := by decide +kernel
theorem dX4_become_34 : decode cX4_become 34 = .ok (.iconst (-1), 1) := by decide +kernel
theorem dX4_become_35 : decode cX4_become 35 = .ok (.putfield 30, 3) := by decide +kernel
theorem dX4_become_38 : decode cX4_become 38 = .ok (.return_, 1) := by decide +kernel
theorem dX4_becomeRepeat_0 : decode cX4_becomeRepeat 0 = .ok (.aload_n 0, 1) := by decide +kernel
theorem dX4_becomeRepeat_1 : decode cX4_becomeRepeat 1 = .ok (.iconst 2, 1) := by decide +kernel
theorem dX4_becomeRepeat_2 : decode cX4_becomeRepeat 2 = .ok (.iconst 0, 1) := by decide +kernel
theorem dX4_becomeRepeat_3 : decode cX4_becomeRepeat 3 = .ok (.iload_n 2, 1) := by decide +kernel
theorem dX4_becomeRepeat_4 : decode cX4_becomeRepeat 4 = .ok (.iload_n 3, 1) := by decide +kernel
theorem dX4_becomeRepeat_5 : decode cX4_becomeRepeat 5 = .ok (.iconst 0, 1) := by decide +kernel
theorem dX4_becomeRepeat_6 : decode cX4_becomeRepeat 6 = .ok (.iconst 0, 1) := by decide +kernel
theorem dX4_becomeRepeat_7 : decode cX4_becomeRepeat 7 = .ok (.invokevirtual 33, 3) := by decide +kernel
theorem dX4_becomeRepeat_10 : decode cX4_becomeRepeat 10 = .ok (.aload_n 0, 1) := by decide +kernel
theorem dX4_becomeRepeat_11 : decode cX4_becomeRepeat 11 = .ok (.iload_n 1, 1) := by decide +kernel
theorem dX4_becomeRepeat_12 : decode cX4_becomeRepeat 12 = .ok (.putfield 30, 3) := by decide +kernel
theorem dX4_becomeRepeat_15 : decode cX4_becomeRepeat 15 = .ok (.return_, 1) := by decide +kernel
theorem dX4_isInRange_0 : decode cX4_isInRange 0 = .ok (.aload_n 0, 1) := by decide +kernel
theorem dX4_isInRange_1 : decode cX4_isInRange 1 = .ok (.getfield 15, 3) := by decide +kernel
theorem dX4_isInRange_4 : decode cX4_isInRange 4 = .ok (.iconst 0, 1) := by decide +kernel
theorem dX4_isInRange_5 : decode cX4_isInRange 5 = .ok (.iconst 5, 1) := by decide +kernel
theorem dX4_isInRange_6 : decode cX4_isInRange 6 = .ok (.invokestatic 37, 3) := by decide +kernel
theorem dX4_isInRange_9 : decode cX4_isInRange 9 = .ok (.ifCond .eq 68, 3) := by decide +kernel
theorem dX4_isInRange_12 : decode cX4_isInRange 12 = .ok (.aload_n 0, 1) := by decide +kernel
theorem dX4_isInRange_13 : decode cX4_isInRange 13 = .ok (.getfield 18, 3) := by decide +kernel
theorem dX4_isInRange_16 : decode cX4_isInRange 16 = .ok (.iconst 0, 1) := by decide +kernel
theorem dX4_isInRange_17 : decode cX4_isInRange 17 = .ok (.bipush 6, 2) := by decide +kernel
theorem dX4_isInRange_19 : decode cX4_isInRange 19 = .ok (.invokestatic 37, 3) := by decide +kernel
theorem dX4_isInRange_22 : decode cX4_isInRange 22 = .ok (.ifCond .eq 55, 3) := by decide +kernel
theorem dX4_isInRange_25 : decode cX4_isInRange 25 = .ok (.aload_n 0, 1) := by decide +kernel
theorem dX4_isInRange_26 : decode cX4_isInRange 26 = .ok (.getfield 21, 3) := by decide +kernel
theorem dX4_isInRange_29 : decode cX4_isInRange 29 = .ok (.iconst 0, 1) := by decide +kernel
theorem dX4_isInRange_30 : decode cX4_isInRange 30 = .ok (.sipush 1439, 3) := by decide +kernel
theorem dX4_isInRange_33 : decode cX4_isInRange 33 = .ok (.invokestatic 37, 3) := by decide +kernel
theorem dX4_isInRange_36 : decode cX4_isInRange 36 = .ok (.ifCond .eq 41, 3) := by decide +kernel
theorem dX4_isInRange_39 : decode cX4_isInRange 39 = .ok (.aload_n 0, 1) := by decide +kernel
theorem dX4_isInRange_40 : decode cX4_isInRange 40 = .ok (.getfield 24, 3) := by decide +kernel
theorem dX4_isInRange_43 : decode cX4_isInRange 43 = .ok (.iconst 5, 1) := by decide +kernel
theorem dX4_isInRange_44 : decode cX4_isInRange 44 = .ok (.sipush 240, 3) := by decide +kernel
theorem dX4_isInRange_47 : decode cX4_isInRange 47 = .ok (.invokestatic 37, 3) := by decide +kernel
theorem dX4_isInRange_50 : decode cX4_isInRange 50 = .ok (.ifCond .eq 27, 3) := by decide +kernel
theorem dX4_isInRange_53 : decode cX4_isInRange 53 = .ok (.aload_n 0, 1) := by decide +kernel
theorem dX4_isInRange_54 : decode cX4_isInRange 54 = .ok (.getfield 27, 3) := by decide +kernel
theorem dX4_isInRange_57 : decode cX4_isInRange 57 = .ok (.iconst 0, 1) := by decide +kernel
theorem dX4_isInRange_58 : decode cX4_isInRange 58 = .ok (.bipush 30, 2) := by decide +kernel
theorem dX4_isInRange_60 : decode cX4_isInRange 60 = .ok (.aload_n 0, 1) := by decide +kernel
theorem dX4_isInRange_61 : decode cX4_isInRange 61 = .ok (.getfield 24, 3) := by decide +kernel
theorem dX4_isInRange_64 : decode cX4_isInRange 64 = .ok (.invokestatic 41, 3) := by decide +kernel
theorem dX4_isInRange_67 : decode cX4_isInRange 67 = .ok (.invokestatic 37, 3) := by decide +kernel
theorem dX4_isInRange_70 : decode cX4_isInRange 70 = .ok (.ifCond .eq 7, 3) := by decide +kernel
theorem dX4_isInRange_73 : decode cX4_isInRange 73 = .ok (.iconst 1, 1) := by decide +kernel
theorem dX4_isInRange_74 : decode cX4_isInRange 74 = .ok (.goto 4, 3) := by decide +kernel
theorem dX4_isInRange_77 : decode cX4_isInRange 77 = .ok (.iconst 0, 1) := by decide +kernel
theorem dX4_isInRange_78 : decode cX4_isInRange 78 = .ok (.ireturn, 1) := by decide +kernel
theorem dX5_init_0 : decode cX5_init 0 = .ok (.aload_n 0, 1) := by decide +kernel
theorem dX5_init_1 : decode cX5_init 1 = .ok (.invokespecial 3, 3) := by decide +kernel
theorem dX5_init_4 : decode cX5_init 4 = .ok (.aload_n 0, 1) := by decide +kernel
theorem dX5_init_5 : decode cX5_init 5 = .ok (.bipush 60, 2) := by decide +kernel
theorem dX5_init_7 : decode cX5_init 7 = .ok (.newarray .int, 2) := by decide +kernel
theorem dX5_init_9 : decode cX5_init 9 = .ok (.putfield 9, 3) := by decide +kernel
theorem dX5_init_12 : decode cX5_init 12 = .ok (.return_, 1) := by decide +kernel
theorem dX5_readAll_0 : decode cX5_readAll 0 = .ok (.aload_n 0, 1) := by decide +kernel
theorem dX5_readAll_1 : decode cX5_readAll 1 = .ok (.iconst 0, 1) := by decide +kernel
theorem dX5_readAll_2 : decode cX5_readAll 2 = .ok (.putfield 15, 3) := by decide +kernel
theorem dX5_readAll_5 : decode cX5_readAll 5 = .ok (.iconst 0, 1) := by decide +kernel
theorem dX5_readAll_6 : decode cX5_readAll 6 = .ok (.istore_n 2, 1) := by decide +kernel
theorem dX5_readAll_7 : decode cX5_readAll 7 = .ok (.iload_n 2, 1) := by decide +kernel
theorem dX5_readAll_8 : decode cX5_readAll 8 = .ok (.bipush 60, 2) := by decide +kernel
theorem dX5_readAll_10 : decode cX5_readAll 10 = .ok (.if_icmp .ge 45, 3) := by decide +kernel
theorem dX5_readAll_13 : decode cX5_readAll 13 = .ok (.aload_n 0, 1) := by decide +kernel
theorem dX5_readAll_14 : decode cX5_readAll 14 = .ok (.aload_n 1, 1) := by decide +kernel
theorem dX5_readAll_15 : decode cX5_readAll 15 = .ok (.invokevirtual 19, 3) := by decide +kernel
theorem dX5_readAll_18 : decode cX5_readAll 18 = .ok (.ifCond .ne 5, 3) := by decide +kernel
theorem dX5_readAll_21 : decode cX5_readAll 21 = .ok (.iconst 0, 1) := by decide +kernel
theorem dX5_readAll_22 : decode cX5_readAll 22 = .ok (.ireturn, 1) := by decide +kernel
theorem dX5_readAll_23 : decode cX5_readAll 23 = .ok (.aload_n 0, 1) := by decide +kernel
theorem dX5_readAll_24 : decode cX5_readAll 24 = .ok (.bipush 59, 2) := by decide +kernel
theorem dX5_readAll_26 : decode cX5_readAll 26 = .ok (.invokevirtual 23, 3) := by decide +kernel
theorem dX5_readAll_29 : decode cX5_readAll 29 = .ok (.ifCond .ne 20, 3) := by decide +kernel
theorem dX5_readAll_32 : decode cX5_readAll 32 = .ok (.aload_n 0, 1) := by decide +kernel
theorem dX5_readAll_33 : decode cX5_readAll 33 = .ok (.getfield 15, 3) := by decide +kernel
theorem dX5_readAll_36 : decode cX5_readAll 36 = .ok (.aload_n 0, 1) := by decide +kernel
theorem dX5_readAll_37 : decode cX5_readAll 37 = .ok (.getfield 27, 3) := by decide +kernel
theorem dX5_readAll_40 : decode cX5_readAll 40 = .ok (.if_icmp .ne 7, 3) := by decide +kernel
theorem dX5_readAll_43 : decode cX5_readAll 43 = .ok (.iconst 1, 1) := by decide +kernel
theorem dX5_readAll_44 : decode cX5_readAll 44 = .ok (.goto 4, 3) := by decide +kernel
theorem dX5_readAll_47 : decode cX5_readAll 47 = .ok (.iconst 0, 1) := by decide +kernel
theorem dX5_readAll_48 : decode cX5_readAll 48 = .ok (.ireturn, 1) := by decide +kernel
theorem dX5_readAll_49 : decode cX5_readAll 49 = .ok (.iinc 2 1, 3) := by decide +kernel
theorem dX5_readAll_52 : decode cX5_readAll 52 = .ok (.goto (-45), 3) := by decide +kernel
theorem dX5_readAll_55 : decode cX5_readAll 55 = .ok (.iconst 0, 1) := by decide +kernel
theorem dX5_readAll_56 : decode cX5_readAll 56 = .ok (.ireturn, 1) := by decide +kernel
theorem dX5_readShow_0 : decode cX5_readShow 0 = .ok (.aload_n 0, 1) := by decide +kernel
theorem dX5_readShow_1 : decode cX5_readShow 1 = .ok (.bipush 76, 2) := by decide +kernel
theorem dX5_readShow_3 : decode cX5_readShow 3 = .ok (.invokevirtual 23, 3) := by decide +kernel
theorem dX5_readShow_6 : decode cX5_readShow 6 = .ok (.ifCond .eq 10, 3) := by decide +kernel
theorem dX5_readShow_9 : decode cX5_readShow 9 = .ok (.aload_n 0, 1) := by decide +kernel
theorem dX5_readShow_10 : decode cX5_readShow 10 = .ok (.aload_n 1, 1) := by decide +kernel
theorem dX5_readShow_11 : decode cX5_readShow 11 = .ok (.iconst 0, 1) := by decide +kernel
theorem dX5_readShow_12 : decode cX5_readShow 12 = .ok (.invokevirtual 30, 3) := by decide +kernel
theorem dX5_readShow_15 : decode cX5_readShow 15 = .ok (.ireturn, 1) := by decide +kernel
theorem dX5_readShow_16 : decode cX5_readShow 16 = .ok (.aload_n 0, 1) := by decide +kernel
theorem dX5_readShow_17 : decode cX5_readShow 17 = .ok (.bipush 84, 2) := by decide +kernel
theorem dX5_readShow_19 : decode cX5_readShow 19 = .ok (.invokevirtual 23, 3) := by decide +kernel
theorem dX5_readShow_22 : decode cX5_readShow 22 = .ok (.ifCond .eq 10, 3) := by decide +kernel
theorem dX5_readShow_25 : decode cX5_readShow 25 = .ok (.aload_n 0, 1) := by decide +kernel
theorem dX5_readShow_26 : decode cX5_readShow 26 = .ok (.aload_n 1, 1) := by decide +kernel
theorem dX5_readShow_27 : decode cX5_readShow 27 = .ok (.iconst 1, 1) := by decide +kernel
theorem dX5_readShow_28 : decode cX5_readShow 28 = .ok (.invokevirtual 30, 3) := by decide +kernel
theorem dX5_readShow_31 : decode cX5_readShow 31 = .ok (.ireturn, 1) := by decide +kernel
theorem dX5_readShow_32 : decode cX5_readShow 32 = .ok (.aload_n 0, 1) := by decide +kernel
theorem dX5_readShow_33 : decode cX5_readShow 33 = .ok (.bipush 82, 2) := by decide +kernel
theorem dX5_readShow_35 : decode cX5_readShow 35 = .ok (.invokevirtual 23, 3) := by decide +kernel
theorem dX5_readShow_38 : decode cX5_readShow 38 = .ok (.ifCond .eq 15, 3) := by decide +kernel
theorem dX5_readShow_41 : decode cX5_readShow 41 = .ok (.aload_n 0, 1) := by decide +kernel
theorem dX5_readShow_42 : decode cX5_readShow 42 = .ok (.aload_n 1, 1) := by decide +kernel
theorem dX5_readShow_43 : decode cX5_readShow 43 = .ok (.invokevirtual 34, 3) := by decide +kernel
theorem dX5_readShow_46 : decode cX5_readShow 46 = .ok (.ifCond .eq 7, 3) := by decide +kernel
theorem dX5_readShow_49 : decode cX5_readShow 49 = .ok (.iconst 1, 1) := by decide +kernel
theorem dX5_readShow_50 : decode cX5_readShow 50 = .ok (.goto 4, 3) := by decide +kernel
theorem dX5_readShow_53 : decode cX5_readShow 53 = .ok (.iconst 0, 1) := by decide +kernel
theorem dX5_readShow_54 : decode cX5_readShow 54 = .ok (.ireturn, 1) := by decide +kernel
theorem dX5_readOwnShow_0 : decode cX5_readOwnShow 0 = .ok (.aload_n 0, 1) := by decide +kernel
theorem dX5_readOwnShow_1 : decode cX5_readOwnShow 1 = .ok (.iconst 5, 1) := by decide +kernel
theorem dX5_readOwnShow_2 : decode cX5_readOwnShow 2 = .ok (.invokevirtual 37, 3) := by decide +kernel
theorem dX5_readOwnShow_5 : decode cX5_readOwnShow 5 = .ok (.ifCond .ne 5, 3) := by decide +kernel
theorem dX5_readOwnShow_8 : decode cX5_readOwnShow 8 = .ok (.iconst 0, 1) := by decide +kernel
theorem dX5_readOwnShow_9 : decode cX5_readOwnShow 9 = .ok (.ireturn, 1) := by decide +kernel
theorem dX5_readOwnShow_10 : decode cX5_readOwnShow 10 = .ok (.aload_n 0, 1) := by decide +kernel
theorem dX5_readOwnShow_11 : decode cX5_readOwnShow 11 = .ok (.getfield 41, 3) := by decide +kernel
theorem dX5_readOwnShow_14 : decode cX5_readOwnShow 14 = .ok (.istore_n 3, 1) := by decide +kernel
theorem dX5_readOwnShow_15 : decode cX5_readOwnShow 15 = .ok (.aload_n 0, 1) := by decide +kernel
theorem dX5_readOwnShow_16 : decode cX5_readOwnShow 16 = .ok (.bipush 46, 2) := by decide +kernel
theorem dX5_readOwnShow_18 : decode cX5_readOwnShow 18 = .ok (.invokevirtual 23, 3) := by decide +kernel
theorem dX5_readOwnShow_21 : decode cX5_readOwnShow 21 = .ok (.ifCond .eq 12, 3) := by decide +kernel
theorem dX5_readOwnShow_24 : decode cX5_readOwnShow 24 = .ok (.aload_n 0, 1) := by decide +kernel
theorem dX5_readOwnShow_25 : decode cX5_readOwnShow 25 = .ok (.bipush 6, 2) := by decide +kernel
theorem dX5_readOwnShow_27 : decode cX5_readOwnShow 27 = .ok (.invokevirtual 37, 3) := by decide +kernel
theorem dX5_readOwnShow_30 : decode cX5_readOwnShow 30 = .ok (.ifCond .ne 5, 3) := by decide +kernel
theorem dX5_readOwnShow_33 : decode cX5_readOwnShow 33 = .ok (.iconst 0, 1) := by decide +kernel
theorem dX5_readOwnShow_34 : decode cX5_readOwnShow 34 = .ok (.ireturn, 1) := by decide +kernel
theorem dX5_readOwnShow_35 : decode cX5_readOwnShow 35 = .ok (.aload_n 0, 1) := by decide +kernel
theorem dX5_readOwnShow_36 : decode cX5_readOwnShow 36 = .ok (.getfield 41, 3) := by decide +kernel
theorem dX5_readOwnShow_39 : decode cX5_readOwnShow 39 = .ok (.istore 4, 2) := by decide +kernel
theorem dX5_readOwnShow_41 : decode cX5_readOwnShow 41 = .ok (.aload_n 0, 1) := by decide +kernel
theorem dX5_readOwnShow_42 : decode cX5_readOwnShow 42 = .ok (.bipush 64, 2) := by decide +kernel
theorem dX5_readOwnShow_44 : decode cX5_readOwnShow 44 = .ok (.invokevirtual 23, 3) := by decide +kernel
theorem dX5_readOwnShow_47 : decode cX5_readOwnShow 47 = .ok (.ifCond .eq 10, 3) := by decide +kernel
theorem dX5_readOwnShow_50 : decode cX5_readOwnShow 50 = .ok (.aload_n 0, 1) := by decide +kernel
theorem dX5_readOwnShow_51 : decode cX5_readOwnShow 51 = .ok (.invokevirtual 44, 3) := by decide +kernel
theorem dX5_readOwnShow_54 : decode cX5_readOwnShow 54 = .ok (.ifCond .ne 5, 3) := by decide +kernel
theorem dX5_readOwnShow_57 : decode cX5_readOwnShow 57 = .ok (.iconst 0, 1) := by decide +kernel
theorem dX5_readOwnShow_58 : decode cX5_readOwnShow 58 = .ok (.ireturn, 1) := by decide +kernel
theorem dX5_readOwnShow_59 : decode cX5_readOwnShow 59 = .ok (.aload_n 0, 1) := by decide +kernel
theorem dX5_readOwnShow_60 : decode cX5_readOwnShow 60 = .ok (.getfield 41, 3) := by decide +kernel
theorem dX5_readOwnShow_63 : decode cX5_readOwnShow 63 = .ok (.istore 5, 2) := by decide +kernel
theorem dX5_readOwnShow_65 : decode cX5_readOwnShow 65 = .ok (.aload_n 0, 1) := by decide +kernel
theorem dX5_readOwnShow_66 : decode cX5_readOwnShow 66 = .ok (.bipush 43, 2) := by decide +kernel
theorem dX5_readOwnShow_68 : decode cX5_readOwnShow 68 = .ok (.invokevirtual 23, 3) := by decide +kernel
theorem dX5_readOwnShow_71 : decode cX5_readOwnShow 71 = .ok (.ifCond .eq 10, 3) := by decide +kernel
theorem dX5_readOwnShow_74 : decode cX5_readOwnShow 74 = .ok (.aload_n 0, 1) := by decide +kernel
theorem dX5_readOwnShow_75 : decode cX5_readOwnShow 75 = .ok (.invokevirtual 44, 3) := by decide +kernel
theorem dX5_readOwnShow_78 : decode cX5_readOwnShow 78 = .ok (.ifCond .ne 5, 3) := by decide +kernel
theorem dX5_readOwnShow_81 : decode cX5_readOwnShow 81 = .ok (.iconst 0, 1) := by decide +kernel
theorem dX5_readOwnShow_82 : decode cX5_readOwnShow 82 = .ok (.ireturn, 1) := by decide +kernel
theorem dX5_readOwnShow_83 : decode cX5_readOwnShow 83 = .ok (.aload_n 0, 1) := by decide +kernel
theorem dX5_readOwnShow_84 : decode cX5_readOwnShow 84 = .ok (.getfield 41, 3) := by decide +kernel
theorem dX5_readOwnShow_87 : decode cX5_readOwnShow 87 = .ok (.istore 6, 2) := by decide +kernel
theorem dX5_readOwnShow_89 : decode cX5_readOwnShow 89 = .ok (.aload_n 0, 1) := by decide +kernel
theorem dX5_readOwnShow_90 : decode cX5_readOwnShow 90 = .ok (.bipush 58, 2) := by decide +kernel
theorem dX5_readOwnShow_92 : decode cX5_readOwnShow 92 = .ok (.invokevirtual 23, 3) := by decide +kernel
theorem dX5_readOwnShow_95 : decode cX5_readOwnShow 95 = .ok (.ifCond .ne 18, 3) := by decide +kernel
theorem dX5_readOwnShow_98 : decode cX5_readOwnShow 98 = .ok (.aload_n 1, 1) := by decide +kernel
theorem dX5_readOwnShow_99 : decode cX5_readOwnShow 99 = .ok (.iload_n 2, 1) := by decide +kernel
theorem dX5_readOwnShow_100 : decode cX5_readOwnShow 100 = .ok (.iload_n 3, 1) := by decide +kernel
theorem dX5_readOwnShow_101 : decode cX5_readOwnShow 101 = .ok (.iload 4, 2) := by decide +kernel
theorem dX5_readOwnShow_103 : decode cX5_readOwnShow 103 = .ok (.iload 5, 2) := by decide +kernel
theorem dX5_readOwnShow_105 : decode cX5_readOwnShow 105 = .ok (.iload 6, 2) := by decide +kernel
theorem dX5_readOwnShow_107 : decode cX5_readOwnShow 107 = .ok (.iconst 0, 1) := by decide +kernel
theorem dX5_readOwnShow_108 : decode cX5_readOwnShow 108 = .ok (.invokevirtual 48, 3) := by decide +kernel
theorem dX5_readOwnShow_111 : decode cX5_readOwnShow 111 = .ok (.iconst 1, 1) := by decide +kernel
theorem dX5_readOwnShow_112 : decode cX5_readOwnShow 112 = .ok (.ireturn, 1) := by decide +kernel
theorem dX5_readOwnShow_113 : decode cX5_readOwnShow 113 = .ok (.aload_n 0, 1) := by decide +kernel
theorem dX5_readOwnShow_114 : decode cX5_readOwnShow 114 = .ok (.invokevirtual 44, 3) := by decide +kernel
theorem dX5_readOwnShow_117 : decode cX5_readOwnShow 117 = .ok (.ifCond .ne 5, 3) := by decide +kernel
theorem dX5_readOwnShow_120 : decode cX5_readOwnShow 120 = .ok (.iconst 0, 1) := by decide +kernel
theorem dX5_readOwnShow_121 : decode cX5_readOwnShow 121 = .ok (.ireturn, 1) := by decide +kernel
theorem dX5_readOwnShow_122 : decode cX5_readOwnShow 122 = .ok (.aload_n 1, 1) := by decide +kernel
theorem dX5_readOwnShow_123 : decode cX5_readOwnShow 123 = .ok (.iload_n 2, 1) := by decide +kernel
theorem dX5_readOwnShow_124 : decode cX5_readOwnShow 124 = .ok (.iload_n 3, 1) := by decide +kernel
theorem dX5_readOwnShow_125 : decode cX5_readOwnShow 125 = .ok (.iload 4, 2) := by decide +kernel
theorem dX5_readOwnShow_127 : decode cX5_readOwnShow 127 = .ok (.iload 5, 2) := by decide +kernel
theorem dX5_readOwnShow_129 : decode cX5_readOwnShow 129 = .ok (.iload 6, 2) := by decide +kernel
theorem dX5_readOwnShow_131 : decode cX5_readOwnShow 131 = .ok (.aload_n 0, 1) := by decide +kernel
theorem dX5_readOwnShow_132 : decode cX5_readOwnShow 132 = .ok (.getfield 41, 3) := by decide +kernel
theorem dX5_readOwnShow_135 : decode cX5_readOwnShow 135 = .ok (.invokevirtual 48, 3) := by decide +kernel
theorem dX5_readOwnShow_138 : decode cX5_readOwnShow 138 = .ok (.iconst 1, 1) := by decide +kernel
theorem dX5_readOwnShow_139 : decode cX5_readOwnShow 139 = .ok (.ireturn, 1) := by decide +kernel
theorem dX5_readRepeat_0 : decode cX5_readRepeat 0 = .ok (.aload_n 0, 1) := by decide +kernel
theorem dX5_readRepeat_1 : decode cX5_readRepeat 1 = .ok (.invokevirtual 44, 3) := by decide +kernel
theorem dX5_readRepeat_4 : decode cX5_readRepeat 4 = .ok (.ifCond .ne 5, 3) := by decide +kernel
theorem dX5_readRepeat_7 : decode cX5_readRepeat 7 = .ok (.iconst 0, 1) := by decide +kernel
theorem dX5_readRepeat_8 : decode cX5_readRepeat 8 = .ok (.ireturn, 1) := by decide +kernel
theorem dX5_readRepeat_9 : decode cX5_readRepeat 9 = .ok (.aload_n 0, 1) := by decide +kernel
theorem dX5_readRepeat_10 : decode cX5_readRepeat 10 = .ok (.getfield 41, 3) := by decide +kernel
theorem dX5_readRepeat_13 : decode cX5_readRepeat 13 = .ok (.istore_n 2, 1) := by decide +kernel
theorem dX5_readRepeat_14 : decode cX5_readRepeat 14 = .ok (.aload_n 0, 1) := by decide +kernel
theorem dX5_readRepeat_15 : decode cX5_readRepeat 15 = .ok (.bipush 46, 2) := by decide +kernel
theorem dX5_readRepeat_17 : decode cX5_readRepeat 17 = .ok (.invokevirtual 23, 3) := by decide +kernel
theorem dX5_readRepeat_20 : decode cX5_readRepeat 20 = .ok (.ifCond .eq 12, 3) := by decide +kernel
theorem dX5_readRepeat_23 : decode cX5_readRepeat 23 = .ok (.aload_n 0, 1) := by decide +kernel
theorem dX5_readRepeat_24 : decode cX5_readRepeat 24 = .ok (.bipush 6, 2) := by decide +kernel
theorem dX5_readRepeat_26 : decode cX5_readRepeat 26 = .ok (.invokevirtual 37, 3) := by decide +kernel
theorem dX5_readRepeat_29 : decode cX5_readRepeat 29 = .ok (.ifCond .ne 5, 3) := by decide +kernel
theorem dX5_readRepeat_32 : decode cX5_readRepeat 32 = .ok (.iconst 0, 1) := by decide +kernel
theorem dX5_readRepeat_33 : decode cX5_readRepeat 33 = .ok (.ireturn, 1) := by decide +kernel
theorem dX5_readRepeat_34 : decode cX5_readRepeat 34 = .ok (.aload_n 0, 1) := by decide +kernel
theorem dX5_readRepeat_35 : decode cX5_readRepeat 35 = .ok (.getfield 41, 3) := by decide +kernel
theorem dX5_readRepeat_38 : decode cX5_readRepeat 38 = .ok (.istore_n 3, 1) := by decide +kernel
theorem dX5_readRepeat_39 : decode cX5_readRepeat 39 = .ok (.aload_n 0, 1) := by decide +kernel
theorem dX5_readRepeat_40 : decode cX5_readRepeat 40 = .ok (.bipush 64, 2) := by decide +kernel
theorem dX5_readRepeat_42 : decode cX5_readRepeat 42 = .ok (.invokevirtual 23, 3) := by decide +kernel
theorem dX5_readRepeat_45 : decode cX5_readRepeat 45 = .ok (.ifCond .eq 10, 3) := by decide +kernel
theorem dX5_readRepeat_48 : decode cX5_readRepeat 48 = .ok (.aload_n 0, 1) := by decide +kernel
theorem dX5_readRepeat_49 : decode cX5_readRepeat 49 = .ok (.invokevirtual 44, 3) := by decide +kernel
theorem dX5_readRepeat_52 : decode cX5_readRepeat 52 = .ok (.ifCond .ne 5, 3) := by decide +kernel
theorem dX5_readRepeat_55 : decode cX5_readRepeat 55 = .ok (.iconst 0, 1) := by decide +kernel
theorem dX5_readRepeat_56 : decode cX5_readRepeat 56 = .ok (.ireturn, 1) := by decide +kernel
theorem dX5_readRepeat_57 : decode cX5_readRepeat 57 = .ok (.aload_n 1, 1) := by decide +kernel
theorem dX5_readRepeat_58 : decode cX5_readRepeat 58 = .ok (.iload_n 2, 1) := by decide +kernel
theorem dX5_readRepeat_59 : decode cX5_readRepeat 59 = .ok (.iload_n 3, 1) := by decide +kernel
theorem dX5_readRepeat_60 : decode cX5_readRepeat 60 = .ok (.aload_n 0, 1) := by decide +kernel
theorem dX5_readRepeat_61 : decode cX5_readRepeat 61 = .ok (.getfield 41, 3) := by decide +kernel
theorem dX5_readRepeat_64 : decode cX5_readRepeat 64 = .ok (.invokevirtual 54, 3) := by decide +kernel
theorem dX5_readRepeat_67 : decode cX5_readRepeat 67 = .ok (.iconst 1, 1) := by decide +kernel
theorem dX5_readRepeat_68 : decode cX5_readRepeat 68 = .ok (.ireturn, 1) := by decide +kernel
theorem dX5_readSign_0 : decode cX5_readSign 0 = .ok (.aload_n 0, 1) := by decide +kernel
theorem dX5_readSign_1 : decode cX5_readSign 1 = .ok (.getfield 15, 3) := by decide +kernel
theorem dX5_readSign_4 : decode cX5_readSign 4 = .ok (.aload_n 0, 1) := by decide +kernel
theorem dX5_readSign_5 : decode cX5_readSign 5 = .ok (.getfield 27, 3) := by decide +kernel
theorem dX5_readSign_8 : decode cX5_readSign 8 = .ok (.if_icmp .ge 16, 3) := by decide +kernel
theorem dX5_readSign_11 : decode cX5_readSign 11 = .ok (.aload_n 0, 1) := by decide +kernel
theorem dX5_readSign_12 : decode cX5_readSign 12 = .ok (.getfield 9, 3) := by decide +kernel
theorem dX5_readSign_15 : decode cX5_readSign 15 = .ok (.aload_n 0, 1) := by decide +kernel
theorem dX5_readSign_16 : decode cX5_readSign 16 = .ok (.getfield 15, 3) := by decide +kernel
theorem dX5_readSign_19 : decode cX5_readSign 19 = .ok (.iaload, 1) := by decide +kernel
theorem dX5_readSign_20 : decode cX5_readSign 20 = .ok (.iload_n 1, 1) := by decide +kernel
theorem dX5_readSign_21 : decode cX5_readSign 21 = .ok (.if_icmp .eq 5, 3) := by decide +kernel
theorem dX5_readSign_24 : decode cX5_readSign 24 = .ok (.iconst 0, 1) := by decide +kernel
theorem dX5_readSign_25 : decode cX5_readSign 25 = .ok (.ireturn, 1) := by decide +kernel
theorem dX5_readSign_26 : decode cX5_readSign 26 = .ok (.aload_n 0, 1) := by decide +kernel
theorem dX5_readSign_27 : decode cX5_readSign 27 = .ok (.dup, 1) := by decide +kernel
theorem dX5_readSign_28 : decode cX5_readSign 28 = .ok (.getfield 15, 3) := by decide +kernel
theorem dX5_readSign_31 : decode cX5_readSign 31 = .ok (.iconst 1, 1) := by decide +kernel
theorem dX5_readSign_32 : decode cX5_readSign 32 = .ok (.iadd, 1) := by decide +kernel
theorem dX5_readSign_33 : decode cX5_readSign 33 = .ok (.putfield 15, 3) := by decide +kernel
theorem dX5_readSign_36 : decode cX5_readSign 36 = .ok (.iconst 1, 1) := by decide +kernel
theorem dX5_readSign_37 : decode cX5_readSign 37 = .ok (.ireturn, 1) := by decide +kernel
theorem dX5_readDigit_0 : decode cX5_readDigit 0 = .ok (.aload_n 0, 1) := by decide +kernel
theorem dX5_readDigit_1 : decode cX5_readDigit 1 = .ok (.getfield 15, 3) := by decide +kernel
theorem dX5_readDigit_4 : decode cX5_readDigit 4 = .ok (.aload_n 0, 1) := by decide +kernel
theorem dX5_readDigit_5 : decode cX5_readDigit 5 = .ok (.getfield 27, 3) := by decide +kernel
theorem dX5_readDigit_8 : decode cX5_readDigit 8 = .ok (.if_icmp .ge 23, 3) := by decide +kernel
theorem dX5_readDigit_11 : decode cX5_readDigit 11 = .ok (.aload_n 0, 1) := by decide +kernel
theorem dX5_readDigit_12 : decode cX5_readDigit 12 = .ok (.getfield 9, 3) := by decide +kernel
theorem dX5_readDigit_15 : decode cX5_readDigit 15 = .ok (.aload_n 0, 1) := by decide +kernel
theorem dX5_readDigit_16 : decode cX5_readDigit 16 = .ok (.getfield 15, 3) := by decide +kernel
theorem dX5_readDigit_19 : decode cX5_readDigit 19 = .ok (.iaload, 1) := by decide +kernel
theorem dX5_readDigit_20 : decode cX5_readDigit 20 = .ok (.bipush 48, 2) := by decide +kernel
theorem dX5_readDigit_22 : decode cX5_readDigit 22 = .ok (.isub, 1) := by decide +kernel
theorem dX5_readDigit_23 : decode cX5_readDigit 23 = .ok (.iconst 0, 1) := by decide +kernel
theorem dX5_readDigit_24 : decode cX5_readDigit 24 = .ok (.iload_n 1, 1) := by decide +kernel
theorem dX5_readDigit_25 : decode cX5_readDigit 25 = .ok (.invokestatic 58, 3) := by decide +kernel
theorem dX5_readDigit_28 : decode cX5_readDigit 28 = .ok (.ifCond .ne 5, 3) := by decide +kernel
theorem dX5_readDigit_31 : decode cX5_readDigit 31 = .ok (.iconst 0, 1) := by decide +kernel
theorem dX5_readDigit_32 : decode cX5_readDigit 32 = .ok (.ireturn, 1) := by decide +kernel
theorem dX5_readDigit_33 : decode cX5_readDigit 33 = .ok (.aload_n 0, 1) := by decide +kernel
theorem dX5_readDigit_34 : decode cX5_readDigit 34 = .ok (.aload_n 0, 1) := by decide +kernel
theorem dX5_readDigit_35 : decode cX5_readDigit 35 = .ok (.getfield 9, 3) := by decide +kernel
theorem dX5_readDigit_38 : decode cX5_readDigit 38 = .ok (.aload_n 0, 1) := by decide +kernel
theorem dX5_readDigit_39 : decode cX5_readDigit 39 = .ok (.getfield 15, 3) := by decide +kernel
theorem dX5_readDigit_42 : decode cX5_readDigit 42 = .ok (.iaload, 1) := by decide +kernel
theorem dX5_readDigit_43 : decode cX5_readDigit 43 = .ok (.bipush 48, 2) := by decide +kernel
theorem dX5_readDigit_45 : decode cX5_readDigit 45 = .ok (.isub, 1) := by decide +kernel
theorem dX5_readDigit_46 : decode cX5_readDigit 46 = .ok (.putfield 41, 3) := by decide +kernel
theorem dX5_readDigit_49 : decode cX5_readDigit 49 = .ok (.aload_n 0, 1) := by decide +kernel
theorem dX5_readDigit_50 : decode cX5_readDigit 50 = .ok (.dup, 1) := by decide +kernel
theorem dX5_readDigit_51 : decode cX5_readDigit 51 = .ok (.getfield 15, 3) := by decide +kernel
theorem dX5_readDigit_54 : decode cX5_readDigit 54 = .ok (.iconst 1, 1) := by decide +kernel
theorem dX5_readDigit_55 : decode cX5_readDigit 55 = .ok (.iadd, 1) := by decide +kernel
theorem dX5_readDigit_56 : decode cX5_readDigit 56 = .ok (.putfield 15, 3) := by decide +kernel
theorem dX5_readDigit_59 : decode cX5_readDigit 59 = .ok (.iconst 1, 1) := by decide +kernel
theorem dX5_readDigit_60 : decode cX5_readDigit 60 = .ok (.ireturn, 1) := by decide +kernel
theorem dX5_readNumber_0 : decode cX5_readNumber 0 = .ok (.aload_n 0, 1) := by decide +kernel
theorem dX5_readNumber_1 : decode cX5_readNumber 1 = .ok (.bipush 9, 2) := by decide +kernel
theorem dX5_readNumber_3 : decode cX5_readNumber 3 = .ok (.invokevirtual 37, 3) := by decide +kernel
theorem dX5_readNumber_6 : decode cX5_readNumber 6 = .ok (.ifCond .ne 5, 3) := by decide +kernel
theorem dX5_readNumber_9 : decode cX5_readNumber 9 = .ok (.iconst 0, 1) := by decide +kernel
theorem dX5_readNumber_10 : decode cX5_readNumber 10 = .ok (.ireturn, 1) := by decide +kernel
theorem dX5_readNumber_11 : decode cX5_readNumber 11 = .ok (.aload_n 0, 1) := by decide +kernel
theorem dX5_readNumber_12 : decode cX5_readNumber 12 = .ok (.getfield 41, 3) := by decide +kernel
theorem dX5_readNumber_15 : decode cX5_readNumber 15 = .ok (.istore_n 1, 1) := by decide +kernel
theorem dX5_readNumber_16 : decode cX5_readNumber 16 = .ok (.iconst 1, 1) := by decide +kernel
theorem dX5_readNumber_17 : decode cX5_readNumber 17 = .ok (.istore_n 2, 1) := by decide +kernel
theorem dX5_readNumber_18 : decode cX5_readNumber 18 = .ok (.iload_n 2, 1) := by decide +kernel
theorem dX5_readNumber_19 : decode cX5_readNumber 19 = .ok (.iconst 4, 1) := by decide +kernel
theorem dX5_readNumber_20 : decode cX5_readNumber 20 = .ok (.if_icmp .ge 32, 3) := by decide +kernel
theorem dX5_readNumber_23 : decode cX5_readNumber 23 = .ok (.iload_n 1, 1) := by decide +kernel
theorem dX5_readNumber_24 : decode cX5_readNumber 24 = .ok (.ifCond .le 28, 3) := by decide +kernel
theorem dX5_readNumber_27 : decode cX5_readNumber 27 = .ok (.aload_n 0, 1) := by decide +kernel
theorem dX5_readNumber_28 : decode cX5_readNumber 28 = .ok (.bipush 9, 2) := by decide +kernel
theorem dX5_readNumber_30 : decode cX5_readNumber 30 = .ok (.invokevirtual 37, 3) := by decide +kernel
theorem dX5_readNumber_33 : decode cX5_readNumber 33 = .ok (.ifCond .eq 19, 3) := by decide +kernel
theorem dX5_readNumber_36 : decode cX5_readNumber 36 = .ok (.bipush 10, 2) := by decide +kernel
theorem dX5_readNumber_38 : decode cX5_readNumber 38 = .ok (.iload_n 1, 1) := by decide +kernel
theorem dX5_readNumber_39 : decode cX5_readNumber 39 = .ok (.imul, 1) := by decide +kernel
theorem dX5_readNumber_40 : decode cX5_readNumber 40 = .ok (.aload_n 0, 1) := by decide +kernel
theorem dX5_readNumber_41 : decode cX5_readNumber 41 = .ok (.getfield 41, 3) := by decide +kernel
theorem dX5_readNumber_44 : decode cX5_readNumber 44 = .ok (.iadd, 1) := by decide +kernel
theorem dX5_readNumber_45 : decode cX5_readNumber 45 = .ok (.istore_n 1, 1) := by decide +kernel
theorem dX5_readNumber_46 : decode cX5_readNumber 46 = .ok (.iinc 2 1, 3) := by decide +kernel
theorem dX5_readNumber_49 : decode cX5_readNumber 49 = .ok (.goto (-31), 3) := by decide +kernel
theorem dX5_readNumber_52 : decode cX5_readNumber 52 = .ok (.aload_n 0, 1) := by decide +kernel
theorem dX5_readNumber_53 : decode cX5_readNumber 53 = .ok (.iload_n 1, 1) := by decide +kernel
theorem dX5_readNumber_54 : decode cX5_readNumber 54 = .ok (.putfield 41, 3) := by decide +kernel
theorem dX5_readNumber_57 : decode cX5_readNumber 57 = .ok (.iconst 1, 1) := by decide +kernel
theorem dX5_readNumber_58 : decode cX5_readNumber 58 = .ok (.ireturn, 1) := by decide +kernel
theorem dX6_init_0 : decode cX6_init 0 = .ok (.aload_n 0, 1) := by decide +kernel
theorem dX6_init_1 : decode cX6_init 1 = .ok (.invokespecial 1, 3) := by decide +kernel
theorem dX6_init_4 : decode cX6_init 4 = .ok (.aload_n 0, 1) := by decide +kernel
theorem dX6_init_5 : decode cX6_init 5 = .ok (.new 7, 3) := by decide +kernel
theorem dX6_init_8 : decode cX6_init 8 = .ok (.dup, 1) := by decide +kernel
theorem dX6_init_9 : decode cX6_init 9 = .ok (.invokespecial 9, 3) := by decide +kernel
theorem dX6_init_12 : decode cX6_init 12 = .ok (.putfield 10, 3) := by decide +kernel
theorem dX6_init_15 : decode cX6_init 15 = .ok (.aload_n 0, 1) := by decide +kernel
theorem dX6_init_16 : decode cX6_init 16 = .ok (.new 16, 3) := by decide +kernel
theorem dX6_init_19 : decode cX6_init 19 = .ok (.dup, 1) := by decide +kernel
theorem dX6_init_20 : decode cX6_init 20 = .ok (.invokespecial 18, 3) := by decide +kernel
theorem dX6_init_23 : decode cX6_init 23 = .ok (.putfield 19, 3) := by decide +kernel
theorem dX6_init_26 : decode cX6_init 26 = .ok (.aload_n 0, 1) := by decide +kernel
theorem dX6_init_27 : decode cX6_init 27 = .ok (.new 23, 3) := by decide +kernel
theorem dX6_init_30 : decode cX6_init 30 = .ok (.dup, 1) := by decide +kernel
theorem dX6_init_31 : decode cX6_init 31 = .ok (.invokespecial 25, 3) := by decide +kernel
theorem dX6_init_34 : decode cX6_init 34 = .ok (.putfield 26, 3) := by decide +kernel
theorem dX6_init_37 : decode cX6_init 37 = .ok (.aload_n 0, 1) := by decide +kernel
theorem dX6_init_38 : decode cX6_init 38 = .ok (.new 30, 3) := by decide +kernel
theorem dX6_init_41 : decode cX6_init 41 = .ok (.dup, 1) := by decide +kernel
theorem dX6_init_42 : decode cX6_init 42 = .ok (.invokespecial 32, 3) := by decide +kernel
theorem dX6_init_45 : decode cX6_init 45 = .ok (.putfield 33, 3) := by decide +kernel
theorem dX6_init_48 : decode cX6_init 48 = .ok (.aload_n 0, 1) := by decide +kernel
theorem dX6_init_49 : decode cX6_init 49 = .ok (.new 37, 3) := by decide +kernel
theorem dX6_init_52 : decode cX6_init 52 = .ok (.dup, 1) := by decide +kernel
theorem dX6_init_53 : decode cX6_init 53 = .ok (.invokespecial 39, 3) := by decide +kernel
theorem dX6_init_56 : decode cX6_init 56 = .ok (.putfield 40, 3) := by decide +kernel
theorem dX6_init_59 : decode cX6_init 59 = .ok (.aload_n 0, 1) := by decide +kernel
theorem dX6_init_60 : decode cX6_init 60 = .ok (.new 37, 3) := by decide +kernel
theorem dX6_init_63 : decode cX6_init 63 = .ok (.dup, 1) := by decide +kernel
theorem dX6_init_64 : decode cX6_init 64 = .ok (.invokespecial 39, 3) := by decide +kernel
theorem dX6_init_67 : decode cX6_init 67 = .ok (.putfield 44, 3) := by decide +kernel
theorem dX6_init_70 : decode cX6_init 70 = .ok (.aload_n 0, 1) := by decide +kernel
theorem dX6_init_71 : decode cX6_init 71 = .ok (.iconst 0, 1) := by decide +kernel
theorem dX6_init_72 : decode cX6_init 72 = .ok (.putfield 47, 3) := by decide +kernel
theorem dX6_init_75 : decode cX6_init 75 = .ok (.return_, 1) := by decide +kernel
theorem dX6_set_0 : decode cX6_set 0 = .ok (.iload_n 1, 1) := by decide +kernel
theorem dX6_set_1 : decode cX6_set 1 = .ok (.iconst 0, 1) := by decide +kernel
theorem dX6_set_2 : decode cX6_set 2 = .ok (.bipush 7, 2) := by decide +kernel
theorem dX6_set_4 : decode cX6_set 4 = .ok (.invokestatic 51, 3) := by decide +kernel
theorem dX6_set_7 : decode cX6_set 7 = .ok (.ifCond .ne 13, 3) := by decide +kernel
theorem dX6_set_10 : decode cX6_set 10 = .ok (.new 55, 3) := by decide +kernel
theorem dX6_set_13 : decode cX6_set 13 = .ok (.dup, 1) := by decide +kernel
theorem dX6_set_14 : decode cX6_set 14 = .ok (.ldc 57, 2) := by decide +kernel
theorem dX6_set_16 : decode cX6_set 16 = .ok (.invokespecial 59, 3) := by decide +kernel
theorem dX6_set_19 : decode cX6_set 19 = .ok (.athrow, 1) := by decide +kernel
theorem dX6_set_20 : decode cX6_set 20 = .ok (.iload_n 2, 1) := by decide +kernel
theorem dX6_set_21 : decode cX6_set 21 = .ok (.getstatic 62, 3) := by decide +kernel
theorem dX6_set_24 : decode cX6_set 24 = .ok (.iload_n 1, 1) := by decide +kernel
theorem dX6_set_25 : decode cX6_set 25 = .ok (.iaload, 1) := by decide +kernel
theorem dX6_set_26 : decode cX6_set 26 = .ok (.getstatic 66, 3) := by decide +kernel
theorem dX6_set_29 : decode cX6_set 29 = .ok (.iload_n 1, 1) := by decide +kernel
theorem dX6_set_30 : decode cX6_set 30 = .ok (.iaload, 1) := by decide +kernel
theorem dX6_set_31 : decode cX6_set 31 = .ok (.invokestatic 51, 3) := by decide +kernel
theorem dX6_set_34 : decode cX6_set 34 = .ok (.ifCond .ne 13, 3) := by decide +kernel
theorem dX6_set_37 : decode cX6_set 37 = .ok (.new 69, 3) := by decide +kernel
theorem dX6_set_40 : decode cX6_set 40 = .ok (.dup, 1) := by decide +kernel
theorem dX6_set_41 : decode cX6_set 41 = .ok (.ldc 71, 2) := by decide +kernel
theorem dX6_set_43 : decode cX6_set 43 = .ok (.invokespecial 73, 3) := by decide +kernel
theorem dX6_set_46 : decode cX6_set 46 = .ok (.athrow, 1) := by decide +kernel
theorem dX6_set_47 : decode cX6_set 47 = .ok (.aload_n 0, 1) := by decide +kernel
theorem dX6_set_48 : decode cX6_set 48 = .ok (.getfield 19, 3) := by decide +kernel
theorem dX6_set_51 : decode cX6_set 51 = .ok (.aload_n 0, 1) := by decide +kernel
theorem dX6_set_52 : decode cX6_set 52 = .ok (.getfield 10, 3) := by decide +kernel
theorem dX6_set_55 : decode cX6_set 55 = .ok (.invokevirtual 74, 3) := by decide +kernel
theorem dX6_set_58 : decode cX6_set 58 = .ok (.aload_n 0, 1) := by decide +kernel
theorem dX6_set_59 : decode cX6_set 59 = .ok (.getfield 10, 3) := by decide +kernel
theorem dX6_set_62 : decode cX6_set 62 = .ok (.getfield 78, 3) := by decide +kernel
theorem dX6_set_65 : decode cX6_set 65 = .ok (.iload_n 1, 1) := by decide +kernel
theorem dX6_set_66 : decode cX6_set 66 = .ok (.iaload, 1) := by decide +kernel
theorem dX6_set_67 : decode cX6_set 67 = .ok (.istore_n 3, 1) := by decide +kernel
theorem dX6_set_68 : decode cX6_set 68 = .ok (.aload_n 0, 1) := by decide +kernel
theorem dX6_set_69 : decode cX6_set 69 = .ok (.getfield 10, 3) := by decide +kernel
theorem dX6_set_72 : decode cX6_set 72 = .ok (.getfield 78, 3) := by decide +kernel
theorem dX6_set_75 : decode cX6_set 75 = .ok (.iload_n 1, 1) := by decide +kernel
theorem dX6_set_76 : decode cX6_set 76 = .ok (.iload_n 2, 1) := by decide +kernel
theorem dX6_set_77 : decode cX6_set 77 = .ok (.iastore, 1) := by decide +kernel
theorem dX6_set_78 : decode cX6_set 78 = .ok (.iload_n 3, 1) := by decide +kernel
theorem dX6_set_79 : decode cX6_set 79 = .ok (.ireturn, 1) := by decide +kernel
theorem dX6_setQuota_0 : decode cX6_setQuota 0 = .ok (.iload_n 1, 1) := by decide +kernel
theorem dX6_setQuota_1 : decode cX6_setQuota 1 = .ok (.iconst 0, 1) := by decide +kernel
theorem dX6_setQuota_2 : decode cX6_setQuota 2 = .ok (.iconst 5, 1) := by decide +kernel
theorem dX6_setQuota_3 : decode cX6_setQuota 3 = .ok (.invokestatic 51, 3) := by decide +kernel
theorem dX6_setQuota_6 : decode cX6_setQuota 6 = .ok (.ifCond .ne 13, 3) := by decide +kernel
theorem dX6_setQuota_9 : decode cX6_setQuota 9 = .ok (.new 55, 3) := by decide +kernel
theorem dX6_setQuota_12 : decode cX6_setQuota 12 = .ok (.dup, 1) := by decide +kernel
theorem dX6_setQuota_13 : decode cX6_setQuota 13 = .ok (.ldc 81, 2) := by decide +kernel
theorem dX6_setQuota_15 : decode cX6_setQuota 15 = .ok (.invokespecial 59, 3) := by decide +kernel
theorem dX6_setQuota_18 : decode cX6_setQuota 18 = .ok (.athrow, 1) := by decide +kernel
theorem dX6_setQuota_19 : decode cX6_setQuota 19 = .ok (.iload_n 2, 1) := by decide +kernel
theorem dX6_setQuota_20 : decode cX6_setQuota 20 = .ok (.iconst 0, 1) := by decide +kernel
theorem dX6_setQuota_21 : decode cX6_setQuota 21 = .ok (.sipush 2000, 3) := by decide +kernel
theorem dX6_setQuota_24 : decode cX6_setQuota 24 = .ok (.invokestatic 51, 3) := by decide +kernel
theorem dX6_setQuota_27 : decode cX6_setQuota 27 = .ok (.ifCond .ne 13, 3) := by decide +kernel
theorem dX6_setQuota_30 : decode cX6_setQuota 30 = .ok (.new 69, 3) := by decide +kernel
theorem dX6_setQuota_33 : decode cX6_setQuota 33 = .ok (.dup, 1) := by decide +kernel
theorem dX6_setQuota_34 : decode cX6_setQuota 34 = .ok (.ldc 83, 2) := by decide +kernel
theorem dX6_setQuota_36 : decode cX6_setQuota 36 = .ok (.invokespecial 73, 3) := by decide +kernel
theorem dX6_setQuota_39 : decode cX6_setQuota 39 = .ok (.athrow, 1) := by decide +kernel
theorem dX6_setQuota_40 : decode cX6_setQuota 40 = .ok (.aload_n 0, 1) := by decide +kernel
theorem dX6_setQuota_41 : decode cX6_setQuota 41 = .ok (.getfield 19, 3) := by decide +kernel
theorem dX6_setQuota_44 : decode cX6_setQuota 44 = .ok (.aload_n 0, 1) := by decide +kernel
theorem dX6_setQuota_45 : decode cX6_setQuota 45 = .ok (.getfield 10, 3) := by decide +kernel
theorem dX6_setQuota_48 : decode cX6_setQuota 48 = .ok (.invokevirtual 74, 3) := by decide +kernel
theorem dX6_setQuota_51 : decode cX6_setQuota 51 = .ok (.aload_n 0, 1) := by decide +kernel
theorem dX6_setQuota_52 : decode cX6_setQuota 52 = .ok (.getfield 10, 3) := by decide +kernel
theorem dX6_setQuota_55 : decode cX6_setQuota 55 = .ok (.getfield 85, 3) := by decide +kernel
theorem dX6_setQuota_58 : decode cX6_setQuota 58 = .ok (.iload_n 1, 1) := by decide +kernel
theorem dX6_setQuota_59 : decode cX6_setQuota 59 = .ok (.iaload, 1) := by decide +kernel
theorem dX6_setQuota_60 : decode cX6_setQuota 60 = .ok (.istore_n 3, 1) := by decide +kernel
theorem dX6_setQuota_61 : decode cX6_setQuota 61 = .ok (.aload_n 0, 1) := by decide +kernel
theorem dX6_setQuota_62 : decode cX6_setQuota 62 = .ok (.getfield 10, 3) := by decide +kernel
theorem dX6_setQuota_65 : decode cX6_setQuota 65 = .ok (.getfield 85, 3) := by decide +kernel
theorem dX6_setQuota_68 : decode cX6_setQuota 68 = .ok (.iload_n 1, 1) := by decide +kernel
theorem dX6_setQuota_69 : decode cX6_setQuota 69 = .ok (.iload_n 2, 1) := by decide +kernel
theorem dX6_setQuota_70 : decode cX6_setQuota 70 = .ok (.iastore, 1) := by decide +kernel
theorem dX6_setQuota_71 : decode cX6_setQuota 71 = .ok (.iload_n 3, 1) := by decide +kernel
theorem dX6_setQuota_72 : decode cX6_setQuota 72 = .ok (.ireturn, 1) := by decide +kernel
theorem dX6_add_0 : decode cX6_add 0 = .ok (.aload_n 0, 1) := by decide +kernel
theorem dX6_add_1 : decode cX6_add 1 = .ok (.getfield 33, 3) := by decide +kernel
theorem dX6_add_4 : decode cX6_add 4 = .ok (.iload_n 1, 1) := by decide +kernel
theorem dX6_add_5 : decode cX6_add 5 = .ok (.ifCond .eq 7, 3) := by decide +kernel
theorem dX6_add_8 : decode cX6_add 8 = .ok (.iconst 0, 1) := by decide +kernel
theorem dX6_add_9 : decode cX6_add 9 = .ok (.goto 4, 3) := by decide +kernel
theorem dX6_add_12 : decode cX6_add 12 = .ok (.iconst 1, 1) := by decide +kernel
theorem dX6_add_13 : decode cX6_add 13 = .ok (.iload_n 2, 1) := by decide +kernel
theorem dX6_add_14 : decode cX6_add 14 = .ok (.iload_n 3, 1) := by decide +kernel
theorem dX6_add_15 : decode cX6_add 15 = .ok (.iload 4, 2) := by decide +kernel
theorem dX6_add_17 : decode cX6_add 17 = .ok (.iload 5, 2) := by decide +kernel
theorem dX6_add_19 : decode cX6_add 19 = .ok (.iload 6, 2) := by decide +kernel
theorem dX6_add_21 : decode cX6_add 21 = .ok (.invokevirtual 88, 3) := by decide +kernel
theorem dX6_add_24 : decode cX6_add 24 = .ok (.aload_n 0, 1) := by decide +kernel
theorem dX6_add_25 : decode cX6_add 25 = .ok (.getfield 33, 3) := by decide +kernel
theorem dX6_add_28 : decode cX6_add 28 = .ok (.invokevirtual 92, 3) := by decide +kernel
theorem dX6_add_31 : decode cX6_add 31 = .ok (.ifCond .ne 13, 3) := by decide +kernel
theorem dX6_add_34 : decode cX6_add 34 = .ok (.new 69, 3) := by decide +kernel
theorem dX6_add_37 : decode cX6_add 37 = .ok (.dup, 1) := by decide +kernel
theorem dX6_add_38 : decode cX6_add 38 = .ok (.ldc 96, 2) := by decide +kernel
theorem dX6_add_40 : decode cX6_add 40 = .ok (.invokespecial 73, 3) := by decide +kernel
theorem dX6_add_43 : decode cX6_add 43 = .ok (.athrow, 1) := by decide +kernel
theorem dX6_add_44 : decode cX6_add 44 = .ok (.aload_n 0, 1) := by decide +kernel
theorem dX6_add_45 : decode cX6_add 45 = .ok (.invokevirtual 98, 3) := by decide +kernel
theorem dX6_add_48 : decode cX6_add 48 = .ok (.ireturn, 1) := by decide +kernel
theorem dX6_repeat_0 : decode cX6_repeat 0 = .ok (.aload_n 0, 1) := by decide +kernel
theorem dX6_repeat_1 : decode cX6_repeat 1 = .ok (.getfield 33, 3) := by decide +kernel
theorem dX6_repeat_4 : decode cX6_repeat 4 = .ok (.iload_n 1, 1) := by decide +kernel
theorem dX6_repeat_5 : decode cX6_repeat 5 = .ok (.iload_n 2, 1) := by decide +kernel
theorem dX6_repeat_6 : decode cX6_repeat 6 = .ok (.iload_n 3, 1) := by decide +kernel
theorem dX6_repeat_7 : decode cX6_repeat 7 = .ok (.invokevirtual 102, 3) := by decide +kernel
theorem dX6_repeat_10 : decode cX6_repeat 10 = .ok (.aload_n 0, 1) := by decide +kernel
theorem dX6_repeat_11 : decode cX6_repeat 11 = .ok (.getfield 10, 3) := by decide +kernel
theorem dX6_repeat_14 : decode cX6_repeat 14 = .ok (.aload_n 0, 1) := by decide +kernel
theorem dX6_repeat_15 : decode cX6_repeat 15 = .ok (.getfield 33, 3) := by decide +kernel
theorem dX6_repeat_18 : decode cX6_repeat 18 = .ok (.invokevirtual 106, 3) := by decide +kernel
theorem dX6_repeat_21 : decode cX6_repeat 21 = .ok (.ifCond .ne 13, 3) := by decide +kernel
theorem dX6_repeat_24 : decode cX6_repeat 24 = .ok (.new 55, 3) := by decide +kernel
theorem dX6_repeat_27 : decode cX6_repeat 27 = .ok (.dup, 1) := by decide +kernel
theorem dX6_repeat_28 : decode cX6_repeat 28 = .ok (.ldc 110, 2) := by decide +kernel
theorem dX6_repeat_30 : decode cX6_repeat 30 = .ok (.invokespecial 59, 3) := by decide +kernel
theorem dX6_repeat_33 : decode cX6_repeat 33 = .ok (.athrow, 1) := by decide +kernel
theorem dX6_repeat_34 : decode cX6_repeat 34 = .ok (.aload_n 0, 1) := by decide +kernel
theorem dX6_repeat_35 : decode cX6_repeat 35 = .ok (.getfield 33, 3) := by decide +kernel
theorem dX6_repeat_38 : decode cX6_repeat 38 = .ok (.invokevirtual 92, 3) := by decide +kernel
theorem dX6_repeat_41 : decode cX6_repeat 41 = .ok (.ifCond .ne 13, 3) := by decide +kernel
theorem dX6_repeat_44 : decode cX6_repeat 44 = .ok (.new 69, 3) := by decide +kernel
theorem dX6_repeat_47 : decode cX6_repeat 47 = .ok (.dup, 1) := by decide +kernel
theorem dX6_repeat_48 : decode cX6_repeat 48 = .ok (.ldc 112, 2) := by decide +kernel
theorem dX6_repeat_50 : decode cX6_repeat 50 = .ok (.invokespecial 73, 3) := by decide +kernel
theorem dX6_repeat_53 : decode cX6_repeat 53 = .ok (.athrow, 1) := by decide +kernel
theorem dX6_repeat_54 : decode cX6_repeat 54 = .ok (.aload_n 0, 1) := by decide +kernel
theorem dX6_repeat_55 : decode cX6_repeat 55 = .ok (.invokevirtual 98, 3) := by decide +kernel
theorem dX6_repeat_58 : decode cX6_repeat 58 = .ok (.ireturn, 1) := by decide +kernel
theorem dX6_remove_0 : decode cX6_remove 0 = .ok (.aload_n 0, 1) := by decide +kernel
theorem dX6_remove_1 : decode cX6_remove 1 = .ok (.getfield 10, 3) := by decide +kernel
theorem dX6_remove_4 : decode cX6_remove 4 = .ok (.iload_n 1, 1) := by decide +kernel
theorem dX6_remove_5 : decode cX6_remove 5 = .ok (.invokevirtual 114, 3) := by decide +kernel
theorem dX6_remove_8 : decode cX6_remove 8 = .ok (.ifCond .ne 13, 3) := by decide +kernel
theorem dX6_remove_11 : decode cX6_remove 11 = .ok (.new 55, 3) := by decide +kernel
theorem dX6_remove_14 : decode cX6_remove 14 = .ok (.dup, 1) := by decide +kernel
theorem dX6_remove_15 : decode cX6_remove 15 = .ok (.ldc 110, 2) := by decide +kernel
theorem dX6_remove_17 : decode cX6_remove 17 = .ok (.invokespecial 59, 3) := by decide +kernel
theorem dX6_remove_20 : decode cX6_remove 20 = .ok (.athrow, 1) := by decide +kernel
theorem dX6_remove_21 : decode cX6_remove 21 = .ok (.aload_n 0, 1) := by decide +kernel
theorem dX6_remove_22 : decode cX6_remove 22 = .ok (.getfield 19, 3) := by decide +kernel
theorem dX6_remove_25 : decode cX6_remove 25 = .ok (.aload_n 0, 1) := by decide +kernel
theorem dX6_remove_26 : decode cX6_remove 26 = .ok (.getfield 10, 3) := by decide +kernel
theorem dX6_remove_29 : decode cX6_remove 29 = .ok (.invokevirtual 74, 3) := by decide +kernel
theorem dX6_remove_32 : decode cX6_remove 32 = .ok (.aload_n 0, 1) := by decide +kernel
theorem dX6_remove_33 : decode cX6_remove 33 = .ok (.getfield 10, 3) := by decide +kernel
theorem dX6_remove_36 : decode cX6_remove 36 = .ok (.iload_n 1, 1) := by decide +kernel
theorem dX6_remove_37 : decode cX6_remove 37 = .ok (.invokevirtual 118, 3) := by decide +kernel
theorem dX6_remove_40 : decode cX6_remove 40 = .ok (.ireturn, 1) := by decide +kernel
theorem dX6_overrun_0 : decode cX6_overrun 0 = .ok (.aload_n 0, 1) := by decide +kernel
theorem dX6_overrun_1 : decode cX6_overrun 1 = .ok (.getfield 10, 3) := by decide +kernel
theorem dX6_overrun_4 : decode cX6_overrun 4 = .ok (.iload_n 1, 1) := by decide +kernel
theorem dX6_overrun_5 : decode cX6_overrun 5 = .ok (.invokevirtual 114, 3) := by decide +kernel
theorem dX6_overrun_8 : decode cX6_overrun 8 = .ok (.ifCond .ne 13, 3) := by decide +kernel
theorem dX6_overrun_11 : decode cX6_overrun 11 = .ok (.new 55, 3) := by decide +kernel
theorem dX6_overrun_14 : decode cX6_overrun 14 = .ok (.dup, 1) := by decide +kernel
theorem dX6_overrun_15 : decode cX6_overrun 15 = .ok (.ldc 110, 2) := by decide +kernel
theorem dX6_overrun_17 : decode cX6_overrun 17 = .ok (.invokespecial 59, 3) := by decide +kernel
theorem dX6_overrun_20 : decode cX6_overrun 20 = .ok (.athrow, 1) := by decide +kernel
theorem dX6_overrun_21 : decode cX6_overrun 21 = .ok (.iload_n 2, 1) := by decide +kernel
theorem dX6_overrun_22 : decode cX6_overrun 22 = .ok (.bipush (-60), 2) := by decide +kernel
theorem dX6_overrun_24 : decode cX6_overrun 24 = .ok (.bipush 120, 2) := by decide +kernel
theorem dX6_overrun_26 : decode cX6_overrun 26 = .ok (.invokestatic 51, 3) := by decide +kernel
theorem dX6_overrun_29 : decode cX6_overrun 29 = .ok (.ifCond .ne 13, 3) := by decide +kernel
theorem dX6_overrun_32 : decode cX6_overrun 32 = .ok (.new 69, 3) := by decide +kernel
theorem dX6_overrun_35 : decode cX6_overrun 35 = .ok (.dup, 1) := by decide +kernel
theorem dX6_overrun_36 : decode cX6_overrun 36 = .ok (.ldc 122, 2) := by decide +kernel
theorem dX6_overrun_38 : decode cX6_overrun 38 = .ok (.invokespecial 73, 3) := by decide +kernel
theorem dX6_overrun_41 : decode cX6_overrun 41 = .ok (.athrow, 1) := by decide +kernel
theorem dX6_overrun_42 : decode cX6_overrun 42 = .ok (.aload_n 0, 1) := by decide +kernel
theorem dX6_overrun_43 : decode cX6_overrun 43 = .ok (.getfield 10, 3) := by decide +kernel
theorem dX6_overrun_46 : decode cX6_overrun 46 = .ok (.getfield 124, 3) := by decide +kernel
theorem dX6_overrun_49 : decode cX6_overrun 49 = .ok (.iload_n 1, 1) := by decide +kernel
theorem dX6_overrun_50 : decode cX6_overrun 50 = .ok (.iaload, 1) := by decide +kernel
theorem dX6_overrun_51 : decode cX6_overrun 51 = .ok (.ifCond .eq 13, 3) := by decide +kernel
theorem dX6_overrun_54 : decode cX6_overrun 54 = .ok (.new 127, 3) := by decide +kernel
theorem dX6_overrun_57 : decode cX6_overrun 57 = .ok (.dup, 1) := by decide +kernel
theorem dX6_overrun_58 : decode cX6_overrun 58 = .ok (.ldc 129, 2) := by decide +kernel
theorem dX6_overrun_60 : decode cX6_overrun 60 = .ok (.invokespecial 131, 3) := by decide +kernel
theorem dX6_overrun_63 : decode cX6_overrun 63 = .ok (.athrow, 1) := by decide +kernel
theorem dX6_overrun_64 : decode cX6_overrun 64 = .ok (.aload_n 0, 1) := by decide +kernel
theorem dX6_overrun_65 : decode cX6_overrun 65 = .ok (.getfield 19, 3) := by decide +kernel
theorem dX6_overrun_68 : decode cX6_overrun 68 = .ok (.aload_n 0, 1) := by decide +kernel
theorem dX6_overrun_69 : decode cX6_overrun 69 = .ok (.getfield 10, 3) := by decide +kernel
theorem dX6_overrun_72 : decode cX6_overrun 72 = .ok (.invokevirtual 74, 3) := by decide +kernel
theorem dX6_overrun_75 : decode cX6_overrun 75 = .ok (.aload_n 0, 1) := by decide +kernel
theorem dX6_overrun_76 : decode cX6_overrun 76 = .ok (.getfield 10, 3) := by decide +kernel
theorem dX6_overrun_79 : decode cX6_overrun 79 = .ok (.getfield 132, 3) := by decide +kernel
theorem dX6_overrun_82 : decode cX6_overrun 82 = .ok (.iload_n 1, 1) := by decide +kernel
theorem dX6_overrun_83 : decode cX6_overrun 83 = .ok (.iaload, 1) := by decide +kernel
theorem dX6_overrun_84 : decode cX6_overrun 84 = .ok (.istore_n 3, 1) := by decide +kernel
theorem dX6_overrun_85 : decode cX6_overrun 85 = .ok (.aload_n 0, 1) := by decide +kernel
theorem dX6_overrun_86 : decode cX6_overrun 86 = .ok (.getfield 10, 3) := by decide +kernel
theorem dX6_overrun_89 : decode cX6_overrun 89 = .ok (.getfield 132, 3) := by decide +kernel
theorem dX6_overrun_92 : decode cX6_overrun 92 = .ok (.iload_n 1, 1) := by decide +kernel
theorem dX6_overrun_93 : decode cX6_overrun 93 = .ok (.iload_n 2, 1) := by decide +kernel
theorem dX6_overrun_94 : decode cX6_overrun 94 = .ok (.iastore, 1) := by decide +kernel
theorem dX6_overrun_95 : decode cX6_overrun 95 = .ok (.iload_n 3, 1) := by decide +kernel
theorem dX6_overrun_96 : decode cX6_overrun 96 = .ok (.ireturn, 1) := by decide +kernel
theorem dX6_closeWeek_0 : decode cX6_closeWeek 0 = .ok (.aload_n 0, 1) := by decide +kernel
theorem dX6_closeWeek_1 : decode cX6_closeWeek 1 = .ok (.getfield 10, 3) := by decide +kernel
theorem dX6_closeWeek_4 : decode cX6_closeWeek 4 = .ok (.getfield 135, 3) := by decide +kernel
theorem dX6_closeWeek_7 : decode cX6_closeWeek 7 = .ok (.sipush 1000, 3) := by decide +kernel
theorem dX6_closeWeek_10 : decode cX6_closeWeek 10 = .ok (.if_icmp .lt 13, 3) := by decide +kernel
theorem dX6_closeWeek_13 : decode cX6_closeWeek 13 = .ok (.new 127, 3) := by decide +kernel
theorem dX6_closeWeek_16 : decode cX6_closeWeek 16 = .ok (.dup, 1) := by decide +kernel
theorem dX6_closeWeek_17 : decode cX6_closeWeek 17 = .ok (.ldc 138, 2) := by decide +kernel
theorem dX6_closeWeek_19 : decode cX6_closeWeek 19 = .ok (.invokespecial 131, 3) := by decide +kernel
theorem dX6_closeWeek_22 : decode cX6_closeWeek 22 = .ok (.athrow, 1) := by decide +kernel
theorem dX6_closeWeek_23 : decode cX6_closeWeek 23 = .ok (.aload_n 0, 1) := by decide +kernel
theorem dX6_closeWeek_24 : decode cX6_closeWeek 24 = .ok (.getfield 19, 3) := by decide +kernel
theorem dX6_closeWeek_27 : decode cX6_closeWeek 27 = .ok (.aload_n 0, 1) := by decide +kernel
theorem dX6_closeWeek_28 : decode cX6_closeWeek 28 = .ok (.getfield 10, 3) := by decide +kernel
theorem dX6_closeWeek_31 : decode cX6_closeWeek 31 = .ok (.invokevirtual 74, 3) := by decide +kernel
theorem dX6_closeWeek_34 : decode cX6_closeWeek 34 = .ok (.aload_n 0, 1) := by decide +kernel
theorem dX6_closeWeek_35 : decode cX6_closeWeek 35 = .ok (.getfield 40, 3) := by decide +kernel
theorem dX6_closeWeek_38 : decode cX6_closeWeek 38 = .ok (.aload_n 0, 1) := by decide +kernel
theorem dX6_closeWeek_39 : decode cX6_closeWeek 39 = .ok (.getfield 10, 3) := by decide +kernel
theorem dX6_closeWeek_42 : decode cX6_closeWeek 42 = .ok (.invokevirtual 140, 3) := by decide +kernel
theorem dX6_closeWeek_45 : decode cX6_closeWeek 45 = .ok (.iconst 0, 1) := by decide +kernel
theorem dX6_closeWeek_46 : decode cX6_closeWeek 46 = .ok (.istore_n 1, 1) := by decide +kernel
theorem dX6_closeWeek_47 : decode cX6_closeWeek 47 = .ok (.iload_n 1, 1) := by decide +kernel
theorem dX6_closeWeek_48 : decode cX6_closeWeek 48 = .ok (.bipush 6, 2) := by decide +kernel
theorem dX6_closeWeek_50 : decode cX6_closeWeek 50 = .ok (.if_icmp .ge 29, 3) := by decide +kernel
theorem dX6_closeWeek_53 : decode cX6_closeWeek 53 = .ok (.aload_n 0, 1) := by decide +kernel
theorem dX6_closeWeek_54 : decode cX6_closeWeek 54 = .ok (.getfield 10, 3) := by decide +kernel
theorem dX6_closeWeek_57 : decode cX6_closeWeek 57 = .ok (.iload_n 1, 1) := by decide +kernel
theorem dX6_closeWeek_58 : decode cX6_closeWeek 58 = .ok (.aload_n 0, 1) := by decide +kernel
theorem dX6_closeWeek_59 : decode cX6_closeWeek 59 = .ok (.getfield 40, 3) := by decide +kernel
theorem dX6_closeWeek_62 : decode cX6_closeWeek 62 = .ok (.aload_n 0, 1) := by decide +kernel
theorem dX6_closeWeek_63 : decode cX6_closeWeek 63 = .ok (.getfield 10, 3) := by decide +kernel
theorem dX6_closeWeek_66 : decode cX6_closeWeek 66 = .ok (.iload_n 1, 1) := by decide +kernel
theorem dX6_closeWeek_67 : decode cX6_closeWeek 67 = .ok (.invokevirtual 143, 3) := by decide +kernel
theorem dX6_closeWeek_70 : decode cX6_closeWeek 70 = .ok (.invokevirtual 147, 3) := by decide +kernel
theorem dX6_closeWeek_73 : decode cX6_closeWeek 73 = .ok (.iinc 1 1, 3) := by decide +kernel
theorem dX6_closeWeek_76 : decode cX6_closeWeek 76 = .ok (.goto (-29), 3) := by decide +kernel
theorem dX6_closeWeek_79 : decode cX6_closeWeek 79 = .ok (.aload_n 0, 1) := by decide +kernel
theorem dX6_closeWeek_80 : decode cX6_closeWeek 80 = .ok (.getfield 10, 3) := by decide +kernel
theorem dX6_closeWeek_83 : decode cX6_closeWeek 83 = .ok (.invokevirtual 151, 3) := by decide +kernel
theorem dX6_closeWeek_86 : decode cX6_closeWeek 86 = .ok (.aload_n 0, 1) := by decide +kernel
theorem dX6_closeWeek_87 : decode cX6_closeWeek 87 = .ok (.getfield 10, 3) := by decide +kernel
theorem dX6_closeWeek_90 : decode cX6_closeWeek 90 = .ok (.getfield 135, 3) := by decide +kernel
theorem dX6_closeWeek_93 : decode cX6_closeWeek 93 = .ok (.ireturn, 1) := by decide +kernel
theorem dX6_append_0 : decode cX6_append 0 = .ok (.iload_n 1, 1) := by decide +kernel
theorem dX6_append_1 : decode cX6_append 1 = .ok (.bipush 33, 2) := by decide +kernel
theorem dX6_append_3 : decode cX6_append 3 = .ok (.bipush 126, 2) := by decide +kernel
theorem dX6_append_5 : decode cX6_append 5 = .ok (.invokestatic 51, 3) := by decide +kernel
theorem dX6_append_8 : decode cX6_append 8 = .ok (.ifCond .ne 13, 3) := by decide +kernel
theorem dX6_append_11 : decode cX6_append 11 = .ok (.new 69, 3) := by decide +kernel
theorem dX6_append_14 : decode cX6_append 14 = .ok (.dup, 1) := by decide +kernel
theorem dX6_append_15 : decode cX6_append 15 = .ok (.ldc 154, 2) := by decide +kernel
theorem dX6_append_17 : decode cX6_append 17 = .ok (.invokespecial 73, 3) := by decide +kernel
theorem dX6_append_20 : decode cX6_append 20 = .ok (.athrow, 1) := by decide +kernel
theorem dX6_append_21 : decode cX6_append 21 = .ok (.aload_n 0, 1) := by decide +kernel
theorem dX6_append_22 : decode cX6_append 22 = .ok (.getfield 26, 3) := by decide +kernel
theorem dX6_append_25 : decode cX6_append 25 = .ok (.getfield 156, 3) := by decide +kernel
theorem dX6_append_28 : decode cX6_append 28 = .ok (.bipush 60, 2) := by decide +kernel
theorem dX6_append_30 : decode cX6_append 30 = .ok (.if_icmp .lt 13, 3) := by decide +kernel
theorem dX6_append_33 : decode cX6_append 33 = .ok (.new 127, 3) := by decide +kernel
theorem dX6_append_36 : decode cX6_append 36 = .ok (.dup, 1) := by decide +kernel
theorem dX6_append_37 : decode cX6_append 37 = .ok (.ldc 159, 2) := by decide +kernel
theorem dX6_append_39 : decode cX6_append 39 = .ok (.invokespecial 131, 3) := by decide +kernel
theorem dX6_append_42 : decode cX6_append 42 = .ok (.athrow, 1) := by decide +kernel
theorem dX6_append_43 : decode cX6_append 43 = .ok (.aload_n 0, 1) := by decide +kernel
theorem dX6_append_44 : decode cX6_append 44 = .ok (.getfield 26, 3) := by decide +kernel
theorem dX6_append_47 : decode cX6_append 47 = .ok (.getfield 161, 3) := by decide +kernel
theorem dX6_append_50 : decode cX6_append 50 = .ok (.aload_n 0, 1) := by decide +kernel
theorem dX6_append_51 : decode cX6_append 51 = .ok (.getfield 26, 3) := by decide +kernel
theorem dX6_append_54 : decode cX6_append 54 = .ok (.getfield 156, 3) := by decide +kernel
theorem dX6_append_57 : decode cX6_append 57 = .ok (.iload_n 1, 1) := by decide +kernel
theorem dX6_append_58 : decode cX6_append 58 = .ok (.iastore, 1) := by decide +kernel
theorem dX6_append_59 : decode cX6_append 59 = .ok (.aload_n 0, 1) := by decide +kernel
theorem dX6_append_60 : decode cX6_append 60 = .ok (.getfield 26, 3) := by decide +kernel
theorem dX6_append_63 : decode cX6_append 63 = .ok (.dup, 1) := by decide +kernel
theorem dX6_append_64 : decode cX6_append 64 = .ok (.getfield 156, 3) := by decide +kernel
theorem dX6_append_67 : decode cX6_append 67 = .ok (.iconst 1, 1) := by decide +kernel
theorem dX6_append_68 : decode cX6_append 68 = .ok (.iadd, 1) := by decide +kernel
theorem dX6_append_69 : decode cX6_append 69 = .ok (.putfield 156, 3) := by decide +kernel
theorem dX6_append_72 : decode cX6_append 72 = .ok (.aload_n 0, 1) := by decide +kernel
theorem dX6_append_73 : decode cX6_append 73 = .ok (.getfield 26, 3) := by decide +kernel
theorem dX6_append_76 : decode cX6_append 76 = .ok (.getfield 156, 3) := by decide +kernel
theorem dX6_append_79 : decode cX6_append 79 = .ok (.ireturn, 1) := by decide +kernel
theorem dX6_clearBuffer_0 : decode cX6_clearBuffer 0 = .ok (.aload_n 0, 1) := by decide +kernel
theorem dX6_clearBuffer_1 : decode cX6_clearBuffer 1 = .ok (.getfield 26, 3) := by decide +kernel
theorem dX6_clearBuffer_4 : decode cX6_clearBuffer 4 = .ok (.getfield 156, 3) := by decide +kernel
theorem dX6_clearBuffer_7 : decode cX6_clearBuffer 7 = .ok (.istore_n 1, 1) := by decide +kernel
theorem dX6_clearBuffer_8 : decode cX6_clearBuffer 8 = .ok (.aload_n 0, 1) := by decide +kernel
theorem dX6_clearBuffer_9 : decode cX6_clearBuffer 9 = .ok (.getfield 26, 3) := by decide +kernel
theorem dX6_clearBuffer_12 : decode cX6_clearBuffer 12 = .ok (.iconst 0, 1) := by decide +kernel
theorem dX6_clearBuffer_13 : decode cX6_clearBuffer 13 = .ok (.putfield 156, 3) := by decide +kernel
theorem dX6_clearBuffer_16 : decode cX6_clearBuffer 16 = .ok (.iload_n 1, 1) := by decide +kernel
theorem dX6_clearBuffer_17 : decode cX6_clearBuffer 17 = .ok (.ireturn, 1) := by decide +kernel
theorem dX6_firstError_0 : decode cX6_firstError 0 = .ok (.aload_n 0, 1) := by decide +kernel
theorem dX6_firstError_1 : decode cX6_firstError 1 = .ok (.getfield 26, 3) := by decide +kernel
theorem dX6_firstError_4 : decode cX6_firstError 4 = .ok (.aload_n 0, 1) := by decide +kernel
theorem dX6_firstError_5 : decode cX6_firstError 5 = .ok (.getfield 33, 3) := by decide +kernel
theorem dX6_firstError_8 : decode cX6_firstError 8 = .ok (.invokevirtual 164, 3) := by decide +kernel
theorem dX6_firstError_11 : decode cX6_firstError 11 = .ok (.pop, 1) := by decide +kernel
theorem dX6_firstError_12 : decode cX6_firstError 12 = .ok (.aload_n 0, 1) := by decide +kernel
theorem dX6_firstError_13 : decode cX6_firstError 13 = .ok (.getfield 26, 3) := by decide +kernel
theorem dX6_firstError_16 : decode cX6_firstError 16 = .ok (.getfield 167, 3) := by decide +kernel
theorem dX6_firstError_19 : decode cX6_firstError 19 = .ok (.ireturn, 1) := by decide +kernel
theorem dX6_load_0 : decode cX6_load 0 = .ok (.aload_n 0, 1) := by decide +kernel
theorem dX6_load_1 : decode cX6_load 1 = .ok (.getfield 26, 3) := by decide +kernel
theorem dX6_load_4 : decode cX6_load 4 = .ok (.aload_n 0, 1) := by decide +kernel
theorem dX6_load_5 : decode cX6_load 5 = .ok (.getfield 33, 3) := by decide +kernel
theorem dX6_load_8 : decode cX6_load 8 = .ok (.invokevirtual 164, 3) := by decide +kernel
theorem dX6_load_11 : decode cX6_load 11 = .ok (.ifCond .ne 13, 3) := by decide +kernel
theorem dX6_load_14 : decode cX6_load 14 = .ok (.new 69, 3) := by decide +kernel
theorem dX6_load_17 : decode cX6_load 17 = .ok (.dup, 1) := by decide +kernel
theorem dX6_load_18 : decode cX6_load 18 = .ok (.ldc 170, 2) := by decide +kernel
theorem dX6_load_20 : decode cX6_load 20 = .ok (.invokespecial 73, 3) := by decide +kernel
theorem dX6_load_23 : decode cX6_load 23 = .ok (.athrow, 1) := by decide +kernel
theorem dX6_load_24 : decode cX6_load 24 = .ok (.aload_n 0, 1) := by decide +kernel
theorem dX6_load_25 : decode cX6_load 25 = .ok (.getfield 19, 3) := by decide +kernel
theorem dX6_load_28 : decode cX6_load 28 = .ok (.aload_n 0, 1) := by decide +kernel
theorem dX6_load_29 : decode cX6_load 29 = .ok (.getfield 10, 3) := by decide +kernel
theorem dX6_load_32 : decode cX6_load 32 = .ok (.invokevirtual 74, 3) := by decide +kernel
theorem dX6_load_35 : decode cX6_load 35 = .ok (.iconst 0, 1) := by decide +kernel
theorem dX6_load_36 : decode cX6_load 36 = .ok (.istore_n 1, 1) := by decide +kernel
theorem dX6_load_37 : decode cX6_load 37 = .ok (.aload_n 0, 1) := by decide +kernel
theorem dX6_load_38 : decode cX6_load 38 = .ok (.iconst 0, 1) := by decide +kernel
theorem dX6_load_39 : decode cX6_load 39 = .ok (.putfield 47, 3) := by decide +kernel
theorem dX6_load_42 : decode cX6_load 42 = .ok (.aload_n 0, 1) := by decide +kernel
theorem dX6_load_43 : decode cX6_load 43 = .ok (.getfield 26, 3) := by decide +kernel
theorem dX6_load_46 : decode cX6_load 46 = .ok (.iconst 0, 1) := by decide +kernel
theorem dX6_load_47 : decode cX6_load 47 = .ok (.putfield 167, 3) := by decide +kernel
theorem dX6_load_50 : decode cX6_load 50 = .ok (.iconst 0, 1) := by decide +kernel
theorem dX6_load_51 : decode cX6_load 51 = .ok (.istore_n 2, 1) := by decide +kernel
theorem dX6_load_52 : decode cX6_load 52 = .ok (.iload_n 2, 1) := by decide +kernel
theorem dX6_load_53 : decode cX6_load 53 = .ok (.bipush 60, 2) := by decide +kernel
theorem dX6_load_55 : decode cX6_load 55 = .ok (.if_icmp .ge 85, 3) := by decide +kernel
theorem dX6_load_58 : decode cX6_load 58 = .ok (.aload_n 0, 1) := by decide +kernel
theorem dX6_load_59 : decode cX6_load 59 = .ok (.getfield 26, 3) := by decide +kernel
theorem dX6_load_62 : decode cX6_load 62 = .ok (.getfield 167, 3) := by decide +kernel
theorem dX6_load_65 : decode cX6_load 65 = .ok (.aload_n 0, 1) := by decide +kernel
theorem dX6_load_66 : decode cX6_load 66 = .ok (.getfield 26, 3) := by decide +kernel
theorem dX6_load_69 : decode cX6_load 69 = .ok (.getfield 156, 3) := by decide +kernel
theorem dX6_load_72 : decode cX6_load 72 = .ok (.if_icmp .ge 68, 3) := by decide +kernel
theorem dX6_load_75 : decode cX6_load 75 = .ok (.aload_n 0, 1) := by decide +kernel
theorem dX6_load_76 : decode cX6_load 76 = .ok (.getfield 47, 3) := by decide +kernel
theorem dX6_load_79 : decode cX6_load 79 = .ok (.ifCond .ne 61, 3) := by decide +kernel
theorem dX6_load_82 : decode cX6_load 82 = .ok (.aload_n 0, 1) := by decide +kernel
theorem dX6_load_83 : decode cX6_load 83 = .ok (.getfield 26, 3) := by decide +kernel
theorem dX6_load_86 : decode cX6_load 86 = .ok (.aload_n 0, 1) := by decide +kernel
theorem dX6_load_87 : decode cX6_load 87 = .ok (.getfield 33, 3) := by decide +kernel
theorem dX6_load_90 : decode cX6_load 90 = .ok (.invokevirtual 172, 3) := by decide +kernel
theorem dX6_load_93 : decode cX6_load 93 = .ok (.pop, 1) := by decide +kernel
theorem dX6_load_94 : decode cX6_load 94 = .ok (.aload_n 0, 1) := by decide +kernel
theorem dX6_load_95 : decode cX6_load 95 = .ok (.getfield 26, 3) := by decide +kernel
theorem dX6_load_98 : decode cX6_load 98 = .ok (.bipush 59, 2) := by decide +kernel
theorem dX6_load_100 : decode cX6_load 100 = .ok (.invokevirtual 175, 3) := by decide +kernel
theorem dX6_load_103 : decode cX6_load 103 = .ok (.pop, 1) := by decide +kernel
theorem dX6_load_104 : decode cX6_load 104 = .ok (.aload_n 0, 1) := by decide +kernel
theorem dX6_load_105 : decode cX6_load 105 = .ok (.aload_n 0, 1) := by decide +kernel
theorem dX6_load_106 : decode cX6_load 106 = .ok (.invokevirtual 179, 3) := by decide +kernel
theorem dX6_load_109 : decode cX6_load 109 = .ok (.putfield 47, 3) := by decide +kernel
theorem dX6_load_112 : decode cX6_load 112 = .ok (.aload_n 0, 1) := by decide +kernel
theorem dX6_load_113 : decode cX6_load 113 = .ok (.getfield 47, 3) := by decide +kernel
theorem dX6_load_116 : decode cX6_load 116 = .ok (.ifCond .ne 18, 3) := by decide +kernel
theorem dX6_load_119 : decode cX6_load 119 = .ok (.aload_n 0, 1) := by decide +kernel
theorem dX6_load_120 : decode cX6_load 120 = .ok (.getfield 10, 3) := by decide +kernel
theorem dX6_load_123 : decode cX6_load 123 = .ok (.aload_n 0, 1) := by decide +kernel
theorem dX6_load_124 : decode cX6_load 124 = .ok (.getfield 33, 3) := by decide +kernel
theorem dX6_load_127 : decode cX6_load 127 = .ok (.invokevirtual 182, 3) := by decide +kernel
theorem dX6_load_130 : decode cX6_load 130 = .ok (.pop, 1) := by decide +kernel
theorem dX6_load_131 : decode cX6_load 131 = .ok (.iinc 1 1, 3) := by decide +kernel
theorem dX6_load_134 : decode cX6_load 134 = .ok (.iinc 2 1, 3) := by decide +kernel
theorem dX6_load_137 : decode cX6_load 137 = .ok (.goto (-85), 3) := by decide +kernel
theorem dX6_load_140 : decode cX6_load 140 = .ok (.aload_n 0, 1) := by decide +kernel
theorem dX6_load_141 : decode cX6_load 141 = .ok (.getfield 26, 3) := by decide +kernel
theorem dX6_load_144 : decode cX6_load 144 = .ok (.iconst 0, 1) := by decide +kernel
theorem dX6_load_145 : decode cX6_load 145 = .ok (.putfield 156, 3) := by decide +kernel
theorem dX6_load_148 : decode cX6_load 148 = .ok (.iload_n 1, 1) := by decide +kernel
theorem dX6_load_149 : decode cX6_load 149 = .ok (.ireturn, 1) := by decide +kernel
theorem dX6_undo_0 : decode cX6_undo 0 = .ok (.aload_n 0, 1) := by decide +kernel
theorem dX6_undo_1 : decode cX6_undo 1 = .ok (.getfield 19, 3) := by decide +kernel
theorem dX6_undo_4 : decode cX6_undo 4 = .ok (.getfield 186, 3) := by decide +kernel
theorem dX6_undo_7 : decode cX6_undo 7 = .ok (.ifCond .ne 13, 3) := by decide +kernel
theorem dX6_undo_10 : decode cX6_undo 10 = .ok (.new 127, 3) := by decide +kernel
theorem dX6_undo_13 : decode cX6_undo 13 = .ok (.dup, 1) := by decide +kernel
theorem dX6_undo_14 : decode cX6_undo 14 = .ok (.ldc 189, 2) := by decide +kernel
theorem dX6_undo_16 : decode cX6_undo 16 = .ok (.invokespecial 131, 3) := by decide +kernel
theorem dX6_undo_19 : decode cX6_undo 19 = .ok (.athrow, 1) := by decide +kernel
theorem dX6_undo_20 : decode cX6_undo 20 = .ok (.aload_n 0, 1) := by decide +kernel
theorem dX6_undo_21 : decode cX6_undo 21 = .ok (.getfield 19, 3) := by decide +kernel
theorem dX6_undo_24 : decode cX6_undo 24 = .ok (.aload_n 0, 1) := by decide +kernel
theorem dX6_undo_25 : decode cX6_undo 25 = .ok (.getfield 10, 3) := by decide +kernel
theorem dX6_undo_28 : decode cX6_undo 28 = .ok (.invokevirtual 191, 3) := by decide +kernel
theorem dX6_undo_31 : decode cX6_undo 31 = .ok (.aload_n 0, 1) := by decide +kernel
theorem dX6_undo_32 : decode cX6_undo 32 = .ok (.getfield 19, 3) := by decide +kernel
theorem dX6_undo_35 : decode cX6_undo 35 = .ok (.getfield 186, 3) := by decide +kernel
theorem dX6_undo_38 : decode cX6_undo 38 = .ok (.ireturn, 1) := by decide +kernel
theorem dX6_reason_0 : decode cX6_reason 0 = .ok (.aload_n 0, 1) := by decide +kernel
theorem dX6_reason_1 : decode cX6_reason 1 = .ok (.getfield 47, 3) := by decide +kernel
theorem dX6_reason_4 : decode cX6_reason 4 = .ok (.ireturn, 1) := by decide +kernel
theorem dX6_show_0 : decode cX6_show 0 = .ok (.aload_n 0, 1) := by decide +kernel
theorem dX6_show_1 : decode cX6_show 1 = .ok (.getfield 10, 3) := by decide +kernel
theorem dX6_show_4 : decode cX6_show 4 = .ok (.iload_n 1, 1) := by decide +kernel
theorem dX6_show_5 : decode cX6_show 5 = .ok (.invokevirtual 114, 3) := by decide +kernel
theorem dX6_show_8 : decode cX6_show 8 = .ok (.ifCond .ne 13, 3) := by decide +kernel
theorem dX6_show_11 : decode cX6_show 11 = .ok (.new 55, 3) := by decide +kernel
theorem dX6_show_14 : decode cX6_show 14 = .ok (.dup, 1) := by decide +kernel
theorem dX6_show_15 : decode cX6_show 15 = .ok (.ldc 110, 2) := by decide +kernel
theorem dX6_show_17 : decode cX6_show 17 = .ok (.invokespecial 59, 3) := by decide +kernel
theorem dX6_show_20 : decode cX6_show 20 = .ok (.athrow, 1) := by decide +kernel
theorem dX6_show_21 : decode cX6_show 21 = .ok (.iload_n 2, 1) := by decide +kernel
theorem dX6_show_22 : decode cX6_show 22 = .ok (.iconst 0, 1) := by decide +kernel
theorem dX6_show_23 : decode cX6_show 23 = .ok (.bipush 11, 2) := by decide +kernel
theorem dX6_show_25 : decode cX6_show 25 = .ok (.invokestatic 51, 3) := by decide +kernel
theorem dX6_show_28 : decode cX6_show 28 = .ok (.ifCond .ne 13, 3) := by decide +kernel
theorem dX6_show_31 : decode cX6_show 31 = .ok (.new 69, 3) := by decide +kernel
theorem dX6_show_34 : decode cX6_show 34 = .ok (.dup, 1) := by decide +kernel
theorem dX6_show_35 : decode cX6_show 35 = .ok (.ldc 194, 2) := by decide +kernel
theorem dX6_show_37 : decode cX6_show 37 = .ok (.invokespecial 73, 3) := by decide +kernel
theorem dX6_show_40 : decode cX6_show 40 = .ok (.athrow, 1) := by decide +kernel
theorem dX6_show_41 : decode cX6_show 41 = .ok (.aload_n 0, 1) := by decide +kernel
theorem dX6_show_42 : decode cX6_show 42 = .ok (.getfield 40, 3) := by decide +kernel
theorem dX6_show_45 : decode cX6_show 45 = .ok (.aload_n 0, 1) := by decide +kernel
theorem dX6_show_46 : decode cX6_show 46 = .ok (.getfield 10, 3) := by decide +kernel
theorem dX6_show_49 : decode cX6_show 49 = .ok (.invokevirtual 140, 3) := by decide +kernel
theorem dX6_show_52 : decode cX6_show 52 = .ok (.aload_n 0, 1) := by decide +kernel
theorem dX6_show_53 : decode cX6_show 53 = .ok (.iload_n 1, 1) := by decide +kernel
theorem dX6_show_54 : decode cX6_show 54 = .ok (.iload_n 2, 1) := by decide +kernel
theorem dX6_show_55 : decode cX6_show 55 = .ok (.invokevirtual 196, 3) := by decide +kernel
theorem dX6_show_58 : decode cX6_show 58 = .ok (.ireturn, 1) := by decide +kernel
theorem dX6_group_0 : decode cX6_group 0 = .ok (.iload_n 1, 1) := by decide +kernel
theorem dX6_group_1 : decode cX6_group 1 = .ok (.iconst 0, 1) := by decide +kernel
theorem dX6_group_2 : decode cX6_group 2 = .ok (.iconst 5, 1) := by decide +kernel
theorem dX6_group_3 : decode cX6_group 3 = .ok (.invokestatic 51, 3) := by decide +kernel
theorem dX6_group_6 : decode cX6_group 6 = .ok (.ifCond .ne 13, 3) := by decide +kernel
theorem dX6_group_9 : decode cX6_group 9 = .ok (.new 55, 3) := by decide +kernel
theorem dX6_group_12 : decode cX6_group 12 = .ok (.dup, 1) := by decide +kernel
theorem dX6_group_13 : decode cX6_group 13 = .ok (.ldc 81, 2) := by decide +kernel
theorem dX6_group_15 : decode cX6_group 15 = .ok (.invokespecial 59, 3) := by decide +kernel
theorem dX6_group_18 : decode cX6_group 18 = .ok (.athrow, 1) := by decide +kernel
theorem dX6_group_19 : decode cX6_group 19 = .ok (.iload_n 2, 1) := by decide +kernel
theorem dX6_group_20 : decode cX6_group 20 = .ok (.iconst 0, 1) := by decide +kernel
theorem dX6_group_21 : decode cX6_group 21 = .ok (.bipush 8, 2) := by decide +kernel
theorem dX6_group_23 : decode cX6_group 23 = .ok (.invokestatic 51, 3) := by decide +kernel
theorem dX6_group_26 : decode cX6_group 26 = .ok (.ifCond .ne 13, 3) := by decide +kernel
theorem dX6_group_29 : decode cX6_group 29 = .ok (.new 69, 3) := by decide +kernel
theorem dX6_group_32 : decode cX6_group 32 = .ok (.dup, 1) := by decide +kernel
theorem dX6_group_33 : decode cX6_group 33 = .ok (.ldc 200, 2) := by decide +kernel
theorem dX6_group_35 : decode cX6_group 35 = .ok (.invokespecial 73, 3) := by decide +kernel
theorem dX6_group_38 : decode cX6_group 38 = .ok (.athrow, 1) := by decide +kernel
theorem dX6_group_39 : decode cX6_group 39 = .ok (.aload_n 0, 1) := by decide +kernel
theorem dX6_group_40 : decode cX6_group 40 = .ok (.getfield 40, 3) := by decide +kernel
theorem dX6_group_43 : decode cX6_group 43 = .ok (.aload_n 0, 1) := by decide +kernel
theorem dX6_group_44 : decode cX6_group 44 = .ok (.getfield 10, 3) := by decide +kernel
theorem dX6_group_47 : decode cX6_group 47 = .ok (.invokevirtual 140, 3) := by decide +kernel
theorem dX6_group_50 : decode cX6_group 50 = .ok (.aload_n 0, 1) := by decide +kernel
theorem dX6_group_51 : decode cX6_group 51 = .ok (.iload_n 1, 1) := by decide +kernel
theorem dX6_group_52 : decode cX6_group 52 = .ok (.iload_n 2, 1) := by decide +kernel
theorem dX6_group_53 : decode cX6_group 53 = .ok (.invokevirtual 202, 3) := by decide +kernel
theorem dX6_group_56 : decode cX6_group 56 = .ok (.ireturn, 1) := by decide +kernel
theorem dX6_sponsors_0 : decode cX6_sponsors 0 = .ok (.iload_n 1, 1) := by decide +kernel
theorem dX6_sponsors_1 : decode cX6_sponsors 1 = .ok (.iconst 0, 1) := by decide +kernel
theorem dX6_sponsors_2 : decode cX6_sponsors 2 = .ok (.bipush 6, 2) := by decide +kernel
theorem dX6_sponsors_4 : decode cX6_sponsors 4 = .ok (.invokestatic 51, 3) := by decide +kernel
theorem dX6_sponsors_7 : decode cX6_sponsors 7 = .ok (.ifCond .eq 13, 3) := by decide +kernel
theorem dX6_sponsors_10 : decode cX6_sponsors 10 = .ok (.iload_n 2, 1) := by decide +kernel
theorem dX6_sponsors_11 : decode cX6_sponsors 11 = .ok (.iconst 0, 1) := by decide +kernel
theorem dX6_sponsors_12 : decode cX6_sponsors 12 = .ok (.bipush 23, 2) := by decide +kernel
theorem dX6_sponsors_14 : decode cX6_sponsors 14 = .ok (.invokestatic 51, 3) := by decide +kernel
theorem dX6_sponsors_17 : decode cX6_sponsors 17 = .ok (.ifCond .ne 13, 3) := by decide +kernel
theorem dX6_sponsors_20 : decode cX6_sponsors 20 = .ok (.new 55, 3) := by decide +kernel
theorem dX6_sponsors_23 : decode cX6_sponsors 23 = .ok (.dup, 1) := by decide +kernel
theorem dX6_sponsors_24 : decode cX6_sponsors 24 = .ok (.ldc 205, 2) := by decide +kernel
theorem dX6_sponsors_26 : decode cX6_sponsors 26 = .ok (.invokespecial 59, 3) := by decide +kernel
theorem dX6_sponsors_29 : decode cX6_sponsors 29 = .ok (.athrow, 1) := by decide +kernel
theorem dX6_sponsors_30 : decode cX6_sponsors 30 = .ok (.iload_n 3, 1) := by decide +kernel
theorem dX6_sponsors_31 : decode cX6_sponsors 31 = .ok (.ifCond .ne 13, 3) := by decide +kernel
theorem dX6_sponsors_34 : decode cX6_sponsors 34 = .ok (.aload_n 0, 1) := by decide +kernel
theorem dX6_sponsors_35 : decode cX6_sponsors 35 = .ok (.getfield 10, 3) := by decide +kernel
theorem dX6_sponsors_38 : decode cX6_sponsors 38 = .ok (.iload_n 1, 1) := by decide +kernel
theorem dX6_sponsors_39 : decode cX6_sponsors 39 = .ok (.iload_n 2, 1) := by decide +kernel
theorem dX6_sponsors_40 : decode cX6_sponsors 40 = .ok (.invokevirtual 207, 3) := by decide +kernel
theorem dX6_sponsors_43 : decode cX6_sponsors 43 = .ok (.ireturn, 1) := by decide +kernel
theorem dX6_sponsors_44 : decode cX6_sponsors 44 = .ok (.aload_n 0, 1) := by decide +kernel
theorem dX6_sponsors_45 : decode cX6_sponsors 45 = .ok (.getfield 40, 3) := by decide +kernel
theorem dX6_sponsors_48 : decode cX6_sponsors 48 = .ok (.aload_n 0, 1) := by decide +kernel
theorem dX6_sponsors_49 : decode cX6_sponsors 49 = .ok (.getfield 10, 3) := by decide +kernel
theorem dX6_sponsors_52 : decode cX6_sponsors 52 = .ok (.invokevirtual 140, 3) := by decide +kernel
theorem dX6_sponsors_55 : decode cX6_sponsors 55 = .ok (.aload_n 0, 1) := by decide +kernel
theorem dX6_sponsors_56 : decode cX6_sponsors 56 = .ok (.getfield 40, 3) := by decide +kernel
theorem dX6_sponsors_59 : decode cX6_sponsors 59 = .ok (.aload_n 0, 1) := by decide +kernel
theorem dX6_sponsors_60 : decode cX6_sponsors 60 = .ok (.getfield 10, 3) := by decide +kernel
theorem dX6_sponsors_63 : decode cX6_sponsors 63 = .ok (.iload_n 1, 1) := by decide +kernel
theorem dX6_sponsors_64 : decode cX6_sponsors 64 = .ok (.iload_n 2, 1) := by decide +kernel
theorem dX6_sponsors_65 : decode cX6_sponsors 65 = .ok (.invokevirtual 210, 3) := by decide +kernel
theorem dX6_sponsors_68 : decode cX6_sponsors 68 = .ok (.ireturn, 1) := by decide +kernel
theorem dX6_day_0 : decode cX6_day 0 = .ok (.iload_n 1, 1) := by decide +kernel
theorem dX6_day_1 : decode cX6_day 1 = .ok (.iconst 0, 1) := by decide +kernel
theorem dX6_day_2 : decode cX6_day 2 = .ok (.bipush 6, 2) := by decide +kernel
theorem dX6_day_4 : decode cX6_day 4 = .ok (.invokestatic 51, 3) := by decide +kernel
theorem dX6_day_7 : decode cX6_day 7 = .ok (.ifCond .ne 13, 3) := by decide +kernel
theorem dX6_day_10 : decode cX6_day 10 = .ok (.new 55, 3) := by decide +kernel
theorem dX6_day_13 : decode cX6_day 13 = .ok (.dup, 1) := by decide +kernel
theorem dX6_day_14 : decode cX6_day 14 = .ok (.ldc 214, 2) := by decide +kernel
theorem dX6_day_16 : decode cX6_day 16 = .ok (.invokespecial 59, 3) := by decide +kernel
theorem dX6_day_19 : decode cX6_day 19 = .ok (.athrow, 1) := by decide +kernel
theorem dX6_day_20 : decode cX6_day 20 = .ok (.iload_n 2, 1) := by decide +kernel
theorem dX6_day_21 : decode cX6_day 21 = .ok (.iconst 0, 1) := by decide +kernel
theorem dX6_day_22 : decode cX6_day 22 = .ok (.bipush 7, 2) := by decide +kernel
theorem dX6_day_24 : decode cX6_day 24 = .ok (.invokestatic 51, 3) := by decide +kernel
theorem dX6_day_27 : decode cX6_day 27 = .ok (.ifCond .ne 13, 3) := by decide +kernel
theorem dX6_day_30 : decode cX6_day 30 = .ok (.new 69, 3) := by decide +kernel
theorem dX6_day_33 : decode cX6_day 33 = .ok (.dup, 1) := by decide +kernel
theorem dX6_day_34 : decode cX6_day 34 = .ok (.ldc 216, 2) := by decide +kernel
theorem dX6_day_36 : decode cX6_day 36 = .ok (.invokespecial 73, 3) := by decide +kernel
theorem dX6_day_39 : decode cX6_day 39 = .ok (.athrow, 1) := by decide +kernel
theorem dX6_day_40 : decode cX6_day 40 = .ok (.aload_n 0, 1) := by decide +kernel
theorem dX6_day_41 : decode cX6_day 41 = .ok (.getfield 40, 3) := by decide +kernel
theorem dX6_day_44 : decode cX6_day 44 = .ok (.aload_n 0, 1) := by decide +kernel
theorem dX6_day_45 : decode cX6_day 45 = .ok (.getfield 10, 3) := by decide +kernel
theorem dX6_day_48 : decode cX6_day 48 = .ok (.invokevirtual 140, 3) := by decide +kernel
theorem dX6_day_51 : decode cX6_day 51 = .ok (.aload_n 0, 1) := by decide +kernel
theorem dX6_day_52 : decode cX6_day 52 = .ok (.getfield 40, 3) := by decide +kernel
theorem dX6_day_55 : decode cX6_day 55 = .ok (.aload_n 0, 1) := by decide +kernel
theorem dX6_day_56 : decode cX6_day 56 = .ok (.getfield 10, 3) := by decide +kernel
theorem dX6_day_59 : decode cX6_day 59 = .ok (.iload_n 1, 1) := by decide +kernel
theorem dX6_day_60 : decode cX6_day 60 = .ok (.iload_n 2, 1) := by decide +kernel
theorem dX6_day_61 : decode cX6_day 61 = .ok (.invokevirtual 218, 3) := by decide +kernel
theorem dX6_day_64 : decode cX6_day 64 = .ok (.ireturn, 1) := by decide +kernel
theorem dX6_count_0 : decode cX6_count 0 = .ok (.iload_n 1, 1) := by decide +kernel
theorem dX6_count_1 : decode cX6_count 1 = .ok (.iconst 0, 1) := by decide +kernel
theorem dX6_count_2 : decode cX6_count 2 = .ok (.bipush 7, 2) := by decide +kernel
theorem dX6_count_4 : decode cX6_count 4 = .ok (.invokestatic 51, 3) := by decide +kernel
theorem dX6_count_7 : decode cX6_count 7 = .ok (.ifCond .ne 13, 3) := by decide +kernel
theorem dX6_count_10 : decode cX6_count 10 = .ok (.new 69, 3) := by decide +kernel
theorem dX6_count_13 : decode cX6_count 13 = .ok (.dup, 1) := by decide +kernel
theorem dX6_count_14 : decode cX6_count 14 = .ok (.ldc 216, 2) := by decide +kernel
theorem dX6_count_16 : decode cX6_count 16 = .ok (.invokespecial 73, 3) := by decide +kernel
theorem dX6_count_19 : decode cX6_count 19 = .ok (.athrow, 1) := by decide +kernel
theorem dX6_count_20 : decode cX6_count 20 = .ok (.aload_n 0, 1) := by decide +kernel
theorem dX6_count_21 : decode cX6_count 21 = .ok (.getfield 40, 3) := by decide +kernel
theorem dX6_count_24 : decode cX6_count 24 = .ok (.aload_n 0, 1) := by decide +kernel
theorem dX6_count_25 : decode cX6_count 25 = .ok (.getfield 10, 3) := by decide +kernel
theorem dX6_count_28 : decode cX6_count 28 = .ok (.invokevirtual 140, 3) := by decide +kernel
theorem dX6_count_31 : decode cX6_count 31 = .ok (.aload_n 0, 1) := by decide +kernel
theorem dX6_count_32 : decode cX6_count 32 = .ok (.iload_n 1, 1) := by decide +kernel
theorem dX6_count_33 : decode cX6_count 33 = .ok (.invokevirtual 221, 3) := by decide +kernel
theorem dX6_count_36 : decode cX6_count 36 = .ok (.ireturn, 1) := by decide +kernel
theorem dX6_setting_0 : decode cX6_setting 0 = .ok (.iload_n 1, 1) := by decide +kernel
theorem dX6_setting_1 : decode cX6_setting 1 = .ok (.iconst 0, 1) := by decide +kernel
theorem dX6_setting_2 : decode cX6_setting 2 = .ok (.bipush 7, 2) := by decide +kernel
theorem dX6_setting_4 : decode cX6_setting 4 = .ok (.invokestatic 51, 3) := by decide +kernel
theorem dX6_setting_7 : decode cX6_setting 7 = .ok (.ifCond .ne 13, 3) := by decide +kernel
theorem dX6_setting_10 : decode cX6_setting 10 = .ok (.new 55, 3) := by decide +kernel
theorem dX6_setting_13 : decode cX6_setting 13 = .ok (.dup, 1) := by decide +kernel
theorem dX6_setting_14 : decode cX6_setting 14 = .ok (.ldc 57, 2) := by decide +kernel
theorem dX6_setting_16 : decode cX6_setting 16 = .ok (.invokespecial 59, 3) := by decide +kernel
theorem dX6_setting_19 : decode cX6_setting 19 = .ok (.athrow, 1) := by decide +kernel
theorem dX6_setting_20 : decode cX6_setting 20 = .ok (.aload_n 0, 1) := by decide +kernel
theorem dX6_setting_21 : decode cX6_setting 21 = .ok (.getfield 10, 3) := by decide +kernel
theorem dX6_setting_24 : decode cX6_setting 24 = .ok (.getfield 78, 3) := by decide +kernel
theorem dX6_setting_27 : decode cX6_setting 27 = .ok (.iload_n 1, 1) := by decide +kernel
theorem dX6_setting_28 : decode cX6_setting 28 = .ok (.iaload, 1) := by decide +kernel
theorem dX6_setting_29 : decode cX6_setting 29 = .ok (.ireturn, 1) := by decide +kernel
theorem dX6_why_0 : decode cX6_why 0 = .ok (.aload_n 0, 1) := by decide +kernel
theorem dX6_why_1 : decode cX6_why 1 = .ok (.getfield 33, 3) := by decide +kernel
theorem dX6_why_4 : decode cX6_why 4 = .ok (.iconst 1, 1) := by decide +kernel
theorem dX6_why_5 : decode cX6_why 5 = .ok (.iload_n 1, 1) := by decide +kernel
theorem dX6_why_6 : decode cX6_why 6 = .ok (.iload_n 2, 1) := by decide +kernel
theorem dX6_why_7 : decode cX6_why 7 = .ok (.iload_n 3, 1) := by decide +kernel
theorem dX6_why_8 : decode cX6_why 8 = .ok (.iload 4, 2) := by decide +kernel
theorem dX6_why_10 : decode cX6_why 10 = .ok (.iconst 0, 1) := by decide +kernel
theorem dX6_why_11 : decode cX6_why 11 = .ok (.invokevirtual 88, 3) := by decide +kernel
theorem dX6_why_14 : decode cX6_why 14 = .ok (.aload_n 0, 1) := by decide +kernel
theorem dX6_why_15 : decode cX6_why 15 = .ok (.getfield 33, 3) := by decide +kernel
theorem dX6_why_18 : decode cX6_why 18 = .ok (.invokevirtual 92, 3) := by decide +kernel
theorem dX6_why_21 : decode cX6_why 21 = .ok (.ifCond .ne 13, 3) := by decide +kernel
theorem dX6_why_24 : decode cX6_why 24 = .ok (.new 69, 3) := by decide +kernel
theorem dX6_why_27 : decode cX6_why 27 = .ok (.dup, 1) := by decide +kernel
theorem dX6_why_28 : decode cX6_why 28 = .ok (.ldc 96, 2) := by decide +kernel
theorem dX6_why_30 : decode cX6_why 30 = .ok (.invokespecial 73, 3) := by decide +kernel
theorem dX6_why_33 : decode cX6_why 33 = .ok (.athrow, 1) := by decide +kernel
theorem dX6_why_34 : decode cX6_why 34 = .ok (.aload_n 0, 1) := by decide +kernel
theorem dX6_why_35 : decode cX6_why 35 = .ok (.getfield 10, 3) := by decide +kernel
theorem dX6_why_38 : decode cX6_why 38 = .ok (.aload_n 0, 1) := by decide +kernel
theorem dX6_why_39 : decode cX6_why 39 = .ok (.getfield 33, 3) := by decide +kernel
theorem dX6_why_42 : decode cX6_why 42 = .ok (.invokevirtual 224, 3) := by decide +kernel
theorem dX6_why_45 : decode cX6_why 45 = .ok (.ireturn, 1) := by decide +kernel
theorem dX6_firstTime_0 : decode cX6_firstTime 0 = .ok (.aload_n 0, 1) := by decide +kernel
theorem dX6_firstTime_1 : decode cX6_firstTime 1 = .ok (.getfield 33, 3) := by decide +kernel
theorem dX6_firstTime_4 : decode cX6_firstTime 4 = .ok (.iconst 1, 1) := by decide +kernel
theorem dX6_firstTime_5 : decode cX6_firstTime 5 = .ok (.iload_n 1, 1) := by decide +kernel
theorem dX6_firstTime_6 : decode cX6_firstTime 6 = .ok (.iload_n 2, 1) := by decide +kernel
theorem dX6_firstTime_7 : decode cX6_firstTime 7 = .ok (.iconst 0, 1) := by decide +kernel
theorem dX6_firstTime_8 : decode cX6_firstTime 8 = .ok (.iload_n 3, 1) := by decide +kernel
theorem dX6_firstTime_9 : decode cX6_firstTime 9 = .ok (.iconst 0, 1) := by decide +kernel
theorem dX6_firstTime_10 : decode cX6_firstTime 10 = .ok (.invokevirtual 88, 3) := by decide +kernel
theorem dX6_firstTime_13 : decode cX6_firstTime 13 = .ok (.aload_n 0, 1) := by decide +kernel
theorem dX6_firstTime_14 : decode cX6_firstTime 14 = .ok (.getfield 33, 3) := by decide +kernel
theorem dX6_firstTime_17 : decode cX6_firstTime 17 = .ok (.invokevirtual 92, 3) := by decide +kernel
theorem dX6_firstTime_20 : decode cX6_firstTime 20 = .ok (.ifCond .ne 13, 3) := by decide +kernel
theorem dX6_firstTime_23 : decode cX6_firstTime 23 = .ok (.new 69, 3) := by decide +kernel
theorem dX6_firstTime_26 : decode cX6_firstTime 26 = .ok (.dup, 1) := by decide +kernel
theorem dX6_firstTime_27 : decode cX6_firstTime 27 = .ok (.ldc 96, 2) := by decide +kernel
theorem dX6_firstTime_29 : decode cX6_firstTime 29 = .ok (.invokespecial 73, 3) := by decide +kernel
theorem dX6_firstTime_32 : decode cX6_firstTime 32 = .ok (.athrow, 1) := by decide +kernel
theorem dX6_firstTime_33 : decode cX6_firstTime 33 = .ok (.aload_n 0, 1) := by decide +kernel
theorem dX6_firstTime_34 : decode cX6_firstTime 34 = .ok (.getfield 10, 3) := by decide +kernel
theorem dX6_firstTime_37 : decode cX6_firstTime 37 = .ok (.iload_n 1, 1) := by decide +kernel
theorem dX6_firstTime_38 : decode cX6_firstTime 38 = .ok (.iload_n 2, 1) := by decide +kernel
theorem dX6_firstTime_39 : decode cX6_firstTime 39 = .ok (.iload_n 3, 1) := by decide +kernel
theorem dX6_firstTime_40 : decode cX6_firstTime 40 = .ok (.invokevirtual 227, 3) := by decide +kernel
theorem dX6_firstTime_43 : decode cX6_firstTime 43 = .ok (.ireturn, 1) := by decide +kernel
theorem dX6_firstRepeat_0 : decode cX6_firstRepeat 0 = .ok (.aload_n 0, 1) := by decide +kernel
theorem dX6_firstRepeat_1 : decode cX6_firstRepeat 1 = .ok (.getfield 10, 3) := by decide +kernel
theorem dX6_firstRepeat_4 : decode cX6_firstRepeat 4 = .ok (.iload_n 1, 1) := by decide +kernel
theorem dX6_firstRepeat_5 : decode cX6_firstRepeat 5 = .ok (.invokevirtual 114, 3) := by decide +kernel
theorem dX6_firstRepeat_8 : decode cX6_firstRepeat 8 = .ok (.ifCond .ne 13, 3) := by decide +kernel
theorem dX6_firstRepeat_11 : decode cX6_firstRepeat 11 = .ok (.new 55, 3) := by decide +kernel
theorem dX6_firstRepeat_14 : decode cX6_firstRepeat 14 = .ok (.dup, 1) := by decide +kernel
theorem dX6_firstRepeat_15 : decode cX6_firstRepeat 15 = .ok (.ldc 110, 2) := by decide +kernel
theorem dX6_firstRepeat_17 : decode cX6_firstRepeat 17 = .ok (.invokespecial 59, 3) := by decide +kernel
theorem dX6_firstRepeat_20 : decode cX6_firstRepeat 20 = .ok (.athrow, 1) := by decide +kernel
theorem dX6_firstRepeat_21 : decode cX6_firstRepeat 21 = .ok (.aload_n 0, 1) := by decide +kernel
theorem dX6_firstRepeat_22 : decode cX6_firstRepeat 22 = .ok (.getfield 10, 3) := by decide +kernel
theorem dX6_firstRepeat_25 : decode cX6_firstRepeat 25 = .ok (.iload_n 1, 1) := by decide +kernel
theorem dX6_firstRepeat_26 : decode cX6_firstRepeat 26 = .ok (.invokevirtual 231, 3) := by decide +kernel
theorem dX6_firstRepeat_29 : decode cX6_firstRepeat 29 = .ok (.ireturn, 1) := by decide +kernel
theorem dX6_ifOverrun_0 : decode cX6_ifOverrun 0 = .ok (.aload_n 0, 1) := by decide +kernel
theorem dX6_ifOverrun_1 : decode cX6_ifOverrun 1 = .ok (.getfield 10, 3) := by decide +kernel
theorem dX6_ifOverrun_4 : decode cX6_ifOverrun 4 = .ok (.iload_n 1, 1) := by decide +kernel
theorem dX6_ifOverrun_5 : decode cX6_ifOverrun 5 = .ok (.invokevirtual 114, 3) := by decide +kernel
theorem dX6_ifOverrun_8 : decode cX6_ifOverrun 8 = .ok (.ifCond .ne 13, 3) := by decide +kernel
theorem dX6_ifOverrun_11 : decode cX6_ifOverrun 11 = .ok (.new 55, 3) := by decide +kernel
theorem dX6_ifOverrun_14 : decode cX6_ifOverrun 14 = .ok (.dup, 1) := by decide +kernel
theorem dX6_ifOverrun_15 : decode cX6_ifOverrun 15 = .ok (.ldc 110, 2) := by decide +kernel
theorem dX6_ifOverrun_17 : decode cX6_ifOverrun 17 = .ok (.invokespecial 59, 3) := by decide +kernel
theorem dX6_ifOverrun_20 : decode cX6_ifOverrun 20 = .ok (.athrow, 1) := by decide +kernel
theorem dX6_ifOverrun_21 : decode cX6_ifOverrun 21 = .ok (.iload_n 2, 1) := by decide +kernel
theorem dX6_ifOverrun_22 : decode cX6_ifOverrun 22 = .ok (.bipush (-60), 2) := by decide +kernel
theorem dX6_ifOverrun_24 : decode cX6_ifOverrun 24 = .ok (.bipush 120, 2) := by decide +kernel
theorem dX6_ifOverrun_26 : decode cX6_ifOverrun 26 = .ok (.invokestatic 51, 3) := by decide +kernel
theorem dX6_ifOverrun_29 : decode cX6_ifOverrun 29 = .ok (.ifCond .eq 13, 3) := by decide +kernel
theorem dX6_ifOverrun_32 : decode cX6_ifOverrun 32 = .ok (.iload_n 3, 1) := by decide +kernel
theorem dX6_ifOverrun_33 : decode cX6_ifOverrun 33 = .ok (.iconst 0, 1) := by decide +kernel
theorem dX6_ifOverrun_34 : decode cX6_ifOverrun 34 = .ok (.bipush 7, 2) := by decide +kernel
theorem dX6_ifOverrun_36 : decode cX6_ifOverrun 36 = .ok (.invokestatic 51, 3) := by decide +kernel
theorem dX6_ifOverrun_39 : decode cX6_ifOverrun 39 = .ok (.ifCond .ne 13, 3) := by decide +kernel
theorem dX6_ifOverrun_42 : decode cX6_ifOverrun 42 = .ok (.new 69, 3) := by decide +kernel
theorem dX6_ifOverrun_45 : decode cX6_ifOverrun 45 = .ok (.dup, 1) := by decide +kernel
theorem dX6_ifOverrun_46 : decode cX6_ifOverrun 46 = .ok (.ldc 234, 2) := by decide +kernel
theorem dX6_ifOverrun_48 : decode cX6_ifOverrun 48 = .ok (.invokespecial 73, 3) := by decide +kernel
theorem dX6_ifOverrun_51 : decode cX6_ifOverrun 51 = .ok (.athrow, 1) := by decide +kernel
theorem dX6_ifOverrun_52 : decode cX6_ifOverrun 52 = .ok (.aload_n 0, 1) := by decide +kernel
theorem dX6_ifOverrun_53 : decode cX6_ifOverrun 53 = .ok (.getfield 10, 3) := by decide +kernel
theorem dX6_ifOverrun_56 : decode cX6_ifOverrun 56 = .ok (.getfield 124, 3) := by decide +kernel
theorem dX6_ifOverrun_59 : decode cX6_ifOverrun 59 = .ok (.iload_n 1, 1) := by decide +kernel
theorem dX6_ifOverrun_60 : decode cX6_ifOverrun 60 = .ok (.iaload, 1) := by decide +kernel
theorem dX6_ifOverrun_61 : decode cX6_ifOverrun 61 = .ok (.ifCond .eq 13, 3) := by decide +kernel
theorem dX6_ifOverrun_64 : decode cX6_ifOverrun 64 = .ok (.new 127, 3) := by decide +kernel
theorem dX6_ifOverrun_67 : decode cX6_ifOverrun 67 = .ok (.dup, 1) := by decide +kernel
theorem dX6_ifOverrun_68 : decode cX6_ifOverrun 68 = .ok (.ldc 129, 2) := by decide +kernel
theorem dX6_ifOverrun_70 : decode cX6_ifOverrun 70 = .ok (.invokespecial 131, 3) := by decide +kernel
theorem dX6_ifOverrun_73 : decode cX6_ifOverrun 73 = .ok (.athrow, 1) := by decide +kernel
theorem dX6_ifOverrun_74 : decode cX6_ifOverrun 74 = .ok (.aload_n 0, 1) := by decide +kernel
theorem dX6_ifOverrun_75 : decode cX6_ifOverrun 75 = .ok (.getfield 44, 3) := by decide +kernel
theorem dX6_ifOverrun_78 : decode cX6_ifOverrun 78 = .ok (.aload_n 0, 1) := by decide +kernel
theorem dX6_ifOverrun_79 : decode cX6_ifOverrun 79 = .ok (.getfield 10, 3) := by decide +kernel
theorem dX6_ifOverrun_82 : decode cX6_ifOverrun 82 = .ok (.iload_n 1, 1) := by decide +kernel
theorem dX6_ifOverrun_83 : decode cX6_ifOverrun 83 = .ok (.iload_n 2, 1) := by decide +kernel
theorem dX6_ifOverrun_84 : decode cX6_ifOverrun 84 = .ok (.invokevirtual 236, 3) := by decide +kernel
theorem dX6_ifOverrun_87 : decode cX6_ifOverrun 87 = .ok (.aload_n 0, 1) := by decide +kernel
theorem dX6_ifOverrun_88 : decode cX6_ifOverrun 88 = .ok (.getfield 44, 3) := by decide +kernel
theorem dX6_ifOverrun_91 : decode cX6_ifOverrun 91 = .ok (.aload_n 0, 1) := by decide +kernel
theorem dX6_ifOverrun_92 : decode cX6_ifOverrun 92 = .ok (.getfield 10, 3) := by decide +kernel
theorem dX6_ifOverrun_95 : decode cX6_ifOverrun 95 = .ok (.aload_n 0, 1) := by decide +kernel
theorem dX6_ifOverrun_96 : decode cX6_ifOverrun 96 = .ok (.getfield 10, 3) := by decide +kernel
theorem dX6_ifOverrun_99 : decode cX6_ifOverrun 99 = .ok (.getfield 240, 3) := by decide +kernel
theorem dX6_ifOverrun_102 : decode cX6_ifOverrun 102 = .ok (.iload_n 1, 1) := by decide +kernel
theorem dX6_ifOverrun_103 : decode cX6_ifOverrun 103 = .ok (.iaload, 1) := by decide +kernel
theorem dX6_ifOverrun_104 : decode cX6_ifOverrun 104 = .ok (.iload_n 3, 1) := by decide +kernel
theorem dX6_ifOverrun_105 : decode cX6_ifOverrun 105 = .ok (.invokevirtual 218, 3) := by decide +kernel
theorem dX6_ifOverrun_108 : decode cX6_ifOverrun 108 = .ok (.ireturn, 1) := by decide +kernel
theorem dX6_greatestOverrun_0 : decode cX6_greatestOverrun 0 = .ok (.aload_n 0, 1) := by decide +kernel
theorem dX6_greatestOverrun_1 : decode cX6_greatestOverrun 1 = .ok (.getfield 10, 3) := by decide +kernel
theorem dX6_greatestOverrun_4 : decode cX6_greatestOverrun 4 = .ok (.iload_n 1, 1) := by decide +kernel
theorem dX6_greatestOverrun_5 : decode cX6_greatestOverrun 5 = .ok (.invokevirtual 114, 3) := by decide +kernel
theorem dX6_greatestOverrun_8 : decode cX6_greatestOverrun 8 = .ok (.ifCond .ne 13, 3) := by decide +kernel
theorem dX6_greatestOverrun_11 : decode cX6_greatestOverrun 11 = .ok (.new 55, 3) := by decide +kernel
theorem dX6_greatestOverrun_14 : decode cX6_greatestOverrun 14 = .ok (.dup, 1) := by decide +kernel
theorem dX6_greatestOverrun_15 : decode cX6_greatestOverrun 15 = .ok (.ldc 110, 2) := by decide +kernel
theorem dX6_greatestOverrun_17 : decode cX6_greatestOverrun 17 = .ok (.invokespecial 59, 3) := by decide +kernel
theorem dX6_greatestOverrun_20 : decode cX6_greatestOverrun 20 = .ok (.athrow, 1) := by decide +kernel
theorem dX6_greatestOverrun_21 : decode cX6_greatestOverrun 21 = .ok (.aload_n 0, 1) := by decide +kernel
theorem dX6_greatestOverrun_22 : decode cX6_greatestOverrun 22 = .ok (.getfield 10, 3) := by decide +kernel
theorem dX6_greatestOverrun_25 : decode cX6_greatestOverrun 25 = .ok (.getfield 124, 3) := by decide +kernel
theorem dX6_greatestOverrun_28 : decode cX6_greatestOverrun 28 = .ok (.iload_n 1, 1) := by decide +kernel
theorem dX6_greatestOverrun_29 : decode cX6_greatestOverrun 29 = .ok (.iaload, 1) := by decide +kernel
theorem dX6_greatestOverrun_30 : decode cX6_greatestOverrun 30 = .ok (.ifCond .eq 13, 3) := by decide +kernel
theorem dX6_greatestOverrun_33 : decode cX6_greatestOverrun 33 = .ok (.new 127, 3) := by decide +kernel
theorem dX6_greatestOverrun_36 : decode cX6_greatestOverrun 36 = .ok (.dup, 1) := by decide +kernel
theorem dX6_greatestOverrun_37 : decode cX6_greatestOverrun 37 = .ok (.ldc 129, 2) := by decide +kernel
theorem dX6_greatestOverrun_39 : decode cX6_greatestOverrun 39 = .ok (.invokespecial 131, 3) := by decide +kernel
theorem dX6_greatestOverrun_42 : decode cX6_greatestOverrun 42 = .ok (.athrow, 1) := by decide +kernel
theorem dX6_greatestOverrun_43 : decode cX6_greatestOverrun 43 = .ok (.aload_n 0, 1) := by decide +kernel
theorem dX6_greatestOverrun_44 : decode cX6_greatestOverrun 44 = .ok (.iload_n 1, 1) := by decide +kernel
theorem dX6_greatestOverrun_45 : decode cX6_greatestOverrun 45 = .ok (.invokevirtual 243, 3) := by decide +kernel
theorem dX6_greatestOverrun_48 : decode cX6_greatestOverrun 48 = .ok (.ireturn, 1) := by decide +kernel
theorem dX6_share_0 : decode cX6_share 0 = .ok (.aload_n 0, 1) := by decide +kernel
theorem dX6_share_1 : decode cX6_share 1 = .ok (.getfield 40, 3) := by decide +kernel
theorem dX6_share_4 : decode cX6_share 4 = .ok (.aload_n 0, 1) := by decide +kernel
theorem dX6_share_5 : decode cX6_share 5 = .ok (.getfield 10, 3) := by decide +kernel
theorem dX6_share_8 : decode cX6_share 8 = .ok (.invokevirtual 140, 3) := by decide +kernel
theorem dX6_share_11 : decode cX6_share 11 = .ok (.aload_n 0, 1) := by decide +kernel
theorem dX6_share_12 : decode cX6_share 12 = .ok (.invokevirtual 246, 3) := by decide +kernel
theorem dX6_share_15 : decode cX6_share 15 = .ok (.dreturn, 1) := by decide +kernel
theorem dX6_digest_0 : decode cX6_digest 0 = .ok (.aload_n 0, 1) := by decide +kernel
theorem dX6_digest_1 : decode cX6_digest 1 = .ok (.getfield 40, 3) := by decide +kernel
theorem dX6_digest_4 : decode cX6_digest 4 = .ok (.aload_n 0, 1) := by decide +kernel
theorem dX6_digest_5 : decode cX6_digest 5 = .ok (.getfield 10, 3) := by decide +kernel
theorem dX6_digest_8 : decode cX6_digest 8 = .ok (.invokevirtual 140, 3) := by decide +kernel
theorem dX6_digest_11 : decode cX6_digest 11 = .ok (.new 250, 3) := by decide +kernel
theorem dX6_digest_14 : decode cX6_digest 14 = .ok (.dup, 1) := by decide +kernel
theorem dX6_digest_15 : decode cX6_digest 15 = .ok (.invokespecial 252, 3) := by decide +kernel
theorem dX6_digest_18 : decode cX6_digest 18 = .ok (.astore_n 1, 1) := by decide +kernel
theorem dX6_digest_19 : decode cX6_digest 19 = .ok (.iconst 0, 1) := by decide +kernel
theorem dX6_digest_20 : decode cX6_digest 20 = .ok (.istore_n 2, 1) := by decide +kernel
theorem dX6_digest_21 : decode cX6_digest 21 = .ok (.iload_n 2, 1) := by decide +kernel
theorem dX6_digest_22 : decode cX6_digest 22 = .ok (.bipush 7, 2) := by decide +kernel
theorem dX6_digest_24 : decode cX6_digest 24 = .ok (.if_icmp .gt 19, 3) := by decide +kernel
theorem dX6_digest_27 : decode cX6_digest 27 = .ok (.aload_n 1, 1) := by decide +kernel
theorem dX6_digest_28 : decode cX6_digest 28 = .ok (.aload_n 0, 1) := by decide +kernel
theorem dX6_digest_29 : decode cX6_digest 29 = .ok (.iload_n 2, 1) := by decide +kernel
theorem dX6_digest_30 : decode cX6_digest 30 = .ok (.invokevirtual 221, 3) := by decide +kernel
theorem dX6_digest_33 : decode cX6_digest 33 = .ok (.i2l, 1) := by decide +kernel
theorem dX6_digest_34 : decode cX6_digest 34 = .ok (.invokevirtual 253, 3) := by decide +kernel
theorem dX6_digest_37 : decode cX6_digest 37 = .ok (.iinc 2 1, 3) := by decide +kernel
theorem dX6_digest_40 : decode cX6_digest 40 = .ok (.goto (-19), 3) := by decide +kernel
theorem dX6_digest_43 : decode cX6_digest 43 = .ok (.iconst 0, 1) := by decide +kernel
theorem dX6_digest_44 : decode cX6_digest 44 = .ok (.istore_n 2, 1) := by decide +kernel
theorem dX6_digest_45 : decode cX6_digest 45 = .ok (.iload_n 2, 1) := by decide +kernel
theorem dX6_digest_46 : decode cX6_digest 46 = .ok (.bipush 8, 2) := by decide +kernel
theorem dX6_digest_48 : decode cX6_digest 48 = .ok (.if_icmp .ge 23, 3) := by decide +kernel
theorem dX6_digest_51 : decode cX6_digest 51 = .ok (.aload_n 1, 1) := by decide +kernel
theorem dX6_digest_52 : decode cX6_digest 52 = .ok (.aload_n 0, 1) := by decide +kernel
theorem dX6_digest_53 : decode cX6_digest 53 = .ok (.getfield 10, 3) := by decide +kernel
theorem dX6_digest_56 : decode cX6_digest 56 = .ok (.getfield 78, 3) := by decide +kernel
theorem dX6_digest_59 : decode cX6_digest 59 = .ok (.iload_n 2, 1) := by decide +kernel
theorem dX6_digest_60 : decode cX6_digest 60 = .ok (.iaload, 1) := by decide +kernel
theorem dX6_digest_61 : decode cX6_digest 61 = .ok (.i2l, 1) := by decide +kernel
theorem dX6_digest_62 : decode cX6_digest 62 = .ok (.invokevirtual 253, 3) := by decide +kernel
theorem dX6_digest_65 : decode cX6_digest 65 = .ok (.iinc 2 1, 3) := by decide +kernel
theorem dX6_digest_68 : decode cX6_digest 68 = .ok (.goto (-23), 3) := by decide +kernel
theorem dX6_digest_71 : decode cX6_digest 71 = .ok (.iconst 0, 1) := by decide +kernel
theorem dX6_digest_72 : decode cX6_digest 72 = .ok (.istore_n 2, 1) := by decide +kernel
theorem dX6_digest_73 : decode cX6_digest 73 = .ok (.iload_n 2, 1) := by decide +kernel
theorem dX6_digest_74 : decode cX6_digest 74 = .ok (.bipush 6, 2) := by decide +kernel
theorem dX6_digest_76 : decode cX6_digest 76 = .ok (.if_icmp .ge 34, 3) := by decide +kernel
theorem dX6_digest_79 : decode cX6_digest 79 = .ok (.iconst 0, 1) := by decide +kernel
theorem dX6_digest_80 : decode cX6_digest 80 = .ok (.istore_n 3, 1) := by decide +kernel
theorem dX6_digest_81 : decode cX6_digest 81 = .ok (.iload_n 3, 1) := by decide +kernel
theorem dX6_digest_82 : decode cX6_digest 82 = .ok (.bipush 8, 2) := by decide +kernel
theorem dX6_digest_84 : decode cX6_digest 84 = .ok (.if_icmp .gt 20, 3) := by decide +kernel
theorem dX6_digest_87 : decode cX6_digest 87 = .ok (.aload_n 1, 1) := by decide +kernel
theorem dX6_digest_88 : decode cX6_digest 88 = .ok (.aload_n 0, 1) := by decide +kernel
theorem dX6_digest_89 : decode cX6_digest 89 = .ok (.iload_n 2, 1) := by decide +kernel
theorem dX6_digest_90 : decode cX6_digest 90 = .ok (.iload_n 3, 1) := by decide +kernel
theorem dX6_digest_91 : decode cX6_digest 91 = .ok (.invokevirtual 202, 3) := by decide +kernel
theorem dX6_digest_94 : decode cX6_digest 94 = .ok (.i2l, 1) := by decide +kernel
theorem dX6_digest_95 : decode cX6_digest 95 = .ok (.invokevirtual 253, 3) := by decide +kernel
theorem dX6_digest_98 : decode cX6_digest 98 = .ok (.iinc 3 1, 3) := by decide +kernel
theorem dX6_digest_101 : decode cX6_digest 101 = .ok (.goto (-20), 3) := by decide +kernel
theorem dX6_digest_104 : decode cX6_digest 104 = .ok (.iinc 2 1, 3) := by decide +kernel
theorem dX6_digest_107 : decode cX6_digest 107 = .ok (.goto (-34), 3) := by decide +kernel
theorem dX6_digest_110 : decode cX6_digest 110 = .ok (.iconst 0, 1) := by decide +kernel
theorem dX6_digest_111 : decode cX6_digest 111 = .ok (.istore_n 2, 1) := by decide +kernel
theorem dX6_digest_112 : decode cX6_digest 112 = .ok (.iload_n 2, 1) := by decide +kernel
theorem dX6_digest_113 : decode cX6_digest 113 = .ok (.aload_n 0, 1) := by decide +kernel
theorem dX6_digest_114 : decode cX6_digest 114 = .ok (.getfield 10, 3) := by decide +kernel
theorem dX6_digest_117 : decode cX6_digest 117 = .ok (.getfield 257, 3) := by decide +kernel
theorem dX6_digest_120 : decode cX6_digest 120 = .ok (.if_icmp .ge 15, 3) := by decide +kernel
theorem dX6_digest_123 : decode cX6_digest 123 = .ok (.aload_n 0, 1) := by decide +kernel
theorem dX6_digest_124 : decode cX6_digest 124 = .ok (.aload_n 1, 1) := by decide +kernel
theorem dX6_digest_125 : decode cX6_digest 125 = .ok (.iload_n 2, 1) := by decide +kernel
theorem dX6_digest_126 : decode cX6_digest 126 = .ok (.invokevirtual 258, 3) := by decide +kernel
theorem dX6_digest_129 : decode cX6_digest 129 = .ok (.iinc 2 1, 3) := by decide +kernel
theorem dX6_digest_132 : decode cX6_digest 132 = .ok (.goto (-20), 3) := by decide +kernel
theorem dX6_digest_135 : decode cX6_digest 135 = .ok (.iconst 0, 1) := by decide +kernel
theorem dX6_digest_136 : decode cX6_digest 136 = .ok (.istore_n 2, 1) := by decide +kernel
theorem dX6_digest_137 : decode cX6_digest 137 = .ok (.iload_n 2, 1) := by decide +kernel
theorem dX6_digest_138 : decode cX6_digest 138 = .ok (.bipush 7, 2) := by decide +kernel
theorem dX6_digest_140 : decode cX6_digest 140 = .ok (.if_icmp .ge 15, 3) := by decide +kernel
theorem dX6_digest_143 : decode cX6_digest 143 = .ok (.aload_n 0, 1) := by decide +kernel
theorem dX6_digest_144 : decode cX6_digest 144 = .ok (.aload_n 1, 1) := by decide +kernel
theorem dX6_digest_145 : decode cX6_digest 145 = .ok (.iload_n 2, 1) := by decide +kernel
theorem dX6_digest_146 : decode cX6_digest 146 = .ok (.invokevirtual 262, 3) := by decide +kernel
theorem dX6_digest_149 : decode cX6_digest 149 = .ok (.iinc 2 1, 3) := by decide +kernel
theorem dX6_digest_152 : decode cX6_digest 152 = .ok (.goto (-15), 3) := by decide +kernel
theorem dX6_digest_155 : decode cX6_digest 155 = .ok (.iconst 0, 1) := by decide +kernel
theorem dX6_digest_156 : decode cX6_digest 156 = .ok (.istore_n 2, 1) := by decide +kernel
theorem dX6_digest_157 : decode cX6_digest 157 = .ok (.iload_n 2, 1) := by decide +kernel
theorem dX6_digest_158 : decode cX6_digest 158 = .ok (.bipush 6, 2) := by decide +kernel
theorem dX6_digest_160 : decode cX6_digest 160 = .ok (.if_icmp .ge 25, 3) := by decide +kernel
theorem dX6_digest_163 : decode cX6_digest 163 = .ok (.aload_n 1, 1) := by decide +kernel
theorem dX6_digest_164 : decode cX6_digest 164 = .ok (.aload_n 0, 1) := by decide +kernel
theorem dX6_digest_165 : decode cX6_digest 165 = .ok (.getfield 10, 3) := by decide +kernel
theorem dX6_digest_168 : decode cX6_digest 168 = .ok (.iload_n 2, 1) := by decide +kernel
theorem dX6_digest_169 : decode cX6_digest 169 = .ok (.iconst 3, 1) := by decide +kernel
theorem dX6_digest_170 : decode cX6_digest 170 = .ok (.bipush 30, 2) := by decide +kernel
theorem dX6_digest_172 : decode cX6_digest 172 = .ok (.invokevirtual 227, 3) := by decide +kernel
theorem dX6_digest_175 : decode cX6_digest 175 = .ok (.i2l, 1) := by decide +kernel
theorem dX6_digest_176 : decode cX6_digest 176 = .ok (.invokevirtual 253, 3) := by decide +kernel
theorem dX6_digest_179 : decode cX6_digest 179 = .ok (.iinc 2 1, 3) := by decide +kernel
theorem dX6_digest_182 : decode cX6_digest 182 = .ok (.goto (-25), 3) := by decide +kernel
theorem dX6_digest_185 : decode cX6_digest 185 = .ok (.aload_n 1, 1) := by decide +kernel
theorem dX6_digest_186 : decode cX6_digest 186 = .ok (.aload_n 0, 1) := by decide +kernel
theorem dX6_digest_187 : decode cX6_digest 187 = .ok (.invokevirtual 246, 3) := by decide +kernel
theorem dX6_digest_190 : decode cX6_digest 190 = .ok (.invokestatic 265, 3) := by decide +kernel
theorem dX6_digest_193 : decode cX6_digest 193 = .ok (.invokevirtual 253, 3) := by decide +kernel
theorem dX6_digest_196 : decode cX6_digest 196 = .ok (.aload_n 1, 1) := by decide +kernel
theorem dX6_digest_197 : decode cX6_digest 197 = .ok (.aload_n 0, 1) := by decide +kernel
theorem dX6_digest_198 : decode cX6_digest 198 = .ok (.getfield 47, 3) := by decide +kernel
theorem dX6_digest_201 : decode cX6_digest 201 = .ok (.i2l, 1) := by decide +kernel
theorem dX6_digest_202 : decode cX6_digest 202 = .ok (.invokevirtual 253, 3) := by decide +kernel
theorem dX6_digest_205 : decode cX6_digest 205 = .ok (.aload_n 1, 1) := by decide +kernel
theorem dX6_digest_206 : decode cX6_digest 206 = .ok (.aload_n 0, 1) := by decide +kernel
theorem dX6_digest_207 : decode cX6_digest 207 = .ok (.getfield 26, 3) := by decide +kernel
theorem dX6_digest_210 : decode cX6_digest 210 = .ok (.getfield 156, 3) := by decide +kernel
theorem dX6_digest_213 : decode cX6_digest 213 = .ok (.i2l, 1) := by decide +kernel
theorem dX6_digest_214 : decode cX6_digest 214 = .ok (.invokevirtual 253, 3) := by decide +kernel
theorem dX6_digest_217 : decode cX6_digest 217 = .ok (.iconst 0, 1) := by decide +kernel
theorem dX6_digest_218 : decode cX6_digest 218 = .ok (.istore_n 2, 1) := by decide +kernel
theorem dX6_digest_219 : decode cX6_digest 219 = .ok (.iload_n 2, 1) := by decide +kernel
theorem dX6_digest_220 : decode cX6_digest 220 = .ok (.aload_n 0, 1) := by decide +kernel
theorem dX6_digest_221 : decode cX6_digest 221 = .ok (.getfield 26, 3) := by decide +kernel
theorem dX6_digest_224 : decode cX6_digest 224 = .ok (.getfield 156, 3) := by decide +kernel
theorem dX6_digest_227 : decode cX6_digest 227 = .ok (.if_icmp .ge 23, 3) := by decide +kernel
theorem dX6_digest_230 : decode cX6_digest 230 = .ok (.aload_n 1, 1) := by decide +kernel
theorem dX6_digest_231 : decode cX6_digest 231 = .ok (.aload_n 0, 1) := by decide +kernel
theorem dX6_digest_232 : decode cX6_digest 232 = .ok (.getfield 26, 3) := by decide +kernel
theorem dX6_digest_235 : decode cX6_digest 235 = .ok (.getfield 161, 3) := by decide +kernel
theorem dX6_digest_238 : decode cX6_digest 238 = .ok (.iload_n 2, 1) := by decide +kernel
theorem dX6_digest_239 : decode cX6_digest 239 = .ok (.iaload, 1) := by decide +kernel
theorem dX6_digest_240 : decode cX6_digest 240 = .ok (.i2l, 1) := by decide +kernel
theorem dX6_digest_241 : decode cX6_digest 241 = .ok (.invokevirtual 253, 3) := by decide +kernel
theorem dX6_digest_244 : decode cX6_digest 244 = .ok (.iinc 2 1, 3) := by decide +kernel
theorem dX6_digest_247 : decode cX6_digest 247 = .ok (.goto (-28), 3) := by decide +kernel
theorem dX6_digest_250 : decode cX6_digest 250 = .ok (.aload_n 1, 1) := by decide +kernel
theorem dX6_digest_251 : decode cX6_digest 251 = .ok (.getfield 269, 3) := by decide +kernel
theorem dX6_digest_254 : decode cX6_digest 254 = .ok (.lreturn, 1) := by decide +kernel
theorem dX6_isWithin_0 : decode cX6_isWithin 0 = .ok (.iload_n 0, 1) := by decide +kernel
theorem dX6_isWithin_1 : decode cX6_isWithin 1 = .ok (.iload_n 1, 1) := by decide +kernel
theorem dX6_isWithin_2 : decode cX6_isWithin 2 = .ok (.if_icmp .lt 12, 3) := by decide +kernel
theorem dX6_isWithin_5 : decode cX6_isWithin 5 = .ok (.iload_n 0, 1) := by decide +kernel
theorem dX6_isWithin_6 : decode cX6_isWithin 6 = .ok (.iload_n 2, 1) := by decide +kernel
theorem dX6_isWithin_7 : decode cX6_isWithin 7 = .ok (.if_icmp .gt 7, 3) := by decide +kernel
theorem dX6_isWithin_10 : decode cX6_isWithin 10 = .ok (.iconst 1, 1) := by decide +kernel
theorem dX6_isWithin_11 : decode cX6_isWithin 11 = .ok (.goto 4, 3) := by decide +kernel
theorem dX6_isWithin_14 : decode cX6_isWithin 14 = .ok (.iconst 0, 1) := by decide +kernel
theorem dX6_isWithin_15 : decode cX6_isWithin 15 = .ok (.ireturn, 1) := by decide +kernel
theorem dX6_minutesInHour_0 : decode cX6_minutesInHour 0 = .ok (.iload_n 0, 1) := by decide +kernel
theorem dX6_minutesInHour_1 : decode cX6_minutesInHour 1 = .ok (.bipush 60, 2) := by decide +kernel
theorem dX6_minutesInHour_3 : decode cX6_minutesInHour 3 = .ok (.iload_n 2, 1) := by decide +kernel
theorem dX6_minutesInHour_4 : decode cX6_minutesInHour 4 = .ok (.imul, 1) := by decide +kernel
theorem dX6_minutesInHour_5 : decode cX6_minutesInHour 5 = .ok (.invokestatic 273, 3) := by decide +kernel
theorem dX6_minutesInHour_8 : decode cX6_minutesInHour 8 = .ok (.istore_n 3, 1) := by decide +kernel
theorem dX6_minutesInHour_9 : decode cX6_minutesInHour 9 = .ok (.iload_n 0, 1) := by decide +kernel
theorem dX6_minutesInHour_10 : decode cX6_minutesInHour 10 = .ok (.iload_n 1, 1) := by decide +kernel
theorem dX6_minutesInHour_11 : decode cX6_minutesInHour 11 = .ok (.iadd, 1) := by decide +kernel
theorem dX6_minutesInHour_12 : decode cX6_minutesInHour 12 = .ok (.bipush 60, 2) := by decide +kernel
theorem dX6_minutesInHour_14 : decode cX6_minutesInHour 14 = .ok (.iload_n 2, 1) := by decide +kernel
theorem dX6_minutesInHour_15 : decode cX6_minutesInHour 15 = .ok (.iconst 1, 1) := by decide +kernel
theorem dX6_minutesInHour_16 : decode cX6_minutesInHour 16 = .ok (.iadd, 1) := by decide +kernel
theorem dX6_minutesInHour_17 : decode cX6_minutesInHour 17 = .ok (.imul, 1) := by decide +kernel
theorem dX6_minutesInHour_18 : decode cX6_minutesInHour 18 = .ok (.invokestatic 278, 3) := by decide +kernel
theorem dX6_minutesInHour_21 : decode cX6_minutesInHour 21 = .ok (.istore 4, 2) := by decide +kernel
theorem dX6_minutesInHour_23 : decode cX6_minutesInHour 23 = .ok (.iconst 0, 1) := by decide +kernel
theorem dX6_minutesInHour_24 : decode cX6_minutesInHour 24 = .ok (.iload 4, 2) := by decide +kernel
theorem dX6_minutesInHour_26 : decode cX6_minutesInHour 26 = .ok (.iload_n 3, 1) := by decide +kernel
theorem dX6_minutesInHour_27 : decode cX6_minutesInHour 27 = .ok (.isub, 1) := by decide +kernel
theorem dX6_minutesInHour_28 : decode cX6_minutesInHour 28 = .ok (.invokestatic 273, 3) := by decide +kernel
theorem dX6_minutesInHour_31 : decode cX6_minutesInHour 31 = .ok (.ireturn, 1) := by decide +kernel
theorem dX6_enterProposal_0 : decode cX6_enterProposal 0 = .ok (.aload_n 0, 1) := by decide +kernel
theorem dX6_enterProposal_1 : decode cX6_enterProposal 1 = .ok (.aload_n 0, 1) := by decide +kernel
theorem dX6_enterProposal_2 : decode cX6_enterProposal 2 = .ok (.getfield 10, 3) := by decide +kernel
theorem dX6_enterProposal_5 : decode cX6_enterProposal 5 = .ok (.aload_n 0, 1) := by decide +kernel
theorem dX6_enterProposal_6 : decode cX6_enterProposal 6 = .ok (.getfield 33, 3) := by decide +kernel
theorem dX6_enterProposal_9 : decode cX6_enterProposal 9 = .ok (.invokevirtual 224, 3) := by decide +kernel
theorem dX6_enterProposal_12 : decode cX6_enterProposal 12 = .ok (.putfield 47, 3) := by decide +kernel
theorem dX6_enterProposal_15 : decode cX6_enterProposal 15 = .ok (.aload_n 0, 1) := by decide +kernel
theorem dX6_enterProposal_16 : decode cX6_enterProposal 16 = .ok (.getfield 47, 3) := by decide +kernel
theorem dX6_enterProposal_19 : decode cX6_enterProposal 19 = .ok (.ifCond .eq 14, 3) := by decide +kernel
theorem dX6_enterProposal_22 : decode cX6_enterProposal 22 = .ok (.new 127, 3) := by decide +kernel
theorem dX6_enterProposal_25 : decode cX6_enterProposal 25 = .ok (.dup, 1) := by decide +kernel
theorem dX6_enterProposal_26 : decode cX6_enterProposal 26 = .ok (.ldc_w 281, 3) := by decide +kernel
theorem dX6_enterProposal_29 : decode cX6_enterProposal 29 = .ok (.invokespecial 131, 3) := by decide +kernel
theorem dX6_enterProposal_32 : decode cX6_enterProposal 32 = .ok (.athrow, 1) := by decide +kernel
theorem dX6_enterProposal_33 : decode cX6_enterProposal 33 = .ok (.aload_n 0, 1) := by decide +kernel
theorem dX6_enterProposal_34 : decode cX6_enterProposal 34 = .ok (.getfield 19, 3) := by decide +kernel
theorem dX6_enterProposal_37 : decode cX6_enterProposal 37 = .ok (.aload_n 0, 1) := by decide +kernel
theorem dX6_enterProposal_38 : decode cX6_enterProposal 38 = .ok (.getfield 10, 3) := by decide +kernel
theorem dX6_enterProposal_41 : decode cX6_enterProposal 41 = .ok (.invokevirtual 74, 3) := by decide +kernel
theorem dX6_enterProposal_44 : decode cX6_enterProposal 44 = .ok (.aload_n 0, 1) := by decide +kernel
theorem dX6_enterProposal_45 : decode cX6_enterProposal 45 = .ok (.getfield 10, 3) := by decide +kernel
theorem dX6_enterProposal_48 : decode cX6_enterProposal 48 = .ok (.aload_n 0, 1) := by decide +kernel
theorem dX6_enterProposal_49 : decode cX6_enterProposal 49 = .ok (.getfield 33, 3) := by decide +kernel
theorem dX6_enterProposal_52 : decode cX6_enterProposal 52 = .ok (.invokevirtual 182, 3) := by decide +kernel
theorem dX6_enterProposal_55 : decode cX6_enterProposal 55 = .ok (.ireturn, 1) := by decide +kernel
theorem dX6_refusalOfReadShow_0 : decode cX6_refusalOfReadShow 0 = .ok (.aload_n 0, 1) := by decide +kernel
theorem dX6_refusalOfReadShow_1 : decode cX6_refusalOfReadShow 1 = .ok (.getfield 33, 3) := by decide +kernel
theorem dX6_refusalOfReadShow_4 : decode cX6_refusalOfReadShow 4 = .ok (.getfield 283, 3) := by decide +kernel
theorem dX6_refusalOfReadShow_7 : decode cX6_refusalOfReadShow 7 = .ok (.iconst 2, 1) := by decide +kernel
theorem dX6_refusalOfReadShow_8 : decode cX6_refusalOfReadShow 8 = .ok (.if_icmp .ne 20, 3) := by decide +kernel
theorem dX6_refusalOfReadShow_11 : decode cX6_refusalOfReadShow 11 = .ok (.aload_n 0, 1) := by decide +kernel
theorem dX6_refusalOfReadShow_12 : decode cX6_refusalOfReadShow 12 = .ok (.getfield 10, 3) := by decide +kernel
theorem dX6_refusalOfReadShow_15 : decode cX6_refusalOfReadShow 15 = .ok (.aload_n 0, 1) := by decide +kernel
theorem dX6_refusalOfReadShow_16 : decode cX6_refusalOfReadShow 16 = .ok (.getfield 33, 3) := by decide +kernel
theorem dX6_refusalOfReadShow_19 : decode cX6_refusalOfReadShow 19 = .ok (.invokevirtual 106, 3) := by decide +kernel
theorem dX6_refusalOfReadShow_22 : decode cX6_refusalOfReadShow 22 = .ok (.ifCond .ne 6, 3) := by decide +kernel
theorem dX6_refusalOfReadShow_25 : decode cX6_refusalOfReadShow 25 = .ok (.bipush 20, 2) := by decide +kernel
theorem dX6_refusalOfReadShow_27 : decode cX6_refusalOfReadShow 27 = .ok (.ireturn, 1) := by decide +kernel
theorem dX6_refusalOfReadShow_28 : decode cX6_refusalOfReadShow 28 = .ok (.aload_n 0, 1) := by decide +kernel
theorem dX6_refusalOfReadShow_29 : decode cX6_refusalOfReadShow 29 = .ok (.getfield 33, 3) := by decide +kernel
theorem dX6_refusalOfReadShow_32 : decode cX6_refusalOfReadShow 32 = .ok (.invokevirtual 92, 3) := by decide +kernel
theorem dX6_refusalOfReadShow_35 : decode cX6_refusalOfReadShow 35 = .ok (.ifCond .eq 17, 3) := by decide +kernel
theorem dX6_refusalOfReadShow_38 : decode cX6_refusalOfReadShow 38 = .ok (.aload_n 0, 1) := by decide +kernel
theorem dX6_refusalOfReadShow_39 : decode cX6_refusalOfReadShow 39 = .ok (.getfield 10, 3) := by decide +kernel
theorem dX6_refusalOfReadShow_42 : decode cX6_refusalOfReadShow 42 = .ok (.aload_n 0, 1) := by decide +kernel
theorem dX6_refusalOfReadShow_43 : decode cX6_refusalOfReadShow 43 = .ok (.getfield 33, 3) := by decide +kernel
theorem dX6_refusalOfReadShow_46 : decode cX6_refusalOfReadShow 46 = .ok (.invokevirtual 224, 3) := by decide +kernel
theorem dX6_refusalOfReadShow_49 : decode cX6_refusalOfReadShow 49 = .ok (.goto 5, 3) := by decide +kernel
theorem dX6_refusalOfReadShow_52 : decode cX6_refusalOfReadShow 52 = .ok (.bipush 20, 2) := by decide +kernel
theorem dX6_refusalOfReadShow_54 : decode cX6_refusalOfReadShow 54 = .ok (.ireturn, 1) := by decide +kernel
theorem dX6_showProperty_0 : decode cX6_showProperty 0 = .ok (.iload_n 2, 1) := by decide +kernel
theorem dX6_showProperty_1 : decode cX6_showProperty 1 = .ok (.tableswitch 169 0 10 #[59, 69, 79, 89, 99, 109, 119, 129, 139, 149, 159], 59) := by decide +kernel
theorem dX6_showProperty_60 : decode cX6_showProperty 60 = .ok (.aload_n 0, 1) := by decide +kernel
theorem dX6_showProperty_61 : decode cX6_showProperty 61 = .ok (.getfield 10, 3) := by decide +kernel
theorem dX6_showProperty_64 : decode cX6_showProperty 64 = .ok (.getfield 124, 3) := by decide +kernel
theorem dX6_showProperty_67 : decode cX6_showProperty 67 = .ok (.iload_n 1, 1) := by decide +kernel
theorem dX6_showProperty_68 : decode cX6_showProperty 68 = .ok (.iaload, 1) := by decide +kernel
theorem dX6_showProperty_69 : decode cX6_showProperty 69 = .ok (.ireturn, 1) := by decide +kernel
theorem dX6_showProperty_70 : decode cX6_showProperty 70 = .ok (.aload_n 0, 1) := by decide +kernel
theorem dX6_showProperty_71 : decode cX6_showProperty 71 = .ok (.getfield 10, 3) := by decide +kernel
theorem dX6_showProperty_74 : decode cX6_showProperty 74 = .ok (.getfield 286, 3) := by decide +kernel
theorem dX6_showProperty_77 : decode cX6_showProperty 77 = .ok (.iload_n 1, 1) := by decide +kernel
theorem dX6_showProperty_78 : decode cX6_showProperty 78 = .ok (.iaload, 1) := by decide +kernel
theorem dX6_showProperty_79 : decode cX6_showProperty 79 = .ok (.ireturn, 1) := by decide +kernel
theorem dX6_showProperty_80 : decode cX6_showProperty 80 = .ok (.aload_n 0, 1) := by decide +kernel
theorem dX6_showProperty_81 : decode cX6_showProperty 81 = .ok (.getfield 10, 3) := by decide +kernel
theorem dX6_showProperty_84 : decode cX6_showProperty 84 = .ok (.getfield 240, 3) := by decide +kernel
theorem dX6_showProperty_87 : decode cX6_showProperty 87 = .ok (.iload_n 1, 1) := by decide +kernel
theorem dX6_showProperty_88 : decode cX6_showProperty 88 = .ok (.iaload, 1) := by decide +kernel
theorem dX6_showProperty_89 : decode cX6_showProperty 89 = .ok (.ireturn, 1) := by decide +kernel
theorem dX6_showProperty_90 : decode cX6_showProperty 90 = .ok (.aload_n 0, 1) := by decide +kernel
theorem dX6_showProperty_91 : decode cX6_showProperty 91 = .ok (.getfield 10, 3) := by decide +kernel
theorem dX6_showProperty_94 : decode cX6_showProperty 94 = .ok (.getfield 289, 3) := by decide +kernel
theorem dX6_showProperty_97 : decode cX6_showProperty 97 = .ok (.iload_n 1, 1) := by decide +kernel
theorem dX6_showProperty_98 : decode cX6_showProperty 98 = .ok (.iaload, 1) := by decide +kernel
theorem dX6_showProperty_99 : decode cX6_showProperty 99 = .ok (.ireturn, 1) := by decide +kernel
theorem dX6_showProperty_100 : decode cX6_showProperty 100 = .ok (.aload_n 0, 1) := by decide +kernel
theorem dX6_showProperty_101 : decode cX6_showProperty 101 = .ok (.getfield 10, 3) := by decide +kernel
theorem dX6_showProperty_104 : decode cX6_showProperty 104 = .ok (.getfield 292, 3) := by decide +kernel
theorem dX6_showProperty_107 : decode cX6_showProperty 107 = .ok (.iload_n 1, 1) := by decide +kernel
theorem dX6_showProperty_108 : decode cX6_showProperty 108 = .ok (.iaload, 1) := by decide +kernel
theorem dX6_showProperty_109 : decode cX6_showProperty 109 = .ok (.ireturn, 1) := by decide +kernel
theorem dX6_showProperty_110 : decode cX6_showProperty 110 = .ok (.aload_n 0, 1) := by decide +kernel
theorem dX6_showProperty_111 : decode cX6_showProperty 111 = .ok (.getfield 10, 3) := by decide +kernel
theorem dX6_showProperty_114 : decode cX6_showProperty 114 = .ok (.getfield 295, 3) := by decide +kernel
theorem dX6_showProperty_117 : decode cX6_showProperty 117 = .ok (.iload_n 1, 1) := by decide +kernel
theorem dX6_showProperty_118 : decode cX6_showProperty 118 = .ok (.iaload, 1) := by decide +kernel
theorem dX6_showProperty_119 : decode cX6_showProperty 119 = .ok (.ireturn, 1) := by decide +kernel
theorem dX6_showProperty_120 : decode cX6_showProperty 120 = .ok (.aload_n 0, 1) := by decide +kernel
theorem dX6_showProperty_121 : decode cX6_showProperty 121 = .ok (.getfield 10, 3) := by decide +kernel
theorem dX6_showProperty_124 : decode cX6_showProperty 124 = .ok (.getfield 132, 3) := by decide +kernel
theorem dX6_showProperty_127 : decode cX6_showProperty 127 = .ok (.iload_n 1, 1) := by decide +kernel
theorem dX6_showProperty_128 : decode cX6_showProperty 128 = .ok (.iaload, 1) := by decide +kernel
theorem dX6_showProperty_129 : decode cX6_showProperty 129 = .ok (.ireturn, 1) := by decide +kernel
theorem dX6_showProperty_130 : decode cX6_showProperty 130 = .ok (.aload_n 0, 1) := by decide +kernel
theorem dX6_showProperty_131 : decode cX6_showProperty 131 = .ok (.getfield 10, 3) := by decide +kernel
theorem dX6_showProperty_134 : decode cX6_showProperty 134 = .ok (.getfield 298, 3) := by decide +kernel
theorem dX6_showProperty_137 : decode cX6_showProperty 137 = .ok (.iload_n 1, 1) := by decide +kernel
theorem dX6_showProperty_138 : decode cX6_showProperty 138 = .ok (.iaload, 1) := by decide +kernel
theorem dX6_showProperty_139 : decode cX6_showProperty 139 = .ok (.ireturn, 1) := by decide +kernel
theorem dX6_showProperty_140 : decode cX6_showProperty 140 = .ok (.aload_n 0, 1) := by decide +kernel
theorem dX6_showProperty_141 : decode cX6_showProperty 141 = .ok (.getfield 40, 3) := by decide +kernel
theorem dX6_showProperty_144 : decode cX6_showProperty 144 = .ok (.getfield 301, 3) := by decide +kernel
theorem dX6_showProperty_147 : decode cX6_showProperty 147 = .ok (.iload_n 1, 1) := by decide +kernel
theorem dX6_showProperty_148 : decode cX6_showProperty 148 = .ok (.iaload, 1) := by decide +kernel
theorem dX6_showProperty_149 : decode cX6_showProperty 149 = .ok (.ireturn, 1) := by decide +kernel
theorem dX6_showProperty_150 : decode cX6_showProperty 150 = .ok (.aload_n 0, 1) := by decide +kernel
theorem dX6_showProperty_151 : decode cX6_showProperty 151 = .ok (.getfield 40, 3) := by decide +kernel
theorem dX6_showProperty_154 : decode cX6_showProperty 154 = .ok (.getfield 302, 3) := by decide +kernel
theorem dX6_showProperty_157 : decode cX6_showProperty 157 = .ok (.iload_n 1, 1) := by decide +kernel
theorem dX6_showProperty_158 : decode cX6_showProperty 158 = .ok (.iaload, 1) := by decide +kernel
theorem dX6_showProperty_159 : decode cX6_showProperty 159 = .ok (.ireturn, 1) := by decide +kernel
theorem dX6_showProperty_160 : decode cX6_showProperty 160 = .ok (.aload_n 0, 1) := by decide +kernel
theorem dX6_showProperty_161 : decode cX6_showProperty 161 = .ok (.getfield 40, 3) := by decide +kernel
theorem dX6_showProperty_164 : decode cX6_showProperty 164 = .ok (.getfield 305, 3) := by decide +kernel
theorem dX6_showProperty_167 : decode cX6_showProperty 167 = .ok (.iload_n 1, 1) := by decide +kernel
theorem dX6_showProperty_168 : decode cX6_showProperty 168 = .ok (.iaload, 1) := by decide +kernel
theorem dX6_showProperty_169 : decode cX6_showProperty 169 = .ok (.ireturn, 1) := by decide +kernel
theorem dX6_showProperty_170 : decode cX6_showProperty 170 = .ok (.aload_n 0, 1) := by decide +kernel
theorem dX6_showProperty_171 : decode cX6_showProperty 171 = .ok (.getfield 40, 3) := by decide +kernel
theorem dX6_showProperty_174 : decode cX6_showProperty 174 = .ok (.iload_n 1, 1) := by decide +kernel
theorem dX6_showProperty_175 : decode cX6_showProperty 175 = .ok (.invokevirtual 308, 3) := by decide +kernel
theorem dX6_showProperty_178 : decode cX6_showProperty 178 = .ok (.ireturn, 1) := by decide +kernel
theorem dX6_groupProperty_0 : decode cX6_groupProperty 0 = .ok (.iload_n 2, 1) := by decide +kernel
theorem dX6_groupProperty_1 : decode cX6_groupProperty 1 = .ok (.tableswitch 127 0 7 #[47, 57, 67, 76, 85, 98, 107, 117], 47) := by decide +kernel
theorem dX6_groupProperty_48 : decode cX6_groupProperty 48 = .ok (.aload_n 0, 1) := by decide +kernel
theorem dX6_groupProperty_49 : decode cX6_groupProperty 49 = .ok (.getfield 10, 3) := by decide +kernel
theorem dX6_groupProperty_52 : decode cX6_groupProperty 52 = .ok (.getfield 85, 3) := by decide +kernel
theorem dX6_groupProperty_55 : decode cX6_groupProperty 55 = .ok (.iload_n 1, 1) := by decide +kernel
theorem dX6_groupProperty_56 : decode cX6_groupProperty 56 = .ok (.iaload, 1) := by decide +kernel
theorem dX6_groupProperty_57 : decode cX6_groupProperty 57 = .ok (.ireturn, 1) := by decide +kernel
theorem dX6_groupProperty_58 : decode cX6_groupProperty 58 = .ok (.aload_n 0, 1) := by decide +kernel
theorem dX6_groupProperty_59 : decode cX6_groupProperty 59 = .ok (.getfield 10, 3) := by decide +kernel
theorem dX6_groupProperty_62 : decode cX6_groupProperty 62 = .ok (.getfield 311, 3) := by decide +kernel
theorem dX6_groupProperty_65 : decode cX6_groupProperty 65 = .ok (.iload_n 1, 1) := by decide +kernel
theorem dX6_groupProperty_66 : decode cX6_groupProperty 66 = .ok (.iaload, 1) := by decide +kernel
theorem dX6_groupProperty_67 : decode cX6_groupProperty 67 = .ok (.ireturn, 1) := by decide +kernel
theorem dX6_groupProperty_68 : decode cX6_groupProperty 68 = .ok (.aload_n 0, 1) := by decide +kernel
theorem dX6_groupProperty_69 : decode cX6_groupProperty 69 = .ok (.getfield 10, 3) := by decide +kernel
theorem dX6_groupProperty_72 : decode cX6_groupProperty 72 = .ok (.iload_n 1, 1) := by decide +kernel
theorem dX6_groupProperty_73 : decode cX6_groupProperty 73 = .ok (.invokevirtual 314, 3) := by decide +kernel
theorem dX6_groupProperty_76 : decode cX6_groupProperty 76 = .ok (.ireturn, 1) := by decide +kernel
theorem dX6_groupProperty_77 : decode cX6_groupProperty 77 = .ok (.aload_n 0, 1) := by decide +kernel
theorem dX6_groupProperty_78 : decode cX6_groupProperty 78 = .ok (.getfield 10, 3) := by decide +kernel
theorem dX6_groupProperty_81 : decode cX6_groupProperty 81 = .ok (.iload_n 1, 1) := by decide +kernel
theorem dX6_groupProperty_82 : decode cX6_groupProperty 82 = .ok (.invokevirtual 317, 3) := by decide +kernel
theorem dX6_groupProperty_85 : decode cX6_groupProperty 85 = .ok (.ireturn, 1) := by decide +kernel
theorem dX6_groupProperty_86 : decode cX6_groupProperty 86 = .ok (.aload_n 0, 1) := by decide +kernel
theorem dX6_groupProperty_87 : decode cX6_groupProperty 87 = .ok (.getfield 40, 3) := by decide +kernel
theorem dX6_groupProperty_90 : decode cX6_groupProperty 90 = .ok (.aload_n 0, 1) := by decide +kernel
theorem dX6_groupProperty_91 : decode cX6_groupProperty 91 = .ok (.getfield 10, 3) := by decide +kernel
theorem dX6_groupProperty_94 : decode cX6_groupProperty 94 = .ok (.iload_n 1, 1) := by decide +kernel
theorem dX6_groupProperty_95 : decode cX6_groupProperty 95 = .ok (.invokevirtual 143, 3) := by decide +kernel
theorem dX6_groupProperty_98 : decode cX6_groupProperty 98 = .ok (.ireturn, 1) := by decide +kernel
theorem dX6_groupProperty_99 : decode cX6_groupProperty 99 = .ok (.aload_n 0, 1) := by decide +kernel
theorem dX6_groupProperty_100 : decode cX6_groupProperty 100 = .ok (.getfield 10, 3) := by decide +kernel
theorem dX6_groupProperty_103 : decode cX6_groupProperty 103 = .ok (.iload_n 1, 1) := by decide +kernel
theorem dX6_groupProperty_104 : decode cX6_groupProperty 104 = .ok (.invokevirtual 320, 3) := by decide +kernel
theorem dX6_groupProperty_107 : decode cX6_groupProperty 107 = .ok (.ireturn, 1) := by decide +kernel
theorem dX6_groupProperty_108 : decode cX6_groupProperty 108 = .ok (.aload_n 0, 1) := by decide +kernel
theorem dX6_groupProperty_109 : decode cX6_groupProperty 109 = .ok (.getfield 10, 3) := by decide +kernel
theorem dX6_groupProperty_112 : decode cX6_groupProperty 112 = .ok (.getfield 323, 3) := by decide +kernel
theorem dX6_groupProperty_115 : decode cX6_groupProperty 115 = .ok (.iload_n 1, 1) := by decide +kernel
theorem dX6_groupProperty_116 : decode cX6_groupProperty 116 = .ok (.iaload, 1) := by decide +kernel
theorem dX6_groupProperty_117 : decode cX6_groupProperty 117 = .ok (.ireturn, 1) := by decide +kernel
theorem dX6_groupProperty_118 : decode cX6_groupProperty 118 = .ok (.aload_n 0, 1) := by decide +kernel
theorem dX6_groupProperty_119 : decode cX6_groupProperty 119 = .ok (.getfield 10, 3) := by decide +kernel
theorem dX6_groupProperty_122 : decode cX6_groupProperty 122 = .ok (.getfield 326, 3) := by decide +kernel
theorem dX6_groupProperty_125 : decode cX6_groupProperty 125 = .ok (.iload_n 1, 1) := by decide +kernel
theorem dX6_groupProperty_126 : decode cX6_groupProperty 126 = .ok (.iaload, 1) := by decide +kernel
theorem dX6_groupProperty_127 : decode cX6_groupProperty 127 = .ok (.ireturn, 1) := by decide +kernel
theorem dX6_groupProperty_128 : decode cX6_groupProperty 128 = .ok (.aload_n 0, 1) := by decide +kernel
theorem dX6_groupProperty_129 : decode cX6_groupProperty 129 = .ok (.getfield 10, 3) := by decide +kernel
theorem dX6_groupProperty_132 : decode cX6_groupProperty 132 = .ok (.getfield 329, 3) := by decide +kernel
theorem dX6_groupProperty_135 : decode cX6_groupProperty 135 = .ok (.iload_n 1, 1) := by decide +kernel
theorem dX6_groupProperty_136 : decode cX6_groupProperty 136 = .ok (.iaload, 1) := by decide +kernel
theorem dX6_groupProperty_137 : decode cX6_groupProperty 137 = .ok (.ireturn, 1) := by decide +kernel
theorem dX6_weekNumber_0 : decode cX6_weekNumber 0 = .ok (.iload_n 1, 1) := by decide +kernel
theorem dX6_weekNumber_1 : decode cX6_weekNumber 1 = .ok (.tableswitch 109 0 6 #[43, 51, 59, 68, 77, 89, 101], 43) := by decide +kernel
theorem dX6_weekNumber_44 : decode cX6_weekNumber 44 = .ok (.aload_n 0, 1) := by decide +kernel
theorem dX6_weekNumber_45 : decode cX6_weekNumber 45 = .ok (.getfield 10, 3) := by decide +kernel
theorem dX6_weekNumber_48 : decode cX6_weekNumber 48 = .ok (.getfield 135, 3) := by decide +kernel
theorem dX6_weekNumber_51 : decode cX6_weekNumber 51 = .ok (.ireturn, 1) := by decide +kernel
theorem dX6_weekNumber_52 : decode cX6_weekNumber 52 = .ok (.aload_n 0, 1) := by decide +kernel
theorem dX6_weekNumber_53 : decode cX6_weekNumber 53 = .ok (.getfield 10, 3) := by decide +kernel
theorem dX6_weekNumber_56 : decode cX6_weekNumber 56 = .ok (.getfield 257, 3) := by decide +kernel
theorem dX6_weekNumber_59 : decode cX6_weekNumber 59 = .ok (.ireturn, 1) := by decide +kernel
theorem dX6_weekNumber_60 : decode cX6_weekNumber 60 = .ok (.aload_n 0, 1) := by decide +kernel
theorem dX6_weekNumber_61 : decode cX6_weekNumber 61 = .ok (.getfield 10, 3) := by decide +kernel
theorem dX6_weekNumber_64 : decode cX6_weekNumber 64 = .ok (.iconst 0, 1) := by decide +kernel
theorem dX6_weekNumber_65 : decode cX6_weekNumber 65 = .ok (.invokevirtual 332, 3) := by decide +kernel
theorem dX6_weekNumber_68 : decode cX6_weekNumber 68 = .ok (.ireturn, 1) := by decide +kernel
theorem dX6_weekNumber_69 : decode cX6_weekNumber 69 = .ok (.aload_n 0, 1) := by decide +kernel
theorem dX6_weekNumber_70 : decode cX6_weekNumber 70 = .ok (.getfield 10, 3) := by decide +kernel
theorem dX6_weekNumber_73 : decode cX6_weekNumber 73 = .ok (.iconst 2, 1) := by decide +kernel
theorem dX6_weekNumber_74 : decode cX6_weekNumber 74 = .ok (.invokevirtual 332, 3) := by decide +kernel
theorem dX6_weekNumber_77 : decode cX6_weekNumber 77 = .ok (.ireturn, 1) := by decide +kernel
theorem dX6_weekNumber_78 : decode cX6_weekNumber 78 = .ok (.aload_n 0, 1) := by decide +kernel
theorem dX6_weekNumber_79 : decode cX6_weekNumber 79 = .ok (.getfield 40, 3) := by decide +kernel
theorem dX6_weekNumber_82 : decode cX6_weekNumber 82 = .ok (.aload_n 0, 1) := by decide +kernel
theorem dX6_weekNumber_83 : decode cX6_weekNumber 83 = .ok (.getfield 10, 3) := by decide +kernel
theorem dX6_weekNumber_86 : decode cX6_weekNumber 86 = .ok (.invokevirtual 335, 3) := by decide +kernel
theorem dX6_weekNumber_89 : decode cX6_weekNumber 89 = .ok (.ireturn, 1) := by decide +kernel
theorem dX6_weekNumber_90 : decode cX6_weekNumber 90 = .ok (.aload_n 0, 1) := by decide +kernel
theorem dX6_weekNumber_91 : decode cX6_weekNumber 91 = .ok (.getfield 40, 3) := by decide +kernel
theorem dX6_weekNumber_94 : decode cX6_weekNumber 94 = .ok (.aload_n 0, 1) := by decide +kernel
theorem dX6_weekNumber_95 : decode cX6_weekNumber 95 = .ok (.getfield 10, 3) := by decide +kernel
theorem dX6_weekNumber_98 : decode cX6_weekNumber 98 = .ok (.invokevirtual 339, 3) := by decide +kernel
theorem dX6_weekNumber_101 : decode cX6_weekNumber 101 = .ok (.ireturn, 1) := by decide +kernel
theorem dX6_weekNumber_102 : decode cX6_weekNumber 102 = .ok (.aload_n 0, 1) := by decide +kernel
theorem dX6_weekNumber_103 : decode cX6_weekNumber 103 = .ok (.getfield 19, 3) := by decide +kernel
theorem dX6_weekNumber_106 : decode cX6_weekNumber 106 = .ok (.getfield 186, 3) := by decide +kernel
theorem dX6_weekNumber_109 : decode cX6_weekNumber 109 = .ok (.ireturn, 1) := by decide +kernel
theorem dX6_weekNumber_110 : decode cX6_weekNumber 110 = .ok (.aload_n 0, 1) := by decide +kernel
theorem dX6_weekNumber_111 : decode cX6_weekNumber 111 = .ok (.getfield 40, 3) := by decide +kernel
theorem dX6_weekNumber_114 : decode cX6_weekNumber 114 = .ok (.aload_n 0, 1) := by decide +kernel
theorem dX6_weekNumber_115 : decode cX6_weekNumber 115 = .ok (.getfield 10, 3) := by decide +kernel
theorem dX6_weekNumber_118 : decode cX6_weekNumber 118 = .ok (.invokevirtual 342, 3) := by decide +kernel
theorem dX6_weekNumber_121 : decode cX6_weekNumber 121 = .ok (.ireturn, 1) := by decide +kernel
theorem dX6_greatestHarmlessOverrun_0 : decode cX6_greatestHarmlessOverrun 0 = .ok (.aload_n 0, 1) := by decide +kernel
theorem dX6_greatestHarmlessOverrun_1 : decode cX6_greatestHarmlessOverrun 1 = .ok (.iload_n 1, 1) := by decide +kernel
theorem dX6_greatestHarmlessOverrun_2 : decode cX6_greatestHarmlessOverrun 2 = .ok (.bipush (-60), 2) := by decide +kernel
theorem dX6_greatestHarmlessOverrun_4 : decode cX6_greatestHarmlessOverrun 4 = .ok (.invokevirtual 345, 3) := by decide +kernel
theorem dX6_greatestHarmlessOverrun_7 : decode cX6_greatestHarmlessOverrun 7 = .ok (.ifCond .ne 6, 3) := by decide +kernel
theorem dX6_greatestHarmlessOverrun_10 : decode cX6_greatestHarmlessOverrun 10 = .ok (.bipush (-101), 2) := by decide +kernel
theorem dX6_greatestHarmlessOverrun_12 : decode cX6_greatestHarmlessOverrun 12 = .ok (.ireturn, 1) := by decide +kernel
theorem dX6_greatestHarmlessOverrun_13 : decode cX6_greatestHarmlessOverrun 13 = .ok (.bipush (-60), 2) := by decide +kernel
theorem dX6_greatestHarmlessOverrun_15 : decode cX6_greatestHarmlessOverrun 15 = .ok (.istore_n 2, 1) := by decide +kernel
theorem dX6_greatestHarmlessOverrun_16 : decode cX6_greatestHarmlessOverrun 16 = .ok (.bipush 121, 2) := by decide +kernel
theorem dX6_greatestHarmlessOverrun_18 : decode cX6_greatestHarmlessOverrun 18 = .ok (.istore_n 3, 1) := by decide +kernel
theorem dX6_greatestHarmlessOverrun_19 : decode cX6_greatestHarmlessOverrun 19 = .ok (.iconst 0, 1) := by decide +kernel
theorem dX6_greatestHarmlessOverrun_20 : decode cX6_greatestHarmlessOverrun 20 = .ok (.istore 4, 2) := by decide +kernel
theorem dX6_greatestHarmlessOverrun_22 : decode cX6_greatestHarmlessOverrun 22 = .ok (.iload 4, 2) := by decide +kernel
theorem dX6_greatestHarmlessOverrun_24 : decode cX6_greatestHarmlessOverrun 24 = .ok (.bipush 8, 2) := by decide +kernel
theorem dX6_greatestHarmlessOverrun_26 : decode cX6_greatestHarmlessOverrun 26 = .ok (.if_icmp .ge 44, 3) := by decide +kernel
theorem dX6_greatestHarmlessOverrun_29 : decode cX6_greatestHarmlessOverrun 29 = .ok (.iload_n 3, 1) := by decide +kernel
theorem dX6_greatestHarmlessOverrun_30 : decode cX6_greatestHarmlessOverrun 30 = .ok (.iload_n 2, 1) := by decide +kernel
theorem dX6_greatestHarmlessOverrun_31 : decode cX6_greatestHarmlessOverrun 31 = .ok (.isub, 1) := by decide +kernel
theorem dX6_greatestHarmlessOverrun_32 : decode cX6_greatestHarmlessOverrun 32 = .ok (.iconst 1, 1) := by decide +kernel
theorem dX6_greatestHarmlessOverrun_33 : decode cX6_greatestHarmlessOverrun 33 = .ok (.if_icmp .le 37, 3) := by decide +kernel
theorem dX6_greatestHarmlessOverrun_36 : decode cX6_greatestHarmlessOverrun 36 = .ok (.iload_n 2, 1) := by decide +kernel
theorem dX6_greatestHarmlessOverrun_37 : decode cX6_greatestHarmlessOverrun 37 = .ok (.iload_n 3, 1) := by decide +kernel
theorem dX6_greatestHarmlessOverrun_38 : decode cX6_greatestHarmlessOverrun 38 = .ok (.iload_n 2, 1) := by decide +kernel
theorem dX6_greatestHarmlessOverrun_39 : decode cX6_greatestHarmlessOverrun 39 = .ok (.isub, 1) := by decide +kernel
theorem dX6_greatestHarmlessOverrun_40 : decode cX6_greatestHarmlessOverrun 40 = .ok (.iconst 2, 1) := by decide +kernel
theorem dX6_greatestHarmlessOverrun_41 : decode cX6_greatestHarmlessOverrun 41 = .ok (.idiv, 1) := by decide +kernel
theorem dX6_greatestHarmlessOverrun_42 : decode cX6_greatestHarmlessOverrun 42 = .ok (.iadd, 1) := by decide +kernel
theorem dX6_greatestHarmlessOverrun_43 : decode cX6_greatestHarmlessOverrun 43 = .ok (.istore 5, 2) := by decide +kernel
theorem dX6_greatestHarmlessOverrun_45 : decode cX6_greatestHarmlessOverrun 45 = .ok (.aload_n 0, 1) := by decide +kernel
theorem dX6_greatestHarmlessOverrun_46 : decode cX6_greatestHarmlessOverrun 46 = .ok (.iload_n 1, 1) := by decide +kernel
theorem dX6_greatestHarmlessOverrun_47 : decode cX6_greatestHarmlessOverrun 47 = .ok (.iload 5, 2) := by decide +kernel
theorem dX6_greatestHarmlessOverrun_49 : decode cX6_greatestHarmlessOverrun 49 = .ok (.invokevirtual 345, 3) := by decide +kernel
theorem dX6_greatestHarmlessOverrun_52 : decode cX6_greatestHarmlessOverrun 52 = .ok (.ifCond .eq 9, 3) := by decide +kernel
theorem dX6_greatestHarmlessOverrun_55 : decode cX6_greatestHarmlessOverrun 55 = .ok (.iload 5, 2) := by decide +kernel
theorem dX6_greatestHarmlessOverrun_57 : decode cX6_greatestHarmlessOverrun 57 = .ok (.istore_n 2, 1) := by decide +kernel
theorem dX6_greatestHarmlessOverrun_58 : decode cX6_greatestHarmlessOverrun 58 = .ok (.goto 6, 3) := by decide +kernel
theorem dX6_greatestHarmlessOverrun_61 : decode cX6_greatestHarmlessOverrun 61 = .ok (.iload 5, 2) := by decide +kernel
theorem dX6_greatestHarmlessOverrun_63 : decode cX6_greatestHarmlessOverrun 63 = .ok (.istore_n 3, 1) := by decide +kernel
theorem dX6_greatestHarmlessOverrun_64 : decode cX6_greatestHarmlessOverrun 64 = .ok (.iinc 4 1, 3) := by decide +kernel
theorem dX6_greatestHarmlessOverrun_67 : decode cX6_greatestHarmlessOverrun 67 = .ok (.goto (-45), 3) := by decide +kernel
theorem dX6_greatestHarmlessOverrun_70 : decode cX6_greatestHarmlessOverrun 70 = .ok (.iload_n 2, 1) := by decide +kernel
theorem dX6_greatestHarmlessOverrun_71 : decode cX6_greatestHarmlessOverrun 71 = .ok (.ireturn, 1) := by decide +kernel
theorem dX6_isHarmless_0 : decode cX6_isHarmless 0 = .ok (.aload_n 0, 1) := by decide +kernel
theorem dX6_isHarmless_1 : decode cX6_isHarmless 1 = .ok (.getfield 44, 3) := by decide +kernel
theorem dX6_isHarmless_4 : decode cX6_isHarmless 4 = .ok (.aload_n 0, 1) := by decide +kernel
theorem dX6_isHarmless_5 : decode cX6_isHarmless 5 = .ok (.getfield 10, 3) := by decide +kernel
theorem dX6_isHarmless_8 : decode cX6_isHarmless 8 = .ok (.iload_n 1, 1) := by decide +kernel
theorem dX6_isHarmless_9 : decode cX6_isHarmless 9 = .ok (.iload_n 2, 1) := by decide +kernel
theorem dX6_isHarmless_10 : decode cX6_isHarmless 10 = .ok (.invokevirtual 236, 3) := by decide +kernel
theorem dX6_isHarmless_13 : decode cX6_isHarmless 13 = .ok (.iconst 0, 1) := by decide +kernel
theorem dX6_isHarmless_14 : decode cX6_isHarmless 14 = .ok (.istore_n 3, 1) := by decide +kernel
theorem dX6_isHarmless_15 : decode cX6_isHarmless 15 = .ok (.iload_n 3, 1) := by decide +kernel
theorem dX6_isHarmless_16 : decode cX6_isHarmless 16 = .ok (.aload_n 0, 1) := by decide +kernel
theorem dX6_isHarmless_17 : decode cX6_isHarmless 17 = .ok (.getfield 10, 3) := by decide +kernel
theorem dX6_isHarmless_20 : decode cX6_isHarmless 20 = .ok (.getfield 257, 3) := by decide +kernel
theorem dX6_isHarmless_23 : decode cX6_isHarmless 23 = .ok (.if_icmp .ge 48, 3) := by decide +kernel
theorem dX6_isHarmless_26 : decode cX6_isHarmless 26 = .ok (.iload_n 3, 1) := by decide +kernel
theorem dX6_isHarmless_27 : decode cX6_isHarmless 27 = .ok (.iload_n 1, 1) := by decide +kernel
theorem dX6_isHarmless_28 : decode cX6_isHarmless 28 = .ok (.if_icmp .eq 37, 3) := by decide +kernel
theorem dX6_isHarmless_31 : decode cX6_isHarmless 31 = .ok (.aload_n 0, 1) := by decide +kernel
theorem dX6_isHarmless_32 : decode cX6_isHarmless 32 = .ok (.getfield 10, 3) := by decide +kernel
theorem dX6_isHarmless_35 : decode cX6_isHarmless 35 = .ok (.getfield 240, 3) := by decide +kernel
theorem dX6_isHarmless_38 : decode cX6_isHarmless 38 = .ok (.iload_n 3, 1) := by decide +kernel
theorem dX6_isHarmless_39 : decode cX6_isHarmless 39 = .ok (.iaload, 1) := by decide +kernel
theorem dX6_isHarmless_40 : decode cX6_isHarmless 40 = .ok (.aload_n 0, 1) := by decide +kernel
theorem dX6_isHarmless_41 : decode cX6_isHarmless 41 = .ok (.getfield 10, 3) := by decide +kernel
theorem dX6_isHarmless_44 : decode cX6_isHarmless 44 = .ok (.getfield 240, 3) := by decide +kernel
theorem dX6_isHarmless_47 : decode cX6_isHarmless 47 = .ok (.iload_n 1, 1) := by decide +kernel
theorem dX6_isHarmless_48 : decode cX6_isHarmless 48 = .ok (.iaload, 1) := by decide +kernel
theorem dX6_isHarmless_49 : decode cX6_isHarmless 49 = .ok (.if_icmp .ne 16, 3) := by decide +kernel
theorem dX6_isHarmless_52 : decode cX6_isHarmless 52 = .ok (.aload_n 0, 1) := by decide +kernel
theorem dX6_isHarmless_53 : decode cX6_isHarmless 53 = .ok (.getfield 44, 3) := by decide +kernel
theorem dX6_isHarmless_56 : decode cX6_isHarmless 56 = .ok (.iload_n 3, 1) := by decide +kernel
theorem dX6_isHarmless_57 : decode cX6_isHarmless 57 = .ok (.invokevirtual 349, 3) := by decide +kernel
theorem dX6_isHarmless_60 : decode cX6_isHarmless 60 = .ok (.ifCond .eq 5, 3) := by decide +kernel
theorem dX6_isHarmless_63 : decode cX6_isHarmless 63 = .ok (.iconst 0, 1) := by decide +kernel
theorem dX6_isHarmless_64 : decode cX6_isHarmless 64 = .ok (.ireturn, 1) := by decide +kernel
theorem dX6_isHarmless_65 : decode cX6_isHarmless 65 = .ok (.iinc 3 1, 3) := by decide +kernel
theorem dX6_isHarmless_68 : decode cX6_isHarmless 68 = .ok (.goto (-53), 3) := by decide +kernel
theorem dX6_isHarmless_71 : decode cX6_isHarmless 71 = .ok (.iconst 1, 1) := by decide +kernel
theorem dX6_isHarmless_72 : decode cX6_isHarmless 72 = .ok (.ireturn, 1) := by decide +kernel
theorem dX6_shareOnAir_0 : decode cX6_shareOnAir 0 = .ok (.bipush 7, 2) := by decide +kernel
theorem dX6_shareOnAir_2 : decode cX6_shareOnAir 2 = .ok (.aload_n 0, 1) := by decide +kernel
theorem dX6_shareOnAir_3 : decode cX6_shareOnAir 3 = .ok (.getfield 10, 3) := by decide +kernel
theorem dX6_shareOnAir_6 : decode cX6_shareOnAir 6 = .ok (.getfield 78, 3) := by decide +kernel
theorem dX6_shareOnAir_9 : decode cX6_shareOnAir 9 = .ok (.iconst 1, 1) := by decide +kernel
theorem dX6_shareOnAir_10 : decode cX6_shareOnAir 10 = .ok (.iaload, 1) := by decide +kernel
theorem dX6_shareOnAir_11 : decode cX6_shareOnAir 11 = .ok (.aload_n 0, 1) := by decide +kernel
theorem dX6_shareOnAir_12 : decode cX6_shareOnAir 12 = .ok (.getfield 10, 3) := by decide +kernel
theorem dX6_shareOnAir_15 : decode cX6_shareOnAir 15 = .ok (.getfield 78, 3) := by decide +kernel
theorem dX6_shareOnAir_18 : decode cX6_shareOnAir 18 = .ok (.iconst 0, 1) := by decide +kernel
theorem dX6_shareOnAir_19 : decode cX6_shareOnAir 19 = .ok (.iaload, 1) := by decide +kernel
theorem dX6_shareOnAir_20 : decode cX6_shareOnAir 20 = .ok (.isub, 1) := by decide +kernel
theorem dX6_shareOnAir_21 : decode cX6_shareOnAir 21 = .ok (.imul, 1) := by decide +kernel
theorem dX6_shareOnAir_22 : decode cX6_shareOnAir 22 = .ok (.istore_n 1, 1) := by decide +kernel
theorem dX6_shareOnAir_23 : decode cX6_shareOnAir 23 = .ok (.iload_n 1, 1) := by decide +kernel
theorem dX6_shareOnAir_24 : decode cX6_shareOnAir 24 = .ok (.ifCond .le 21, 3) := by decide +kernel
theorem dX6_shareOnAir_27 : decode cX6_shareOnAir 27 = .ok (.aload_n 0, 1) := by decide +kernel
theorem dX6_shareOnAir_28 : decode cX6_shareOnAir 28 = .ok (.getfield 40, 3) := by decide +kernel
theorem dX6_shareOnAir_31 : decode cX6_shareOnAir 31 = .ok (.aload_n 0, 1) := by decide +kernel
theorem dX6_shareOnAir_32 : decode cX6_shareOnAir 32 = .ok (.getfield 10, 3) := by decide +kernel
theorem dX6_shareOnAir_35 : decode cX6_shareOnAir 35 = .ok (.invokevirtual 342, 3) := by decide +kernel
theorem dX6_shareOnAir_38 : decode cX6_shareOnAir 38 = .ok (.i2d, 1) := by decide +kernel
theorem dX6_shareOnAir_39 : decode cX6_shareOnAir 39 = .ok (.iload_n 1, 1) := by decide +kernel
theorem dX6_shareOnAir_40 : decode cX6_shareOnAir 40 = .ok (.i2d, 1) := by decide +kernel
theorem dX6_shareOnAir_41 : decode cX6_shareOnAir 41 = .ok (.ddiv, 1) := by decide +kernel
theorem dX6_shareOnAir_42 : decode cX6_shareOnAir 42 = .ok (.goto 4, 3) := by decide +kernel
theorem dX6_shareOnAir_45 : decode cX6_shareOnAir 45 = .ok (.dconst 0, 1) := by decide +kernel
theorem dX6_shareOnAir_46 : decode cX6_shareOnAir 46 = .ok (.dreturn, 1) := by decide +kernel
theorem dX6_bitsOf_0 : decode cX6_bitsOf 0 = .ok (.dload_n 0, 1) := by decide +kernel
theorem dX6_bitsOf_1 : decode cX6_bitsOf 1 = .ok (.dconst 0, 1) := by decide +kernel
theorem dX6_bitsOf_2 : decode cX6_bitsOf 2 = .ok (.dcmp .l, 1) := by decide +kernel
theorem dX6_bitsOf_3 : decode cX6_bitsOf 3 = .ok (.ifCond .gt 5, 3) := by decide +kernel
theorem dX6_bitsOf_6 : decode cX6_bitsOf 6 = .ok (.lconst 0, 1) := by decide +kernel
theorem dX6_bitsOf_7 : decode cX6_bitsOf 7 = .ok (.lreturn, 1) := by decide +kernel
theorem dX6_bitsOf_8 : decode cX6_bitsOf 8 = .ok (.dload_n 0, 1) := by decide +kernel
theorem dX6_bitsOf_9 : decode cX6_bitsOf 9 = .ok (.dstore_n 2, 1) := by decide +kernel
theorem dX6_bitsOf_10 : decode cX6_bitsOf 10 = .ok (.ldc2_w 352, 3) := by decide +kernel
theorem dX6_bitsOf_13 : decode cX6_bitsOf 13 = .ok (.lstore 4, 2) := by decide +kernel
theorem dX6_bitsOf_15 : decode cX6_bitsOf 15 = .ok (.iconst 0, 1) := by decide +kernel
theorem dX6_bitsOf_16 : decode cX6_bitsOf 16 = .ok (.istore 6, 2) := by decide +kernel
theorem dX6_bitsOf_18 : decode cX6_bitsOf 18 = .ok (.iload 6, 2) := by decide +kernel
theorem dX6_bitsOf_20 : decode cX6_bitsOf 20 = .ok (.sipush 1022, 3) := by decide +kernel
theorem dX6_bitsOf_23 : decode cX6_bitsOf 23 = .ok (.if_icmp .ge 27, 3) := by decide +kernel
theorem dX6_bitsOf_26 : decode cX6_bitsOf 26 = .ok (.dload_n 2, 1) := by decide +kernel
theorem dX6_bitsOf_27 : decode cX6_bitsOf 27 = .ok (.dconst 1, 1) := by decide +kernel
theorem dX6_bitsOf_28 : decode cX6_bitsOf 28 = .ok (.dcmp .g, 1) := by decide +kernel
theorem dX6_bitsOf_29 : decode cX6_bitsOf 29 = .ok (.ifCond .ge 21, 3) := by decide +kernel
theorem dX6_bitsOf_32 : decode cX6_bitsOf 32 = .ok (.dload_n 2, 1) := by decide +kernel
theorem dX6_bitsOf_33 : decode cX6_bitsOf 33 = .ok (.ldc2_w 354, 3) := by decide +kernel
theorem dX6_bitsOf_36 : decode cX6_bitsOf 36 = .ok (.dmul, 1) := by decide +kernel
theorem dX6_bitsOf_37 : decode cX6_bitsOf 37 = .ok (.dstore_n 2, 1) := by decide +kernel
theorem dX6_bitsOf_38 : decode cX6_bitsOf 38 = .ok (.lload 4, 2) := by decide +kernel
theorem dX6_bitsOf_40 : decode cX6_bitsOf 40 = .ok (.lconst 1, 1) := by decide +kernel
theorem dX6_bitsOf_41 : decode cX6_bitsOf 41 = .ok (.lsub, 1) := by decide +kernel
theorem dX6_bitsOf_42 : decode cX6_bitsOf 42 = .ok (.lstore 4, 2) := by decide +kernel
theorem dX6_bitsOf_44 : decode cX6_bitsOf 44 = .ok (.iinc 6 1, 3) := by decide +kernel
theorem dX6_bitsOf_47 : decode cX6_bitsOf 47 = .ok (.goto (-29), 3) := by decide +kernel
theorem dX6_bitsOf_50 : decode cX6_bitsOf 50 = .ok (.lload 4, 2) := by decide +kernel
theorem dX6_bitsOf_52 : decode cX6_bitsOf 52 = .ok (.bipush 52, 2) := by decide +kernel
theorem dX6_bitsOf_54 : decode cX6_bitsOf 54 = .ok (.lshl, 1) := by decide +kernel
theorem dX6_bitsOf_55 : decode cX6_bitsOf 55 = .ok (.dload_n 2, 1) := by decide +kernel
theorem dX6_bitsOf_56 : decode cX6_bitsOf 56 = .ok (.dconst 1, 1) := by decide +kernel
theorem dX6_bitsOf_57 : decode cX6_bitsOf 57 = .ok (.dsub, 1) := by decide +kernel
theorem dX6_bitsOf_58 : decode cX6_bitsOf 58 = .ok (.ldc2_w 356, 3) := by decide +kernel
theorem dX6_bitsOf_61 : decode cX6_bitsOf 61 = .ok (.dmul, 1) := by decide +kernel
theorem dX6_bitsOf_62 : decode cX6_bitsOf 62 = .ok (.d2l, 1) := by decide +kernel
theorem dX6_bitsOf_63 : decode cX6_bitsOf 63 = .ok (.ladd, 1) := by decide +kernel
theorem dX6_bitsOf_64 : decode cX6_bitsOf 64 = .ok (.lreturn, 1) := by decide +kernel
theorem dX6_takeShow_0 : decode cX6_takeShow 0 = .ok (.iconst 0, 1) := by decide +kernel
theorem dX6_takeShow_1 : decode cX6_takeShow 1 = .ok (.istore_n 3, 1) := by decide +kernel
theorem dX6_takeShow_2 : decode cX6_takeShow 2 = .ok (.iload_n 3, 1) := by decide +kernel
theorem dX6_takeShow_3 : decode cX6_takeShow 3 = .ok (.bipush 11, 2) := by decide +kernel
theorem dX6_takeShow_5 : decode cX6_takeShow 5 = .ok (.if_icmp .gt 20, 3) := by decide +kernel
theorem dX6_takeShow_8 : decode cX6_takeShow 8 = .ok (.aload_n 1, 1) := by decide +kernel
theorem dX6_takeShow_9 : decode cX6_takeShow 9 = .ok (.aload_n 0, 1) := by decide +kernel
theorem dX6_takeShow_10 : decode cX6_takeShow 10 = .ok (.iload_n 2, 1) := by decide +kernel
theorem dX6_takeShow_11 : decode cX6_takeShow 11 = .ok (.iload_n 3, 1) := by decide +kernel
theorem dX6_takeShow_12 : decode cX6_takeShow 12 = .ok (.invokevirtual 196, 3) := by decide +kernel
theorem dX6_takeShow_15 : decode cX6_takeShow 15 = .ok (.i2l, 1) := by decide +kernel
theorem dX6_takeShow_16 : decode cX6_takeShow 16 = .ok (.invokevirtual 253, 3) := by decide +kernel
theorem dX6_takeShow_19 : decode cX6_takeShow 19 = .ok (.iinc 3 1, 3) := by decide +kernel
theorem dX6_takeShow_22 : decode cX6_takeShow 22 = .ok (.goto (-20), 3) := by decide +kernel
theorem dX6_takeShow_25 : decode cX6_takeShow 25 = .ok (.aload_n 1, 1) := by decide +kernel
theorem dX6_takeShow_26 : decode cX6_takeShow 26 = .ok (.aload_n 0, 1) := by decide +kernel
theorem dX6_takeShow_27 : decode cX6_takeShow 27 = .ok (.getfield 10, 3) := by decide +kernel
theorem dX6_takeShow_30 : decode cX6_takeShow 30 = .ok (.iload_n 2, 1) := by decide +kernel
theorem dX6_takeShow_31 : decode cX6_takeShow 31 = .ok (.invokevirtual 231, 3) := by decide +kernel
theorem dX6_takeShow_34 : decode cX6_takeShow 34 = .ok (.i2l, 1) := by decide +kernel
theorem dX6_takeShow_35 : decode cX6_takeShow 35 = .ok (.invokevirtual 253, 3) := by decide +kernel
theorem dX6_takeShow_38 : decode cX6_takeShow 38 = .ok (.aload_n 0, 1) := by decide +kernel
theorem dX6_takeShow_39 : decode cX6_takeShow 39 = .ok (.getfield 10, 3) := by decide +kernel
theorem dX6_takeShow_42 : decode cX6_takeShow 42 = .ok (.getfield 124, 3) := by decide +kernel
theorem dX6_takeShow_45 : decode cX6_takeShow 45 = .ok (.iload_n 2, 1) := by decide +kernel
theorem dX6_takeShow_46 : decode cX6_takeShow 46 = .ok (.iaload, 1) := by decide +kernel
theorem dX6_takeShow_47 : decode cX6_takeShow 47 = .ok (.ifCond .ne 13, 3) := by decide +kernel
theorem dX6_takeShow_50 : decode cX6_takeShow 50 = .ok (.aload_n 1, 1) := by decide +kernel
theorem dX6_takeShow_51 : decode cX6_takeShow 51 = .ok (.aload_n 0, 1) := by decide +kernel
theorem dX6_takeShow_52 : decode cX6_takeShow 52 = .ok (.iload_n 2, 1) := by decide +kernel
theorem dX6_takeShow_53 : decode cX6_takeShow 53 = .ok (.invokevirtual 243, 3) := by decide +kernel
theorem dX6_takeShow_56 : decode cX6_takeShow 56 = .ok (.i2l, 1) := by decide +kernel
theorem dX6_takeShow_57 : decode cX6_takeShow 57 = .ok (.invokevirtual 253, 3) := by decide +kernel
theorem dX6_takeShow_60 : decode cX6_takeShow 60 = .ok (.return_, 1) := by decide +kernel
theorem dX6_takeDay_0 : decode cX6_takeDay 0 = .ok (.iconst 0, 1) := by decide +kernel
theorem dX6_takeDay_1 : decode cX6_takeDay 1 = .ok (.istore_n 3, 1) := by decide +kernel
theorem dX6_takeDay_2 : decode cX6_takeDay 2 = .ok (.iload_n 3, 1) := by decide +kernel
theorem dX6_takeDay_3 : decode cX6_takeDay 3 = .ok (.bipush 7, 2) := by decide +kernel
theorem dX6_takeDay_5 : decode cX6_takeDay 5 = .ok (.if_icmp .gt 27, 3) := by decide +kernel
theorem dX6_takeDay_8 : decode cX6_takeDay 8 = .ok (.aload_n 1, 1) := by decide +kernel
theorem dX6_takeDay_9 : decode cX6_takeDay 9 = .ok (.aload_n 0, 1) := by decide +kernel
theorem dX6_takeDay_10 : decode cX6_takeDay 10 = .ok (.getfield 40, 3) := by decide +kernel
theorem dX6_takeDay_13 : decode cX6_takeDay 13 = .ok (.aload_n 0, 1) := by decide +kernel
theorem dX6_takeDay_14 : decode cX6_takeDay 14 = .ok (.getfield 10, 3) := by decide +kernel
theorem dX6_takeDay_17 : decode cX6_takeDay 17 = .ok (.iload_n 2, 1) := by decide +kernel
theorem dX6_takeDay_18 : decode cX6_takeDay 18 = .ok (.iload_n 3, 1) := by decide +kernel
theorem dX6_takeDay_19 : decode cX6_takeDay 19 = .ok (.invokevirtual 218, 3) := by decide +kernel
theorem dX6_takeDay_22 : decode cX6_takeDay 22 = .ok (.i2l, 1) := by decide +kernel
theorem dX6_takeDay_23 : decode cX6_takeDay 23 = .ok (.invokevirtual 253, 3) := by decide +kernel
theorem dX6_takeDay_26 : decode cX6_takeDay 26 = .ok (.iinc 3 1, 3) := by decide +kernel
theorem dX6_takeDay_29 : decode cX6_takeDay 29 = .ok (.goto (-27), 3) := by decide +kernel
theorem dX6_takeDay_32 : decode cX6_takeDay 32 = .ok (.iconst 0, 1) := by decide +kernel
theorem dX6_takeDay_33 : decode cX6_takeDay 33 = .ok (.istore_n 3, 1) := by decide +kernel
theorem dX6_takeDay_34 : decode cX6_takeDay 34 = .ok (.iload_n 3, 1) := by decide +kernel
theorem dX6_takeDay_35 : decode cX6_takeDay 35 = .ok (.bipush 24, 2) := by decide +kernel
theorem dX6_takeDay_37 : decode cX6_takeDay 37 = .ok (.if_icmp .ge 41, 3) := by decide +kernel
theorem dX6_takeDay_40 : decode cX6_takeDay 40 = .ok (.aload_n 1, 1) := by decide +kernel
theorem dX6_takeDay_41 : decode cX6_takeDay 41 = .ok (.aload_n 0, 1) := by decide +kernel
theorem dX6_takeDay_42 : decode cX6_takeDay 42 = .ok (.getfield 10, 3) := by decide +kernel
theorem dX6_takeDay_45 : decode cX6_takeDay 45 = .ok (.iload_n 2, 1) := by decide +kernel
theorem dX6_takeDay_46 : decode cX6_takeDay 46 = .ok (.iload_n 3, 1) := by decide +kernel
theorem dX6_takeDay_47 : decode cX6_takeDay 47 = .ok (.invokevirtual 207, 3) := by decide +kernel
theorem dX6_takeDay_50 : decode cX6_takeDay 50 = .ok (.i2l, 1) := by decide +kernel
theorem dX6_takeDay_51 : decode cX6_takeDay 51 = .ok (.invokevirtual 253, 3) := by decide +kernel
theorem dX6_takeDay_54 : decode cX6_takeDay 54 = .ok (.aload_n 1, 1) := by decide +kernel
theorem dX6_takeDay_55 : decode cX6_takeDay 55 = .ok (.aload_n 0, 1) := by decide +kernel
theorem dX6_takeDay_56 : decode cX6_takeDay 56 = .ok (.getfield 40, 3) := by decide +kernel
theorem dX6_takeDay_59 : decode cX6_takeDay 59 = .ok (.aload_n 0, 1) := by decide +kernel
theorem dX6_takeDay_60 : decode cX6_takeDay 60 = .ok (.getfield 10, 3) := by decide +kernel
theorem dX6_takeDay_63 : decode cX6_takeDay 63 = .ok (.iload_n 2, 1) := by decide +kernel
theorem dX6_takeDay_64 : decode cX6_takeDay 64 = .ok (.iload_n 3, 1) := by decide +kernel
theorem dX6_takeDay_65 : decode cX6_takeDay 65 = .ok (.invokevirtual 210, 3) := by decide +kernel
theorem dX6_takeDay_68 : decode cX6_takeDay 68 = .ok (.i2l, 1) := by decide +kernel
theorem dX6_takeDay_69 : decode cX6_takeDay 69 = .ok (.invokevirtual 253, 3) := by decide +kernel
theorem dX6_takeDay_72 : decode cX6_takeDay 72 = .ok (.iinc 3 1, 3) := by decide +kernel
theorem dX6_takeDay_75 : decode cX6_takeDay 75 = .ok (.goto (-41), 3) := by decide +kernel
theorem dX6_takeDay_78 : decode cX6_takeDay 78 = .ok (.return_, 1) := by decide +kernel
theorem dJxe99ae_isNaN_b9ae7_0 : decode cJxe99ae_isNaN_b9ae7 0 = .ok (.dload_n 0, 1) := by decide +kernel
theorem dJxe99ae_isNaN_b9ae7_1 : decode cJxe99ae_isNaN_b9ae7 1 = .ok (.dload_n 0, 1) := by decide +kernel
theorem dJxe99ae_isNaN_b9ae7_2 : decode cJxe99ae_isNaN_b9ae7 2 = .ok (.dcmp .l, 1) := by decide +kernel
theorem dJxe99ae_isNaN_b9ae7_3 : decode cJxe99ae_isNaN_b9ae7 3 = .ok (.ifCond .eq 7, 3) := by decide +kernel
theorem dJxe99ae_isNaN_b9ae7_6 : decode cJxe99ae_isNaN_b9ae7 6 = .ok (.iconst 1, 1) := by decide +kernel
theorem dJxe99ae_isNaN_b9ae7_7 : decode cJxe99ae_isNaN_b9ae7 7 = .ok (.goto 4, 3) := by decide +kernel
theorem dJxe99ae_isNaN_b9ae7_10 : decode cJxe99ae_isNaN_b9ae7 10 = .ok (.iconst 0, 1) := by decide +kernel
theorem dJxe99ae_isNaN_b9ae7_11 : decode cJxe99ae_isNaN_b9ae7 11 = .ok (.ireturn, 1) := by decide +kernel
theorem dJxe99ae_doubleToLongBits_ccdee_0 : decode cJxe99ae_doubleToLongBits_ccdee 0 = .ok (.dload_n 0, 1) := by decide +kernel
theorem dJxe99ae_doubleToLongBits_ccdee_1 : decode cJxe99ae_doubleToLongBits_ccdee 1 = .ok (.invokestatic 122, 3) := by decide +kernel
theorem dJxe99ae_doubleToLongBits_ccdee_4 : decode cJxe99ae_doubleToLongBits_ccdee 4 = .ok (.ifCond .ne 8, 3) := by decide +kernel
theorem dJxe99ae_doubleToLongBits_ccdee_7 : decode cJxe99ae_doubleToLongBits_ccdee 7 = .ok (.dload_n 0, 1) := by decide +kernel
theorem dJxe99ae_doubleToLongBits_ccdee_8 : decode cJxe99ae_doubleToLongBits_ccdee 8 = .ok (.invokestatic 134, 3) := by decide +kernel
theorem dJxe99ae_doubleToLongBits_ccdee_11 : decode cJxe99ae_doubleToLongBits_ccdee 11 = .ok (.lreturn, 1) := by decide +kernel
theorem dJxe99ae_doubleToLongBits_ccdee_12 : decode cJxe99ae_doubleToLongBits_ccdee 12 = .ok (.ldc2_w 137, 3) := by decide +kernel
theorem dJxe99ae_doubleToLongBits_ccdee_15 : decode cJxe99ae_doubleToLongBits_ccdee 15 = .ok (.lreturn, 1) := by decide +kernel
theorem dJ9_max_7cf53_0 : decode cJ9_max_7cf53 0 = .ok (.iload_n 0, 1) := by decide +kernel
theorem dJ9_max_7cf53_1 : decode cJ9_max_7cf53 1 = .ok (.iload_n 1, 1) := by decide +kernel
theorem dJ9_max_7cf53_2 : decode cJ9_max_7cf53 2 = .ok (.if_icmp .lt 7, 3) := by decide +kernel
theorem dJ9_max_7cf53_5 : decode cJ9_max_7cf53 5 = .ok (.iload_n 0, 1) := by decide +kernel
theorem dJ9_max_7cf53_6 : decode cJ9_max_7cf53 6 = .ok (.goto 4, 3) := by decide +kernel
theorem dJ9_max_7cf53_9 : decode cJ9_max_7cf53 9 = .ok (.iload_n 1, 1) := by decide +kernel
theorem dJ9_max_7cf53_10 : decode cJ9_max_7cf53 10 = .ok (.ireturn, 1) := by decide +kernel
theorem dJ9_min_7cf53_0 : decode cJ9_min_7cf53 0 = .ok (.iload_n 0, 1) := by decide +kernel
theorem dJ9_min_7cf53_1 : decode cJ9_min_7cf53 1 = .ok (.iload_n 1, 1) := by decide +kernel
theorem dJ9_min_7cf53_2 : decode cJ9_min_7cf53 2 = .ok (.if_icmp .gt 7, 3) := by decide +kernel
theorem dJ9_min_7cf53_5 : decode cJ9_min_7cf53 5 = .ok (.iload_n 0, 1) := by decide +kernel
theorem dJ9_min_7cf53_6 : decode cJ9_min_7cf53 6 = .ok (.goto 4, 3) := by decide +kernel
theorem dJ9_min_7cf53_9 : decode cJ9_min_7cf53 9 = .ok (.iload_n 1, 1) := by decide +kernel
theorem dJ9_min_7cf53_10 : decode cJ9_min_7cf53 10 = .ok (.ireturn, 1) := by decide +kernel
end
section
theorem dX7_init_0 : decode cX7_init 0 = .ok (.aload_n 0, 1) := by decide +kernel
theorem dX7_init_1 : decode cX7_init 1 = .ok (.invokespecial 1, 3) := by decide +kernel
theorem dX7_init_4 : decode cX7_init 4 = .ok (.aload_n 0, 1) := by decide +kernel
theorem dX7_init_5 : decode cX7_init 5 = .ok (.sipush 232, 3) := by decide +kernel
theorem dX7_init_8 : decode cX7_init 8 = .ok (.newarray .int, 2) := by decide +kernel
theorem dX7_init_10 : decode cX7_init 10 = .ok (.putfield 7, 3) := by decide +kernel
theorem dX7_init_13 : decode cX7_init 13 = .ok (.aload_n 0, 1) := by decide +kernel
theorem dX7_init_14 : decode cX7_init 14 = .ok (.sipush 1392, 3) := by decide +kernel
theorem dX7_init_17 : decode cX7_init 17 = .ok (.newarray .int, 2) := by decide +kernel
theorem dX7_init_19 : decode cX7_init 19 = .ok (.putfield 13, 3) := by decide +kernel
theorem dX7_init_22 : decode cX7_init 22 = .ok (.aload_n 0, 1) := by decide +kernel
theorem dX7_init_23 : decode cX7_init 23 = .ok (.bipush 60, 2) := by decide +kernel
theorem dX7_init_25 : decode cX7_init 25 = .ok (.newarray .int, 2) := by decide +kernel
theorem dX7_init_27 : decode cX7_init 27 = .ok (.putfield 16, 3) := by decide +kernel
theorem dX7_init_30 : decode cX7_init 30 = .ok (.aload_n 0, 1) := by decide +kernel
theorem dX7_init_31 : decode cX7_init 31 = .ok (.bipush 8, 2) := by decide +kernel
theorem dX7_init_33 : decode cX7_init 33 = .ok (.newarray .int, 2) := by decide +kernel
theorem dX7_init_35 : decode cX7_init 35 = .ok (.putfield 19, 3) := by decide +kernel
theorem dX7_init_38 : decode cX7_init 38 = .ok (.aload_n 0, 1) := by decide +kernel
theorem dX7_init_39 : decode cX7_init 39 = .ok (.bipush 24, 2) := by decide +kernel
theorem dX7_init_41 : decode cX7_init 41 = .ok (.newarray .int, 2) := by decide +kernel
theorem dX7_init_43 : decode cX7_init 43 = .ok (.putfield 22, 3) := by decide +kernel
theorem dX7_init_46 : decode cX7_init 46 = .ok (.aload_n 0, 1) := by decide +kernel
theorem dX7_init_47 : decode cX7_init 47 = .ok (.bipush 24, 2) := by decide +kernel
theorem dX7_init_49 : decode cX7_init 49 = .ok (.newarray .int, 2) := by decide +kernel
theorem dX7_init_51 : decode cX7_init 51 = .ok (.putfield 25, 3) := by decide +kernel
theorem dX7_init_54 : decode cX7_init 54 = .ok (.aload_n 0, 1) := by decide +kernel
theorem dX7_init_55 : decode cX7_init 55 = .ok (.bipush 24, 2) := by decide +kernel
theorem dX7_init_57 : decode cX7_init 57 = .ok (.newarray .int, 2) := by decide +kernel
theorem dX7_init_59 : decode cX7_init 59 = .ok (.putfield 28, 3) := by decide +kernel
theorem dX7_init_62 : decode cX7_init 62 = .ok (.aload_n 0, 1) := by decide +kernel
theorem dX7_init_63 : decode cX7_init 63 = .ok (.bipush 24, 2) := by decide +kernel
theorem dX7_init_65 : decode cX7_init 65 = .ok (.newarray .int, 2) := by decide +kernel
theorem dX7_init_67 : decode cX7_init 67 = .ok (.putfield 31, 3) := by decide +kernel
theorem dX7_init_70 : decode cX7_init 70 = .ok (.aload_n 0, 1) := by decide +kernel
theorem dX7_init_71 : decode cX7_init 71 = .ok (.bipush 96, 2) := by decide +kernel
theorem dX7_init_73 : decode cX7_init 73 = .ok (.newarray .int, 2) := by decide +kernel
theorem dX7_init_75 : decode cX7_init 75 = .ok (.putfield 34, 3) := by decide +kernel
theorem dX7_init_78 : decode cX7_init 78 = .ok (.aload_n 0, 1) := by decide +kernel
theorem dX7_init_79 : decode cX7_init 79 = .ok (.getfield 7, 3) := by decide +kernel
theorem dX7_init_82 : decode cX7_init 82 = .ok (.iconst 0, 1) := by decide +kernel
theorem dX7_init_83 : decode cX7_init 83 = .ok (.sipush 480, 3) := by decide +kernel
theorem dX7_init_86 : decode cX7_init 86 = .ok (.iastore, 1) := by decide +kernel
theorem dX7_init_87 : decode cX7_init 87 = .ok (.aload_n 0, 1) := by decide +kernel
theorem dX7_init_88 : decode cX7_init 88 = .ok (.getfield 7, 3) := by decide +kernel
theorem dX7_init_91 : decode cX7_init 91 = .ok (.iconst 1, 1) := by decide +kernel
theorem dX7_init_92 : decode cX7_init 92 = .ok (.sipush 1380, 3) := by decide +kernel
theorem dX7_init_95 : decode cX7_init 95 = .ok (.iastore, 1) := by decide +kernel
theorem dX7_init_96 : decode cX7_init 96 = .ok (.aload_n 0, 1) := by decide +kernel
theorem dX7_init_97 : decode cX7_init 97 = .ok (.getfield 7, 3) := by decide +kernel
theorem dX7_init_100 : decode cX7_init 100 = .ok (.iconst 2, 1) := by decide +kernel
theorem dX7_init_101 : decode cX7_init 101 = .ok (.bipush 10, 2) := by decide +kernel
theorem dX7_init_103 : decode cX7_init 103 = .ok (.iastore, 1) := by decide +kernel
theorem dX7_init_104 : decode cX7_init 104 = .ok (.aload_n 0, 1) := by decide +kernel
theorem dX7_init_105 : decode cX7_init 105 = .ok (.getfield 7, 3) := by decide +kernel
theorem dX7_init_108 : decode cX7_init 108 = .ok (.iconst 3, 1) := by decide +kernel
theorem dX7_init_109 : decode cX7_init 109 = .ok (.bipush 60, 2) := by decide +kernel
theorem dX7_init_111 : decode cX7_init 111 = .ok (.iastore, 1) := by decide +kernel
theorem dX7_init_112 : decode cX7_init 112 = .ok (.aload_n 0, 1) := by decide +kernel
theorem dX7_init_113 : decode cX7_init 113 = .ok (.getfield 7, 3) := by decide +kernel
theorem dX7_init_116 : decode cX7_init 116 = .ok (.iconst 4, 1) := by decide +kernel
theorem dX7_init_117 : decode cX7_init 117 = .ok (.bipush 20, 2) := by decide +kernel
theorem dX7_init_119 : decode cX7_init 119 = .ok (.iastore, 1) := by decide +kernel
theorem dX7_init_120 : decode cX7_init 120 = .ok (.aload_n 0, 1) := by decide +kernel
theorem dX7_init_121 : decode cX7_init 121 = .ok (.getfield 7, 3) := by decide +kernel
theorem dX7_init_124 : decode cX7_init 124 = .ok (.iconst 5, 1) := by decide +kernel
theorem dX7_init_125 : decode cX7_init 125 = .ok (.bipush 50, 2) := by decide +kernel
theorem dX7_init_127 : decode cX7_init 127 = .ok (.iastore, 1) := by decide +kernel
theorem dX7_init_128 : decode cX7_init 128 = .ok (.aload_n 0, 1) := by decide +kernel
theorem dX7_init_129 : decode cX7_init 129 = .ok (.getfield 7, 3) := by decide +kernel
theorem dX7_init_132 : decode cX7_init 132 = .ok (.bipush 6, 2) := by decide +kernel
theorem dX7_init_134 : decode cX7_init 134 = .ok (.bipush 8, 2) := by decide +kernel
theorem dX7_init_136 : decode cX7_init 136 = .ok (.iastore, 1) := by decide +kernel
theorem dX7_init_137 : decode cX7_init 137 = .ok (.aload_n 0, 1) := by decide +kernel
theorem dX7_init_138 : decode cX7_init 138 = .ok (.getfield 7, 3) := by decide +kernel
theorem dX7_init_141 : decode cX7_init 141 = .ok (.bipush 7, 2) := by decide +kernel
theorem dX7_init_143 : decode cX7_init 143 = .ok (.bipush 120, 2) := by decide +kernel
theorem dX7_init_145 : decode cX7_init 145 = .ok (.iastore, 1) := by decide +kernel
theorem dX7_init_146 : decode cX7_init 146 = .ok (.iconst 0, 1) := by decide +kernel
theorem dX7_init_147 : decode cX7_init 147 = .ok (.istore_n 1, 1) := by decide +kernel
theorem dX7_init_148 : decode cX7_init 148 = .ok (.iload_n 1, 1) := by decide +kernel
theorem dX7_init_149 : decode cX7_init 149 = .ok (.bipush 6, 2) := by decide +kernel
theorem dX7_init_151 : decode cX7_init 151 = .ok (.if_icmp .ge 23, 3) := by decide +kernel
theorem dX7_init_154 : decode cX7_init 154 = .ok (.aload_n 0, 1) := by decide +kernel
theorem dX7_init_155 : decode cX7_init 155 = .ok (.getfield 7, 3) := by decide +kernel
theorem dX7_init_158 : decode cX7_init 158 = .ok (.bipush 8, 2) := by decide +kernel
theorem dX7_init_160 : decode cX7_init 160 = .ok (.iconst 5, 1) := by decide +kernel
theorem dX7_init_161 : decode cX7_init 161 = .ok (.iload_n 1, 1) := by decide +kernel
theorem dX7_init_162 : decode cX7_init 162 = .ok (.imul, 1) := by decide +kernel
theorem dX7_init_163 : decode cX7_init 163 = .ok (.iadd, 1) := by decide +kernel
theorem dX7_init_164 : decode cX7_init 164 = .ok (.sipush 300, 3) := by decide +kernel
theorem dX7_init_167 : decode cX7_init 167 = .ok (.iastore, 1) := by decide +kernel
theorem dX7_init_168 : decode cX7_init 168 = .ok (.iinc 1 1, 3) := by decide +kernel
theorem dX7_init_171 : decode cX7_init 171 = .ok (.goto (-23), 3) := by decide +kernel
theorem dX7_init_174 : decode cX7_init 174 = .ok (.return_, 1) := by decide +kernel
theorem dX7_thrown_0 : decode cX7_thrown 0 = .ok (.aload_n 0, 1) := by decide +kernel
theorem dX7_thrown_1 : decode cX7_thrown 1 = .ok (.getfield 37, 3) := by decide +kernel
theorem dX7_thrown_4 : decode cX7_thrown 4 = .ok (.ireturn, 1) := by decide +kernel
theorem dX7_within_0 : decode cX7_within 0 = .ok (.iload_n 0, 1) := by decide +kernel
theorem dX7_within_1 : decode cX7_within 1 = .ok (.iload_n 1, 1) := by decide +kernel
theorem dX7_within_2 : decode cX7_within 2 = .ok (.if_icmp .lt 12, 3) := by decide +kernel
theorem dX7_within_5 : decode cX7_within 5 = .ok (.iload_n 0, 1) := by decide +kernel
theorem dX7_within_6 : decode cX7_within 6 = .ok (.iload_n 2, 1) := by decide +kernel
theorem dX7_within_7 : decode cX7_within 7 = .ok (.if_icmp .gt 7, 3) := by decide +kernel
theorem dX7_within_10 : decode cX7_within 10 = .ok (.iconst 1, 1) := by decide +kernel
theorem dX7_within_11 : decode cX7_within 11 = .ok (.goto 4, 3) := by decide +kernel
theorem dX7_within_14 : decode cX7_within 14 = .ok (.iconst 0, 1) := by decide +kernel
theorem dX7_within_15 : decode cX7_within 15 = .ok (.ireturn, 1) := by decide +kernel
theorem dX7_of_0 : decode cX7_of 0 = .ok (.aload_n 0, 1) := by decide +kernel
theorem dX7_of_1 : decode cX7_of 1 = .ok (.getfield 7, 3) := by decide +kernel
theorem dX7_of_4 : decode cX7_of 4 = .ok (.bipush 40, 2) := by decide +kernel
theorem dX7_of_6 : decode cX7_of 6 = .ok (.bipush 8, 2) := by decide +kernel
theorem dX7_of_8 : decode cX7_of 8 = .ok (.iload_n 1, 1) := by decide +kernel
theorem dX7_of_9 : decode cX7_of 9 = .ok (.imul, 1) := by decide +kernel
theorem dX7_of_10 : decode cX7_of 10 = .ok (.iadd, 1) := by decide +kernel
theorem dX7_of_11 : decode cX7_of 11 = .ok (.iload_n 2, 1) := by decide +kernel
theorem dX7_of_12 : decode cX7_of 12 = .ok (.iadd, 1) := by decide +kernel
theorem dX7_of_13 : decode cX7_of 13 = .ok (.iaload, 1) := by decide +kernel
theorem dX7_of_14 : decode cX7_of 14 = .ok (.ireturn, 1) := by decide +kernel
theorem dX7_put_0 : decode cX7_put 0 = .ok (.aload_n 0, 1) := by decide +kernel
theorem dX7_put_1 : decode cX7_put 1 = .ok (.getfield 7, 3) := by decide +kernel
theorem dX7_put_4 : decode cX7_put 4 = .ok (.bipush 40, 2) := by decide +kernel
theorem dX7_put_6 : decode cX7_put 6 = .ok (.bipush 8, 2) := by decide +kernel
theorem dX7_put_8 : decode cX7_put 8 = .ok (.iload_n 1, 1) := by decide +kernel
theorem dX7_put_9 : decode cX7_put 9 = .ok (.imul, 1) := by decide +kernel
theorem dX7_put_10 : decode cX7_put 10 = .ok (.iadd, 1) := by decide +kernel
theorem dX7_put_11 : decode cX7_put 11 = .ok (.iload_n 2, 1) := by decide +kernel
theorem dX7_put_12 : decode cX7_put 12 = .ok (.iadd, 1) := by decide +kernel
theorem dX7_put_13 : decode cX7_put 13 = .ok (.iload_n 3, 1) := by decide +kernel
theorem dX7_put_14 : decode cX7_put 14 = .ok (.iastore, 1) := by decide +kernel
theorem dX7_put_15 : decode cX7_put 15 = .ok (.return_, 1) := by decide +kernel
theorem dX7_isShow_0 : decode cX7_isShow 0 = .ok (.iload_n 1, 1) := by decide +kernel
theorem dX7_isShow_1 : decode cX7_isShow 1 = .ok (.iconst 0, 1) := by decide +kernel
theorem dX7_isShow_2 : decode cX7_isShow 2 = .ok (.aload_n 0, 1) := by decide +kernel
theorem dX7_isShow_3 : decode cX7_isShow 3 = .ok (.getfield 7, 3) := by decide +kernel
theorem dX7_isShow_6 : decode cX7_isShow 6 = .ok (.bipush 39, 2) := by decide +kernel
theorem dX7_isShow_8 : decode cX7_isShow 8 = .ok (.iaload, 1) := by decide +kernel
theorem dX7_isShow_9 : decode cX7_isShow 9 = .ok (.iconst 1, 1) := by decide +kernel
theorem dX7_isShow_10 : decode cX7_isShow 10 = .ok (.isub, 1) := by decide +kernel
theorem dX7_isShow_11 : decode cX7_isShow 11 = .ok (.invokestatic 41, 3) := by decide +kernel
theorem dX7_isShow_14 : decode cX7_isShow 14 = .ok (.ireturn, 1) := by decide +kernel
theorem dX7_isGroup_0 : decode cX7_isGroup 0 = .ok (.iload_n 0, 1) := by decide +kernel
theorem dX7_isGroup_1 : decode cX7_isGroup 1 = .ok (.iconst 0, 1) := by decide +kernel
theorem dX7_isGroup_2 : decode cX7_isGroup 2 = .ok (.iconst 5, 1) := by decide +kernel
theorem dX7_isGroup_3 : decode cX7_isGroup 3 = .ok (.invokestatic 41, 3) := by decide +kernel
theorem dX7_isGroup_6 : decode cX7_isGroup 6 = .ok (.ireturn, 1) := by decide +kernel
theorem dX7_isDay_0 : decode cX7_isDay 0 = .ok (.iload_n 0, 1) := by decide +kernel
theorem dX7_isDay_1 : decode cX7_isDay 1 = .ok (.iconst 0, 1) := by decide +kernel
theorem dX7_isDay_2 : decode cX7_isDay 2 = .ok (.bipush 6, 2) := by decide +kernel
theorem dX7_isDay_4 : decode cX7_isDay 4 = .ok (.invokestatic 41, 3) := by decide +kernel
theorem dX7_isDay_7 : decode cX7_isDay 7 = .ok (.ireturn, 1) := by decide +kernel
theorem dX7_isStart_0 : decode cX7_isStart 0 = .ok (.iload_n 0, 1) := by decide +kernel
theorem dX7_isStart_1 : decode cX7_isStart 1 = .ok (.iconst 0, 1) := by decide +kernel
theorem dX7_isStart_2 : decode cX7_isStart 2 = .ok (.sipush 1439, 3) := by decide +kernel
theorem dX7_isStart_5 : decode cX7_isStart 5 = .ok (.invokestatic 41, 3) := by decide +kernel
theorem dX7_isStart_8 : decode cX7_isStart 8 = .ok (.ireturn, 1) := by decide +kernel
theorem dX7_isLength_0 : decode cX7_isLength 0 = .ok (.iload_n 0, 1) := by decide +kernel
theorem dX7_isLength_1 : decode cX7_isLength 1 = .ok (.iconst 5, 1) := by decide +kernel
theorem dX7_isLength_2 : decode cX7_isLength 2 = .ok (.sipush 240, 3) := by decide +kernel
theorem dX7_isLength_5 : decode cX7_isLength 5 = .ok (.invokestatic 41, 3) := by decide +kernel
theorem dX7_isLength_8 : decode cX7_isLength 8 = .ok (.ireturn, 1) := by decide +kernel
theorem dX7_worth_0 : decode cX7_worth 0 = .ok (.iload_n 1, 1) := by decide +kernel
theorem dX7_worth_1 : decode cX7_worth 1 = .ok (.iconst 2, 1) := by decide +kernel
theorem dX7_worth_2 : decode cX7_worth 2 = .ok (.if_icmp .ne 17, 3) := by decide +kernel
theorem dX7_worth_5 : decode cX7_worth 5 = .ok (.iload_n 2, 1) := by decide +kernel
theorem dX7_worth_6 : decode cX7_worth 6 = .ok (.aload_n 0, 1) := by decide +kernel
theorem dX7_worth_7 : decode cX7_worth 7 = .ok (.getfield 7, 3) := by decide +kernel
theorem dX7_worth_10 : decode cX7_worth 10 = .ok (.iconst 5, 1) := by decide +kernel
theorem dX7_worth_11 : decode cX7_worth 11 = .ok (.iaload, 1) := by decide +kernel
theorem dX7_worth_12 : decode cX7_worth 12 = .ok (.imul, 1) := by decide +kernel
theorem dX7_worth_13 : decode cX7_worth 13 = .ok (.bipush 100, 2) := by decide +kernel
theorem dX7_worth_15 : decode cX7_worth 15 = .ok (.idiv, 1) := by decide +kernel
theorem dX7_worth_16 : decode cX7_worth 16 = .ok (.goto 4, 3) := by decide +kernel
theorem dX7_worth_19 : decode cX7_worth 19 = .ok (.iload_n 2, 1) := by decide +kernel
theorem dX7_worth_20 : decode cX7_worth 20 = .ok (.ireturn, 1) := by decide +kernel
theorem dX7_allowance_0 : decode cX7_allowance 0 = .ok (.aload_n 0, 1) := by decide +kernel
theorem dX7_allowance_1 : decode cX7_allowance 1 = .ok (.getfield 7, 3) := by decide +kernel
theorem dX7_allowance_4 : decode cX7_allowance 4 = .ok (.bipush 8, 2) := by decide +kernel
theorem dX7_allowance_6 : decode cX7_allowance 6 = .ok (.iconst 5, 1) := by decide +kernel
theorem dX7_allowance_7 : decode cX7_allowance 7 = .ok (.iload_n 1, 1) := by decide +kernel
theorem dX7_allowance_8 : decode cX7_allowance 8 = .ok (.imul, 1) := by decide +kernel
theorem dX7_allowance_9 : decode cX7_allowance 9 = .ok (.iadd, 1) := by decide +kernel
theorem dX7_allowance_10 : decode cX7_allowance 10 = .ok (.iconst 0, 1) := by decide +kernel
theorem dX7_allowance_11 : decode cX7_allowance 11 = .ok (.iadd, 1) := by decide +kernel
theorem dX7_allowance_12 : decode cX7_allowance 12 = .ok (.iaload, 1) := by decide +kernel
theorem dX7_allowance_13 : decode cX7_allowance 13 = .ok (.aload_n 0, 1) := by decide +kernel
theorem dX7_allowance_14 : decode cX7_allowance 14 = .ok (.getfield 7, 3) := by decide +kernel
theorem dX7_allowance_17 : decode cX7_allowance 17 = .ok (.bipush 8, 2) := by decide +kernel
theorem dX7_allowance_19 : decode cX7_allowance 19 = .ok (.iconst 5, 1) := by decide +kernel
theorem dX7_allowance_20 : decode cX7_allowance 20 = .ok (.iload_n 1, 1) := by decide +kernel
theorem dX7_allowance_21 : decode cX7_allowance 21 = .ok (.imul, 1) := by decide +kernel
theorem dX7_allowance_22 : decode cX7_allowance 22 = .ok (.iadd, 1) := by decide +kernel
theorem dX7_allowance_23 : decode cX7_allowance 23 = .ok (.iconst 1, 1) := by decide +kernel
theorem dX7_allowance_24 : decode cX7_allowance 24 = .ok (.iadd, 1) := by decide +kernel
theorem dX7_allowance_25 : decode cX7_allowance 25 = .ok (.iaload, 1) := by decide +kernel
theorem dX7_allowance_26 : decode cX7_allowance 26 = .ok (.iadd, 1) := by decide +kernel
theorem dX7_allowance_27 : decode cX7_allowance 27 = .ok (.ireturn, 1) := by decide +kernel
theorem dX7_tape_0 : decode cX7_tape 0 = .ok (.aload_n 0, 1) := by decide +kernel
theorem dX7_tape_1 : decode cX7_tape 1 = .ok (.getfield 19, 3) := by decide +kernel
theorem dX7_tape_4 : decode cX7_tape 4 = .ok (.iconst 0, 1) := by decide +kernel
theorem dX7_tape_5 : decode cX7_tape 5 = .ok (.iload_n 1, 1) := by decide +kernel
theorem dX7_tape_6 : decode cX7_tape 6 = .ok (.iastore, 1) := by decide +kernel
theorem dX7_tape_7 : decode cX7_tape 7 = .ok (.aload_n 0, 1) := by decide +kernel
theorem dX7_tape_8 : decode cX7_tape 8 = .ok (.getfield 19, 3) := by decide +kernel
theorem dX7_tape_11 : decode cX7_tape 11 = .ok (.iconst 1, 1) := by decide +kernel
theorem dX7_tape_12 : decode cX7_tape 12 = .ok (.iload_n 2, 1) := by decide +kernel
theorem dX7_tape_13 : decode cX7_tape 13 = .ok (.iastore, 1) := by decide +kernel
theorem dX7_tape_14 : decode cX7_tape 14 = .ok (.aload_n 0, 1) := by decide +kernel
theorem dX7_tape_15 : decode cX7_tape 15 = .ok (.getfield 19, 3) := by decide +kernel
theorem dX7_tape_18 : decode cX7_tape 18 = .ok (.iconst 2, 1) := by decide +kernel
theorem dX7_tape_19 : decode cX7_tape 19 = .ok (.iload_n 3, 1) := by decide +kernel
theorem dX7_tape_20 : decode cX7_tape 20 = .ok (.iastore, 1) := by decide +kernel
theorem dX7_tape_21 : decode cX7_tape 21 = .ok (.aload_n 0, 1) := by decide +kernel
theorem dX7_tape_22 : decode cX7_tape 22 = .ok (.getfield 19, 3) := by decide +kernel
theorem dX7_tape_25 : decode cX7_tape 25 = .ok (.iconst 3, 1) := by decide +kernel
theorem dX7_tape_26 : decode cX7_tape 26 = .ok (.iload 4, 2) := by decide +kernel
theorem dX7_tape_28 : decode cX7_tape 28 = .ok (.iastore, 1) := by decide +kernel
theorem dX7_tape_29 : decode cX7_tape 29 = .ok (.aload_n 0, 1) := by decide +kernel
theorem dX7_tape_30 : decode cX7_tape 30 = .ok (.getfield 19, 3) := by decide +kernel
theorem dX7_tape_33 : decode cX7_tape 33 = .ok (.iconst 4, 1) := by decide +kernel
theorem dX7_tape_34 : decode cX7_tape 34 = .ok (.iload 5, 2) := by decide +kernel
theorem dX7_tape_36 : decode cX7_tape 36 = .ok (.iastore, 1) := by decide +kernel
theorem dX7_tape_37 : decode cX7_tape 37 = .ok (.aload_n 0, 1) := by decide +kernel
theorem dX7_tape_38 : decode cX7_tape 38 = .ok (.getfield 19, 3) := by decide +kernel
theorem dX7_tape_41 : decode cX7_tape 41 = .ok (.iconst 5, 1) := by decide +kernel
theorem dX7_tape_42 : decode cX7_tape 42 = .ok (.iload 6, 2) := by decide +kernel
theorem dX7_tape_44 : decode cX7_tape 44 = .ok (.iastore, 1) := by decide +kernel
theorem dX7_tape_45 : decode cX7_tape 45 = .ok (.aload_n 0, 1) := by decide +kernel
theorem dX7_tape_46 : decode cX7_tape 46 = .ok (.getfield 19, 3) := by decide +kernel
theorem dX7_tape_49 : decode cX7_tape 49 = .ok (.bipush 6, 2) := by decide +kernel
theorem dX7_tape_51 : decode cX7_tape 51 = .ok (.iconst 0, 1) := by decide +kernel
theorem dX7_tape_52 : decode cX7_tape 52 = .ok (.iastore, 1) := by decide +kernel
theorem dX7_tape_53 : decode cX7_tape 53 = .ok (.aload_n 0, 1) := by decide +kernel
theorem dX7_tape_54 : decode cX7_tape 54 = .ok (.getfield 19, 3) := by decide +kernel
theorem dX7_tape_57 : decode cX7_tape 57 = .ok (.bipush 7, 2) := by decide +kernel
theorem dX7_tape_59 : decode cX7_tape 59 = .ok (.iconst (-1), 1) := by decide +kernel
theorem dX7_tape_60 : decode cX7_tape 60 = .ok (.iastore, 1) := by decide +kernel
theorem dX7_tape_61 : decode cX7_tape 61 = .ok (.return_, 1) := by decide +kernel
theorem dX7_again_0 : decode cX7_again 0 = .ok (.aload_n 0, 1) := by decide +kernel
theorem dX7_again_1 : decode cX7_again 1 = .ok (.iconst 2, 1) := by decide +kernel
theorem dX7_again_2 : decode cX7_again 2 = .ok (.aload_n 0, 1) := by decide +kernel
theorem dX7_again_3 : decode cX7_again 3 = .ok (.iload_n 1, 1) := by decide +kernel
theorem dX7_again_4 : decode cX7_again 4 = .ok (.iconst 1, 1) := by decide +kernel
theorem dX7_again_5 : decode cX7_again 5 = .ok (.invokevirtual 45, 3) := by decide +kernel
theorem dX7_again_8 : decode cX7_again 8 = .ok (.iload_n 2, 1) := by decide +kernel
theorem dX7_again_9 : decode cX7_again 9 = .ok (.iload_n 3, 1) := by decide +kernel
theorem dX7_again_10 : decode cX7_again 10 = .ok (.aload_n 0, 1) := by decide +kernel
theorem dX7_again_11 : decode cX7_again 11 = .ok (.iload_n 1, 1) := by decide +kernel
theorem dX7_again_12 : decode cX7_again 12 = .ok (.iconst 4, 1) := by decide +kernel
theorem dX7_again_13 : decode cX7_again 13 = .ok (.invokevirtual 45, 3) := by decide +kernel
theorem dX7_again_16 : decode cX7_again 16 = .ok (.iconst 0, 1) := by decide +kernel
theorem dX7_again_17 : decode cX7_again 17 = .ok (.invokevirtual 49, 3) := by decide +kernel
theorem dX7_again_20 : decode cX7_again 20 = .ok (.aload_n 0, 1) := by decide +kernel
theorem dX7_again_21 : decode cX7_again 21 = .ok (.getfield 19, 3) := by decide +kernel
theorem dX7_again_24 : decode cX7_again 24 = .ok (.bipush 7, 2) := by decide +kernel
theorem dX7_again_26 : decode cX7_again 26 = .ok (.iload_n 1, 1) := by decide +kernel
theorem dX7_again_27 : decode cX7_again 27 = .ok (.iastore, 1) := by decide +kernel
theorem dX7_again_28 : decode cX7_again 28 = .ok (.return_, 1) := by decide +kernel
theorem dX7_meetsOther_0 : decode cX7_meetsOther 0 = .ok (.iconst 0, 1) := by decide +kernel
theorem dX7_meetsOther_1 : decode cX7_meetsOther 1 = .ok (.istore_n 1, 1) := by decide +kernel
theorem dX7_meetsOther_2 : decode cX7_meetsOther 2 = .ok (.iconst 0, 1) := by decide +kernel
theorem dX7_meetsOther_3 : decode cX7_meetsOther 3 = .ok (.istore_n 2, 1) := by decide +kernel
theorem dX7_meetsOther_4 : decode cX7_meetsOther 4 = .ok (.iload_n 2, 1) := by decide +kernel
theorem dX7_meetsOther_5 : decode cX7_meetsOther 5 = .ok (.aload_n 0, 1) := by decide +kernel
theorem dX7_meetsOther_6 : decode cX7_meetsOther 6 = .ok (.getfield 7, 3) := by decide +kernel
theorem dX7_meetsOther_9 : decode cX7_meetsOther 9 = .ok (.bipush 39, 2) := by decide +kernel
theorem dX7_meetsOther_11 : decode cX7_meetsOther 11 = .ok (.iaload, 1) := by decide +kernel
theorem dX7_meetsOther_12 : decode cX7_meetsOther 12 = .ok (.if_icmp .ge 78, 3) := by decide +kernel
theorem dX7_meetsOther_15 : decode cX7_meetsOther 15 = .ok (.iload_n 1, 1) := by decide +kernel
theorem dX7_meetsOther_16 : decode cX7_meetsOther 16 = .ok (.ifCond .ne 62, 3) := by decide +kernel
theorem dX7_meetsOther_19 : decode cX7_meetsOther 19 = .ok (.aload_n 0, 1) := by decide +kernel
theorem dX7_meetsOther_20 : decode cX7_meetsOther 20 = .ok (.iload_n 2, 1) := by decide +kernel
theorem dX7_meetsOther_21 : decode cX7_meetsOther 21 = .ok (.iconst 2, 1) := by decide +kernel
theorem dX7_meetsOther_22 : decode cX7_meetsOther 22 = .ok (.invokevirtual 45, 3) := by decide +kernel
theorem dX7_meetsOther_25 : decode cX7_meetsOther 25 = .ok (.aload_n 0, 1) := by decide +kernel
theorem dX7_meetsOther_26 : decode cX7_meetsOther 26 = .ok (.getfield 19, 3) := by decide +kernel
theorem dX7_meetsOther_29 : decode cX7_meetsOther 29 = .ok (.iconst 2, 1) := by decide +kernel
theorem dX7_meetsOther_30 : decode cX7_meetsOther 30 = .ok (.iaload, 1) := by decide +kernel
theorem dX7_meetsOther_31 : decode cX7_meetsOther 31 = .ok (.if_icmp .ne 51, 3) := by decide +kernel
theorem dX7_meetsOther_34 : decode cX7_meetsOther 34 = .ok (.aload_n 0, 1) := by decide +kernel
theorem dX7_meetsOther_35 : decode cX7_meetsOther 35 = .ok (.iload_n 2, 1) := by decide +kernel
theorem dX7_meetsOther_36 : decode cX7_meetsOther 36 = .ok (.iconst 3, 1) := by decide +kernel
theorem dX7_meetsOther_37 : decode cX7_meetsOther 37 = .ok (.invokevirtual 45, 3) := by decide +kernel
theorem dX7_meetsOther_40 : decode cX7_meetsOther 40 = .ok (.aload_n 0, 1) := by decide +kernel
theorem dX7_meetsOther_41 : decode cX7_meetsOther 41 = .ok (.getfield 19, 3) := by decide +kernel
theorem dX7_meetsOther_44 : decode cX7_meetsOther 44 = .ok (.iconst 3, 1) := by decide +kernel
theorem dX7_meetsOther_45 : decode cX7_meetsOther 45 = .ok (.iaload, 1) := by decide +kernel
theorem dX7_meetsOther_46 : decode cX7_meetsOther 46 = .ok (.aload_n 0, 1) := by decide +kernel
theorem dX7_meetsOther_47 : decode cX7_meetsOther 47 = .ok (.getfield 19, 3) := by decide +kernel
theorem dX7_meetsOther_50 : decode cX7_meetsOther 50 = .ok (.iconst 4, 1) := by decide +kernel
theorem dX7_meetsOther_51 : decode cX7_meetsOther 51 = .ok (.iaload, 1) := by decide +kernel
theorem dX7_meetsOther_52 : decode cX7_meetsOther 52 = .ok (.iadd, 1) := by decide +kernel
theorem dX7_meetsOther_53 : decode cX7_meetsOther 53 = .ok (.if_icmp .ge 29, 3) := by decide +kernel
theorem dX7_meetsOther_56 : decode cX7_meetsOther 56 = .ok (.aload_n 0, 1) := by decide +kernel
theorem dX7_meetsOther_57 : decode cX7_meetsOther 57 = .ok (.iload_n 2, 1) := by decide +kernel
theorem dX7_meetsOther_58 : decode cX7_meetsOther 58 = .ok (.iconst 3, 1) := by decide +kernel
theorem dX7_meetsOther_59 : decode cX7_meetsOther 59 = .ok (.invokevirtual 45, 3) := by decide +kernel
theorem dX7_meetsOther_62 : decode cX7_meetsOther 62 = .ok (.aload_n 0, 1) := by decide +kernel
theorem dX7_meetsOther_63 : decode cX7_meetsOther 63 = .ok (.iload_n 2, 1) := by decide +kernel
theorem dX7_meetsOther_64 : decode cX7_meetsOther 64 = .ok (.iconst 4, 1) := by decide +kernel
theorem dX7_meetsOther_65 : decode cX7_meetsOther 65 = .ok (.invokevirtual 45, 3) := by decide +kernel
theorem dX7_meetsOther_68 : decode cX7_meetsOther 68 = .ok (.iadd, 1) := by decide +kernel
theorem dX7_meetsOther_69 : decode cX7_meetsOther 69 = .ok (.aload_n 0, 1) := by decide +kernel
theorem dX7_meetsOther_70 : decode cX7_meetsOther 70 = .ok (.getfield 19, 3) := by decide +kernel
theorem dX7_meetsOther_73 : decode cX7_meetsOther 73 = .ok (.iconst 3, 1) := by decide +kernel
theorem dX7_meetsOther_74 : decode cX7_meetsOther 74 = .ok (.iaload, 1) := by decide +kernel
theorem dX7_meetsOther_75 : decode cX7_meetsOther 75 = .ok (.if_icmp .le 7, 3) := by decide +kernel
theorem dX7_meetsOther_78 : decode cX7_meetsOther 78 = .ok (.iconst 1, 1) := by decide +kernel
theorem dX7_meetsOther_79 : decode cX7_meetsOther 79 = .ok (.goto 4, 3) := by decide +kernel
theorem dX7_meetsOther_82 : decode cX7_meetsOther 82 = .ok (.iconst 0, 1) := by decide +kernel
theorem dX7_meetsOther_83 : decode cX7_meetsOther 83 = .ok (.istore_n 1, 1) := by decide +kernel
theorem dX7_meetsOther_84 : decode cX7_meetsOther 84 = .ok (.iinc 2 1, 3) := by decide +kernel
theorem dX7_meetsOther_87 : decode cX7_meetsOther 87 = .ok (.goto (-83), 3) := by decide +kernel
theorem dX7_meetsOther_90 : decode cX7_meetsOther 90 = .ok (.iload_n 1, 1) := by decide +kernel
theorem dX7_meetsOther_91 : decode cX7_meetsOther 91 = .ok (.ireturn, 1) := by decide +kernel
theorem dX7_isEarly_0 : decode cX7_isEarly 0 = .ok (.aload_n 0, 1) := by decide +kernel
theorem dX7_isEarly_1 : decode cX7_isEarly 1 = .ok (.getfield 19, 3) := by decide +kernel
theorem dX7_isEarly_4 : decode cX7_isEarly 4 = .ok (.iconst 0, 1) := by decide +kernel
theorem dX7_isEarly_5 : decode cX7_isEarly 5 = .ok (.iaload, 1) := by decide +kernel
theorem dX7_isEarly_6 : decode cX7_isEarly 6 = .ok (.iconst 2, 1) := by decide +kernel
theorem dX7_isEarly_7 : decode cX7_isEarly 7 = .ok (.if_icmp .eq 5, 3) := by decide +kernel
theorem dX7_isEarly_10 : decode cX7_isEarly 10 = .ok (.iconst 0, 1) := by decide +kernel
theorem dX7_isEarly_11 : decode cX7_isEarly 11 = .ok (.ireturn, 1) := by decide +kernel
theorem dX7_isEarly_12 : decode cX7_isEarly 12 = .ok (.aload_n 0, 1) := by decide +kernel
theorem dX7_isEarly_13 : decode cX7_isEarly 13 = .ok (.getfield 19, 3) := by decide +kernel
theorem dX7_isEarly_16 : decode cX7_isEarly 16 = .ok (.bipush 7, 2) := by decide +kernel
theorem dX7_isEarly_18 : decode cX7_isEarly 18 = .ok (.iaload, 1) := by decide +kernel
theorem dX7_isEarly_19 : decode cX7_isEarly 19 = .ok (.istore_n 1, 1) := by decide +kernel
theorem dX7_isEarly_20 : decode cX7_isEarly 20 = .ok (.sipush 1440, 3) := by decide +kernel
theorem dX7_isEarly_23 : decode cX7_isEarly 23 = .ok (.aload_n 0, 1) := by decide +kernel
theorem dX7_isEarly_24 : decode cX7_isEarly 24 = .ok (.iload_n 1, 1) := by decide +kernel
theorem dX7_isEarly_25 : decode cX7_isEarly 25 = .ok (.iconst 2, 1) := by decide +kernel
theorem dX7_isEarly_26 : decode cX7_isEarly 26 = .ok (.invokevirtual 45, 3) := by decide +kernel
theorem dX7_isEarly_29 : decode cX7_isEarly 29 = .ok (.imul, 1) := by decide +kernel
theorem dX7_isEarly_30 : decode cX7_isEarly 30 = .ok (.aload_n 0, 1) := by decide +kernel
theorem dX7_isEarly_31 : decode cX7_isEarly 31 = .ok (.iload_n 1, 1) := by decide +kernel
theorem dX7_isEarly_32 : decode cX7_isEarly 32 = .ok (.iconst 3, 1) := by decide +kernel
theorem dX7_isEarly_33 : decode cX7_isEarly 33 = .ok (.invokevirtual 45, 3) := by decide +kernel
theorem dX7_isEarly_36 : decode cX7_isEarly 36 = .ok (.iadd, 1) := by decide +kernel
theorem dX7_isEarly_37 : decode cX7_isEarly 37 = .ok (.aload_n 0, 1) := by decide +kernel
theorem dX7_isEarly_38 : decode cX7_isEarly 38 = .ok (.iload_n 1, 1) := by decide +kernel
theorem dX7_isEarly_39 : decode cX7_isEarly 39 = .ok (.iconst 4, 1) := by decide +kernel
theorem dX7_isEarly_40 : decode cX7_isEarly 40 = .ok (.invokevirtual 45, 3) := by decide +kernel
theorem dX7_isEarly_43 : decode cX7_isEarly 43 = .ok (.iadd, 1) := by decide +kernel
theorem dX7_isEarly_44 : decode cX7_isEarly 44 = .ok (.bipush 60, 2) := by decide +kernel
theorem dX7_isEarly_46 : decode cX7_isEarly 46 = .ok (.aload_n 0, 1) := by decide +kernel
theorem dX7_isEarly_47 : decode cX7_isEarly 47 = .ok (.getfield 7, 3) := by decide +kernel
theorem dX7_isEarly_50 : decode cX7_isEarly 50 = .ok (.iconst 4, 1) := by decide +kernel
theorem dX7_isEarly_51 : decode cX7_isEarly 51 = .ok (.iaload, 1) := by decide +kernel
theorem dX7_isEarly_52 : decode cX7_isEarly 52 = .ok (.imul, 1) := by decide +kernel
theorem dX7_isEarly_53 : decode cX7_isEarly 53 = .ok (.iadd, 1) := by decide +kernel
theorem dX7_isEarly_54 : decode cX7_isEarly 54 = .ok (.istore_n 2, 1) := by decide +kernel
theorem dX7_isEarly_55 : decode cX7_isEarly 55 = .ok (.sipush 1440, 3) := by decide +kernel
theorem dX7_isEarly_58 : decode cX7_isEarly 58 = .ok (.aload_n 0, 1) := by decide +kernel
theorem dX7_isEarly_59 : decode cX7_isEarly 59 = .ok (.getfield 19, 3) := by decide +kernel
theorem dX7_isEarly_62 : decode cX7_isEarly 62 = .ok (.iconst 2, 1) := by decide +kernel
theorem dX7_isEarly_63 : decode cX7_isEarly 63 = .ok (.iaload, 1) := by decide +kernel
theorem dX7_isEarly_64 : decode cX7_isEarly 64 = .ok (.imul, 1) := by decide +kernel
theorem dX7_isEarly_65 : decode cX7_isEarly 65 = .ok (.aload_n 0, 1) := by decide +kernel
theorem dX7_isEarly_66 : decode cX7_isEarly 66 = .ok (.getfield 19, 3) := by decide +kernel
theorem dX7_isEarly_69 : decode cX7_isEarly 69 = .ok (.iconst 3, 1) := by decide +kernel
theorem dX7_isEarly_70 : decode cX7_isEarly 70 = .ok (.iaload, 1) := by decide +kernel
theorem dX7_isEarly_71 : decode cX7_isEarly 71 = .ok (.iadd, 1) := by decide +kernel
theorem dX7_isEarly_72 : decode cX7_isEarly 72 = .ok (.iload_n 2, 1) := by decide +kernel
theorem dX7_isEarly_73 : decode cX7_isEarly 73 = .ok (.if_icmp .ge 7, 3) := by decide +kernel
theorem dX7_isEarly_76 : decode cX7_isEarly 76 = .ok (.iconst 1, 1) := by decide +kernel
theorem dX7_isEarly_77 : decode cX7_isEarly 77 = .ok (.goto 4, 3) := by decide +kernel
theorem dX7_isEarly_80 : decode cX7_isEarly 80 = .ok (.iconst 0, 1) := by decide +kernel
theorem dX7_isEarly_81 : decode cX7_isEarly 81 = .ok (.ireturn, 1) := by decide +kernel
theorem dX7_plannedWorth_0 : decode cX7_plannedWorth 0 = .ok (.iconst 0, 1) := by decide +kernel
theorem dX7_plannedWorth_1 : decode cX7_plannedWorth 1 = .ok (.istore_n 2, 1) := by decide +kernel
theorem dX7_plannedWorth_2 : decode cX7_plannedWorth 2 = .ok (.iconst 0, 1) := by decide +kernel
theorem dX7_plannedWorth_3 : decode cX7_plannedWorth 3 = .ok (.istore_n 3, 1) := by decide +kernel
theorem dX7_plannedWorth_4 : decode cX7_plannedWorth 4 = .ok (.iload_n 3, 1) := by decide +kernel
theorem dX7_plannedWorth_5 : decode cX7_plannedWorth 5 = .ok (.aload_n 0, 1) := by decide +kernel
theorem dX7_plannedWorth_6 : decode cX7_plannedWorth 6 = .ok (.getfield 7, 3) := by decide +kernel
theorem dX7_plannedWorth_9 : decode cX7_plannedWorth 9 = .ok (.bipush 39, 2) := by decide +kernel
theorem dX7_plannedWorth_11 : decode cX7_plannedWorth 11 = .ok (.iaload, 1) := by decide +kernel
theorem dX7_plannedWorth_12 : decode cX7_plannedWorth 12 = .ok (.if_icmp .ge 42, 3) := by decide +kernel
theorem dX7_plannedWorth_15 : decode cX7_plannedWorth 15 = .ok (.iload_n 2, 1) := by decide +kernel
theorem dX7_plannedWorth_16 : decode cX7_plannedWorth 16 = .ok (.aload_n 0, 1) := by decide +kernel
theorem dX7_plannedWorth_17 : decode cX7_plannedWorth 17 = .ok (.iload_n 3, 1) := by decide +kernel
theorem dX7_plannedWorth_18 : decode cX7_plannedWorth 18 = .ok (.iconst 1, 1) := by decide +kernel
theorem dX7_plannedWorth_19 : decode cX7_plannedWorth 19 = .ok (.invokevirtual 45, 3) := by decide +kernel
theorem dX7_plannedWorth_22 : decode cX7_plannedWorth 22 = .ok (.iload_n 1, 1) := by decide +kernel
theorem dX7_plannedWorth_23 : decode cX7_plannedWorth 23 = .ok (.if_icmp .ne 22, 3) := by decide +kernel
theorem dX7_plannedWorth_26 : decode cX7_plannedWorth 26 = .ok (.aload_n 0, 1) := by decide +kernel
theorem dX7_plannedWorth_27 : decode cX7_plannedWorth 27 = .ok (.aload_n 0, 1) := by decide +kernel
theorem dX7_plannedWorth_28 : decode cX7_plannedWorth 28 = .ok (.iload_n 3, 1) := by decide +kernel
theorem dX7_plannedWorth_29 : decode cX7_plannedWorth 29 = .ok (.iconst 0, 1) := by decide +kernel
theorem dX7_plannedWorth_30 : decode cX7_plannedWorth 30 = .ok (.invokevirtual 45, 3) := by decide +kernel
theorem dX7_plannedWorth_33 : decode cX7_plannedWorth 33 = .ok (.aload_n 0, 1) := by decide +kernel
theorem dX7_plannedWorth_34 : decode cX7_plannedWorth 34 = .ok (.iload_n 3, 1) := by decide +kernel
theorem dX7_plannedWorth_35 : decode cX7_plannedWorth 35 = .ok (.iconst 4, 1) := by decide +kernel
theorem dX7_plannedWorth_36 : decode cX7_plannedWorth 36 = .ok (.invokevirtual 45, 3) := by decide +kernel
theorem dX7_plannedWorth_39 : decode cX7_plannedWorth 39 = .ok (.invokevirtual 53, 3) := by decide +kernel
theorem dX7_plannedWorth_42 : decode cX7_plannedWorth 42 = .ok (.goto 4, 3) := by decide +kernel
theorem dX7_plannedWorth_45 : decode cX7_plannedWorth 45 = .ok (.iconst 0, 1) := by decide +kernel
theorem dX7_plannedWorth_46 : decode cX7_plannedWorth 46 = .ok (.iadd, 1) := by decide +kernel
theorem dX7_plannedWorth_47 : decode cX7_plannedWorth 47 = .ok (.istore_n 2, 1) := by decide +kernel
theorem dX7_plannedWorth_48 : decode cX7_plannedWorth 48 = .ok (.iinc 3 1, 3) := by decide +kernel
theorem dX7_plannedWorth_51 : decode cX7_plannedWorth 51 = .ok (.goto (-47), 3) := by decide +kernel
theorem dX7_plannedWorth_54 : decode cX7_plannedWorth 54 = .ok (.iload_n 2, 1) := by decide +kernel
theorem dX7_plannedWorth_55 : decode cX7_plannedWorth 55 = .ok (.ireturn, 1) := by decide +kernel
theorem dX7_inHour_0 : decode cX7_inHour 0 = .ok (.iload_n 0, 1) := by decide +kernel
theorem dX7_inHour_1 : decode cX7_inHour 1 = .ok (.bipush 60, 2) := by decide +kernel
theorem dX7_inHour_3 : decode cX7_inHour 3 = .ok (.iload_n 2, 1) := by decide +kernel
theorem dX7_inHour_4 : decode cX7_inHour 4 = .ok (.imul, 1) := by decide +kernel
theorem dX7_inHour_5 : decode cX7_inHour 5 = .ok (.if_icmp .le 7, 3) := by decide +kernel
theorem dX7_inHour_8 : decode cX7_inHour 8 = .ok (.iload_n 0, 1) := by decide +kernel
theorem dX7_inHour_9 : decode cX7_inHour 9 = .ok (.goto 7, 3) := by decide +kernel
theorem dX7_inHour_12 : decode cX7_inHour 12 = .ok (.bipush 60, 2) := by decide +kernel
theorem dX7_inHour_14 : decode cX7_inHour 14 = .ok (.iload_n 2, 1) := by decide +kernel
theorem dX7_inHour_15 : decode cX7_inHour 15 = .ok (.imul, 1) := by decide +kernel
theorem dX7_inHour_16 : decode cX7_inHour 16 = .ok (.istore_n 3, 1) := by decide +kernel
theorem dX7_inHour_17 : decode cX7_inHour 17 = .ok (.iload_n 0, 1) := by decide +kernel
theorem dX7_inHour_18 : decode cX7_inHour 18 = .ok (.iload_n 1, 1) := by decide +kernel
theorem dX7_inHour_19 : decode cX7_inHour 19 = .ok (.iadd, 1) := by decide +kernel
theorem dX7_inHour_20 : decode cX7_inHour 20 = .ok (.bipush 60, 2) := by decide +kernel
theorem dX7_inHour_22 : decode cX7_inHour 22 = .ok (.iload_n 2, 1) := by decide +kernel
theorem dX7_inHour_23 : decode cX7_inHour 23 = .ok (.imul, 1) := by decide +kernel
theorem dX7_inHour_24 : decode cX7_inHour 24 = .ok (.bipush 60, 2) := by decide +kernel
theorem dX7_inHour_26 : decode cX7_inHour 26 = .ok (.iadd, 1) := by decide +kernel
theorem dX7_inHour_27 : decode cX7_inHour 27 = .ok (.if_icmp .ge 9, 3) := by decide +kernel
theorem dX7_inHour_30 : decode cX7_inHour 30 = .ok (.iload_n 0, 1) := by decide +kernel
theorem dX7_inHour_31 : decode cX7_inHour 31 = .ok (.iload_n 1, 1) := by decide +kernel
theorem dX7_inHour_32 : decode cX7_inHour 32 = .ok (.iadd, 1) := by decide +kernel
theorem dX7_inHour_33 : decode cX7_inHour 33 = .ok (.goto 10, 3) := by decide +kernel
theorem dX7_inHour_36 : decode cX7_inHour 36 = .ok (.bipush 60, 2) := by decide +kernel
theorem dX7_inHour_38 : decode cX7_inHour 38 = .ok (.iload_n 2, 1) := by decide +kernel
theorem dX7_inHour_39 : decode cX7_inHour 39 = .ok (.imul, 1) := by decide +kernel
theorem dX7_inHour_40 : decode cX7_inHour 40 = .ok (.bipush 60, 2) := by decide +kernel
theorem dX7_inHour_42 : decode cX7_inHour 42 = .ok (.iadd, 1) := by decide +kernel
theorem dX7_inHour_43 : decode cX7_inHour 43 = .ok (.istore 4, 2) := by decide +kernel
theorem dX7_inHour_45 : decode cX7_inHour 45 = .ok (.iload 4, 2) := by decide +kernel
theorem dX7_inHour_47 : decode cX7_inHour 47 = .ok (.iload_n 3, 1) := by decide +kernel
theorem dX7_inHour_48 : decode cX7_inHour 48 = .ok (.if_icmp .le 10, 3) := by decide +kernel
theorem dX7_inHour_51 : decode cX7_inHour 51 = .ok (.iload 4, 2) := by decide +kernel
theorem dX7_inHour_53 : decode cX7_inHour 53 = .ok (.iload_n 3, 1) := by decide +kernel
theorem dX7_inHour_54 : decode cX7_inHour 54 = .ok (.isub, 1) := by decide +kernel
theorem dX7_inHour_55 : decode cX7_inHour 55 = .ok (.goto 4, 3) := by decide +kernel
theorem dX7_inHour_58 : decode cX7_inHour 58 = .ok (.iconst 0, 1) := by decide +kernel
theorem dX7_inHour_59 : decode cX7_inHour 59 = .ok (.ireturn, 1) := by decide +kernel
theorem dX7_planned_0 : decode cX7_planned 0 = .ok (.iconst 0, 1) := by decide +kernel
theorem dX7_planned_1 : decode cX7_planned 1 = .ok (.istore_n 3, 1) := by decide +kernel
theorem dX7_planned_2 : decode cX7_planned 2 = .ok (.iconst 0, 1) := by decide +kernel
theorem dX7_planned_3 : decode cX7_planned 3 = .ok (.istore 4, 2) := by decide +kernel
theorem dX7_planned_5 : decode cX7_planned 5 = .ok (.iload 4, 2) := by decide +kernel
theorem dX7_planned_7 : decode cX7_planned 7 = .ok (.aload_n 0, 1) := by decide +kernel
theorem dX7_planned_8 : decode cX7_planned 8 = .ok (.getfield 7, 3) := by decide +kernel
theorem dX7_planned_11 : decode cX7_planned 11 = .ok (.bipush 39, 2) := by decide +kernel
theorem dX7_planned_13 : decode cX7_planned 13 = .ok (.iaload, 1) := by decide +kernel
theorem dX7_planned_14 : decode cX7_planned 14 = .ok (.if_icmp .ge 45, 3) := by decide +kernel
theorem dX7_planned_17 : decode cX7_planned 17 = .ok (.iload_n 3, 1) := by decide +kernel
theorem dX7_planned_18 : decode cX7_planned 18 = .ok (.aload_n 0, 1) := by decide +kernel
theorem dX7_planned_19 : decode cX7_planned 19 = .ok (.iload 4, 2) := by decide +kernel
theorem dX7_planned_21 : decode cX7_planned 21 = .ok (.iconst 2, 1) := by decide +kernel
theorem dX7_planned_22 : decode cX7_planned 22 = .ok (.invokevirtual 45, 3) := by decide +kernel
theorem dX7_planned_25 : decode cX7_planned 25 = .ok (.iload_n 1, 1) := by decide +kernel
theorem dX7_planned_26 : decode cX7_planned 26 = .ok (.if_icmp .ne 24, 3) := by decide +kernel
theorem dX7_planned_29 : decode cX7_planned 29 = .ok (.aload_n 0, 1) := by decide +kernel
theorem dX7_planned_30 : decode cX7_planned 30 = .ok (.iload 4, 2) := by decide +kernel
theorem dX7_planned_32 : decode cX7_planned 32 = .ok (.iconst 3, 1) := by decide +kernel
theorem dX7_planned_33 : decode cX7_planned 33 = .ok (.invokevirtual 45, 3) := by decide +kernel
theorem dX7_planned_36 : decode cX7_planned 36 = .ok (.aload_n 0, 1) := by decide +kernel
theorem dX7_planned_37 : decode cX7_planned 37 = .ok (.iload 4, 2) := by decide +kernel
theorem dX7_planned_39 : decode cX7_planned 39 = .ok (.iconst 5, 1) := by decide +kernel
theorem dX7_planned_40 : decode cX7_planned 40 = .ok (.invokevirtual 45, 3) := by decide +kernel
theorem dX7_planned_43 : decode cX7_planned 43 = .ok (.iload_n 2, 1) := by decide +kernel
theorem dX7_planned_44 : decode cX7_planned 44 = .ok (.invokestatic 56, 3) := by decide +kernel
theorem dX7_planned_47 : decode cX7_planned 47 = .ok (.goto 4, 3) := by decide +kernel
theorem dX7_planned_50 : decode cX7_planned 50 = .ok (.iconst 0, 1) := by decide +kernel
theorem dX7_planned_51 : decode cX7_planned 51 = .ok (.iadd, 1) := by decide +kernel
theorem dX7_planned_52 : decode cX7_planned 52 = .ok (.istore_n 3, 1) := by decide +kernel
theorem dX7_planned_53 : decode cX7_planned 53 = .ok (.iinc 4 1, 3) := by decide +kernel
theorem dX7_planned_56 : decode cX7_planned 56 = .ok (.goto (-51), 3) := by decide +kernel
theorem dX7_planned_59 : decode cX7_planned 59 = .ok (.iload_n 3, 1) := by decide +kernel
theorem dX7_planned_60 : decode cX7_planned 60 = .ok (.ireturn, 1) := by decide +kernel
theorem dX7_sponsorsTooMuch_0 : decode cX7_sponsorsTooMuch 0 = .ok (.iconst 0, 1) := by decide +kernel
theorem dX7_sponsorsTooMuch_1 : decode cX7_sponsorsTooMuch 1 = .ok (.istore_n 1, 1) := by decide +kernel
theorem dX7_sponsorsTooMuch_2 : decode cX7_sponsorsTooMuch 2 = .ok (.iconst 0, 1) := by decide +kernel
theorem dX7_sponsorsTooMuch_3 : decode cX7_sponsorsTooMuch 3 = .ok (.istore_n 2, 1) := by decide +kernel
theorem dX7_sponsorsTooMuch_4 : decode cX7_sponsorsTooMuch 4 = .ok (.iload_n 2, 1) := by decide +kernel
theorem dX7_sponsorsTooMuch_5 : decode cX7_sponsorsTooMuch 5 = .ok (.bipush 24, 2) := by decide +kernel
theorem dX7_sponsorsTooMuch_7 : decode cX7_sponsorsTooMuch 7 = .ok (.if_icmp .ge 57, 3) := by decide +kernel
theorem dX7_sponsorsTooMuch_10 : decode cX7_sponsorsTooMuch 10 = .ok (.iload_n 1, 1) := by decide +kernel
theorem dX7_sponsorsTooMuch_11 : decode cX7_sponsorsTooMuch 11 = .ok (.ifCond .ne 41, 3) := by decide +kernel
theorem dX7_sponsorsTooMuch_14 : decode cX7_sponsorsTooMuch 14 = .ok (.aload_n 0, 1) := by decide +kernel
theorem dX7_sponsorsTooMuch_15 : decode cX7_sponsorsTooMuch 15 = .ok (.aload_n 0, 1) := by decide +kernel
theorem dX7_sponsorsTooMuch_16 : decode cX7_sponsorsTooMuch 16 = .ok (.getfield 19, 3) := by decide +kernel
theorem dX7_sponsorsTooMuch_19 : decode cX7_sponsorsTooMuch 19 = .ok (.iconst 2, 1) := by decide +kernel
theorem dX7_sponsorsTooMuch_20 : decode cX7_sponsorsTooMuch 20 = .ok (.iaload, 1) := by decide +kernel
theorem dX7_sponsorsTooMuch_21 : decode cX7_sponsorsTooMuch 21 = .ok (.iload_n 2, 1) := by decide +kernel
theorem dX7_sponsorsTooMuch_22 : decode cX7_sponsorsTooMuch 22 = .ok (.invokevirtual 60, 3) := by decide +kernel
theorem dX7_sponsorsTooMuch_25 : decode cX7_sponsorsTooMuch 25 = .ok (.aload_n 0, 1) := by decide +kernel
theorem dX7_sponsorsTooMuch_26 : decode cX7_sponsorsTooMuch 26 = .ok (.getfield 19, 3) := by decide +kernel
theorem dX7_sponsorsTooMuch_29 : decode cX7_sponsorsTooMuch 29 = .ok (.iconst 3, 1) := by decide +kernel
theorem dX7_sponsorsTooMuch_30 : decode cX7_sponsorsTooMuch 30 = .ok (.iaload, 1) := by decide +kernel
theorem dX7_sponsorsTooMuch_31 : decode cX7_sponsorsTooMuch 31 = .ok (.aload_n 0, 1) := by decide +kernel
theorem dX7_sponsorsTooMuch_32 : decode cX7_sponsorsTooMuch 32 = .ok (.getfield 19, 3) := by decide +kernel
theorem dX7_sponsorsTooMuch_35 : decode cX7_sponsorsTooMuch 35 = .ok (.iconst 5, 1) := by decide +kernel
theorem dX7_sponsorsTooMuch_36 : decode cX7_sponsorsTooMuch 36 = .ok (.iaload, 1) := by decide +kernel
theorem dX7_sponsorsTooMuch_37 : decode cX7_sponsorsTooMuch 37 = .ok (.iload_n 2, 1) := by decide +kernel
theorem dX7_sponsorsTooMuch_38 : decode cX7_sponsorsTooMuch 38 = .ok (.invokestatic 56, 3) := by decide +kernel
theorem dX7_sponsorsTooMuch_41 : decode cX7_sponsorsTooMuch 41 = .ok (.iadd, 1) := by decide +kernel
theorem dX7_sponsorsTooMuch_42 : decode cX7_sponsorsTooMuch 42 = .ok (.aload_n 0, 1) := by decide +kernel
theorem dX7_sponsorsTooMuch_43 : decode cX7_sponsorsTooMuch 43 = .ok (.getfield 7, 3) := by decide +kernel
theorem dX7_sponsorsTooMuch_46 : decode cX7_sponsorsTooMuch 46 = .ok (.bipush 6, 2) := by decide +kernel
theorem dX7_sponsorsTooMuch_48 : decode cX7_sponsorsTooMuch 48 = .ok (.iaload, 1) := by decide +kernel
theorem dX7_sponsorsTooMuch_49 : decode cX7_sponsorsTooMuch 49 = .ok (.if_icmp .le 7, 3) := by decide +kernel
theorem dX7_sponsorsTooMuch_52 : decode cX7_sponsorsTooMuch 52 = .ok (.iconst 1, 1) := by decide +kernel
theorem dX7_sponsorsTooMuch_53 : decode cX7_sponsorsTooMuch 53 = .ok (.goto 4, 3) := by decide +kernel
theorem dX7_sponsorsTooMuch_56 : decode cX7_sponsorsTooMuch 56 = .ok (.iconst 0, 1) := by decide +kernel
theorem dX7_sponsorsTooMuch_57 : decode cX7_sponsorsTooMuch 57 = .ok (.istore_n 1, 1) := by decide +kernel
theorem dX7_sponsorsTooMuch_58 : decode cX7_sponsorsTooMuch 58 = .ok (.iinc 2 1, 3) := by decide +kernel
theorem dX7_sponsorsTooMuch_61 : decode cX7_sponsorsTooMuch 61 = .ok (.goto (-57), 3) := by decide +kernel
theorem dX7_sponsorsTooMuch_64 : decode cX7_sponsorsTooMuch 64 = .ok (.iload_n 1, 1) := by decide +kernel
theorem dX7_sponsorsTooMuch_65 : decode cX7_sponsorsTooMuch 65 = .ok (.ireturn, 1) := by decide +kernel
theorem dX7_refusal_0 : decode cX7_refusal 0 = .ok (.aload_n 0, 1) := by decide +kernel
theorem dX7_refusal_1 : decode cX7_refusal 1 = .ok (.getfield 7, 3) := by decide +kernel
theorem dX7_refusal_4 : decode cX7_refusal 4 = .ok (.bipush 39, 2) := by decide +kernel
theorem dX7_refusal_6 : decode cX7_refusal 6 = .ok (.iaload, 1) := by decide +kernel
theorem dX7_refusal_7 : decode cX7_refusal 7 = .ok (.bipush 24, 2) := by decide +kernel
theorem dX7_refusal_9 : decode cX7_refusal 9 = .ok (.if_icmp .ne 5, 3) := by decide +kernel
theorem dX7_refusal_12 : decode cX7_refusal 12 = .ok (.iconst 1, 1) := by decide +kernel
theorem dX7_refusal_13 : decode cX7_refusal 13 = .ok (.ireturn, 1) := by decide +kernel
theorem dX7_refusal_14 : decode cX7_refusal 14 = .ok (.aload_n 0, 1) := by decide +kernel
theorem dX7_refusal_15 : decode cX7_refusal 15 = .ok (.getfield 19, 3) := by decide +kernel
theorem dX7_refusal_18 : decode cX7_refusal 18 = .ok (.iconst 0, 1) := by decide +kernel
theorem dX7_refusal_19 : decode cX7_refusal 19 = .ok (.iaload, 1) := by decide +kernel
theorem dX7_refusal_20 : decode cX7_refusal 20 = .ok (.iconst 2, 1) := by decide +kernel
theorem dX7_refusal_21 : decode cX7_refusal 21 = .ok (.if_icmp .ne 21, 3) := by decide +kernel
theorem dX7_refusal_24 : decode cX7_refusal 24 = .ok (.aload_n 0, 1) := by decide +kernel
theorem dX7_refusal_25 : decode cX7_refusal 25 = .ok (.aload_n 0, 1) := by decide +kernel
theorem dX7_refusal_26 : decode cX7_refusal 26 = .ok (.getfield 19, 3) := by decide +kernel
theorem dX7_refusal_29 : decode cX7_refusal 29 = .ok (.bipush 7, 2) := by decide +kernel
theorem dX7_refusal_31 : decode cX7_refusal 31 = .ok (.iaload, 1) := by decide +kernel
theorem dX7_refusal_32 : decode cX7_refusal 32 = .ok (.iconst 0, 1) := by decide +kernel
theorem dX7_refusal_33 : decode cX7_refusal 33 = .ok (.invokevirtual 45, 3) := by decide +kernel
theorem dX7_refusal_36 : decode cX7_refusal 36 = .ok (.iconst 2, 1) := by decide +kernel
theorem dX7_refusal_37 : decode cX7_refusal 37 = .ok (.if_icmp .ne 5, 3) := by decide +kernel
theorem dX7_refusal_40 : decode cX7_refusal 40 = .ok (.iconst 2, 1) := by decide +kernel
theorem dX7_refusal_41 : decode cX7_refusal 41 = .ok (.ireturn, 1) := by decide +kernel
theorem dX7_refusal_42 : decode cX7_refusal 42 = .ok (.aload_n 0, 1) := by decide +kernel
theorem dX7_refusal_43 : decode cX7_refusal 43 = .ok (.getfield 19, 3) := by decide +kernel
theorem dX7_refusal_46 : decode cX7_refusal 46 = .ok (.iconst 3, 1) := by decide +kernel
theorem dX7_refusal_47 : decode cX7_refusal 47 = .ok (.iaload, 1) := by decide +kernel
theorem dX7_refusal_48 : decode cX7_refusal 48 = .ok (.aload_n 0, 1) := by decide +kernel
theorem dX7_refusal_49 : decode cX7_refusal 49 = .ok (.getfield 7, 3) := by decide +kernel
theorem dX7_refusal_52 : decode cX7_refusal 52 = .ok (.iconst 0, 1) := by decide +kernel
theorem dX7_refusal_53 : decode cX7_refusal 53 = .ok (.iaload, 1) := by decide +kernel
theorem dX7_refusal_54 : decode cX7_refusal 54 = .ok (.if_icmp .lt 25, 3) := by decide +kernel
theorem dX7_refusal_57 : decode cX7_refusal 57 = .ok (.aload_n 0, 1) := by decide +kernel
theorem dX7_refusal_58 : decode cX7_refusal 58 = .ok (.getfield 19, 3) := by decide +kernel
theorem dX7_refusal_61 : decode cX7_refusal 61 = .ok (.iconst 3, 1) := by decide +kernel
theorem dX7_refusal_62 : decode cX7_refusal 62 = .ok (.iaload, 1) := by decide +kernel
theorem dX7_refusal_63 : decode cX7_refusal 63 = .ok (.aload_n 0, 1) := by decide +kernel
theorem dX7_refusal_64 : decode cX7_refusal 64 = .ok (.getfield 19, 3) := by decide +kernel
theorem dX7_refusal_67 : decode cX7_refusal 67 = .ok (.iconst 4, 1) := by decide +kernel
theorem dX7_refusal_68 : decode cX7_refusal 68 = .ok (.iaload, 1) := by decide +kernel
theorem dX7_refusal_69 : decode cX7_refusal 69 = .ok (.iadd, 1) := by decide +kernel
theorem dX7_refusal_70 : decode cX7_refusal 70 = .ok (.aload_n 0, 1) := by decide +kernel
theorem dX7_refusal_71 : decode cX7_refusal 71 = .ok (.getfield 7, 3) := by decide +kernel
theorem dX7_refusal_74 : decode cX7_refusal 74 = .ok (.iconst 1, 1) := by decide +kernel
theorem dX7_refusal_75 : decode cX7_refusal 75 = .ok (.iaload, 1) := by decide +kernel
theorem dX7_refusal_76 : decode cX7_refusal 76 = .ok (.if_icmp .le 5, 3) := by decide +kernel
theorem dX7_refusal_79 : decode cX7_refusal 79 = .ok (.iconst 3, 1) := by decide +kernel
theorem dX7_refusal_80 : decode cX7_refusal 80 = .ok (.ireturn, 1) := by decide +kernel
theorem dX7_refusal_81 : decode cX7_refusal 81 = .ok (.aload_n 0, 1) := by decide +kernel
theorem dX7_refusal_82 : decode cX7_refusal 82 = .ok (.invokevirtual 63, 3) := by decide +kernel
theorem dX7_refusal_85 : decode cX7_refusal 85 = .ok (.ifCond .eq 5, 3) := by decide +kernel
theorem dX7_refusal_88 : decode cX7_refusal 88 = .ok (.iconst 4, 1) := by decide +kernel
theorem dX7_refusal_89 : decode cX7_refusal 89 = .ok (.ireturn, 1) := by decide +kernel
theorem dX7_refusal_90 : decode cX7_refusal 90 = .ok (.aload_n 0, 1) := by decide +kernel
theorem dX7_refusal_91 : decode cX7_refusal 91 = .ok (.invokevirtual 67, 3) := by decide +kernel
theorem dX7_refusal_94 : decode cX7_refusal 94 = .ok (.ifCond .eq 5, 3) := by decide +kernel
theorem dX7_refusal_97 : decode cX7_refusal 97 = .ok (.iconst 5, 1) := by decide +kernel
theorem dX7_refusal_98 : decode cX7_refusal 98 = .ok (.ireturn, 1) := by decide +kernel
theorem dX7_refusal_99 : decode cX7_refusal 99 = .ok (.aload_n 0, 1) := by decide +kernel
theorem dX7_refusal_100 : decode cX7_refusal 100 = .ok (.getfield 19, 3) := by decide +kernel
theorem dX7_refusal_103 : decode cX7_refusal 103 = .ok (.iconst 1, 1) := by decide +kernel
theorem dX7_refusal_104 : decode cX7_refusal 104 = .ok (.iaload, 1) := by decide +kernel
theorem dX7_refusal_105 : decode cX7_refusal 105 = .ok (.istore_n 1, 1) := by decide +kernel
theorem dX7_refusal_106 : decode cX7_refusal 106 = .ok (.aload_n 0, 1) := by decide +kernel
theorem dX7_refusal_107 : decode cX7_refusal 107 = .ok (.iload_n 1, 1) := by decide +kernel
theorem dX7_refusal_108 : decode cX7_refusal 108 = .ok (.invokevirtual 70, 3) := by decide +kernel
theorem dX7_refusal_111 : decode cX7_refusal 111 = .ok (.aload_n 0, 1) := by decide +kernel
theorem dX7_refusal_112 : decode cX7_refusal 112 = .ok (.aload_n 0, 1) := by decide +kernel
theorem dX7_refusal_113 : decode cX7_refusal 113 = .ok (.getfield 19, 3) := by decide +kernel
theorem dX7_refusal_116 : decode cX7_refusal 116 = .ok (.iconst 0, 1) := by decide +kernel
theorem dX7_refusal_117 : decode cX7_refusal 117 = .ok (.iaload, 1) := by decide +kernel
theorem dX7_refusal_118 : decode cX7_refusal 118 = .ok (.aload_n 0, 1) := by decide +kernel
theorem dX7_refusal_119 : decode cX7_refusal 119 = .ok (.getfield 19, 3) := by decide +kernel
theorem dX7_refusal_122 : decode cX7_refusal 122 = .ok (.iconst 4, 1) := by decide +kernel
theorem dX7_refusal_123 : decode cX7_refusal 123 = .ok (.iaload, 1) := by decide +kernel
theorem dX7_refusal_124 : decode cX7_refusal 124 = .ok (.invokevirtual 53, 3) := by decide +kernel
theorem dX7_refusal_127 : decode cX7_refusal 127 = .ok (.iadd, 1) := by decide +kernel
theorem dX7_refusal_128 : decode cX7_refusal 128 = .ok (.aload_n 0, 1) := by decide +kernel
theorem dX7_refusal_129 : decode cX7_refusal 129 = .ok (.iload_n 1, 1) := by decide +kernel
theorem dX7_refusal_130 : decode cX7_refusal 130 = .ok (.invokevirtual 74, 3) := by decide +kernel
theorem dX7_refusal_133 : decode cX7_refusal 133 = .ok (.if_icmp .le 6, 3) := by decide +kernel
theorem dX7_refusal_136 : decode cX7_refusal 136 = .ok (.bipush 6, 2) := by decide +kernel
theorem dX7_refusal_138 : decode cX7_refusal 138 = .ok (.ireturn, 1) := by decide +kernel
theorem dX7_refusal_139 : decode cX7_refusal 139 = .ok (.aload_n 0, 1) := by decide +kernel
theorem dX7_refusal_140 : decode cX7_refusal 140 = .ok (.invokevirtual 77, 3) := by decide +kernel
theorem dX7_refusal_143 : decode cX7_refusal 143 = .ok (.ifCond .eq 8, 3) := by decide +kernel
theorem dX7_refusal_146 : decode cX7_refusal 146 = .ok (.bipush 7, 2) := by decide +kernel
theorem dX7_refusal_148 : decode cX7_refusal 148 = .ok (.goto 4, 3) := by decide +kernel
theorem dX7_refusal_151 : decode cX7_refusal 151 = .ok (.iconst 0, 1) := by decide +kernel
theorem dX7_refusal_152 : decode cX7_refusal 152 = .ok (.ireturn, 1) := by decide +kernel
theorem dX7_putIn_0 : decode cX7_putIn 0 = .ok (.aload_n 0, 1) := by decide +kernel
theorem dX7_putIn_1 : decode cX7_putIn 1 = .ok (.getfield 7, 3) := by decide +kernel
theorem dX7_putIn_4 : decode cX7_putIn 4 = .ok (.bipush 39, 2) := by decide +kernel
theorem dX7_putIn_6 : decode cX7_putIn 6 = .ok (.iaload, 1) := by decide +kernel
theorem dX7_putIn_7 : decode cX7_putIn 7 = .ok (.istore_n 1, 1) := by decide +kernel
theorem dX7_putIn_8 : decode cX7_putIn 8 = .ok (.iload_n 1, 1) := by decide +kernel
theorem dX7_putIn_9 : decode cX7_putIn 9 = .ok (.ifCond .le 78, 3) := by decide +kernel
theorem dX7_putIn_12 : decode cX7_putIn 12 = .ok (.sipush 1440, 3) := by decide +kernel
theorem dX7_putIn_15 : decode cX7_putIn 15 = .ok (.aload_n 0, 1) := by decide +kernel
theorem dX7_putIn_16 : decode cX7_putIn 16 = .ok (.iload_n 1, 1) := by decide +kernel
theorem dX7_putIn_17 : decode cX7_putIn 17 = .ok (.iconst 1, 1) := by decide +kernel
theorem dX7_putIn_18 : decode cX7_putIn 18 = .ok (.isub, 1) := by decide +kernel
theorem dX7_putIn_19 : decode cX7_putIn 19 = .ok (.iconst 2, 1) := by decide +kernel
theorem dX7_putIn_20 : decode cX7_putIn 20 = .ok (.invokevirtual 45, 3) := by decide +kernel
theorem dX7_putIn_23 : decode cX7_putIn 23 = .ok (.imul, 1) := by decide +kernel
theorem dX7_putIn_24 : decode cX7_putIn 24 = .ok (.aload_n 0, 1) := by decide +kernel
theorem dX7_putIn_25 : decode cX7_putIn 25 = .ok (.iload_n 1, 1) := by decide +kernel
theorem dX7_putIn_26 : decode cX7_putIn 26 = .ok (.iconst 1, 1) := by decide +kernel
theorem dX7_putIn_27 : decode cX7_putIn 27 = .ok (.isub, 1) := by decide +kernel
theorem dX7_putIn_28 : decode cX7_putIn 28 = .ok (.iconst 3, 1) := by decide +kernel
theorem dX7_putIn_29 : decode cX7_putIn 29 = .ok (.invokevirtual 45, 3) := by decide +kernel
theorem dX7_putIn_32 : decode cX7_putIn 32 = .ok (.iadd, 1) := by decide +kernel
theorem dX7_putIn_33 : decode cX7_putIn 33 = .ok (.sipush 1440, 3) := by decide +kernel
theorem dX7_putIn_36 : decode cX7_putIn 36 = .ok (.aload_n 0, 1) := by decide +kernel
theorem dX7_putIn_37 : decode cX7_putIn 37 = .ok (.getfield 19, 3) := by decide +kernel
theorem dX7_putIn_40 : decode cX7_putIn 40 = .ok (.iconst 2, 1) := by decide +kernel
theorem dX7_putIn_41 : decode cX7_putIn 41 = .ok (.iaload, 1) := by decide +kernel
theorem dX7_putIn_42 : decode cX7_putIn 42 = .ok (.imul, 1) := by decide +kernel
theorem dX7_putIn_43 : decode cX7_putIn 43 = .ok (.aload_n 0, 1) := by decide +kernel
theorem dX7_putIn_44 : decode cX7_putIn 44 = .ok (.getfield 19, 3) := by decide +kernel
theorem dX7_putIn_47 : decode cX7_putIn 47 = .ok (.iconst 3, 1) := by decide +kernel
theorem dX7_putIn_48 : decode cX7_putIn 48 = .ok (.iaload, 1) := by decide +kernel
theorem dX7_putIn_49 : decode cX7_putIn 49 = .ok (.iadd, 1) := by decide +kernel
theorem dX7_putIn_50 : decode cX7_putIn 50 = .ok (.if_icmp .le 37, 3) := by decide +kernel
theorem dX7_putIn_53 : decode cX7_putIn 53 = .ok (.iconst 0, 1) := by decide +kernel
theorem dX7_putIn_54 : decode cX7_putIn 54 = .ok (.istore_n 2, 1) := by decide +kernel
theorem dX7_putIn_55 : decode cX7_putIn 55 = .ok (.iload_n 2, 1) := by decide +kernel
theorem dX7_putIn_56 : decode cX7_putIn 56 = .ok (.bipush 8, 2) := by decide +kernel
theorem dX7_putIn_58 : decode cX7_putIn 58 = .ok (.if_icmp .ge 23, 3) := by decide +kernel
theorem dX7_putIn_61 : decode cX7_putIn 61 = .ok (.aload_n 0, 1) := by decide +kernel
theorem dX7_putIn_62 : decode cX7_putIn 62 = .ok (.iload_n 1, 1) := by decide +kernel
theorem dX7_putIn_63 : decode cX7_putIn 63 = .ok (.iload_n 2, 1) := by decide +kernel
theorem dX7_putIn_64 : decode cX7_putIn 64 = .ok (.aload_n 0, 1) := by decide +kernel
theorem dX7_putIn_65 : decode cX7_putIn 65 = .ok (.iload_n 1, 1) := by decide +kernel
theorem dX7_putIn_66 : decode cX7_putIn 66 = .ok (.iconst 1, 1) := by decide +kernel
theorem dX7_putIn_67 : decode cX7_putIn 67 = .ok (.isub, 1) := by decide +kernel
theorem dX7_putIn_68 : decode cX7_putIn 68 = .ok (.iload_n 2, 1) := by decide +kernel
theorem dX7_putIn_69 : decode cX7_putIn 69 = .ok (.invokevirtual 45, 3) := by decide +kernel
theorem dX7_putIn_72 : decode cX7_putIn 72 = .ok (.invokevirtual 80, 3) := by decide +kernel
theorem dX7_putIn_75 : decode cX7_putIn 75 = .ok (.iinc 2 1, 3) := by decide +kernel
theorem dX7_putIn_78 : decode cX7_putIn 78 = .ok (.goto (-23), 3) := by decide +kernel
theorem dX7_putIn_81 : decode cX7_putIn 81 = .ok (.iinc 1 (-1), 3) := by decide +kernel
theorem dX7_putIn_84 : decode cX7_putIn 84 = .ok (.goto (-76), 3) := by decide +kernel
theorem dX7_putIn_87 : decode cX7_putIn 87 = .ok (.iconst 0, 1) := by decide +kernel
theorem dX7_putIn_88 : decode cX7_putIn 88 = .ok (.istore_n 2, 1) := by decide +kernel
theorem dX7_putIn_89 : decode cX7_putIn 89 = .ok (.iload_n 2, 1) := by decide +kernel
theorem dX7_putIn_90 : decode cX7_putIn 90 = .ok (.bipush 8, 2) := by decide +kernel
theorem dX7_putIn_92 : decode cX7_putIn 92 = .ok (.if_icmp .ge 21, 3) := by decide +kernel
theorem dX7_putIn_95 : decode cX7_putIn 95 = .ok (.aload_n 0, 1) := by decide +kernel
theorem dX7_putIn_96 : decode cX7_putIn 96 = .ok (.iload_n 1, 1) := by decide +kernel
theorem dX7_putIn_97 : decode cX7_putIn 97 = .ok (.iload_n 2, 1) := by decide +kernel
theorem dX7_putIn_98 : decode cX7_putIn 98 = .ok (.aload_n 0, 1) := by decide +kernel
theorem dX7_putIn_99 : decode cX7_putIn 99 = .ok (.getfield 19, 3) := by decide +kernel
theorem dX7_putIn_102 : decode cX7_putIn 102 = .ok (.iload_n 2, 1) := by decide +kernel
theorem dX7_putIn_103 : decode cX7_putIn 103 = .ok (.iaload, 1) := by decide +kernel
theorem dX7_putIn_104 : decode cX7_putIn 104 = .ok (.invokevirtual 80, 3) := by decide +kernel
theorem dX7_putIn_107 : decode cX7_putIn 107 = .ok (.iinc 2 1, 3) := by decide +kernel
theorem dX7_putIn_110 : decode cX7_putIn 110 = .ok (.goto (-21), 3) := by decide +kernel
theorem dX7_putIn_113 : decode cX7_putIn 113 = .ok (.aload_n 0, 1) := by decide +kernel
theorem dX7_putIn_114 : decode cX7_putIn 114 = .ok (.getfield 7, 3) := by decide +kernel
theorem dX7_putIn_117 : decode cX7_putIn 117 = .ok (.bipush 39, 2) := by decide +kernel
theorem dX7_putIn_119 : decode cX7_putIn 119 = .ok (.dup2, 1) := by decide +kernel
theorem dX7_putIn_120 : decode cX7_putIn 120 = .ok (.iaload, 1) := by decide +kernel
theorem dX7_putIn_121 : decode cX7_putIn 121 = .ok (.iconst 1, 1) := by decide +kernel
theorem dX7_putIn_122 : decode cX7_putIn 122 = .ok (.iadd, 1) := by decide +kernel
theorem dX7_putIn_123 : decode cX7_putIn 123 = .ok (.iastore, 1) := by decide +kernel
theorem dX7_putIn_124 : decode cX7_putIn 124 = .ok (.iconst 0, 1) := by decide +kernel
theorem dX7_putIn_125 : decode cX7_putIn 125 = .ok (.istore_n 2, 1) := by decide +kernel
theorem dX7_putIn_126 : decode cX7_putIn 126 = .ok (.iload_n 2, 1) := by decide +kernel
theorem dX7_putIn_127 : decode cX7_putIn 127 = .ok (.aload_n 0, 1) := by decide +kernel
theorem dX7_putIn_128 : decode cX7_putIn 128 = .ok (.getfield 7, 3) := by decide +kernel
theorem dX7_putIn_131 : decode cX7_putIn 131 = .ok (.bipush 39, 2) := by decide +kernel
theorem dX7_putIn_133 : decode cX7_putIn 133 = .ok (.iaload, 1) := by decide +kernel
theorem dX7_putIn_134 : decode cX7_putIn 134 = .ok (.if_icmp .ge 36, 3) := by decide +kernel
theorem dX7_putIn_137 : decode cX7_putIn 137 = .ok (.aload_n 0, 1) := by decide +kernel
theorem dX7_putIn_138 : decode cX7_putIn 138 = .ok (.iload_n 2, 1) := by decide +kernel
theorem dX7_putIn_139 : decode cX7_putIn 139 = .ok (.bipush 7, 2) := by decide +kernel
theorem dX7_putIn_141 : decode cX7_putIn 141 = .ok (.invokevirtual 45, 3) := by decide +kernel
theorem dX7_putIn_144 : decode cX7_putIn 144 = .ok (.iload_n 1, 1) := by decide +kernel
theorem dX7_putIn_145 : decode cX7_putIn 145 = .ok (.if_icmp .lt 19, 3) := by decide +kernel
theorem dX7_putIn_148 : decode cX7_putIn 148 = .ok (.aload_n 0, 1) := by decide +kernel
theorem dX7_putIn_149 : decode cX7_putIn 149 = .ok (.iload_n 2, 1) := by decide +kernel
theorem dX7_putIn_150 : decode cX7_putIn 150 = .ok (.bipush 7, 2) := by decide +kernel
theorem dX7_putIn_152 : decode cX7_putIn 152 = .ok (.aload_n 0, 1) := by decide +kernel
theorem dX7_putIn_153 : decode cX7_putIn 153 = .ok (.iload_n 2, 1) := by decide +kernel
theorem dX7_putIn_154 : decode cX7_putIn 154 = .ok (.bipush 7, 2) := by decide +kernel
theorem dX7_putIn_156 : decode cX7_putIn 156 = .ok (.invokevirtual 45, 3) := by decide +kernel
theorem dX7_putIn_159 : decode cX7_putIn 159 = .ok (.iconst 1, 1) := by decide +kernel
theorem dX7_putIn_160 : decode cX7_putIn 160 = .ok (.iadd, 1) := by decide +kernel
theorem dX7_putIn_161 : decode cX7_putIn 161 = .ok (.invokevirtual 80, 3) := by decide +kernel
theorem dX7_putIn_164 : decode cX7_putIn 164 = .ok (.iinc 2 1, 3) := by decide +kernel
theorem dX7_putIn_167 : decode cX7_putIn 167 = .ok (.goto (-41), 3) := by decide +kernel
theorem dX7_putIn_170 : decode cX7_putIn 170 = .ok (.iload_n 1, 1) := by decide +kernel
theorem dX7_putIn_171 : decode cX7_putIn 171 = .ok (.ireturn, 1) := by decide +kernel
theorem dX7_takeOut_0 : decode cX7_takeOut 0 = .ok (.aload_n 0, 1) := by decide +kernel
theorem dX7_takeOut_1 : decode cX7_takeOut 1 = .ok (.getfield 7, 3) := by decide +kernel
theorem dX7_takeOut_4 : decode cX7_takeOut 4 = .ok (.bipush 39, 2) := by decide +kernel
theorem dX7_takeOut_6 : decode cX7_takeOut 6 = .ok (.dup2, 1) := by decide +kernel
theorem dX7_takeOut_7 : decode cX7_takeOut 7 = .ok (.iaload, 1) := by decide +kernel
theorem dX7_takeOut_8 : decode cX7_takeOut 8 = .ok (.iconst 1, 1) := by decide +kernel
theorem dX7_takeOut_9 : decode cX7_takeOut 9 = .ok (.isub, 1) := by decide +kernel
theorem dX7_takeOut_10 : decode cX7_takeOut 10 = .ok (.iastore, 1) := by decide +kernel
theorem dX7_takeOut_11 : decode cX7_takeOut 11 = .ok (.bipush 40, 2) := by decide +kernel
theorem dX7_takeOut_13 : decode cX7_takeOut 13 = .ok (.bipush 8, 2) := by decide +kernel
theorem dX7_takeOut_15 : decode cX7_takeOut 15 = .ok (.iload_n 1, 1) := by decide +kernel
theorem dX7_takeOut_16 : decode cX7_takeOut 16 = .ok (.imul, 1) := by decide +kernel
theorem dX7_takeOut_17 : decode cX7_takeOut 17 = .ok (.iadd, 1) := by decide +kernel
theorem dX7_takeOut_18 : decode cX7_takeOut 18 = .ok (.istore_n 2, 1) := by decide +kernel
theorem dX7_takeOut_19 : decode cX7_takeOut 19 = .ok (.iload_n 2, 1) := by decide +kernel
theorem dX7_takeOut_20 : decode cX7_takeOut 20 = .ok (.bipush 40, 2) := by decide +kernel
theorem dX7_takeOut_22 : decode cX7_takeOut 22 = .ok (.bipush 8, 2) := by decide +kernel
theorem dX7_takeOut_24 : decode cX7_takeOut 24 = .ok (.aload_n 0, 1) := by decide +kernel
theorem dX7_takeOut_25 : decode cX7_takeOut 25 = .ok (.getfield 7, 3) := by decide +kernel
theorem dX7_takeOut_28 : decode cX7_takeOut 28 = .ok (.bipush 39, 2) := by decide +kernel
theorem dX7_takeOut_30 : decode cX7_takeOut 30 = .ok (.iaload, 1) := by decide +kernel
theorem dX7_takeOut_31 : decode cX7_takeOut 31 = .ok (.imul, 1) := by decide +kernel
theorem dX7_takeOut_32 : decode cX7_takeOut 32 = .ok (.iadd, 1) := by decide +kernel
theorem dX7_takeOut_33 : decode cX7_takeOut 33 = .ok (.if_icmp .ge 24, 3) := by decide +kernel
theorem dX7_takeOut_36 : decode cX7_takeOut 36 = .ok (.aload_n 0, 1) := by decide +kernel
theorem dX7_takeOut_37 : decode cX7_takeOut 37 = .ok (.getfield 7, 3) := by decide +kernel
theorem dX7_takeOut_40 : decode cX7_takeOut 40 = .ok (.iload_n 2, 1) := by decide +kernel
theorem dX7_takeOut_41 : decode cX7_takeOut 41 = .ok (.aload_n 0, 1) := by decide +kernel
theorem dX7_takeOut_42 : decode cX7_takeOut 42 = .ok (.getfield 7, 3) := by decide +kernel
theorem dX7_takeOut_45 : decode cX7_takeOut 45 = .ok (.iload_n 2, 1) := by decide +kernel
theorem dX7_takeOut_46 : decode cX7_takeOut 46 = .ok (.bipush 8, 2) := by decide +kernel
theorem dX7_takeOut_48 : decode cX7_takeOut 48 = .ok (.iadd, 1) := by decide +kernel
theorem dX7_takeOut_49 : decode cX7_takeOut 49 = .ok (.iaload, 1) := by decide +kernel
theorem dX7_takeOut_50 : decode cX7_takeOut 50 = .ok (.iastore, 1) := by decide +kernel
theorem dX7_takeOut_51 : decode cX7_takeOut 51 = .ok (.iinc 2 1, 3) := by decide +kernel
theorem dX7_takeOut_54 : decode cX7_takeOut 54 = .ok (.goto (-35), 3) := by decide +kernel
theorem dX7_takeOut_57 : decode cX7_takeOut 57 = .ok (.iconst 0, 1) := by decide +kernel
theorem dX7_takeOut_58 : decode cX7_takeOut 58 = .ok (.istore_n 2, 1) := by decide +kernel
theorem dX7_takeOut_59 : decode cX7_takeOut 59 = .ok (.iload_n 2, 1) := by decide +kernel
theorem dX7_takeOut_60 : decode cX7_takeOut 60 = .ok (.aload_n 0, 1) := by decide +kernel
theorem dX7_takeOut_61 : decode cX7_takeOut 61 = .ok (.getfield 7, 3) := by decide +kernel
theorem dX7_takeOut_64 : decode cX7_takeOut 64 = .ok (.bipush 39, 2) := by decide +kernel
theorem dX7_takeOut_66 : decode cX7_takeOut 66 = .ok (.iaload, 1) := by decide +kernel
theorem dX7_takeOut_67 : decode cX7_takeOut 67 = .ok (.if_icmp .ge 36, 3) := by decide +kernel
theorem dX7_takeOut_70 : decode cX7_takeOut 70 = .ok (.aload_n 0, 1) := by decide +kernel
theorem dX7_takeOut_71 : decode cX7_takeOut 71 = .ok (.iload_n 2, 1) := by decide +kernel
theorem dX7_takeOut_72 : decode cX7_takeOut 72 = .ok (.bipush 7, 2) := by decide +kernel
theorem dX7_takeOut_74 : decode cX7_takeOut 74 = .ok (.invokevirtual 45, 3) := by decide +kernel
theorem dX7_takeOut_77 : decode cX7_takeOut 77 = .ok (.iload_n 1, 1) := by decide +kernel
theorem dX7_takeOut_78 : decode cX7_takeOut 78 = .ok (.if_icmp .le 19, 3) := by decide +kernel
theorem dX7_takeOut_81 : decode cX7_takeOut 81 = .ok (.aload_n 0, 1) := by decide +kernel
theorem dX7_takeOut_82 : decode cX7_takeOut 82 = .ok (.iload_n 2, 1) := by decide +kernel
theorem dX7_takeOut_83 : decode cX7_takeOut 83 = .ok (.bipush 7, 2) := by decide +kernel
theorem dX7_takeOut_85 : decode cX7_takeOut 85 = .ok (.aload_n 0, 1) := by decide +kernel
theorem dX7_takeOut_86 : decode cX7_takeOut 86 = .ok (.iload_n 2, 1) := by decide +kernel
theorem dX7_takeOut_87 : decode cX7_takeOut 87 = .ok (.bipush 7, 2) := by decide +kernel
theorem dX7_takeOut_89 : decode cX7_takeOut 89 = .ok (.invokevirtual 45, 3) := by decide +kernel
theorem dX7_takeOut_92 : decode cX7_takeOut 92 = .ok (.iconst 1, 1) := by decide +kernel
theorem dX7_takeOut_93 : decode cX7_takeOut 93 = .ok (.isub, 1) := by decide +kernel
theorem dX7_takeOut_94 : decode cX7_takeOut 94 = .ok (.invokevirtual 80, 3) := by decide +kernel
theorem dX7_takeOut_97 : decode cX7_takeOut 97 = .ok (.iinc 2 1, 3) := by decide +kernel
theorem dX7_takeOut_100 : decode cX7_takeOut 100 = .ok (.goto (-41), 3) := by decide +kernel
theorem dX7_takeOut_103 : decode cX7_takeOut 103 = .ok (.return_, 1) := by decide +kernel
theorem dX7_layDay_0 : decode cX7_layDay 0 = .ok (.aload_n 0, 1) := by decide +kernel
theorem dX7_layDay_1 : decode cX7_layDay 1 = .ok (.aload_n 0, 1) := by decide +kernel
theorem dX7_layDay_2 : decode cX7_layDay 2 = .ok (.getfield 7, 3) := by decide +kernel
theorem dX7_layDay_5 : decode cX7_layDay 5 = .ok (.iconst 0, 1) := by decide +kernel
theorem dX7_layDay_6 : decode cX7_layDay 6 = .ok (.iaload, 1) := by decide +kernel
theorem dX7_layDay_7 : decode cX7_layDay 7 = .ok (.putfield 84, 3) := by decide +kernel
theorem dX7_layDay_10 : decode cX7_layDay 10 = .ok (.iconst 0, 1) := by decide +kernel
theorem dX7_layDay_11 : decode cX7_layDay 11 = .ok (.istore_n 2, 1) := by decide +kernel
theorem dX7_layDay_12 : decode cX7_layDay 12 = .ok (.iload_n 2, 1) := by decide +kernel
theorem dX7_layDay_13 : decode cX7_layDay 13 = .ok (.aload_n 0, 1) := by decide +kernel
theorem dX7_layDay_14 : decode cX7_layDay 14 = .ok (.getfield 7, 3) := by decide +kernel
theorem dX7_layDay_17 : decode cX7_layDay 17 = .ok (.bipush 39, 2) := by decide +kernel
theorem dX7_layDay_19 : decode cX7_layDay 19 = .ok (.iaload, 1) := by decide +kernel
theorem dX7_layDay_20 : decode cX7_layDay 20 = .ok (.if_icmp .ge 24, 3) := by decide +kernel
theorem dX7_layDay_23 : decode cX7_layDay 23 = .ok (.aload_n 0, 1) := by decide +kernel
theorem dX7_layDay_24 : decode cX7_layDay 24 = .ok (.iload_n 2, 1) := by decide +kernel
theorem dX7_layDay_25 : decode cX7_layDay 25 = .ok (.iconst 2, 1) := by decide +kernel
theorem dX7_layDay_26 : decode cX7_layDay 26 = .ok (.invokevirtual 45, 3) := by decide +kernel
theorem dX7_layDay_29 : decode cX7_layDay 29 = .ok (.iload_n 1, 1) := by decide +kernel
theorem dX7_layDay_30 : decode cX7_layDay 30 = .ok (.if_icmp .ne 8, 3) := by decide +kernel
theorem dX7_layDay_33 : decode cX7_layDay 33 = .ok (.aload_n 0, 1) := by decide +kernel
theorem dX7_layDay_34 : decode cX7_layDay 34 = .ok (.iload_n 2, 1) := by decide +kernel
theorem dX7_layDay_35 : decode cX7_layDay 35 = .ok (.invokevirtual 87, 3) := by decide +kernel
theorem dX7_layDay_38 : decode cX7_layDay 38 = .ok (.iinc 2 1, 3) := by decide +kernel
theorem dX7_layDay_41 : decode cX7_layDay 41 = .ok (.goto (-29), 3) := by decide +kernel
theorem dX7_layDay_44 : decode cX7_layDay 44 = .ok (.return_, 1) := by decide +kernel
theorem dX7_layShow_0 : decode cX7_layShow 0 = .ok (.aload_n 0, 1) := by decide +kernel
theorem dX7_layShow_1 : decode cX7_layShow 1 = .ok (.iload_n 1, 1) := by decide +kernel
theorem dX7_layShow_2 : decode cX7_layShow 2 = .ok (.iconst 3, 1) := by decide +kernel
theorem dX7_layShow_3 : decode cX7_layShow 3 = .ok (.invokevirtual 45, 3) := by decide +kernel
theorem dX7_layShow_6 : decode cX7_layShow 6 = .ok (.aload_n 0, 1) := by decide +kernel
theorem dX7_layShow_7 : decode cX7_layShow 7 = .ok (.getfield 84, 3) := by decide +kernel
theorem dX7_layShow_10 : decode cX7_layShow 10 = .ok (.if_icmp .le 12, 3) := by decide +kernel
theorem dX7_layShow_13 : decode cX7_layShow 13 = .ok (.aload_n 0, 1) := by decide +kernel
theorem dX7_layShow_14 : decode cX7_layShow 14 = .ok (.iload_n 1, 1) := by decide +kernel
theorem dX7_layShow_15 : decode cX7_layShow 15 = .ok (.iconst 3, 1) := by decide +kernel
theorem dX7_layShow_16 : decode cX7_layShow 16 = .ok (.invokevirtual 45, 3) := by decide +kernel
theorem dX7_layShow_19 : decode cX7_layShow 19 = .ok (.goto 7, 3) := by decide +kernel
theorem dX7_layShow_22 : decode cX7_layShow 22 = .ok (.aload_n 0, 1) := by decide +kernel
theorem dX7_layShow_23 : decode cX7_layShow 23 = .ok (.getfield 84, 3) := by decide +kernel
theorem dX7_layShow_26 : decode cX7_layShow 26 = .ok (.istore_n 2, 1) := by decide +kernel
theorem dX7_layShow_27 : decode cX7_layShow 27 = .ok (.aload_n 0, 1) := by decide +kernel
theorem dX7_layShow_28 : decode cX7_layShow 28 = .ok (.getfield 7, 3) := by decide +kernel
theorem dX7_layShow_31 : decode cX7_layShow 31 = .ok (.aload_n 0, 1) := by decide +kernel
theorem dX7_layShow_32 : decode cX7_layShow 32 = .ok (.iload_n 1, 1) := by decide +kernel
theorem dX7_layShow_33 : decode cX7_layShow 33 = .ok (.iconst 0, 1) := by decide +kernel
theorem dX7_layShow_34 : decode cX7_layShow 34 = .ok (.invokevirtual 45, 3) := by decide +kernel
theorem dX7_layShow_37 : decode cX7_layShow 37 = .ok (.ifCond .ne 7, 3) := by decide +kernel
theorem dX7_layShow_40 : decode cX7_layShow 40 = .ok (.iconst 2, 1) := by decide +kernel
theorem dX7_layShow_41 : decode cX7_layShow 41 = .ok (.goto 4, 3) := by decide +kernel
theorem dX7_layShow_44 : decode cX7_layShow 44 = .ok (.iconst 3, 1) := by decide +kernel
theorem dX7_layShow_45 : decode cX7_layShow 45 = .ok (.iaload, 1) := by decide +kernel
theorem dX7_layShow_46 : decode cX7_layShow 46 = .ok (.istore_n 3, 1) := by decide +kernel
theorem dX7_layShow_47 : decode cX7_layShow 47 = .ok (.aload_n 0, 1) := by decide +kernel
theorem dX7_layShow_48 : decode cX7_layShow 48 = .ok (.getfield 28, 3) := by decide +kernel
theorem dX7_layShow_51 : decode cX7_layShow 51 = .ok (.iload_n 1, 1) := by decide +kernel
theorem dX7_layShow_52 : decode cX7_layShow 52 = .ok (.iload_n 2, 1) := by decide +kernel
theorem dX7_layShow_53 : decode cX7_layShow 53 = .ok (.aload_n 0, 1) := by decide +kernel
theorem dX7_layShow_54 : decode cX7_layShow 54 = .ok (.iload_n 1, 1) := by decide +kernel
theorem dX7_layShow_55 : decode cX7_layShow 55 = .ok (.iconst 3, 1) := by decide +kernel
theorem dX7_layShow_56 : decode cX7_layShow 56 = .ok (.invokevirtual 45, 3) := by decide +kernel
theorem dX7_layShow_59 : decode cX7_layShow 59 = .ok (.isub, 1) := by decide +kernel
theorem dX7_layShow_60 : decode cX7_layShow 60 = .ok (.iastore, 1) := by decide +kernel
theorem dX7_layShow_61 : decode cX7_layShow 61 = .ok (.aload_n 0, 1) := by decide +kernel
theorem dX7_layShow_62 : decode cX7_layShow 62 = .ok (.getfield 22, 3) := by decide +kernel
theorem dX7_layShow_65 : decode cX7_layShow 65 = .ok (.iload_n 1, 1) := by decide +kernel
theorem dX7_layShow_66 : decode cX7_layShow 66 = .ok (.iconst (-1), 1) := by decide +kernel
theorem dX7_layShow_67 : decode cX7_layShow 67 = .ok (.iastore, 1) := by decide +kernel
theorem dX7_layShow_68 : decode cX7_layShow 68 = .ok (.aload_n 0, 1) := by decide +kernel
theorem dX7_layShow_69 : decode cX7_layShow 69 = .ok (.getfield 25, 3) := by decide +kernel
theorem dX7_layShow_72 : decode cX7_layShow 72 = .ok (.iload_n 1, 1) := by decide +kernel
theorem dX7_layShow_73 : decode cX7_layShow 73 = .ok (.iconst 0, 1) := by decide +kernel
theorem dX7_layShow_74 : decode cX7_layShow 74 = .ok (.iastore, 1) := by decide +kernel
theorem dX7_layShow_75 : decode cX7_layShow 75 = .ok (.aload_n 0, 1) := by decide +kernel
theorem dX7_layShow_76 : decode cX7_layShow 76 = .ok (.getfield 31, 3) := by decide +kernel
theorem dX7_layShow_79 : decode cX7_layShow 79 = .ok (.iload_n 1, 1) := by decide +kernel
theorem dX7_layShow_80 : decode cX7_layShow 80 = .ok (.iconst 2, 1) := by decide +kernel
theorem dX7_layShow_81 : decode cX7_layShow 81 = .ok (.iastore, 1) := by decide +kernel
theorem dX7_layShow_82 : decode cX7_layShow 82 = .ok (.aload_n 0, 1) := by decide +kernel
theorem dX7_layShow_83 : decode cX7_layShow 83 = .ok (.getfield 28, 3) := by decide +kernel
theorem dX7_layShow_86 : decode cX7_layShow 86 = .ok (.iload_n 1, 1) := by decide +kernel
theorem dX7_layShow_87 : decode cX7_layShow 87 = .ok (.iaload, 1) := by decide +kernel
theorem dX7_layShow_88 : decode cX7_layShow 88 = .ok (.iload_n 3, 1) := by decide +kernel
theorem dX7_layShow_89 : decode cX7_layShow 89 = .ok (.if_icmp .gt 13, 3) := by decide +kernel
theorem dX7_layShow_92 : decode cX7_layShow 92 = .ok (.iload_n 2, 1) := by decide +kernel
theorem dX7_layShow_93 : decode cX7_layShow 93 = .ok (.aload_n 0, 1) := by decide +kernel
theorem dX7_layShow_94 : decode cX7_layShow 94 = .ok (.getfield 7, 3) := by decide +kernel
theorem dX7_layShow_97 : decode cX7_layShow 97 = .ok (.iconst 1, 1) := by decide +kernel
theorem dX7_layShow_98 : decode cX7_layShow 98 = .ok (.iaload, 1) := by decide +kernel
theorem dX7_layShow_99 : decode cX7_layShow 99 = .ok (.if_icmp .lt 4, 3) := by decide +kernel
theorem dX7_layShow_102 : decode cX7_layShow 102 = .ok (.return_, 1) := by decide +kernel
theorem dX7_layShow_103 : decode cX7_layShow 103 = .ok (.aload_n 0, 1) := by decide +kernel
theorem dX7_layShow_104 : decode cX7_layShow 104 = .ok (.iload_n 1, 1) := by decide +kernel
theorem dX7_layShow_105 : decode cX7_layShow 105 = .ok (.iconst 4, 1) := by decide +kernel
theorem dX7_layShow_106 : decode cX7_layShow 106 = .ok (.invokevirtual 45, 3) := by decide +kernel
theorem dX7_layShow_109 : decode cX7_layShow 109 = .ok (.aload_n 0, 1) := by decide +kernel
theorem dX7_layShow_110 : decode cX7_layShow 110 = .ok (.iload_n 1, 1) := by decide +kernel
theorem dX7_layShow_111 : decode cX7_layShow 111 = .ok (.bipush 6, 2) := by decide +kernel
theorem dX7_layShow_113 : decode cX7_layShow 113 = .ok (.invokevirtual 45, 3) := by decide +kernel
theorem dX7_layShow_116 : decode cX7_layShow 116 = .ok (.iadd, 1) := by decide +kernel
theorem dX7_layShow_117 : decode cX7_layShow 117 = .ok (.istore 4, 2) := by decide +kernel
theorem dX7_layShow_119 : decode cX7_layShow 119 = .ok (.iload 4, 2) := by decide +kernel
theorem dX7_layShow_121 : decode cX7_layShow 121 = .ok (.iconst 1, 1) := by decide +kernel
theorem dX7_layShow_122 : decode cX7_layShow 122 = .ok (.if_icmp .ge 7, 3) := by decide +kernel
theorem dX7_layShow_125 : decode cX7_layShow 125 = .ok (.iconst 1, 1) := by decide +kernel
theorem dX7_layShow_126 : decode cX7_layShow 126 = .ok (.goto 5, 3) := by decide +kernel
theorem dX7_layShow_129 : decode cX7_layShow 129 = .ok (.iload 4, 2) := by decide +kernel
theorem dX7_layShow_131 : decode cX7_layShow 131 = .ok (.istore 4, 2) := by decide +kernel
theorem dX7_layShow_133 : decode cX7_layShow 133 = .ok (.iload_n 2, 1) := by decide +kernel
theorem dX7_layShow_134 : decode cX7_layShow 134 = .ok (.iload 4, 2) := by decide +kernel
theorem dX7_layShow_136 : decode cX7_layShow 136 = .ok (.iadd, 1) := by decide +kernel
theorem dX7_layShow_137 : decode cX7_layShow 137 = .ok (.aload_n 0, 1) := by decide +kernel
theorem dX7_layShow_138 : decode cX7_layShow 138 = .ok (.getfield 7, 3) := by decide +kernel
theorem dX7_layShow_141 : decode cX7_layShow 141 = .ok (.iconst 1, 1) := by decide +kernel
theorem dX7_layShow_142 : decode cX7_layShow 142 = .ok (.iaload, 1) := by decide +kernel
theorem dX7_layShow_143 : decode cX7_layShow 143 = .ok (.if_icmp .le 7, 3) := by decide +kernel
theorem dX7_layShow_146 : decode cX7_layShow 146 = .ok (.iconst 1, 1) := by decide +kernel
theorem dX7_layShow_147 : decode cX7_layShow 147 = .ok (.goto 4, 3) := by decide +kernel
theorem dX7_layShow_150 : decode cX7_layShow 150 = .ok (.iconst 0, 1) := by decide +kernel
theorem dX7_layShow_151 : decode cX7_layShow 151 = .ok (.istore 5, 2) := by decide +kernel
theorem dX7_layShow_153 : decode cX7_layShow 153 = .ok (.aload_n 0, 1) := by decide +kernel
theorem dX7_layShow_154 : decode cX7_layShow 154 = .ok (.getfield 22, 3) := by decide +kernel
theorem dX7_layShow_157 : decode cX7_layShow 157 = .ok (.iload_n 1, 1) := by decide +kernel
theorem dX7_layShow_158 : decode cX7_layShow 158 = .ok (.iload_n 2, 1) := by decide +kernel
theorem dX7_layShow_159 : decode cX7_layShow 159 = .ok (.iastore, 1) := by decide +kernel
theorem dX7_layShow_160 : decode cX7_layShow 160 = .ok (.aload_n 0, 1) := by decide +kernel
theorem dX7_layShow_161 : decode cX7_layShow 161 = .ok (.getfield 25, 3) := by decide +kernel
theorem dX7_layShow_164 : decode cX7_layShow 164 = .ok (.iload_n 1, 1) := by decide +kernel
theorem dX7_layShow_165 : decode cX7_layShow 165 = .ok (.iload 5, 2) := by decide +kernel
theorem dX7_layShow_167 : decode cX7_layShow 167 = .ok (.ifCond .eq 14, 3) := by decide +kernel
theorem dX7_layShow_170 : decode cX7_layShow 170 = .ok (.aload_n 0, 1) := by decide +kernel
theorem dX7_layShow_171 : decode cX7_layShow 171 = .ok (.getfield 7, 3) := by decide +kernel
theorem dX7_layShow_174 : decode cX7_layShow 174 = .ok (.iconst 1, 1) := by decide +kernel
theorem dX7_layShow_175 : decode cX7_layShow 175 = .ok (.iaload, 1) := by decide +kernel
theorem dX7_layShow_176 : decode cX7_layShow 176 = .ok (.iload_n 2, 1) := by decide +kernel
theorem dX7_layShow_177 : decode cX7_layShow 177 = .ok (.isub, 1) := by decide +kernel
theorem dX7_layShow_178 : decode cX7_layShow 178 = .ok (.goto 5, 3) := by decide +kernel
theorem dX7_layShow_181 : decode cX7_layShow 181 = .ok (.iload 4, 2) := by decide +kernel
theorem dX7_layShow_183 : decode cX7_layShow 183 = .ok (.iastore, 1) := by decide +kernel
theorem dX7_layShow_184 : decode cX7_layShow 184 = .ok (.aload_n 0, 1) := by decide +kernel
theorem dX7_layShow_185 : decode cX7_layShow 185 = .ok (.getfield 31, 3) := by decide +kernel
theorem dX7_layShow_188 : decode cX7_layShow 188 = .ok (.iload_n 1, 1) := by decide +kernel
theorem dX7_layShow_189 : decode cX7_layShow 189 = .ok (.aload_n 0, 1) := by decide +kernel
theorem dX7_layShow_190 : decode cX7_layShow 190 = .ok (.getfield 28, 3) := by decide +kernel
theorem dX7_layShow_193 : decode cX7_layShow 193 = .ok (.iload_n 1, 1) := by decide +kernel
theorem dX7_layShow_194 : decode cX7_layShow 194 = .ok (.iaload, 1) := by decide +kernel
theorem dX7_layShow_195 : decode cX7_layShow 195 = .ok (.ifCond .le 7, 3) := by decide +kernel
theorem dX7_layShow_198 : decode cX7_layShow 198 = .ok (.iconst 1, 1) := by decide +kernel
theorem dX7_layShow_199 : decode cX7_layShow 199 = .ok (.goto 4, 3) := by decide +kernel
theorem dX7_layShow_202 : decode cX7_layShow 202 = .ok (.iconst 0, 1) := by decide +kernel
theorem dX7_layShow_203 : decode cX7_layShow 203 = .ok (.iload 5, 2) := by decide +kernel
theorem dX7_layShow_205 : decode cX7_layShow 205 = .ok (.ifCond .eq 7, 3) := by decide +kernel
theorem dX7_layShow_208 : decode cX7_layShow 208 = .ok (.iconst 4, 1) := by decide +kernel
theorem dX7_layShow_209 : decode cX7_layShow 209 = .ok (.goto 4, 3) := by decide +kernel
theorem dX7_layShow_212 : decode cX7_layShow 212 = .ok (.iconst 0, 1) := by decide +kernel
theorem dX7_layShow_213 : decode cX7_layShow 213 = .ok (.iadd, 1) := by decide +kernel
theorem dX7_layShow_214 : decode cX7_layShow 214 = .ok (.iastore, 1) := by decide +kernel
theorem dX7_layShow_215 : decode cX7_layShow 215 = .ok (.aload_n 0, 1) := by decide +kernel
theorem dX7_layShow_216 : decode cX7_layShow 216 = .ok (.iload_n 2, 1) := by decide +kernel
theorem dX7_layShow_217 : decode cX7_layShow 217 = .ok (.aload_n 0, 1) := by decide +kernel
theorem dX7_layShow_218 : decode cX7_layShow 218 = .ok (.getfield 25, 3) := by decide +kernel
theorem dX7_layShow_221 : decode cX7_layShow 221 = .ok (.iload_n 1, 1) := by decide +kernel
theorem dX7_layShow_222 : decode cX7_layShow 222 = .ok (.iaload, 1) := by decide +kernel
theorem dX7_layShow_223 : decode cX7_layShow 223 = .ok (.iadd, 1) := by decide +kernel
theorem dX7_layShow_224 : decode cX7_layShow 224 = .ok (.putfield 84, 3) := by decide +kernel
theorem dX7_layShow_227 : decode cX7_layShow 227 = .ok (.return_, 1) := by decide +kernel
theorem dX7_layAll_0 : decode cX7_layAll 0 = .ok (.iconst 0, 1) := by decide +kernel
theorem dX7_layAll_1 : decode cX7_layAll 1 = .ok (.istore_n 1, 1) := by decide +kernel
theorem dX7_layAll_2 : decode cX7_layAll 2 = .ok (.iload_n 1, 1) := by decide +kernel
theorem dX7_layAll_3 : decode cX7_layAll 3 = .ok (.bipush 7, 2) := by decide +kernel
theorem dX7_layAll_5 : decode cX7_layAll 5 = .ok (.if_icmp .ge 14, 3) := by decide +kernel
theorem dX7_layAll_8 : decode cX7_layAll 8 = .ok (.aload_n 0, 1) := by decide +kernel
theorem dX7_layAll_9 : decode cX7_layAll 9 = .ok (.iload_n 1, 1) := by decide +kernel
theorem dX7_layAll_10 : decode cX7_layAll 10 = .ok (.invokevirtual 91, 3) := by decide +kernel
theorem dX7_layAll_13 : decode cX7_layAll 13 = .ok (.iinc 1 1, 3) := by decide +kernel
theorem dX7_layAll_16 : decode cX7_layAll 16 = .ok (.goto (-14), 3) := by decide +kernel
theorem dX7_layAll_19 : decode cX7_layAll 19 = .ok (.return_, 1) := by decide +kernel
theorem dX7_aired_0 : decode cX7_aired 0 = .ok (.iconst 0, 1) := by decide +kernel
theorem dX7_aired_1 : decode cX7_aired 1 = .ok (.istore_n 3, 1) := by decide +kernel
theorem dX7_aired_2 : decode cX7_aired 2 = .ok (.iconst 0, 1) := by decide +kernel
theorem dX7_aired_3 : decode cX7_aired 3 = .ok (.istore 4, 2) := by decide +kernel
theorem dX7_aired_5 : decode cX7_aired 5 = .ok (.iload 4, 2) := by decide +kernel
theorem dX7_aired_7 : decode cX7_aired 7 = .ok (.aload_n 0, 1) := by decide +kernel
theorem dX7_aired_8 : decode cX7_aired 8 = .ok (.getfield 7, 3) := by decide +kernel
theorem dX7_aired_11 : decode cX7_aired 11 = .ok (.bipush 39, 2) := by decide +kernel
theorem dX7_aired_13 : decode cX7_aired 13 = .ok (.iaload, 1) := by decide +kernel
theorem dX7_aired_14 : decode cX7_aired 14 = .ok (.if_icmp .ge 87, 3) := by decide +kernel
theorem dX7_aired_17 : decode cX7_aired 17 = .ok (.aload_n 0, 1) := by decide +kernel
theorem dX7_aired_18 : decode cX7_aired 18 = .ok (.iload 4, 2) := by decide +kernel
theorem dX7_aired_20 : decode cX7_aired 20 = .ok (.iconst 5, 1) := by decide +kernel
theorem dX7_aired_21 : decode cX7_aired 21 = .ok (.invokevirtual 45, 3) := by decide +kernel
theorem dX7_aired_24 : decode cX7_aired 24 = .ok (.aload_n 0, 1) := by decide +kernel
theorem dX7_aired_25 : decode cX7_aired 25 = .ok (.getfield 25, 3) := by decide +kernel
theorem dX7_aired_28 : decode cX7_aired 28 = .ok (.iload 4, 2) := by decide +kernel
theorem dX7_aired_30 : decode cX7_aired 30 = .ok (.iaload, 1) := by decide +kernel
theorem dX7_aired_31 : decode cX7_aired 31 = .ok (.if_icmp .ge 13, 3) := by decide +kernel
theorem dX7_aired_34 : decode cX7_aired 34 = .ok (.aload_n 0, 1) := by decide +kernel
theorem dX7_aired_35 : decode cX7_aired 35 = .ok (.iload 4, 2) := by decide +kernel
theorem dX7_aired_37 : decode cX7_aired 37 = .ok (.iconst 5, 1) := by decide +kernel
theorem dX7_aired_38 : decode cX7_aired 38 = .ok (.invokevirtual 45, 3) := by decide +kernel
theorem dX7_aired_41 : decode cX7_aired 41 = .ok (.goto 10, 3) := by decide +kernel
theorem dX7_aired_44 : decode cX7_aired 44 = .ok (.aload_n 0, 1) := by decide +kernel
theorem dX7_aired_45 : decode cX7_aired 45 = .ok (.getfield 25, 3) := by decide +kernel
theorem dX7_aired_48 : decode cX7_aired 48 = .ok (.iload 4, 2) := by decide +kernel
theorem dX7_aired_50 : decode cX7_aired 50 = .ok (.iaload, 1) := by decide +kernel
theorem dX7_aired_51 : decode cX7_aired 51 = .ok (.istore 5, 2) := by decide +kernel
theorem dX7_aired_53 : decode cX7_aired 53 = .ok (.iload_n 3, 1) := by decide +kernel
theorem dX7_aired_54 : decode cX7_aired 54 = .ok (.aload_n 0, 1) := by decide +kernel
theorem dX7_aired_55 : decode cX7_aired 55 = .ok (.iload 4, 2) := by decide +kernel
theorem dX7_aired_57 : decode cX7_aired 57 = .ok (.iconst 2, 1) := by decide +kernel
theorem dX7_aired_58 : decode cX7_aired 58 = .ok (.invokevirtual 45, 3) := by decide +kernel
theorem dX7_aired_61 : decode cX7_aired 61 = .ok (.iload_n 1, 1) := by decide +kernel
theorem dX7_aired_62 : decode cX7_aired 62 = .ok (.if_icmp .ne 30, 3) := by decide +kernel
theorem dX7_aired_65 : decode cX7_aired 65 = .ok (.aload_n 0, 1) := by decide +kernel
theorem dX7_aired_66 : decode cX7_aired 66 = .ok (.getfield 31, 3) := by decide +kernel
theorem dX7_aired_69 : decode cX7_aired 69 = .ok (.iload 4, 2) := by decide +kernel
theorem dX7_aired_71 : decode cX7_aired 71 = .ok (.iaload, 1) := by decide +kernel
theorem dX7_aired_72 : decode cX7_aired 72 = .ok (.iconst 2, 1) := by decide +kernel
theorem dX7_aired_73 : decode cX7_aired 73 = .ok (.if_icmp .eq 19, 3) := by decide +kernel
theorem dX7_aired_76 : decode cX7_aired 76 = .ok (.aload_n 0, 1) := by decide +kernel
theorem dX7_aired_77 : decode cX7_aired 77 = .ok (.getfield 22, 3) := by decide +kernel
theorem dX7_aired_80 : decode cX7_aired 80 = .ok (.iload 4, 2) := by decide +kernel
theorem dX7_aired_82 : decode cX7_aired 82 = .ok (.iaload, 1) := by decide +kernel
theorem dX7_aired_83 : decode cX7_aired 83 = .ok (.iload 5, 2) := by decide +kernel
theorem dX7_aired_85 : decode cX7_aired 85 = .ok (.iload_n 2, 1) := by decide +kernel
theorem dX7_aired_86 : decode cX7_aired 86 = .ok (.invokestatic 56, 3) := by decide +kernel
theorem dX7_aired_89 : decode cX7_aired 89 = .ok (.goto 4, 3) := by decide +kernel
theorem dX7_aired_92 : decode cX7_aired 92 = .ok (.iconst 0, 1) := by decide +kernel
theorem dX7_aired_93 : decode cX7_aired 93 = .ok (.iadd, 1) := by decide +kernel
theorem dX7_aired_94 : decode cX7_aired 94 = .ok (.istore_n 3, 1) := by decide +kernel
theorem dX7_aired_95 : decode cX7_aired 95 = .ok (.iinc 4 1, 3) := by decide +kernel
theorem dX7_aired_98 : decode cX7_aired 98 = .ok (.goto (-93), 3) := by decide +kernel
theorem dX7_aired_101 : decode cX7_aired 101 = .ok (.iload_n 3, 1) := by decide +kernel
theorem dX7_aired_102 : decode cX7_aired 102 = .ok (.ireturn, 1) := by decide +kernel
theorem dX7_dayNow_0 : decode cX7_dayNow 0 = .ok (.aload_n 0, 1) := by decide +kernel
theorem dX7_dayNow_1 : decode cX7_dayNow 1 = .ok (.iload_n 1, 1) := by decide +kernel
theorem dX7_dayNow_2 : decode cX7_dayNow 2 = .ok (.invokevirtual 91, 3) := by decide +kernel
theorem dX7_dayNow_5 : decode cX7_dayNow 5 = .ok (.iload_n 2, 1) := by decide +kernel
theorem dX7_dayNow_6 : decode cX7_dayNow 6 = .ok (.bipush 6, 2) := by decide +kernel
theorem dX7_dayNow_8 : decode cX7_dayNow 8 = .ok (.if_icmp .ne 8, 3) := by decide +kernel
theorem dX7_dayNow_11 : decode cX7_dayNow 11 = .ok (.aload_n 0, 1) := by decide +kernel
theorem dX7_dayNow_12 : decode cX7_dayNow 12 = .ok (.getfield 84, 3) := by decide +kernel
theorem dX7_dayNow_15 : decode cX7_dayNow 15 = .ok (.ireturn, 1) := by decide +kernel
theorem dX7_dayNow_16 : decode cX7_dayNow 16 = .ok (.iconst 0, 1) := by decide +kernel
theorem dX7_dayNow_17 : decode cX7_dayNow 17 = .ok (.istore_n 3, 1) := by decide +kernel
theorem dX7_dayNow_18 : decode cX7_dayNow 18 = .ok (.iconst 0, 1) := by decide +kernel
theorem dX7_dayNow_19 : decode cX7_dayNow 19 = .ok (.istore 4, 2) := by decide +kernel
theorem dX7_dayNow_21 : decode cX7_dayNow 21 = .ok (.iload 4, 2) := by decide +kernel
theorem dX7_dayNow_23 : decode cX7_dayNow 23 = .ok (.bipush 24, 2) := by decide +kernel
theorem dX7_dayNow_25 : decode cX7_dayNow 25 = .ok (.if_icmp .ge 40, 3) := by decide +kernel
theorem dX7_dayNow_28 : decode cX7_dayNow 28 = .ok (.iload_n 2, 1) := by decide +kernel
theorem dX7_dayNow_29 : decode cX7_dayNow 29 = .ok (.bipush 7, 2) := by decide +kernel
theorem dX7_dayNow_31 : decode cX7_dayNow 31 = .ok (.if_icmp .ne 34, 3) := by decide +kernel
theorem dX7_dayNow_34 : decode cX7_dayNow 34 = .ok (.iload_n 3, 1) := by decide +kernel
theorem dX7_dayNow_35 : decode cX7_dayNow 35 = .ok (.aload_n 0, 1) := by decide +kernel
theorem dX7_dayNow_36 : decode cX7_dayNow 36 = .ok (.iload_n 1, 1) := by decide +kernel
theorem dX7_dayNow_37 : decode cX7_dayNow 37 = .ok (.iload 4, 2) := by decide +kernel
theorem dX7_dayNow_39 : decode cX7_dayNow 39 = .ok (.invokevirtual 94, 3) := by decide +kernel
theorem dX7_dayNow_42 : decode cX7_dayNow 42 = .ok (.aload_n 0, 1) := by decide +kernel
theorem dX7_dayNow_43 : decode cX7_dayNow 43 = .ok (.getfield 7, 3) := by decide +kernel
theorem dX7_dayNow_46 : decode cX7_dayNow 46 = .ok (.bipush 6, 2) := by decide +kernel
theorem dX7_dayNow_48 : decode cX7_dayNow 48 = .ok (.iaload, 1) := by decide +kernel
theorem dX7_dayNow_49 : decode cX7_dayNow 49 = .ok (.if_icmp .le 7, 3) := by decide +kernel
theorem dX7_dayNow_52 : decode cX7_dayNow 52 = .ok (.iconst 1, 1) := by decide +kernel
theorem dX7_dayNow_53 : decode cX7_dayNow 53 = .ok (.goto 4, 3) := by decide +kernel
theorem dX7_dayNow_56 : decode cX7_dayNow 56 = .ok (.iconst 0, 1) := by decide +kernel
theorem dX7_dayNow_57 : decode cX7_dayNow 57 = .ok (.iadd, 1) := by decide +kernel
theorem dX7_dayNow_58 : decode cX7_dayNow 58 = .ok (.istore_n 3, 1) := by decide +kernel
theorem dX7_dayNow_59 : decode cX7_dayNow 59 = .ok (.iinc 4 1, 3) := by decide +kernel
theorem dX7_dayNow_62 : decode cX7_dayNow 62 = .ok (.goto (-41), 3) := by decide +kernel
theorem dX7_dayNow_65 : decode cX7_dayNow 65 = .ok (.iconst 0, 1) := by decide +kernel
theorem dX7_dayNow_66 : decode cX7_dayNow 66 = .ok (.istore 4, 2) := by decide +kernel
theorem dX7_dayNow_68 : decode cX7_dayNow 68 = .ok (.iload 4, 2) := by decide +kernel
theorem dX7_dayNow_70 : decode cX7_dayNow 70 = .ok (.aload_n 0, 1) := by decide +kernel
theorem dX7_dayNow_71 : decode cX7_dayNow 71 = .ok (.getfield 7, 3) := by decide +kernel
theorem dX7_dayNow_74 : decode cX7_dayNow 74 = .ok (.bipush 39, 2) := by decide +kernel
theorem dX7_dayNow_76 : decode cX7_dayNow 76 = .ok (.iaload, 1) := by decide +kernel
theorem dX7_dayNow_77 : decode cX7_dayNow 77 = .ok (.if_icmp .ge 34, 3) := by decide +kernel
theorem dX7_dayNow_80 : decode cX7_dayNow 80 = .ok (.iload_n 3, 1) := by decide +kernel
theorem dX7_dayNow_81 : decode cX7_dayNow 81 = .ok (.aload_n 0, 1) := by decide +kernel
theorem dX7_dayNow_82 : decode cX7_dayNow 82 = .ok (.iload 4, 2) := by decide +kernel
theorem dX7_dayNow_84 : decode cX7_dayNow 84 = .ok (.iconst 2, 1) := by decide +kernel
theorem dX7_dayNow_85 : decode cX7_dayNow 85 = .ok (.invokevirtual 45, 3) := by decide +kernel
theorem dX7_dayNow_88 : decode cX7_dayNow 88 = .ok (.iload_n 1, 1) := by decide +kernel
theorem dX7_dayNow_89 : decode cX7_dayNow 89 = .ok (.if_icmp .ne 13, 3) := by decide +kernel
theorem dX7_dayNow_92 : decode cX7_dayNow 92 = .ok (.aload_n 0, 1) := by decide +kernel
theorem dX7_dayNow_93 : decode cX7_dayNow 93 = .ok (.iload 4, 2) := by decide +kernel
theorem dX7_dayNow_95 : decode cX7_dayNow 95 = .ok (.iload_n 2, 1) := by decide +kernel
theorem dX7_dayNow_96 : decode cX7_dayNow 96 = .ok (.invokevirtual 97, 3) := by decide +kernel
theorem dX7_dayNow_99 : decode cX7_dayNow 99 = .ok (.goto 4, 3) := by decide +kernel
theorem dX7_dayNow_102 : decode cX7_dayNow 102 = .ok (.iconst 0, 1) := by decide +kernel
theorem dX7_dayNow_103 : decode cX7_dayNow 103 = .ok (.iadd, 1) := by decide +kernel
theorem dX7_dayNow_104 : decode cX7_dayNow 104 = .ok (.istore_n 3, 1) := by decide +kernel
theorem dX7_dayNow_105 : decode cX7_dayNow 105 = .ok (.iinc 4 1, 3) := by decide +kernel
theorem dX7_dayNow_108 : decode cX7_dayNow 108 = .ok (.goto (-40), 3) := by decide +kernel
theorem dX7_dayNow_111 : decode cX7_dayNow 111 = .ok (.iload_n 3, 1) := by decide +kernel
theorem dX7_dayNow_112 : decode cX7_dayNow 112 = .ok (.ireturn, 1) := by decide +kernel
theorem dX7_showPart_0 : decode cX7_showPart 0 = .ok (.aload_n 0, 1) := by decide +kernel
theorem dX7_showPart_1 : decode cX7_showPart 1 = .ok (.getfield 31, 3) := by decide +kernel
theorem dX7_showPart_4 : decode cX7_showPart 4 = .ok (.iload_n 1, 1) := by decide +kernel
theorem dX7_showPart_5 : decode cX7_showPart 5 = .ok (.iaload, 1) := by decide +kernel
theorem dX7_showPart_6 : decode cX7_showPart 6 = .ok (.iconst 2, 1) := by decide +kernel
theorem dX7_showPart_7 : decode cX7_showPart 7 = .ok (.if_icmp .eq 7, 3) := by decide +kernel
theorem dX7_showPart_10 : decode cX7_showPart 10 = .ok (.iconst 1, 1) := by decide +kernel
theorem dX7_showPart_11 : decode cX7_showPart 11 = .ok (.goto 4, 3) := by decide +kernel
theorem dX7_showPart_14 : decode cX7_showPart 14 = .ok (.iconst 0, 1) := by decide +kernel
theorem dX7_showPart_15 : decode cX7_showPart 15 = .ok (.istore_n 3, 1) := by decide +kernel
theorem dX7_showPart_16 : decode cX7_showPart 16 = .ok (.iload_n 2, 1) := by decide +kernel
theorem dX7_showPart_17 : decode cX7_showPart 17 = .ok (.tableswitch 99 0 5 #[39, 41, 48, 55, 74, 84], 39) := by decide +kernel
theorem dX7_showPart_56 : decode cX7_showPart 56 = .ok (.iconst 1, 1) := by decide +kernel
theorem dX7_showPart_57 : decode cX7_showPart 57 = .ok (.ireturn, 1) := by decide +kernel
theorem dX7_showPart_58 : decode cX7_showPart 58 = .ok (.aload_n 0, 1) := by decide +kernel
theorem dX7_showPart_59 : decode cX7_showPart 59 = .ok (.iload_n 1, 1) := by decide +kernel
theorem dX7_showPart_60 : decode cX7_showPart 60 = .ok (.iconst 4, 1) := by decide +kernel
theorem dX7_showPart_61 : decode cX7_showPart 61 = .ok (.invokevirtual 45, 3) := by decide +kernel
theorem dX7_showPart_64 : decode cX7_showPart 64 = .ok (.ireturn, 1) := by decide +kernel
theorem dX7_showPart_65 : decode cX7_showPart 65 = .ok (.aload_n 0, 1) := by decide +kernel
theorem dX7_showPart_66 : decode cX7_showPart 66 = .ok (.getfield 25, 3) := by decide +kernel
theorem dX7_showPart_69 : decode cX7_showPart 69 = .ok (.iload_n 1, 1) := by decide +kernel
theorem dX7_showPart_70 : decode cX7_showPart 70 = .ok (.iaload, 1) := by decide +kernel
theorem dX7_showPart_71 : decode cX7_showPart 71 = .ok (.ireturn, 1) := by decide +kernel
theorem dX7_showPart_72 : decode cX7_showPart 72 = .ok (.iload_n 3, 1) := by decide +kernel
theorem dX7_showPart_73 : decode cX7_showPart 73 = .ok (.ifCond .eq 16, 3) := by decide +kernel
theorem dX7_showPart_76 : decode cX7_showPart 76 = .ok (.aload_n 0, 1) := by decide +kernel
theorem dX7_showPart_77 : decode cX7_showPart 77 = .ok (.getfield 28, 3) := by decide +kernel
theorem dX7_showPart_80 : decode cX7_showPart 80 = .ok (.iload_n 1, 1) := by decide +kernel
theorem dX7_showPart_81 : decode cX7_showPart 81 = .ok (.iaload, 1) := by decide +kernel
theorem dX7_showPart_82 : decode cX7_showPart 82 = .ok (.ifCond .le 7, 3) := by decide +kernel
theorem dX7_showPart_85 : decode cX7_showPart 85 = .ok (.iconst 1, 1) := by decide +kernel
theorem dX7_showPart_86 : decode cX7_showPart 86 = .ok (.goto 4, 3) := by decide +kernel
theorem dX7_showPart_89 : decode cX7_showPart 89 = .ok (.iconst 0, 1) := by decide +kernel
theorem dX7_showPart_90 : decode cX7_showPart 90 = .ok (.ireturn, 1) := by decide +kernel
theorem dX7_showPart_91 : decode cX7_showPart 91 = .ok (.iload_n 3, 1) := by decide +kernel
theorem dX7_showPart_92 : decode cX7_showPart 92 = .ok (.ifCond .eq 7, 3) := by decide +kernel
theorem dX7_showPart_95 : decode cX7_showPart 95 = .ok (.iconst 0, 1) := by decide +kernel
theorem dX7_showPart_96 : decode cX7_showPart 96 = .ok (.goto 4, 3) := by decide +kernel
theorem dX7_showPart_99 : decode cX7_showPart 99 = .ok (.iconst 1, 1) := by decide +kernel
theorem dX7_showPart_100 : decode cX7_showPart 100 = .ok (.ireturn, 1) := by decide +kernel
theorem dX7_showPart_101 : decode cX7_showPart 101 = .ok (.iload_n 3, 1) := by decide +kernel
theorem dX7_showPart_102 : decode cX7_showPart 102 = .ok (.ifCond .eq 12, 3) := by decide +kernel
theorem dX7_showPart_105 : decode cX7_showPart 105 = .ok (.aload_n 0, 1) := by decide +kernel
theorem dX7_showPart_106 : decode cX7_showPart 106 = .ok (.getfield 28, 3) := by decide +kernel
theorem dX7_showPart_109 : decode cX7_showPart 109 = .ok (.iload_n 1, 1) := by decide +kernel
theorem dX7_showPart_110 : decode cX7_showPart 110 = .ok (.iaload, 1) := by decide +kernel
theorem dX7_showPart_111 : decode cX7_showPart 111 = .ok (.goto 4, 3) := by decide +kernel
theorem dX7_showPart_114 : decode cX7_showPart 114 = .ok (.iconst 0, 1) := by decide +kernel
theorem dX7_showPart_115 : decode cX7_showPart 115 = .ok (.ireturn, 1) := by decide +kernel
theorem dX7_showPart_116 : decode cX7_showPart 116 = .ok (.iconst 0, 1) := by decide +kernel
theorem dX7_showPart_117 : decode cX7_showPart 117 = .ok (.ireturn, 1) := by decide +kernel
theorem dX7_inWeek_0 : decode cX7_inWeek 0 = .ok (.iconst 0, 1) := by decide +kernel
theorem dX7_inWeek_1 : decode cX7_inWeek 1 = .ok (.istore_n 2, 1) := by decide +kernel
theorem dX7_inWeek_2 : decode cX7_inWeek 2 = .ok (.iconst 0, 1) := by decide +kernel
theorem dX7_inWeek_3 : decode cX7_inWeek 3 = .ok (.istore_n 3, 1) := by decide +kernel
theorem dX7_inWeek_4 : decode cX7_inWeek 4 = .ok (.iload_n 3, 1) := by decide +kernel
theorem dX7_inWeek_5 : decode cX7_inWeek 5 = .ok (.bipush 7, 2) := by decide +kernel
theorem dX7_inWeek_7 : decode cX7_inWeek 7 = .ok (.if_icmp .ge 18, 3) := by decide +kernel
theorem dX7_inWeek_10 : decode cX7_inWeek 10 = .ok (.iload_n 2, 1) := by decide +kernel
theorem dX7_inWeek_11 : decode cX7_inWeek 11 = .ok (.aload_n 0, 1) := by decide +kernel
theorem dX7_inWeek_12 : decode cX7_inWeek 12 = .ok (.iload_n 3, 1) := by decide +kernel
theorem dX7_inWeek_13 : decode cX7_inWeek 13 = .ok (.iload_n 1, 1) := by decide +kernel
theorem dX7_inWeek_14 : decode cX7_inWeek 14 = .ok (.invokevirtual 100, 3) := by decide +kernel
theorem dX7_inWeek_17 : decode cX7_inWeek 17 = .ok (.iadd, 1) := by decide +kernel
theorem dX7_inWeek_18 : decode cX7_inWeek 18 = .ok (.istore_n 2, 1) := by decide +kernel
theorem dX7_inWeek_19 : decode cX7_inWeek 19 = .ok (.iinc 3 1, 3) := by decide +kernel
theorem dX7_inWeek_22 : decode cX7_inWeek 22 = .ok (.goto (-18), 3) := by decide +kernel
theorem dX7_inWeek_25 : decode cX7_inWeek 25 = .ok (.iload_n 2, 1) := by decide +kernel
theorem dX7_inWeek_26 : decode cX7_inWeek 26 = .ok (.ireturn, 1) := by decide +kernel
theorem dX7_airWorth_0 : decode cX7_airWorth 0 = .ok (.aload_n 0, 1) := by decide +kernel
theorem dX7_airWorth_1 : decode cX7_airWorth 1 = .ok (.invokevirtual 103, 3) := by decide +kernel
theorem dX7_airWorth_4 : decode cX7_airWorth 4 = .ok (.iconst 0, 1) := by decide +kernel
theorem dX7_airWorth_5 : decode cX7_airWorth 5 = .ok (.istore_n 2, 1) := by decide +kernel
theorem dX7_airWorth_6 : decode cX7_airWorth 6 = .ok (.iconst 0, 1) := by decide +kernel
theorem dX7_airWorth_7 : decode cX7_airWorth 7 = .ok (.istore_n 3, 1) := by decide +kernel
theorem dX7_airWorth_8 : decode cX7_airWorth 8 = .ok (.iload_n 3, 1) := by decide +kernel
theorem dX7_airWorth_9 : decode cX7_airWorth 9 = .ok (.aload_n 0, 1) := by decide +kernel
theorem dX7_airWorth_10 : decode cX7_airWorth 10 = .ok (.getfield 7, 3) := by decide +kernel
theorem dX7_airWorth_13 : decode cX7_airWorth 13 = .ok (.bipush 39, 2) := by decide +kernel
theorem dX7_airWorth_15 : decode cX7_airWorth 15 = .ok (.iaload, 1) := by decide +kernel
theorem dX7_airWorth_16 : decode cX7_airWorth 16 = .ok (.if_icmp .ge 42, 3) := by decide +kernel
theorem dX7_airWorth_19 : decode cX7_airWorth 19 = .ok (.iload_n 2, 1) := by decide +kernel
theorem dX7_airWorth_20 : decode cX7_airWorth 20 = .ok (.aload_n 0, 1) := by decide +kernel
theorem dX7_airWorth_21 : decode cX7_airWorth 21 = .ok (.iload_n 3, 1) := by decide +kernel
theorem dX7_airWorth_22 : decode cX7_airWorth 22 = .ok (.iconst 1, 1) := by decide +kernel
theorem dX7_airWorth_23 : decode cX7_airWorth 23 = .ok (.invokevirtual 45, 3) := by decide +kernel
theorem dX7_airWorth_26 : decode cX7_airWorth 26 = .ok (.iload_n 1, 1) := by decide +kernel
theorem dX7_airWorth_27 : decode cX7_airWorth 27 = .ok (.if_icmp .ne 22, 3) := by decide +kernel
theorem dX7_airWorth_30 : decode cX7_airWorth 30 = .ok (.aload_n 0, 1) := by decide +kernel
theorem dX7_airWorth_31 : decode cX7_airWorth 31 = .ok (.aload_n 0, 1) := by decide +kernel
theorem dX7_airWorth_32 : decode cX7_airWorth 32 = .ok (.iload_n 3, 1) := by decide +kernel
theorem dX7_airWorth_33 : decode cX7_airWorth 33 = .ok (.iconst 0, 1) := by decide +kernel
theorem dX7_airWorth_34 : decode cX7_airWorth 34 = .ok (.invokevirtual 45, 3) := by decide +kernel
theorem dX7_airWorth_37 : decode cX7_airWorth 37 = .ok (.aload_n 0, 1) := by decide +kernel
theorem dX7_airWorth_38 : decode cX7_airWorth 38 = .ok (.getfield 25, 3) := by decide +kernel
theorem dX7_airWorth_41 : decode cX7_airWorth 41 = .ok (.iload_n 3, 1) := by decide +kernel
theorem dX7_airWorth_42 : decode cX7_airWorth 42 = .ok (.iaload, 1) := by decide +kernel
theorem dX7_airWorth_43 : decode cX7_airWorth 43 = .ok (.invokevirtual 53, 3) := by decide +kernel
theorem dX7_airWorth_46 : decode cX7_airWorth 46 = .ok (.goto 4, 3) := by decide +kernel
theorem dX7_airWorth_49 : decode cX7_airWorth 49 = .ok (.iconst 0, 1) := by decide +kernel
theorem dX7_airWorth_50 : decode cX7_airWorth 50 = .ok (.iadd, 1) := by decide +kernel
theorem dX7_airWorth_51 : decode cX7_airWorth 51 = .ok (.istore_n 2, 1) := by decide +kernel
theorem dX7_airWorth_52 : decode cX7_airWorth 52 = .ok (.iinc 3 1, 3) := by decide +kernel
theorem dX7_airWorth_55 : decode cX7_airWorth 55 = .ok (.goto (-47), 3) := by decide +kernel
theorem dX7_airWorth_58 : decode cX7_airWorth 58 = .ok (.iload_n 2, 1) := by decide +kernel
theorem dX7_airWorth_59 : decode cX7_airWorth 59 = .ok (.ireturn, 1) := by decide +kernel
theorem dX7_save_0 : decode cX7_save 0 = .ok (.aload_n 0, 1) := by decide +kernel
theorem dX7_save_1 : decode cX7_save 1 = .ok (.getfield 106, 3) := by decide +kernel
theorem dX7_save_4 : decode cX7_save 4 = .ok (.bipush 6, 2) := by decide +kernel
theorem dX7_save_6 : decode cX7_save 6 = .ok (.if_icmp .ne 46, 3) := by decide +kernel
theorem dX7_save_9 : decode cX7_save 9 = .ok (.sipush 232, 3) := by decide +kernel
theorem dX7_save_12 : decode cX7_save 12 = .ok (.istore_n 1, 1) := by decide +kernel
theorem dX7_save_13 : decode cX7_save 13 = .ok (.iload_n 1, 1) := by decide +kernel
theorem dX7_save_14 : decode cX7_save 14 = .ok (.sipush 1392, 3) := by decide +kernel
theorem dX7_save_17 : decode cX7_save 17 = .ok (.if_icmp .ge 25, 3) := by decide +kernel
theorem dX7_save_20 : decode cX7_save 20 = .ok (.aload_n 0, 1) := by decide +kernel
theorem dX7_save_21 : decode cX7_save 21 = .ok (.getfield 13, 3) := by decide +kernel
theorem dX7_save_24 : decode cX7_save 24 = .ok (.iload_n 1, 1) := by decide +kernel
theorem dX7_save_25 : decode cX7_save 25 = .ok (.sipush 232, 3) := by decide +kernel
theorem dX7_save_28 : decode cX7_save 28 = .ok (.isub, 1) := by decide +kernel
theorem dX7_save_29 : decode cX7_save 29 = .ok (.aload_n 0, 1) := by decide +kernel
theorem dX7_save_30 : decode cX7_save 30 = .ok (.getfield 13, 3) := by decide +kernel
theorem dX7_save_33 : decode cX7_save 33 = .ok (.iload_n 1, 1) := by decide +kernel
theorem dX7_save_34 : decode cX7_save 34 = .ok (.iaload, 1) := by decide +kernel
theorem dX7_save_35 : decode cX7_save 35 = .ok (.iastore, 1) := by decide +kernel
theorem dX7_save_36 : decode cX7_save 36 = .ok (.iinc 1 1, 3) := by decide +kernel
theorem dX7_save_39 : decode cX7_save 39 = .ok (.goto (-26), 3) := by decide +kernel
theorem dX7_save_42 : decode cX7_save 42 = .ok (.aload_n 0, 1) := by decide +kernel
theorem dX7_save_43 : decode cX7_save 43 = .ok (.dup, 1) := by decide +kernel
theorem dX7_save_44 : decode cX7_save 44 = .ok (.getfield 106, 3) := by decide +kernel
theorem dX7_save_47 : decode cX7_save 47 = .ok (.iconst 1, 1) := by decide +kernel
theorem dX7_save_48 : decode cX7_save 48 = .ok (.isub, 1) := by decide +kernel
theorem dX7_save_49 : decode cX7_save 49 = .ok (.putfield 106, 3) := by decide +kernel
theorem dX7_save_52 : decode cX7_save 52 = .ok (.iconst 0, 1) := by decide +kernel
theorem dX7_save_53 : decode cX7_save 53 = .ok (.istore_n 1, 1) := by decide +kernel
theorem dX7_save_54 : decode cX7_save 54 = .ok (.iload_n 1, 1) := by decide +kernel
theorem dX7_save_55 : decode cX7_save 55 = .ok (.sipush 232, 3) := by decide +kernel
theorem dX7_save_58 : decode cX7_save 58 = .ok (.if_icmp .ge 30, 3) := by decide +kernel
theorem dX7_save_61 : decode cX7_save 61 = .ok (.aload_n 0, 1) := by decide +kernel
theorem dX7_save_62 : decode cX7_save 62 = .ok (.getfield 13, 3) := by decide +kernel
theorem dX7_save_65 : decode cX7_save 65 = .ok (.sipush 232, 3) := by decide +kernel
theorem dX7_save_68 : decode cX7_save 68 = .ok (.aload_n 0, 1) := by decide +kernel
theorem dX7_save_69 : decode cX7_save 69 = .ok (.getfield 106, 3) := by decide +kernel
theorem dX7_save_72 : decode cX7_save 72 = .ok (.imul, 1) := by decide +kernel
theorem dX7_save_73 : decode cX7_save 73 = .ok (.iload_n 1, 1) := by decide +kernel
theorem dX7_save_74 : decode cX7_save 74 = .ok (.iadd, 1) := by decide +kernel
theorem dX7_save_75 : decode cX7_save 75 = .ok (.aload_n 0, 1) := by decide +kernel
theorem dX7_save_76 : decode cX7_save 76 = .ok (.getfield 7, 3) := by decide +kernel
theorem dX7_save_79 : decode cX7_save 79 = .ok (.iload_n 1, 1) := by decide +kernel
theorem dX7_save_80 : decode cX7_save 80 = .ok (.iaload, 1) := by decide +kernel
theorem dX7_save_81 : decode cX7_save 81 = .ok (.iastore, 1) := by decide +kernel
theorem dX7_save_82 : decode cX7_save 82 = .ok (.iinc 1 1, 3) := by decide +kernel
theorem dX7_save_85 : decode cX7_save 85 = .ok (.goto (-31), 3) := by decide +kernel
theorem dX7_save_88 : decode cX7_save 88 = .ok (.aload_n 0, 1) := by decide +kernel
theorem dX7_save_89 : decode cX7_save 89 = .ok (.dup, 1) := by decide +kernel
theorem dX7_save_90 : decode cX7_save 90 = .ok (.getfield 106, 3) := by decide +kernel
theorem dX7_save_93 : decode cX7_save 93 = .ok (.iconst 1, 1) := by decide +kernel
theorem dX7_save_94 : decode cX7_save 94 = .ok (.iadd, 1) := by decide +kernel
theorem dX7_save_95 : decode cX7_save 95 = .ok (.putfield 106, 3) := by decide +kernel
theorem dX7_save_98 : decode cX7_save 98 = .ok (.return_, 1) := by decide +kernel
theorem dX7_undo_0 : decode cX7_undo 0 = .ok (.aload_n 0, 1) := by decide +kernel
theorem dX7_undo_1 : decode cX7_undo 1 = .ok (.aload_n 0, 1) := by decide +kernel
theorem dX7_undo_2 : decode cX7_undo 2 = .ok (.getfield 106, 3) := by decide +kernel
theorem dX7_undo_5 : decode cX7_undo 5 = .ok (.ifCond .le 7, 3) := by decide +kernel
theorem dX7_undo_8 : decode cX7_undo 8 = .ok (.iconst 0, 1) := by decide +kernel
theorem dX7_undo_9 : decode cX7_undo 9 = .ok (.goto 4, 3) := by decide +kernel
theorem dX7_undo_12 : decode cX7_undo 12 = .ok (.iconst 1, 1) := by decide +kernel
theorem dX7_undo_13 : decode cX7_undo 13 = .ok (.putfield 37, 3) := by decide +kernel
theorem dX7_undo_16 : decode cX7_undo 16 = .ok (.aload_n 0, 1) := by decide +kernel
theorem dX7_undo_17 : decode cX7_undo 17 = .ok (.getfield 37, 3) := by decide +kernel
theorem dX7_undo_20 : decode cX7_undo 20 = .ok (.ifCond .le 5, 3) := by decide +kernel
theorem dX7_undo_23 : decode cX7_undo 23 = .ok (.iconst 0, 1) := by decide +kernel
theorem dX7_undo_24 : decode cX7_undo 24 = .ok (.ireturn, 1) := by decide +kernel
theorem dX7_undo_25 : decode cX7_undo 25 = .ok (.aload_n 0, 1) := by decide +kernel
theorem dX7_undo_26 : decode cX7_undo 26 = .ok (.dup, 1) := by decide +kernel
theorem dX7_undo_27 : decode cX7_undo 27 = .ok (.getfield 106, 3) := by decide +kernel
theorem dX7_undo_30 : decode cX7_undo 30 = .ok (.iconst 1, 1) := by decide +kernel
theorem dX7_undo_31 : decode cX7_undo 31 = .ok (.isub, 1) := by decide +kernel
theorem dX7_undo_32 : decode cX7_undo 32 = .ok (.putfield 106, 3) := by decide +kernel
theorem dX7_undo_35 : decode cX7_undo 35 = .ok (.iconst 0, 1) := by decide +kernel
theorem dX7_undo_36 : decode cX7_undo 36 = .ok (.istore_n 1, 1) := by decide +kernel
theorem dX7_undo_37 : decode cX7_undo 37 = .ok (.iload_n 1, 1) := by decide +kernel
theorem dX7_undo_38 : decode cX7_undo 38 = .ok (.sipush 232, 3) := by decide +kernel
theorem dX7_undo_41 : decode cX7_undo 41 = .ok (.if_icmp .ge 30, 3) := by decide +kernel
theorem dX7_undo_44 : decode cX7_undo 44 = .ok (.aload_n 0, 1) := by decide +kernel
theorem dX7_undo_45 : decode cX7_undo 45 = .ok (.getfield 7, 3) := by decide +kernel
theorem dX7_undo_48 : decode cX7_undo 48 = .ok (.iload_n 1, 1) := by decide +kernel
theorem dX7_undo_49 : decode cX7_undo 49 = .ok (.aload_n 0, 1) := by decide +kernel
theorem dX7_undo_50 : decode cX7_undo 50 = .ok (.getfield 13, 3) := by decide +kernel
theorem dX7_undo_53 : decode cX7_undo 53 = .ok (.sipush 232, 3) := by decide +kernel
theorem dX7_undo_56 : decode cX7_undo 56 = .ok (.aload_n 0, 1) := by decide +kernel
theorem dX7_undo_57 : decode cX7_undo 57 = .ok (.getfield 106, 3) := by decide +kernel
theorem dX7_undo_60 : decode cX7_undo 60 = .ok (.imul, 1) := by decide +kernel
theorem dX7_undo_61 : decode cX7_undo 61 = .ok (.iload_n 1, 1) := by decide +kernel
theorem dX7_undo_62 : decode cX7_undo 62 = .ok (.iadd, 1) := by decide +kernel
theorem dX7_undo_63 : decode cX7_undo 63 = .ok (.iaload, 1) := by decide +kernel
theorem dX7_undo_64 : decode cX7_undo 64 = .ok (.iastore, 1) := by decide +kernel
theorem dX7_undo_65 : decode cX7_undo 65 = .ok (.iinc 1 1, 3) := by decide +kernel
theorem dX7_undo_68 : decode cX7_undo 68 = .ok (.goto (-31), 3) := by decide +kernel
theorem dX7_undo_71 : decode cX7_undo 71 = .ok (.aload_n 0, 1) := by decide +kernel
theorem dX7_undo_72 : decode cX7_undo 72 = .ok (.getfield 106, 3) := by decide +kernel
theorem dX7_undo_75 : decode cX7_undo 75 = .ok (.ireturn, 1) := by decide +kernel
theorem dX7_isValue_0 : decode cX7_isValue 0 = .ok (.iload_n 0, 1) := by decide +kernel
theorem dX7_isValue_1 : decode cX7_isValue 1 = .ok (.tableswitch 104 0 6 #[43, 52, 63, 71, 80, 88, 96], 43) := by decide +kernel
theorem dX7_isValue_44 : decode cX7_isValue 44 = .ok (.iload_n 1, 1) := by decide +kernel
theorem dX7_isValue_45 : decode cX7_isValue 45 = .ok (.iconst 0, 1) := by decide +kernel
theorem dX7_isValue_46 : decode cX7_isValue 46 = .ok (.sipush 720, 3) := by decide +kernel
theorem dX7_isValue_49 : decode cX7_isValue 49 = .ok (.invokestatic 41, 3) := by decide +kernel
theorem dX7_isValue_52 : decode cX7_isValue 52 = .ok (.ireturn, 1) := by decide +kernel
theorem dX7_isValue_53 : decode cX7_isValue 53 = .ok (.iload_n 1, 1) := by decide +kernel
theorem dX7_isValue_54 : decode cX7_isValue 54 = .ok (.sipush 721, 3) := by decide +kernel
theorem dX7_isValue_57 : decode cX7_isValue 57 = .ok (.sipush 1440, 3) := by decide +kernel
theorem dX7_isValue_60 : decode cX7_isValue 60 = .ok (.invokestatic 41, 3) := by decide +kernel
theorem dX7_isValue_63 : decode cX7_isValue 63 = .ok (.ireturn, 1) := by decide +kernel
theorem dX7_isValue_64 : decode cX7_isValue 64 = .ok (.iload_n 1, 1) := by decide +kernel
theorem dX7_isValue_65 : decode cX7_isValue 65 = .ok (.iconst 0, 1) := by decide +kernel
theorem dX7_isValue_66 : decode cX7_isValue 66 = .ok (.bipush 120, 2) := by decide +kernel
theorem dX7_isValue_68 : decode cX7_isValue 68 = .ok (.invokestatic 41, 3) := by decide +kernel
theorem dX7_isValue_71 : decode cX7_isValue 71 = .ok (.ireturn, 1) := by decide +kernel
theorem dX7_isValue_72 : decode cX7_isValue 72 = .ok (.iload_n 1, 1) := by decide +kernel
theorem dX7_isValue_73 : decode cX7_isValue 73 = .ok (.iconst 0, 1) := by decide +kernel
theorem dX7_isValue_74 : decode cX7_isValue 74 = .ok (.sipush 240, 3) := by decide +kernel
theorem dX7_isValue_77 : decode cX7_isValue 77 = .ok (.invokestatic 41, 3) := by decide +kernel
theorem dX7_isValue_80 : decode cX7_isValue 80 = .ok (.ireturn, 1) := by decide +kernel
theorem dX7_isValue_81 : decode cX7_isValue 81 = .ok (.iload_n 1, 1) := by decide +kernel
theorem dX7_isValue_82 : decode cX7_isValue 82 = .ok (.iconst 1, 1) := by decide +kernel
theorem dX7_isValue_83 : decode cX7_isValue 83 = .ok (.bipush 100, 2) := by decide +kernel
theorem dX7_isValue_85 : decode cX7_isValue 85 = .ok (.invokestatic 41, 3) := by decide +kernel
theorem dX7_isValue_88 : decode cX7_isValue 88 = .ok (.ireturn, 1) := by decide +kernel
theorem dX7_isValue_89 : decode cX7_isValue 89 = .ok (.iload_n 1, 1) := by decide +kernel
theorem dX7_isValue_90 : decode cX7_isValue 90 = .ok (.iconst 0, 1) := by decide +kernel
theorem dX7_isValue_91 : decode cX7_isValue 91 = .ok (.bipush 100, 2) := by decide +kernel
theorem dX7_isValue_93 : decode cX7_isValue 93 = .ok (.invokestatic 41, 3) := by decide +kernel
theorem dX7_isValue_96 : decode cX7_isValue 96 = .ok (.ireturn, 1) := by decide +kernel
theorem dX7_isValue_97 : decode cX7_isValue 97 = .ok (.iload_n 1, 1) := by decide +kernel
theorem dX7_isValue_98 : decode cX7_isValue 98 = .ok (.iconst 0, 1) := by decide +kernel
theorem dX7_isValue_99 : decode cX7_isValue 99 = .ok (.bipush 30, 2) := by decide +kernel
theorem dX7_isValue_101 : decode cX7_isValue 101 = .ok (.invokestatic 41, 3) := by decide +kernel
theorem dX7_isValue_104 : decode cX7_isValue 104 = .ok (.ireturn, 1) := by decide +kernel
theorem dX7_isValue_105 : decode cX7_isValue 105 = .ok (.iload_n 1, 1) := by decide +kernel
theorem dX7_isValue_106 : decode cX7_isValue 106 = .ok (.iconst 0, 1) := by decide +kernel
theorem dX7_isValue_107 : decode cX7_isValue 107 = .ok (.sipush 600, 3) := by decide +kernel
theorem dX7_isValue_110 : decode cX7_isValue 110 = .ok (.invokestatic 41, 3) := by decide +kernel
theorem dX7_isValue_113 : decode cX7_isValue 113 = .ok (.ireturn, 1) := by decide +kernel
theorem dX7_isSetting_0 : decode cX7_isSetting 0 = .ok (.iload_n 0, 1) := by decide +kernel
theorem dX7_isSetting_1 : decode cX7_isSetting 1 = .ok (.iconst 0, 1) := by decide +kernel
theorem dX7_isSetting_2 : decode cX7_isSetting 2 = .ok (.bipush 7, 2) := by decide +kernel
theorem dX7_isSetting_4 : decode cX7_isSetting 4 = .ok (.invokestatic 41, 3) := by decide +kernel
theorem dX7_isSetting_7 : decode cX7_isSetting 7 = .ok (.ireturn, 1) := by decide +kernel
theorem dX7_replaced_0 : decode cX7_replaced 0 = .ok (.aload_n 0, 1) := by decide +kernel
theorem dX7_replaced_1 : decode cX7_replaced 1 = .ok (.invokevirtual 109, 3) := by decide +kernel
theorem dX7_replaced_4 : decode cX7_replaced 4 = .ok (.aload_n 0, 1) := by decide +kernel
theorem dX7_replaced_5 : decode cX7_replaced 5 = .ok (.getfield 7, 3) := by decide +kernel
theorem dX7_replaced_8 : decode cX7_replaced 8 = .ok (.iload_n 1, 1) := by decide +kernel
theorem dX7_replaced_9 : decode cX7_replaced 9 = .ok (.iaload, 1) := by decide +kernel
theorem dX7_replaced_10 : decode cX7_replaced 10 = .ok (.istore_n 3, 1) := by decide +kernel
theorem dX7_replaced_11 : decode cX7_replaced 11 = .ok (.aload_n 0, 1) := by decide +kernel
theorem dX7_replaced_12 : decode cX7_replaced 12 = .ok (.getfield 7, 3) := by decide +kernel
theorem dX7_replaced_15 : decode cX7_replaced 15 = .ok (.iload_n 1, 1) := by decide +kernel
theorem dX7_replaced_16 : decode cX7_replaced 16 = .ok (.iload_n 2, 1) := by decide +kernel
theorem dX7_replaced_17 : decode cX7_replaced 17 = .ok (.iastore, 1) := by decide +kernel
theorem dX7_replaced_18 : decode cX7_replaced 18 = .ok (.iload_n 3, 1) := by decide +kernel
theorem dX7_replaced_19 : decode cX7_replaced 19 = .ok (.ireturn, 1) := by decide +kernel
theorem dX7_set_0 : decode cX7_set 0 = .ok (.aload_n 0, 1) := by decide +kernel
theorem dX7_set_1 : decode cX7_set 1 = .ok (.iload_n 1, 1) := by decide +kernel
theorem dX7_set_2 : decode cX7_set 2 = .ok (.invokestatic 112, 3) := by decide +kernel
theorem dX7_set_5 : decode cX7_set 5 = .ok (.ifCond .ne 7, 3) := by decide +kernel
theorem dX7_set_8 : decode cX7_set 8 = .ok (.iconst 1, 1) := by decide +kernel
theorem dX7_set_9 : decode cX7_set 9 = .ok (.goto 16, 3) := by decide +kernel
theorem dX7_set_12 : decode cX7_set 12 = .ok (.iload_n 1, 1) := by decide +kernel
theorem dX7_set_13 : decode cX7_set 13 = .ok (.iload_n 2, 1) := by decide +kernel
theorem dX7_set_14 : decode cX7_set 14 = .ok (.invokestatic 116, 3) := by decide +kernel
theorem dX7_set_17 : decode cX7_set 17 = .ok (.ifCond .eq 7, 3) := by decide +kernel
theorem dX7_set_20 : decode cX7_set 20 = .ok (.iconst 0, 1) := by decide +kernel
theorem dX7_set_21 : decode cX7_set 21 = .ok (.goto 4, 3) := by decide +kernel
theorem dX7_set_24 : decode cX7_set 24 = .ok (.iconst 2, 1) := by decide +kernel
theorem dX7_set_25 : decode cX7_set 25 = .ok (.putfield 37, 3) := by decide +kernel
theorem dX7_set_28 : decode cX7_set 28 = .ok (.aload_n 0, 1) := by decide +kernel
theorem dX7_set_29 : decode cX7_set 29 = .ok (.getfield 37, 3) := by decide +kernel
theorem dX7_set_32 : decode cX7_set 32 = .ok (.ifCond .le 7, 3) := by decide +kernel
theorem dX7_set_35 : decode cX7_set 35 = .ok (.iconst 0, 1) := by decide +kernel
theorem dX7_set_36 : decode cX7_set 36 = .ok (.goto 9, 3) := by decide +kernel
theorem dX7_set_39 : decode cX7_set 39 = .ok (.aload_n 0, 1) := by decide +kernel
theorem dX7_set_40 : decode cX7_set 40 = .ok (.iload_n 1, 1) := by decide +kernel
theorem dX7_set_41 : decode cX7_set 41 = .ok (.iload_n 2, 1) := by decide +kernel
theorem dX7_set_42 : decode cX7_set 42 = .ok (.invokevirtual 120, 3) := by decide +kernel
theorem dX7_set_45 : decode cX7_set 45 = .ok (.ireturn, 1) := by decide +kernel
theorem dX7_setQuota_0 : decode cX7_setQuota 0 = .ok (.aload_n 0, 1) := by decide +kernel
theorem dX7_setQuota_1 : decode cX7_setQuota 1 = .ok (.iload_n 1, 1) := by decide +kernel
theorem dX7_setQuota_2 : decode cX7_setQuota 2 = .ok (.invokestatic 123, 3) := by decide +kernel
theorem dX7_setQuota_5 : decode cX7_setQuota 5 = .ok (.ifCond .ne 7, 3) := by decide +kernel
theorem dX7_setQuota_8 : decode cX7_setQuota 8 = .ok (.iconst 1, 1) := by decide +kernel
theorem dX7_setQuota_9 : decode cX7_setQuota 9 = .ok (.goto 19, 3) := by decide +kernel
theorem dX7_setQuota_12 : decode cX7_setQuota 12 = .ok (.iload_n 2, 1) := by decide +kernel
theorem dX7_setQuota_13 : decode cX7_setQuota 13 = .ok (.iconst 0, 1) := by decide +kernel
theorem dX7_setQuota_14 : decode cX7_setQuota 14 = .ok (.sipush 2000, 3) := by decide +kernel
theorem dX7_setQuota_17 : decode cX7_setQuota 17 = .ok (.invokestatic 41, 3) := by decide +kernel
theorem dX7_setQuota_20 : decode cX7_setQuota 20 = .ok (.ifCond .eq 7, 3) := by decide +kernel
theorem dX7_setQuota_23 : decode cX7_setQuota 23 = .ok (.iconst 0, 1) := by decide +kernel
theorem dX7_setQuota_24 : decode cX7_setQuota 24 = .ok (.goto 4, 3) := by decide +kernel
theorem dX7_setQuota_27 : decode cX7_setQuota 27 = .ok (.iconst 2, 1) := by decide +kernel
theorem dX7_setQuota_28 : decode cX7_setQuota 28 = .ok (.putfield 37, 3) := by decide +kernel
theorem dX7_setQuota_31 : decode cX7_setQuota 31 = .ok (.aload_n 0, 1) := by decide +kernel
theorem dX7_setQuota_32 : decode cX7_setQuota 32 = .ok (.getfield 37, 3) := by decide +kernel
theorem dX7_setQuota_35 : decode cX7_setQuota 35 = .ok (.ifCond .le 7, 3) := by decide +kernel
theorem dX7_setQuota_38 : decode cX7_setQuota 38 = .ok (.iconst 0, 1) := by decide +kernel
theorem dX7_setQuota_39 : decode cX7_setQuota 39 = .ok (.goto 14, 3) := by decide +kernel
theorem dX7_setQuota_42 : decode cX7_setQuota 42 = .ok (.aload_n 0, 1) := by decide +kernel
theorem dX7_setQuota_43 : decode cX7_setQuota 43 = .ok (.bipush 8, 2) := by decide +kernel
theorem dX7_setQuota_45 : decode cX7_setQuota 45 = .ok (.iconst 5, 1) := by decide +kernel
theorem dX7_setQuota_46 : decode cX7_setQuota 46 = .ok (.iload_n 1, 1) := by decide +kernel
theorem dX7_setQuota_47 : decode cX7_setQuota 47 = .ok (.imul, 1) := by decide +kernel
theorem dX7_setQuota_48 : decode cX7_setQuota 48 = .ok (.iadd, 1) := by decide +kernel
theorem dX7_setQuota_49 : decode cX7_setQuota 49 = .ok (.iload_n 2, 1) := by decide +kernel
theorem dX7_setQuota_50 : decode cX7_setQuota 50 = .ok (.invokevirtual 120, 3) := by decide +kernel
theorem dX7_setQuota_53 : decode cX7_setQuota 53 = .ok (.ireturn, 1) := by decide +kernel
theorem dX7_areRight_0 : decode cX7_areRight 0 = .ok (.iload_n 0, 1) := by decide +kernel
theorem dX7_areRight_1 : decode cX7_areRight 1 = .ok (.invokestatic 123, 3) := by decide +kernel
theorem dX7_areRight_4 : decode cX7_areRight 4 = .ok (.ifCond .eq 45, 3) := by decide +kernel
theorem dX7_areRight_7 : decode cX7_areRight 7 = .ok (.iload_n 1, 1) := by decide +kernel
theorem dX7_areRight_8 : decode cX7_areRight 8 = .ok (.invokestatic 126, 3) := by decide +kernel
theorem dX7_areRight_11 : decode cX7_areRight 11 = .ok (.ifCond .eq 38, 3) := by decide +kernel
theorem dX7_areRight_14 : decode cX7_areRight 14 = .ok (.iload_n 2, 1) := by decide +kernel
theorem dX7_areRight_15 : decode cX7_areRight 15 = .ok (.invokestatic 129, 3) := by decide +kernel
theorem dX7_areRight_18 : decode cX7_areRight 18 = .ok (.ifCond .eq 31, 3) := by decide +kernel
theorem dX7_areRight_21 : decode cX7_areRight 21 = .ok (.iload_n 3, 1) := by decide +kernel
theorem dX7_areRight_22 : decode cX7_areRight 22 = .ok (.invokestatic 132, 3) := by decide +kernel
theorem dX7_areRight_25 : decode cX7_areRight 25 = .ok (.ifCond .eq 24, 3) := by decide +kernel
theorem dX7_areRight_28 : decode cX7_areRight 28 = .ok (.iload 4, 2) := by decide +kernel
theorem dX7_areRight_30 : decode cX7_areRight 30 = .ok (.iconst 0, 1) := by decide +kernel
theorem dX7_areRight_31 : decode cX7_areRight 31 = .ok (.bipush 30, 2) := by decide +kernel
theorem dX7_areRight_33 : decode cX7_areRight 33 = .ok (.invokestatic 41, 3) := by decide +kernel
theorem dX7_areRight_36 : decode cX7_areRight 36 = .ok (.ifCond .eq 13, 3) := by decide +kernel
theorem dX7_areRight_39 : decode cX7_areRight 39 = .ok (.iload 4, 2) := by decide +kernel
theorem dX7_areRight_41 : decode cX7_areRight 41 = .ok (.iload_n 3, 1) := by decide +kernel
theorem dX7_areRight_42 : decode cX7_areRight 42 = .ok (.if_icmp .gt 7, 3) := by decide +kernel
theorem dX7_areRight_45 : decode cX7_areRight 45 = .ok (.iconst 1, 1) := by decide +kernel
theorem dX7_areRight_46 : decode cX7_areRight 46 = .ok (.goto 4, 3) := by decide +kernel
theorem dX7_areRight_49 : decode cX7_areRight 49 = .ok (.iconst 0, 1) := by decide +kernel
theorem dX7_areRight_50 : decode cX7_areRight 50 = .ok (.ireturn, 1) := by decide +kernel
theorem dX7_added_0 : decode cX7_added 0 = .ok (.aload_n 0, 1) := by decide +kernel
theorem dX7_added_1 : decode cX7_added 1 = .ok (.aload_n 0, 1) := by decide +kernel
theorem dX7_added_2 : decode cX7_added 2 = .ok (.invokevirtual 135, 3) := by decide +kernel
theorem dX7_added_5 : decode cX7_added 5 = .ok (.putfield 139, 3) := by decide +kernel
theorem dX7_added_8 : decode cX7_added 8 = .ok (.aload_n 0, 1) := by decide +kernel
theorem dX7_added_9 : decode cX7_added 9 = .ok (.aload_n 0, 1) := by decide +kernel
theorem dX7_added_10 : decode cX7_added 10 = .ok (.getfield 139, 3) := by decide +kernel
theorem dX7_added_13 : decode cX7_added 13 = .ok (.ifCond .ne 7, 3) := by decide +kernel
theorem dX7_added_16 : decode cX7_added 16 = .ok (.iconst 0, 1) := by decide +kernel
theorem dX7_added_17 : decode cX7_added 17 = .ok (.goto 4, 3) := by decide +kernel
theorem dX7_added_20 : decode cX7_added 20 = .ok (.iload_n 1, 1) := by decide +kernel
theorem dX7_added_21 : decode cX7_added 21 = .ok (.putfield 37, 3) := by decide +kernel
theorem dX7_added_24 : decode cX7_added 24 = .ok (.aload_n 0, 1) := by decide +kernel
theorem dX7_added_25 : decode cX7_added 25 = .ok (.getfield 37, 3) := by decide +kernel
theorem dX7_added_28 : decode cX7_added 28 = .ok (.ifCond .le 5, 3) := by decide +kernel
theorem dX7_added_31 : decode cX7_added 31 = .ok (.iconst 0, 1) := by decide +kernel
theorem dX7_added_32 : decode cX7_added 32 = .ok (.ireturn, 1) := by decide +kernel
theorem dX7_added_33 : decode cX7_added 33 = .ok (.aload_n 0, 1) := by decide +kernel
theorem dX7_added_34 : decode cX7_added 34 = .ok (.invokevirtual 109, 3) := by decide +kernel
theorem dX7_added_37 : decode cX7_added 37 = .ok (.aload_n 0, 1) := by decide +kernel
theorem dX7_added_38 : decode cX7_added 38 = .ok (.invokevirtual 142, 3) := by decide +kernel
theorem dX7_added_41 : decode cX7_added 41 = .ok (.ireturn, 1) := by decide +kernel
theorem dX7_add_0 : decode cX7_add 0 = .ok (.aload_n 0, 1) := by decide +kernel
theorem dX7_add_1 : decode cX7_add 1 = .ok (.iload_n 2, 1) := by decide +kernel
theorem dX7_add_2 : decode cX7_add 2 = .ok (.iload_n 3, 1) := by decide +kernel
theorem dX7_add_3 : decode cX7_add 3 = .ok (.iload 4, 2) := by decide +kernel
theorem dX7_add_5 : decode cX7_add 5 = .ok (.iload 5, 2) := by decide +kernel
theorem dX7_add_7 : decode cX7_add 7 = .ok (.iload 6, 2) := by decide +kernel
theorem dX7_add_9 : decode cX7_add 9 = .ok (.invokestatic 145, 3) := by decide +kernel
theorem dX7_add_12 : decode cX7_add 12 = .ok (.ifCond .eq 7, 3) := by decide +kernel
theorem dX7_add_15 : decode cX7_add 15 = .ok (.iconst 0, 1) := by decide +kernel
theorem dX7_add_16 : decode cX7_add 16 = .ok (.goto 4, 3) := by decide +kernel
theorem dX7_add_19 : decode cX7_add 19 = .ok (.iconst 1, 1) := by decide +kernel
theorem dX7_add_20 : decode cX7_add 20 = .ok (.putfield 37, 3) := by decide +kernel
theorem dX7_add_23 : decode cX7_add 23 = .ok (.aload_n 0, 1) := by decide +kernel
theorem dX7_add_24 : decode cX7_add 24 = .ok (.getfield 37, 3) := by decide +kernel
theorem dX7_add_27 : decode cX7_add 27 = .ok (.ifCond .le 5, 3) := by decide +kernel
theorem dX7_add_30 : decode cX7_add 30 = .ok (.iconst 0, 1) := by decide +kernel
theorem dX7_add_31 : decode cX7_add 31 = .ok (.ireturn, 1) := by decide +kernel
theorem dX7_add_32 : decode cX7_add 32 = .ok (.aload_n 0, 1) := by decide +kernel
theorem dX7_add_33 : decode cX7_add 33 = .ok (.iload_n 1, 1) := by decide +kernel
theorem dX7_add_34 : decode cX7_add 34 = .ok (.ifCond .eq 7, 3) := by decide +kernel
theorem dX7_add_37 : decode cX7_add 37 = .ok (.iconst 0, 1) := by decide +kernel
theorem dX7_add_38 : decode cX7_add 38 = .ok (.goto 4, 3) := by decide +kernel
theorem dX7_add_41 : decode cX7_add 41 = .ok (.iconst 1, 1) := by decide +kernel
theorem dX7_add_42 : decode cX7_add 42 = .ok (.iload_n 2, 1) := by decide +kernel
theorem dX7_add_43 : decode cX7_add 43 = .ok (.iload_n 3, 1) := by decide +kernel
theorem dX7_add_44 : decode cX7_add 44 = .ok (.iload 4, 2) := by decide +kernel
theorem dX7_add_46 : decode cX7_add 46 = .ok (.iload 5, 2) := by decide +kernel
theorem dX7_add_48 : decode cX7_add 48 = .ok (.iload 6, 2) := by decide +kernel
theorem dX7_add_50 : decode cX7_add 50 = .ok (.invokevirtual 49, 3) := by decide +kernel
theorem dX7_add_53 : decode cX7_add 53 = .ok (.aload_n 0, 1) := by decide +kernel
theorem dX7_add_54 : decode cX7_add 54 = .ok (.iconst 2, 1) := by decide +kernel
theorem dX7_add_55 : decode cX7_add 55 = .ok (.invokevirtual 149, 3) := by decide +kernel
theorem dX7_add_58 : decode cX7_add 58 = .ok (.ireturn, 1) := by decide +kernel
theorem dX7_repeat_0 : decode cX7_repeat 0 = .ok (.aload_n 0, 1) := by decide +kernel
theorem dX7_repeat_1 : decode cX7_repeat 1 = .ok (.aload_n 0, 1) := by decide +kernel
theorem dX7_repeat_2 : decode cX7_repeat 2 = .ok (.iload_n 1, 1) := by decide +kernel
theorem dX7_repeat_3 : decode cX7_repeat 3 = .ok (.invokevirtual 152, 3) := by decide +kernel
theorem dX7_repeat_6 : decode cX7_repeat 6 = .ok (.ifCond .ne 7, 3) := by decide +kernel
theorem dX7_repeat_9 : decode cX7_repeat 9 = .ok (.iconst 1, 1) := by decide +kernel
theorem dX7_repeat_10 : decode cX7_repeat 10 = .ok (.goto 22, 3) := by decide +kernel
theorem dX7_repeat_13 : decode cX7_repeat 13 = .ok (.iload_n 2, 1) := by decide +kernel
theorem dX7_repeat_14 : decode cX7_repeat 14 = .ok (.invokestatic 126, 3) := by decide +kernel
theorem dX7_repeat_17 : decode cX7_repeat 17 = .ok (.ifCond .eq 14, 3) := by decide +kernel
theorem dX7_repeat_20 : decode cX7_repeat 20 = .ok (.iload_n 3, 1) := by decide +kernel
theorem dX7_repeat_21 : decode cX7_repeat 21 = .ok (.invokestatic 129, 3) := by decide +kernel
theorem dX7_repeat_24 : decode cX7_repeat 24 = .ok (.ifCond .eq 7, 3) := by decide +kernel
theorem dX7_repeat_27 : decode cX7_repeat 27 = .ok (.iconst 0, 1) := by decide +kernel
theorem dX7_repeat_28 : decode cX7_repeat 28 = .ok (.goto 4, 3) := by decide +kernel
theorem dX7_repeat_31 : decode cX7_repeat 31 = .ok (.iconst 2, 1) := by decide +kernel
theorem dX7_repeat_32 : decode cX7_repeat 32 = .ok (.putfield 37, 3) := by decide +kernel
theorem dX7_repeat_35 : decode cX7_repeat 35 = .ok (.aload_n 0, 1) := by decide +kernel
theorem dX7_repeat_36 : decode cX7_repeat 36 = .ok (.getfield 37, 3) := by decide +kernel
theorem dX7_repeat_39 : decode cX7_repeat 39 = .ok (.ifCond .le 5, 3) := by decide +kernel
theorem dX7_repeat_42 : decode cX7_repeat 42 = .ok (.iconst 0, 1) := by decide +kernel
theorem dX7_repeat_43 : decode cX7_repeat 43 = .ok (.ireturn, 1) := by decide +kernel
theorem dX7_repeat_44 : decode cX7_repeat 44 = .ok (.aload_n 0, 1) := by decide +kernel
theorem dX7_repeat_45 : decode cX7_repeat 45 = .ok (.iload_n 1, 1) := by decide +kernel
theorem dX7_repeat_46 : decode cX7_repeat 46 = .ok (.iload_n 2, 1) := by decide +kernel
theorem dX7_repeat_47 : decode cX7_repeat 47 = .ok (.iload_n 3, 1) := by decide +kernel
theorem dX7_repeat_48 : decode cX7_repeat 48 = .ok (.invokevirtual 155, 3) := by decide +kernel
theorem dX7_repeat_51 : decode cX7_repeat 51 = .ok (.aload_n 0, 1) := by decide +kernel
theorem dX7_repeat_52 : decode cX7_repeat 52 = .ok (.iconst 3, 1) := by decide +kernel
theorem dX7_repeat_53 : decode cX7_repeat 53 = .ok (.invokevirtual 149, 3) := by decide +kernel
theorem dX7_repeat_56 : decode cX7_repeat 56 = .ok (.ireturn, 1) := by decide +kernel
theorem dX7_remove_0 : decode cX7_remove 0 = .ok (.aload_n 0, 1) := by decide +kernel
theorem dX7_remove_1 : decode cX7_remove 1 = .ok (.aload_n 0, 1) := by decide +kernel
theorem dX7_remove_2 : decode cX7_remove 2 = .ok (.iload_n 1, 1) := by decide +kernel
theorem dX7_remove_3 : decode cX7_remove 3 = .ok (.invokevirtual 152, 3) := by decide +kernel
theorem dX7_remove_6 : decode cX7_remove 6 = .ok (.ifCond .eq 7, 3) := by decide +kernel
theorem dX7_remove_9 : decode cX7_remove 9 = .ok (.iconst 0, 1) := by decide +kernel
theorem dX7_remove_10 : decode cX7_remove 10 = .ok (.goto 4, 3) := by decide +kernel
theorem dX7_remove_13 : decode cX7_remove 13 = .ok (.iconst 1, 1) := by decide +kernel
theorem dX7_remove_14 : decode cX7_remove 14 = .ok (.putfield 37, 3) := by decide +kernel
theorem dX7_remove_17 : decode cX7_remove 17 = .ok (.aload_n 0, 1) := by decide +kernel
theorem dX7_remove_18 : decode cX7_remove 18 = .ok (.getfield 37, 3) := by decide +kernel
theorem dX7_remove_21 : decode cX7_remove 21 = .ok (.ifCond .le 5, 3) := by decide +kernel
theorem dX7_remove_24 : decode cX7_remove 24 = .ok (.iconst 0, 1) := by decide +kernel
theorem dX7_remove_25 : decode cX7_remove 25 = .ok (.ireturn, 1) := by decide +kernel
theorem dX7_remove_26 : decode cX7_remove 26 = .ok (.aload_n 0, 1) := by decide +kernel
theorem dX7_remove_27 : decode cX7_remove 27 = .ok (.invokevirtual 109, 3) := by decide +kernel
theorem dX7_remove_30 : decode cX7_remove 30 = .ok (.iconst 1, 1) := by decide +kernel
theorem dX7_remove_31 : decode cX7_remove 31 = .ok (.istore_n 2, 1) := by decide +kernel
theorem dX7_remove_32 : decode cX7_remove 32 = .ok (.iload_n 1, 1) := by decide +kernel
theorem dX7_remove_33 : decode cX7_remove 33 = .ok (.istore_n 3, 1) := by decide +kernel
theorem dX7_remove_34 : decode cX7_remove 34 = .ok (.aload_n 0, 1) := by decide +kernel
theorem dX7_remove_35 : decode cX7_remove 35 = .ok (.getfield 7, 3) := by decide +kernel
theorem dX7_remove_38 : decode cX7_remove 38 = .ok (.bipush 39, 2) := by decide +kernel
theorem dX7_remove_40 : decode cX7_remove 40 = .ok (.iaload, 1) := by decide +kernel
theorem dX7_remove_41 : decode cX7_remove 41 = .ok (.iconst 1, 1) := by decide +kernel
theorem dX7_remove_42 : decode cX7_remove 42 = .ok (.isub, 1) := by decide +kernel
theorem dX7_remove_43 : decode cX7_remove 43 = .ok (.istore 4, 2) := by decide +kernel
theorem dX7_remove_45 : decode cX7_remove 45 = .ok (.iload 4, 2) := by decide +kernel
theorem dX7_remove_47 : decode cX7_remove 47 = .ok (.ifCond .lt 44, 3) := by decide +kernel
theorem dX7_remove_50 : decode cX7_remove 50 = .ok (.aload_n 0, 1) := by decide +kernel
theorem dX7_remove_51 : decode cX7_remove 51 = .ok (.iload 4, 2) := by decide +kernel
theorem dX7_remove_53 : decode cX7_remove 53 = .ok (.bipush 7, 2) := by decide +kernel
theorem dX7_remove_55 : decode cX7_remove 55 = .ok (.invokevirtual 45, 3) := by decide +kernel
theorem dX7_remove_58 : decode cX7_remove 58 = .ok (.iload_n 3, 1) := by decide +kernel
theorem dX7_remove_59 : decode cX7_remove 59 = .ok (.if_icmp .ne 26, 3) := by decide +kernel
theorem dX7_remove_62 : decode cX7_remove 62 = .ok (.aload_n 0, 1) := by decide +kernel
theorem dX7_remove_63 : decode cX7_remove 63 = .ok (.iload 4, 2) := by decide +kernel
theorem dX7_remove_65 : decode cX7_remove 65 = .ok (.invokevirtual 158, 3) := by decide +kernel
theorem dX7_remove_68 : decode cX7_remove 68 = .ok (.iload_n 3, 1) := by decide +kernel
theorem dX7_remove_69 : decode cX7_remove 69 = .ok (.iload 4, 2) := by decide +kernel
theorem dX7_remove_71 : decode cX7_remove 71 = .ok (.iload_n 3, 1) := by decide +kernel
theorem dX7_remove_72 : decode cX7_remove 72 = .ok (.if_icmp .ge 7, 3) := by decide +kernel
theorem dX7_remove_75 : decode cX7_remove 75 = .ok (.iconst 1, 1) := by decide +kernel
theorem dX7_remove_76 : decode cX7_remove 76 = .ok (.goto 4, 3) := by decide +kernel
theorem dX7_remove_79 : decode cX7_remove 79 = .ok (.iconst 0, 1) := by decide +kernel
theorem dX7_remove_80 : decode cX7_remove 80 = .ok (.isub, 1) := by decide +kernel
theorem dX7_remove_81 : decode cX7_remove 81 = .ok (.istore_n 3, 1) := by decide +kernel
theorem dX7_remove_82 : decode cX7_remove 82 = .ok (.iinc 2 1, 3) := by decide +kernel
theorem dX7_remove_85 : decode cX7_remove 85 = .ok (.iinc 4 (-1), 3) := by decide +kernel
theorem dX7_remove_88 : decode cX7_remove 88 = .ok (.goto (-43), 3) := by decide +kernel
theorem dX7_remove_91 : decode cX7_remove 91 = .ok (.aload_n 0, 1) := by decide +kernel
theorem dX7_remove_92 : decode cX7_remove 92 = .ok (.iload_n 3, 1) := by decide +kernel
theorem dX7_remove_93 : decode cX7_remove 93 = .ok (.invokevirtual 158, 3) := by decide +kernel
theorem dX7_remove_96 : decode cX7_remove 96 = .ok (.iload_n 2, 1) := by decide +kernel
theorem dX7_remove_97 : decode cX7_remove 97 = .ok (.ireturn, 1) := by decide +kernel
theorem dX7_isLive_0 : decode cX7_isLive 0 = .ok (.aload_n 0, 1) := by decide +kernel
theorem dX7_isLive_1 : decode cX7_isLive 1 = .ok (.iload_n 1, 1) := by decide +kernel
theorem dX7_isLive_2 : decode cX7_isLive 2 = .ok (.iconst 0, 1) := by decide +kernel
theorem dX7_isLive_3 : decode cX7_isLive 3 = .ok (.invokevirtual 45, 3) := by decide +kernel
theorem dX7_isLive_6 : decode cX7_isLive 6 = .ok (.ifCond .ne 7, 3) := by decide +kernel
theorem dX7_isLive_9 : decode cX7_isLive 9 = .ok (.iconst 1, 1) := by decide +kernel
theorem dX7_isLive_10 : decode cX7_isLive 10 = .ok (.goto 4, 3) := by decide +kernel
theorem dX7_isLive_13 : decode cX7_isLive 13 = .ok (.iconst 0, 1) := by decide +kernel
theorem dX7_isLive_14 : decode cX7_isLive 14 = .ok (.ireturn, 1) := by decide +kernel
theorem dX7_isOverrun_0 : decode cX7_isOverrun 0 = .ok (.iload_n 0, 1) := by decide +kernel
theorem dX7_isOverrun_1 : decode cX7_isOverrun 1 = .ok (.bipush (-60), 2) := by decide +kernel
theorem dX7_isOverrun_3 : decode cX7_isOverrun 3 = .ok (.bipush 120, 2) := by decide +kernel
theorem dX7_isOverrun_5 : decode cX7_isOverrun 5 = .ok (.invokestatic 41, 3) := by decide +kernel
theorem dX7_isOverrun_8 : decode cX7_isOverrun 8 = .ok (.ireturn, 1) := by decide +kernel
theorem dX7_overrun_0 : decode cX7_overrun 0 = .ok (.aload_n 0, 1) := by decide +kernel
theorem dX7_overrun_1 : decode cX7_overrun 1 = .ok (.aload_n 0, 1) := by decide +kernel
theorem dX7_overrun_2 : decode cX7_overrun 2 = .ok (.iload_n 1, 1) := by decide +kernel
theorem dX7_overrun_3 : decode cX7_overrun 3 = .ok (.invokevirtual 152, 3) := by decide +kernel
theorem dX7_overrun_6 : decode cX7_overrun 6 = .ok (.ifCond .ne 7, 3) := by decide +kernel
theorem dX7_overrun_9 : decode cX7_overrun 9 = .ok (.iconst 1, 1) := by decide +kernel
theorem dX7_overrun_10 : decode cX7_overrun 10 = .ok (.goto 27, 3) := by decide +kernel
theorem dX7_overrun_13 : decode cX7_overrun 13 = .ok (.iload_n 2, 1) := by decide +kernel
theorem dX7_overrun_14 : decode cX7_overrun 14 = .ok (.invokestatic 161, 3) := by decide +kernel
theorem dX7_overrun_17 : decode cX7_overrun 17 = .ok (.ifCond .ne 7, 3) := by decide +kernel
theorem dX7_overrun_20 : decode cX7_overrun 20 = .ok (.iconst 2, 1) := by decide +kernel
theorem dX7_overrun_21 : decode cX7_overrun 21 = .ok (.goto 16, 3) := by decide +kernel
theorem dX7_overrun_24 : decode cX7_overrun 24 = .ok (.aload_n 0, 1) := by decide +kernel
theorem dX7_overrun_25 : decode cX7_overrun 25 = .ok (.iload_n 1, 1) := by decide +kernel
theorem dX7_overrun_26 : decode cX7_overrun 26 = .ok (.invokevirtual 164, 3) := by decide +kernel
theorem dX7_overrun_29 : decode cX7_overrun 29 = .ok (.ifCond .eq 7, 3) := by decide +kernel
theorem dX7_overrun_32 : decode cX7_overrun 32 = .ok (.iconst 0, 1) := by decide +kernel
theorem dX7_overrun_33 : decode cX7_overrun 33 = .ok (.goto 4, 3) := by decide +kernel
theorem dX7_overrun_36 : decode cX7_overrun 36 = .ok (.iconst 3, 1) := by decide +kernel
theorem dX7_overrun_37 : decode cX7_overrun 37 = .ok (.putfield 37, 3) := by decide +kernel
theorem dX7_overrun_40 : decode cX7_overrun 40 = .ok (.aload_n 0, 1) := by decide +kernel
theorem dX7_overrun_41 : decode cX7_overrun 41 = .ok (.getfield 37, 3) := by decide +kernel
theorem dX7_overrun_44 : decode cX7_overrun 44 = .ok (.ifCond .le 7, 3) := by decide +kernel
theorem dX7_overrun_47 : decode cX7_overrun 47 = .ok (.iconst 0, 1) := by decide +kernel
theorem dX7_overrun_48 : decode cX7_overrun 48 = .ok (.goto 18, 3) := by decide +kernel
theorem dX7_overrun_51 : decode cX7_overrun 51 = .ok (.aload_n 0, 1) := by decide +kernel
theorem dX7_overrun_52 : decode cX7_overrun 52 = .ok (.bipush 40, 2) := by decide +kernel
theorem dX7_overrun_54 : decode cX7_overrun 54 = .ok (.bipush 8, 2) := by decide +kernel
theorem dX7_overrun_56 : decode cX7_overrun 56 = .ok (.iload_n 1, 1) := by decide +kernel
theorem dX7_overrun_57 : decode cX7_overrun 57 = .ok (.imul, 1) := by decide +kernel
theorem dX7_overrun_58 : decode cX7_overrun 58 = .ok (.iadd, 1) := by decide +kernel
theorem dX7_overrun_59 : decode cX7_overrun 59 = .ok (.bipush 6, 2) := by decide +kernel
theorem dX7_overrun_61 : decode cX7_overrun 61 = .ok (.iadd, 1) := by decide +kernel
theorem dX7_overrun_62 : decode cX7_overrun 62 = .ok (.iload_n 2, 1) := by decide +kernel
theorem dX7_overrun_63 : decode cX7_overrun 63 = .ok (.invokevirtual 120, 3) := by decide +kernel
theorem dX7_overrun_66 : decode cX7_overrun 66 = .ok (.ireturn, 1) := by decide +kernel
theorem dX7_closeGroup_0 : decode cX7_closeGroup 0 = .ok (.bipush 8, 2) := by decide +kernel
theorem dX7_closeGroup_2 : decode cX7_closeGroup 2 = .ok (.iconst 5, 1) := by decide +kernel
theorem dX7_closeGroup_3 : decode cX7_closeGroup 3 = .ok (.iload_n 1, 1) := by decide +kernel
theorem dX7_closeGroup_4 : decode cX7_closeGroup 4 = .ok (.imul, 1) := by decide +kernel
theorem dX7_closeGroup_5 : decode cX7_closeGroup 5 = .ok (.iadd, 1) := by decide +kernel
theorem dX7_closeGroup_6 : decode cX7_closeGroup 6 = .ok (.istore_n 2, 1) := by decide +kernel
theorem dX7_closeGroup_7 : decode cX7_closeGroup 7 = .ok (.aload_n 0, 1) := by decide +kernel
theorem dX7_closeGroup_8 : decode cX7_closeGroup 8 = .ok (.iload_n 1, 1) := by decide +kernel
theorem dX7_closeGroup_9 : decode cX7_closeGroup 9 = .ok (.invokevirtual 167, 3) := by decide +kernel
theorem dX7_closeGroup_12 : decode cX7_closeGroup 12 = .ok (.istore_n 3, 1) := by decide +kernel
theorem dX7_closeGroup_13 : decode cX7_closeGroup 13 = .ok (.aload_n 0, 1) := by decide +kernel
theorem dX7_closeGroup_14 : decode cX7_closeGroup 14 = .ok (.iload_n 1, 1) := by decide +kernel
theorem dX7_closeGroup_15 : decode cX7_closeGroup 15 = .ok (.invokevirtual 74, 3) := by decide +kernel
theorem dX7_closeGroup_18 : decode cX7_closeGroup 18 = .ok (.iload_n 3, 1) := by decide +kernel
theorem dX7_closeGroup_19 : decode cX7_closeGroup 19 = .ok (.isub, 1) := by decide +kernel
theorem dX7_closeGroup_20 : decode cX7_closeGroup 20 = .ok (.istore 4, 2) := by decide +kernel
theorem dX7_closeGroup_22 : decode cX7_closeGroup 22 = .ok (.iload 4, 2) := by decide +kernel
theorem dX7_closeGroup_24 : decode cX7_closeGroup 24 = .ok (.aload_n 0, 1) := by decide +kernel
theorem dX7_closeGroup_25 : decode cX7_closeGroup 25 = .ok (.getfield 7, 3) := by decide +kernel
theorem dX7_closeGroup_28 : decode cX7_closeGroup 28 = .ok (.bipush 7, 2) := by decide +kernel
theorem dX7_closeGroup_30 : decode cX7_closeGroup 30 = .ok (.iaload, 1) := by decide +kernel
theorem dX7_closeGroup_31 : decode cX7_closeGroup 31 = .ok (.ineg, 1) := by decide +kernel
theorem dX7_closeGroup_32 : decode cX7_closeGroup 32 = .ok (.if_icmp .ge 14, 3) := by decide +kernel
theorem dX7_closeGroup_35 : decode cX7_closeGroup 35 = .ok (.aload_n 0, 1) := by decide +kernel
theorem dX7_closeGroup_36 : decode cX7_closeGroup 36 = .ok (.getfield 7, 3) := by decide +kernel
theorem dX7_closeGroup_39 : decode cX7_closeGroup 39 = .ok (.bipush 7, 2) := by decide +kernel
theorem dX7_closeGroup_41 : decode cX7_closeGroup 41 = .ok (.iaload, 1) := by decide +kernel
theorem dX7_closeGroup_42 : decode cX7_closeGroup 42 = .ok (.ineg, 1) := by decide +kernel
theorem dX7_closeGroup_43 : decode cX7_closeGroup 43 = .ok (.goto 27, 3) := by decide +kernel
theorem dX7_closeGroup_46 : decode cX7_closeGroup 46 = .ok (.iload 4, 2) := by decide +kernel
theorem dX7_closeGroup_48 : decode cX7_closeGroup 48 = .ok (.aload_n 0, 1) := by decide +kernel
theorem dX7_closeGroup_49 : decode cX7_closeGroup 49 = .ok (.getfield 7, 3) := by decide +kernel
theorem dX7_closeGroup_52 : decode cX7_closeGroup 52 = .ok (.bipush 7, 2) := by decide +kernel
theorem dX7_closeGroup_54 : decode cX7_closeGroup 54 = .ok (.iaload, 1) := by decide +kernel
theorem dX7_closeGroup_55 : decode cX7_closeGroup 55 = .ok (.if_icmp .le 13, 3) := by decide +kernel
theorem dX7_closeGroup_58 : decode cX7_closeGroup 58 = .ok (.aload_n 0, 1) := by decide +kernel
theorem dX7_closeGroup_59 : decode cX7_closeGroup 59 = .ok (.getfield 7, 3) := by decide +kernel
theorem dX7_closeGroup_62 : decode cX7_closeGroup 62 = .ok (.bipush 7, 2) := by decide +kernel
theorem dX7_closeGroup_64 : decode cX7_closeGroup 64 = .ok (.iaload, 1) := by decide +kernel
theorem dX7_closeGroup_65 : decode cX7_closeGroup 65 = .ok (.goto 5, 3) := by decide +kernel
theorem dX7_closeGroup_68 : decode cX7_closeGroup 68 = .ok (.iload 4, 2) := by decide +kernel
theorem dX7_closeGroup_70 : decode cX7_closeGroup 70 = .ok (.istore 5, 2) := by decide +kernel
theorem dX7_closeGroup_72 : decode cX7_closeGroup 72 = .ok (.aload_n 0, 1) := by decide +kernel
theorem dX7_closeGroup_73 : decode cX7_closeGroup 73 = .ok (.getfield 7, 3) := by decide +kernel
theorem dX7_closeGroup_76 : decode cX7_closeGroup 76 = .ok (.iload_n 2, 1) := by decide +kernel
theorem dX7_closeGroup_77 : decode cX7_closeGroup 77 = .ok (.iconst 2, 1) := by decide +kernel
theorem dX7_closeGroup_78 : decode cX7_closeGroup 78 = .ok (.iadd, 1) := by decide +kernel
theorem dX7_closeGroup_79 : decode cX7_closeGroup 79 = .ok (.dup2, 1) := by decide +kernel
theorem dX7_closeGroup_80 : decode cX7_closeGroup 80 = .ok (.iaload, 1) := by decide +kernel
theorem dX7_closeGroup_81 : decode cX7_closeGroup 81 = .ok (.aload_n 0, 1) := by decide +kernel
theorem dX7_closeGroup_82 : decode cX7_closeGroup 82 = .ok (.getfield 7, 3) := by decide +kernel
theorem dX7_closeGroup_85 : decode cX7_closeGroup 85 = .ok (.iload_n 2, 1) := by decide +kernel
theorem dX7_closeGroup_86 : decode cX7_closeGroup 86 = .ok (.iconst 0, 1) := by decide +kernel
theorem dX7_closeGroup_87 : decode cX7_closeGroup 87 = .ok (.iadd, 1) := by decide +kernel
theorem dX7_closeGroup_88 : decode cX7_closeGroup 88 = .ok (.iaload, 1) := by decide +kernel
theorem dX7_closeGroup_89 : decode cX7_closeGroup 89 = .ok (.iadd, 1) := by decide +kernel
theorem dX7_closeGroup_90 : decode cX7_closeGroup 90 = .ok (.iastore, 1) := by decide +kernel
theorem dX7_closeGroup_91 : decode cX7_closeGroup 91 = .ok (.aload_n 0, 1) := by decide +kernel
theorem dX7_closeGroup_92 : decode cX7_closeGroup 92 = .ok (.getfield 7, 3) := by decide +kernel
theorem dX7_closeGroup_95 : decode cX7_closeGroup 95 = .ok (.iload_n 2, 1) := by decide +kernel
theorem dX7_closeGroup_96 : decode cX7_closeGroup 96 = .ok (.iconst 3, 1) := by decide +kernel
theorem dX7_closeGroup_97 : decode cX7_closeGroup 97 = .ok (.iadd, 1) := by decide +kernel
theorem dX7_closeGroup_98 : decode cX7_closeGroup 98 = .ok (.dup2, 1) := by decide +kernel
theorem dX7_closeGroup_99 : decode cX7_closeGroup 99 = .ok (.iaload, 1) := by decide +kernel
theorem dX7_closeGroup_100 : decode cX7_closeGroup 100 = .ok (.iload_n 3, 1) := by decide +kernel
theorem dX7_closeGroup_101 : decode cX7_closeGroup 101 = .ok (.iadd, 1) := by decide +kernel
theorem dX7_closeGroup_102 : decode cX7_closeGroup 102 = .ok (.iastore, 1) := by decide +kernel
theorem dX7_closeGroup_103 : decode cX7_closeGroup 103 = .ok (.aload_n 0, 1) := by decide +kernel
theorem dX7_closeGroup_104 : decode cX7_closeGroup 104 = .ok (.getfield 7, 3) := by decide +kernel
theorem dX7_closeGroup_107 : decode cX7_closeGroup 107 = .ok (.iload_n 2, 1) := by decide +kernel
theorem dX7_closeGroup_108 : decode cX7_closeGroup 108 = .ok (.iconst 4, 1) := by decide +kernel
theorem dX7_closeGroup_109 : decode cX7_closeGroup 109 = .ok (.iadd, 1) := by decide +kernel
theorem dX7_closeGroup_110 : decode cX7_closeGroup 110 = .ok (.dup2, 1) := by decide +kernel
theorem dX7_closeGroup_111 : decode cX7_closeGroup 111 = .ok (.iaload, 1) := by decide +kernel
theorem dX7_closeGroup_112 : decode cX7_closeGroup 112 = .ok (.iload 4, 2) := by decide +kernel
theorem dX7_closeGroup_114 : decode cX7_closeGroup 114 = .ok (.iload 5, 2) := by decide +kernel
theorem dX7_closeGroup_116 : decode cX7_closeGroup 116 = .ok (.isub, 1) := by decide +kernel
theorem dX7_closeGroup_117 : decode cX7_closeGroup 117 = .ok (.iadd, 1) := by decide +kernel
theorem dX7_closeGroup_118 : decode cX7_closeGroup 118 = .ok (.iastore, 1) := by decide +kernel
theorem dX7_closeGroup_119 : decode cX7_closeGroup 119 = .ok (.aload_n 0, 1) := by decide +kernel
theorem dX7_closeGroup_120 : decode cX7_closeGroup 120 = .ok (.getfield 7, 3) := by decide +kernel
theorem dX7_closeGroup_123 : decode cX7_closeGroup 123 = .ok (.iload_n 2, 1) := by decide +kernel
theorem dX7_closeGroup_124 : decode cX7_closeGroup 124 = .ok (.iconst 1, 1) := by decide +kernel
theorem dX7_closeGroup_125 : decode cX7_closeGroup 125 = .ok (.iadd, 1) := by decide +kernel
theorem dX7_closeGroup_126 : decode cX7_closeGroup 126 = .ok (.iload 5, 2) := by decide +kernel
theorem dX7_closeGroup_128 : decode cX7_closeGroup 128 = .ok (.iastore, 1) := by decide +kernel
theorem dX7_closeGroup_129 : decode cX7_closeGroup 129 = .ok (.return_, 1) := by decide +kernel
theorem dX7_closeWeek_0 : decode cX7_closeWeek 0 = .ok (.aload_n 0, 1) := by decide +kernel
theorem dX7_closeWeek_1 : decode cX7_closeWeek 1 = .ok (.aload_n 0, 1) := by decide +kernel
theorem dX7_closeWeek_2 : decode cX7_closeWeek 2 = .ok (.getfield 7, 3) := by decide +kernel
theorem dX7_closeWeek_5 : decode cX7_closeWeek 5 = .ok (.bipush 38, 2) := by decide +kernel
theorem dX7_closeWeek_7 : decode cX7_closeWeek 7 = .ok (.iaload, 1) := by decide +kernel
theorem dX7_closeWeek_8 : decode cX7_closeWeek 8 = .ok (.sipush 1000, 3) := by decide +kernel
theorem dX7_closeWeek_11 : decode cX7_closeWeek 11 = .ok (.if_icmp .ge 7, 3) := by decide +kernel
theorem dX7_closeWeek_14 : decode cX7_closeWeek 14 = .ok (.iconst 0, 1) := by decide +kernel
theorem dX7_closeWeek_15 : decode cX7_closeWeek 15 = .ok (.goto 4, 3) := by decide +kernel
theorem dX7_closeWeek_18 : decode cX7_closeWeek 18 = .ok (.iconst 1, 1) := by decide +kernel
theorem dX7_closeWeek_19 : decode cX7_closeWeek 19 = .ok (.putfield 37, 3) := by decide +kernel
theorem dX7_closeWeek_22 : decode cX7_closeWeek 22 = .ok (.aload_n 0, 1) := by decide +kernel
theorem dX7_closeWeek_23 : decode cX7_closeWeek 23 = .ok (.getfield 37, 3) := by decide +kernel
theorem dX7_closeWeek_26 : decode cX7_closeWeek 26 = .ok (.ifCond .le 5, 3) := by decide +kernel
theorem dX7_closeWeek_29 : decode cX7_closeWeek 29 = .ok (.iconst 0, 1) := by decide +kernel
theorem dX7_closeWeek_30 : decode cX7_closeWeek 30 = .ok (.ireturn, 1) := by decide +kernel
theorem dX7_closeWeek_31 : decode cX7_closeWeek 31 = .ok (.aload_n 0, 1) := by decide +kernel
theorem dX7_closeWeek_32 : decode cX7_closeWeek 32 = .ok (.invokevirtual 109, 3) := by decide +kernel
theorem dX7_closeWeek_35 : decode cX7_closeWeek 35 = .ok (.iconst 0, 1) := by decide +kernel
theorem dX7_closeWeek_36 : decode cX7_closeWeek 36 = .ok (.istore_n 1, 1) := by decide +kernel
theorem dX7_closeWeek_37 : decode cX7_closeWeek 37 = .ok (.iload_n 1, 1) := by decide +kernel
theorem dX7_closeWeek_38 : decode cX7_closeWeek 38 = .ok (.bipush 6, 2) := by decide +kernel
theorem dX7_closeWeek_40 : decode cX7_closeWeek 40 = .ok (.if_icmp .ge 14, 3) := by decide +kernel
theorem dX7_closeWeek_43 : decode cX7_closeWeek 43 = .ok (.aload_n 0, 1) := by decide +kernel
theorem dX7_closeWeek_44 : decode cX7_closeWeek 44 = .ok (.iload_n 1, 1) := by decide +kernel
theorem dX7_closeWeek_45 : decode cX7_closeWeek 45 = .ok (.invokevirtual 170, 3) := by decide +kernel
theorem dX7_closeWeek_48 : decode cX7_closeWeek 48 = .ok (.iinc 1 1, 3) := by decide +kernel
theorem dX7_closeWeek_51 : decode cX7_closeWeek 51 = .ok (.goto (-14), 3) := by decide +kernel
theorem dX7_closeWeek_54 : decode cX7_closeWeek 54 = .ok (.iconst 0, 1) := by decide +kernel
theorem dX7_closeWeek_55 : decode cX7_closeWeek 55 = .ok (.istore_n 1, 1) := by decide +kernel
theorem dX7_closeWeek_56 : decode cX7_closeWeek 56 = .ok (.iload_n 1, 1) := by decide +kernel
theorem dX7_closeWeek_57 : decode cX7_closeWeek 57 = .ok (.aload_n 0, 1) := by decide +kernel
theorem dX7_closeWeek_58 : decode cX7_closeWeek 58 = .ok (.getfield 7, 3) := by decide +kernel
theorem dX7_closeWeek_61 : decode cX7_closeWeek 61 = .ok (.bipush 39, 2) := by decide +kernel
theorem dX7_closeWeek_63 : decode cX7_closeWeek 63 = .ok (.iaload, 1) := by decide +kernel
theorem dX7_closeWeek_64 : decode cX7_closeWeek 64 = .ok (.if_icmp .ge 17, 3) := by decide +kernel
theorem dX7_closeWeek_67 : decode cX7_closeWeek 67 = .ok (.aload_n 0, 1) := by decide +kernel
theorem dX7_closeWeek_68 : decode cX7_closeWeek 68 = .ok (.iload_n 1, 1) := by decide +kernel
theorem dX7_closeWeek_69 : decode cX7_closeWeek 69 = .ok (.bipush 6, 2) := by decide +kernel
theorem dX7_closeWeek_71 : decode cX7_closeWeek 71 = .ok (.iconst 0, 1) := by decide +kernel
theorem dX7_closeWeek_72 : decode cX7_closeWeek 72 = .ok (.invokevirtual 80, 3) := by decide +kernel
theorem dX7_closeWeek_75 : decode cX7_closeWeek 75 = .ok (.iinc 1 1, 3) := by decide +kernel
theorem dX7_closeWeek_78 : decode cX7_closeWeek 78 = .ok (.goto (-22), 3) := by decide +kernel
theorem dX7_closeWeek_81 : decode cX7_closeWeek 81 = .ok (.aload_n 0, 1) := by decide +kernel
theorem dX7_closeWeek_82 : decode cX7_closeWeek 82 = .ok (.getfield 7, 3) := by decide +kernel
theorem dX7_closeWeek_85 : decode cX7_closeWeek 85 = .ok (.bipush 38, 2) := by decide +kernel
theorem dX7_closeWeek_87 : decode cX7_closeWeek 87 = .ok (.dup2, 1) := by decide +kernel
theorem dX7_closeWeek_88 : decode cX7_closeWeek 88 = .ok (.iaload, 1) := by decide +kernel
theorem dX7_closeWeek_89 : decode cX7_closeWeek 89 = .ok (.iconst 1, 1) := by decide +kernel
theorem dX7_closeWeek_90 : decode cX7_closeWeek 90 = .ok (.iadd, 1) := by decide +kernel
theorem dX7_closeWeek_91 : decode cX7_closeWeek 91 = .ok (.iastore, 1) := by decide +kernel
theorem dX7_closeWeek_92 : decode cX7_closeWeek 92 = .ok (.aload_n 0, 1) := by decide +kernel
theorem dX7_closeWeek_93 : decode cX7_closeWeek 93 = .ok (.getfield 7, 3) := by decide +kernel
theorem dX7_closeWeek_96 : decode cX7_closeWeek 96 = .ok (.bipush 38, 2) := by decide +kernel
theorem dX7_closeWeek_98 : decode cX7_closeWeek 98 = .ok (.iaload, 1) := by decide +kernel
theorem dX7_closeWeek_99 : decode cX7_closeWeek 99 = .ok (.ireturn, 1) := by decide +kernel
theorem dX7_append_0 : decode cX7_append 0 = .ok (.aload_n 0, 1) := by decide +kernel
theorem dX7_append_1 : decode cX7_append 1 = .ok (.iload_n 1, 1) := by decide +kernel
theorem dX7_append_2 : decode cX7_append 2 = .ok (.bipush 33, 2) := by decide +kernel
theorem dX7_append_4 : decode cX7_append 4 = .ok (.bipush 126, 2) := by decide +kernel
theorem dX7_append_6 : decode cX7_append 6 = .ok (.invokestatic 41, 3) := by decide +kernel
theorem dX7_append_9 : decode cX7_append 9 = .ok (.ifCond .ne 7, 3) := by decide +kernel
theorem dX7_append_12 : decode cX7_append 12 = .ok (.iconst 1, 1) := by decide +kernel
theorem dX7_append_13 : decode cX7_append 13 = .ok (.goto 17, 3) := by decide +kernel
theorem dX7_append_16 : decode cX7_append 16 = .ok (.aload_n 0, 1) := by decide +kernel
theorem dX7_append_17 : decode cX7_append 17 = .ok (.getfield 173, 3) := by decide +kernel
theorem dX7_append_20 : decode cX7_append 20 = .ok (.bipush 60, 2) := by decide +kernel
theorem dX7_append_22 : decode cX7_append 22 = .ok (.if_icmp .ne 7, 3) := by decide +kernel
theorem dX7_append_25 : decode cX7_append 25 = .ok (.iconst 2, 1) := by decide +kernel
theorem dX7_append_26 : decode cX7_append 26 = .ok (.goto 4, 3) := by decide +kernel
theorem dX7_append_29 : decode cX7_append 29 = .ok (.iconst 0, 1) := by decide +kernel
theorem dX7_append_30 : decode cX7_append 30 = .ok (.putfield 37, 3) := by decide +kernel
theorem dX7_append_33 : decode cX7_append 33 = .ok (.aload_n 0, 1) := by decide +kernel
theorem dX7_append_34 : decode cX7_append 34 = .ok (.getfield 37, 3) := by decide +kernel
theorem dX7_append_37 : decode cX7_append 37 = .ok (.ifCond .le 5, 3) := by decide +kernel
theorem dX7_append_40 : decode cX7_append 40 = .ok (.iconst 0, 1) := by decide +kernel
theorem dX7_append_41 : decode cX7_append 41 = .ok (.ireturn, 1) := by decide +kernel
theorem dX7_append_42 : decode cX7_append 42 = .ok (.aload_n 0, 1) := by decide +kernel
theorem dX7_append_43 : decode cX7_append 43 = .ok (.getfield 16, 3) := by decide +kernel
theorem dX7_append_46 : decode cX7_append 46 = .ok (.aload_n 0, 1) := by decide +kernel
theorem dX7_append_47 : decode cX7_append 47 = .ok (.getfield 173, 3) := by decide +kernel
theorem dX7_append_50 : decode cX7_append 50 = .ok (.iload_n 1, 1) := by decide +kernel
theorem dX7_append_51 : decode cX7_append 51 = .ok (.iastore, 1) := by decide +kernel
theorem dX7_append_52 : decode cX7_append 52 = .ok (.aload_n 0, 1) := by decide +kernel
theorem dX7_append_53 : decode cX7_append 53 = .ok (.dup, 1) := by decide +kernel
theorem dX7_append_54 : decode cX7_append 54 = .ok (.getfield 173, 3) := by decide +kernel
theorem dX7_append_57 : decode cX7_append 57 = .ok (.iconst 1, 1) := by decide +kernel
theorem dX7_append_58 : decode cX7_append 58 = .ok (.iadd, 1) := by decide +kernel
theorem dX7_append_59 : decode cX7_append 59 = .ok (.putfield 173, 3) := by decide +kernel
theorem dX7_append_62 : decode cX7_append 62 = .ok (.aload_n 0, 1) := by decide +kernel
theorem dX7_append_63 : decode cX7_append 63 = .ok (.getfield 173, 3) := by decide +kernel
theorem dX7_append_66 : decode cX7_append 66 = .ok (.ireturn, 1) := by decide +kernel
theorem dX7_clearBuffer_0 : decode cX7_clearBuffer 0 = .ok (.aload_n 0, 1) := by decide +kernel
theorem dX7_clearBuffer_1 : decode cX7_clearBuffer 1 = .ok (.iconst 0, 1) := by decide +kernel
theorem dX7_clearBuffer_2 : decode cX7_clearBuffer 2 = .ok (.putfield 37, 3) := by decide +kernel
theorem dX7_clearBuffer_5 : decode cX7_clearBuffer 5 = .ok (.aload_n 0, 1) := by decide +kernel
theorem dX7_clearBuffer_6 : decode cX7_clearBuffer 6 = .ok (.getfield 173, 3) := by decide +kernel
theorem dX7_clearBuffer_9 : decode cX7_clearBuffer 9 = .ok (.istore_n 1, 1) := by decide +kernel
theorem dX7_clearBuffer_10 : decode cX7_clearBuffer 10 = .ok (.aload_n 0, 1) := by decide +kernel
theorem dX7_clearBuffer_11 : decode cX7_clearBuffer 11 = .ok (.iconst 0, 1) := by decide +kernel
theorem dX7_clearBuffer_12 : decode cX7_clearBuffer 12 = .ok (.putfield 173, 3) := by decide +kernel
theorem dX7_clearBuffer_15 : decode cX7_clearBuffer 15 = .ok (.iload_n 1, 1) := by decide +kernel
theorem dX7_clearBuffer_16 : decode cX7_clearBuffer 16 = .ok (.ireturn, 1) := by decide +kernel
theorem dX7_goes_0 : decode cX7_goes 0 = .ok (.aload_n 0, 1) := by decide +kernel
theorem dX7_goes_1 : decode cX7_goes 1 = .ok (.iload_n 1, 1) := by decide +kernel
theorem dX7_goes_2 : decode cX7_goes 2 = .ok (.ifCond .eq 7, 3) := by decide +kernel
theorem dX7_goes_5 : decode cX7_goes 5 = .ok (.iload_n 2, 1) := by decide +kernel
theorem dX7_goes_6 : decode cX7_goes 6 = .ok (.goto 7, 3) := by decide +kernel
theorem dX7_goes_9 : decode cX7_goes 9 = .ok (.aload_n 0, 1) := by decide +kernel
theorem dX7_goes_10 : decode cX7_goes 10 = .ok (.getfield 176, 3) := by decide +kernel
theorem dX7_goes_13 : decode cX7_goes 13 = .ok (.putfield 176, 3) := by decide +kernel
theorem dX7_goes_16 : decode cX7_goes 16 = .ok (.iload_n 1, 1) := by decide +kernel
theorem dX7_goes_17 : decode cX7_goes 17 = .ok (.ireturn, 1) := by decide +kernel
theorem dX7_putRead_0 : decode cX7_putRead 0 = .ok (.aload_n 0, 1) := by decide +kernel
theorem dX7_putRead_1 : decode cX7_putRead 1 = .ok (.getfield 34, 3) := by decide +kernel
theorem dX7_putRead_4 : decode cX7_putRead 4 = .ok (.bipush 6, 2) := by decide +kernel
theorem dX7_putRead_6 : decode cX7_putRead 6 = .ok (.aload_n 0, 1) := by decide +kernel
theorem dX7_putRead_7 : decode cX7_putRead 7 = .ok (.getfield 179, 3) := by decide +kernel
theorem dX7_putRead_10 : decode cX7_putRead 10 = .ok (.imul, 1) := by decide +kernel
theorem dX7_putRead_11 : decode cX7_putRead 11 = .ok (.iload_n 1, 1) := by decide +kernel
theorem dX7_putRead_12 : decode cX7_putRead 12 = .ok (.iadd, 1) := by decide +kernel
theorem dX7_putRead_13 : decode cX7_putRead 13 = .ok (.iload_n 2, 1) := by decide +kernel
theorem dX7_putRead_14 : decode cX7_putRead 14 = .ok (.iastore, 1) := by decide +kernel
theorem dX7_putRead_15 : decode cX7_putRead 15 = .ok (.return_, 1) := by decide +kernel
theorem dX7_placeOf_0 : decode cX7_placeOf 0 = .ok (.iload_n 0, 1) := by decide +kernel
theorem dX7_placeOf_1 : decode cX7_placeOf 1 = .ok (.ifCond .ne 7, 3) := by decide +kernel
theorem dX7_placeOf_4 : decode cX7_placeOf 4 = .ok (.iconst 1, 1) := by decide +kernel
theorem dX7_placeOf_5 : decode cX7_placeOf 5 = .ok (.goto 6, 3) := by decide +kernel
theorem dX7_placeOf_8 : decode cX7_placeOf 8 = .ok (.iload_n 0, 1) := by decide +kernel
theorem dX7_placeOf_9 : decode cX7_placeOf 9 = .ok (.iconst 2, 1) := by decide +kernel
theorem dX7_placeOf_10 : decode cX7_placeOf 10 = .ok (.iadd, 1) := by decide +kernel
theorem dX7_placeOf_11 : decode cX7_placeOf 11 = .ok (.ireturn, 1) := by decide +kernel
theorem dX7_begins_0 : decode cX7_begins 0 = .ok (.aload_n 0, 1) := by decide +kernel
theorem dX7_begins_1 : decode cX7_begins 1 = .ok (.iconst 0, 1) := by decide +kernel
theorem dX7_begins_2 : decode cX7_begins 2 = .ok (.iload_n 1, 1) := by decide +kernel
theorem dX7_begins_3 : decode cX7_begins 3 = .ok (.bipush 76, 2) := by decide +kernel
theorem dX7_begins_5 : decode cX7_begins 5 = .ok (.if_icmp .ne 7, 3) := by decide +kernel
theorem dX7_begins_8 : decode cX7_begins 8 = .ok (.iconst 0, 1) := by decide +kernel
theorem dX7_begins_9 : decode cX7_begins 9 = .ok (.goto 14, 3) := by decide +kernel
theorem dX7_begins_12 : decode cX7_begins 12 = .ok (.iload_n 1, 1) := by decide +kernel
theorem dX7_begins_13 : decode cX7_begins 13 = .ok (.bipush 84, 2) := by decide +kernel
theorem dX7_begins_15 : decode cX7_begins 15 = .ok (.if_icmp .ne 7, 3) := by decide +kernel
theorem dX7_begins_18 : decode cX7_begins 18 = .ok (.iconst 1, 1) := by decide +kernel
theorem dX7_begins_19 : decode cX7_begins 19 = .ok (.goto 4, 3) := by decide +kernel
theorem dX7_begins_22 : decode cX7_begins 22 = .ok (.iconst 2, 1) := by decide +kernel
theorem dX7_begins_23 : decode cX7_begins 23 = .ok (.invokevirtual 182, 3) := by decide +kernel
theorem dX7_begins_26 : decode cX7_begins 26 = .ok (.aload_n 0, 1) := by decide +kernel
theorem dX7_begins_27 : decode cX7_begins 27 = .ok (.iconst 5, 1) := by decide +kernel
theorem dX7_begins_28 : decode cX7_begins 28 = .ok (.iconst 0, 1) := by decide +kernel
theorem dX7_begins_29 : decode cX7_begins 29 = .ok (.invokevirtual 182, 3) := by decide +kernel
theorem dX7_begins_32 : decode cX7_begins 32 = .ok (.iload_n 1, 1) := by decide +kernel
theorem dX7_begins_33 : decode cX7_begins 33 = .ok (.bipush 82, 2) := by decide +kernel
theorem dX7_begins_35 : decode cX7_begins 35 = .ok (.if_icmp .ne 13, 3) := by decide +kernel
theorem dX7_begins_38 : decode cX7_begins 38 = .ok (.aload_n 0, 1) := by decide +kernel
theorem dX7_begins_39 : decode cX7_begins 39 = .ok (.iconst 1, 1) := by decide +kernel
theorem dX7_begins_40 : decode cX7_begins 40 = .ok (.bipush 10, 2) := by decide +kernel
theorem dX7_begins_42 : decode cX7_begins 42 = .ok (.invokevirtual 186, 3) := by decide +kernel
theorem dX7_begins_45 : decode cX7_begins 45 = .ok (.goto 25, 3) := by decide +kernel
theorem dX7_begins_48 : decode cX7_begins 48 = .ok (.aload_n 0, 1) := by decide +kernel
theorem dX7_begins_49 : decode cX7_begins 49 = .ok (.iload_n 1, 1) := by decide +kernel
theorem dX7_begins_50 : decode cX7_begins 50 = .ok (.bipush 76, 2) := by decide +kernel
theorem dX7_begins_52 : decode cX7_begins 52 = .ok (.if_icmp .eq 9, 3) := by decide +kernel
theorem dX7_begins_55 : decode cX7_begins 55 = .ok (.iload_n 1, 1) := by decide +kernel
theorem dX7_begins_56 : decode cX7_begins 56 = .ok (.bipush 84, 2) := by decide +kernel
theorem dX7_begins_58 : decode cX7_begins 58 = .ok (.if_icmp .ne 7, 3) := by decide +kernel
theorem dX7_begins_61 : decode cX7_begins 61 = .ok (.iconst 1, 1) := by decide +kernel
theorem dX7_begins_62 : decode cX7_begins 62 = .ok (.goto 4, 3) := by decide +kernel
theorem dX7_begins_65 : decode cX7_begins 65 = .ok (.iconst 0, 1) := by decide +kernel
theorem dX7_begins_66 : decode cX7_begins 66 = .ok (.iconst 1, 1) := by decide +kernel
theorem dX7_begins_67 : decode cX7_begins 67 = .ok (.invokevirtual 186, 3) := by decide +kernel
theorem dX7_begins_70 : decode cX7_begins 70 = .ok (.ireturn, 1) := by decide +kernel
theorem dX7_beginsNumber_0 : decode cX7_beginsNumber 0 = .ok (.aload_n 0, 1) := by decide +kernel
theorem dX7_beginsNumber_1 : decode cX7_beginsNumber 1 = .ok (.iload_n 2, 1) := by decide +kernel
theorem dX7_beginsNumber_2 : decode cX7_beginsNumber 2 = .ok (.invokestatic 190, 3) := by decide +kernel
theorem dX7_beginsNumber_5 : decode cX7_beginsNumber 5 = .ok (.iload_n 1, 1) := by decide +kernel
theorem dX7_beginsNumber_6 : decode cX7_beginsNumber 6 = .ok (.bipush 48, 2) := by decide +kernel
theorem dX7_beginsNumber_8 : decode cX7_beginsNumber 8 = .ok (.isub, 1) := by decide +kernel
theorem dX7_beginsNumber_9 : decode cX7_beginsNumber 9 = .ok (.invokevirtual 182, 3) := by decide +kernel
theorem dX7_beginsNumber_12 : decode cX7_beginsNumber 12 = .ok (.aload_n 0, 1) := by decide +kernel
theorem dX7_beginsNumber_13 : decode cX7_beginsNumber 13 = .ok (.iconst 1, 1) := by decide +kernel
theorem dX7_beginsNumber_14 : decode cX7_beginsNumber 14 = .ok (.putfield 193, 3) := by decide +kernel
theorem dX7_beginsNumber_17 : decode cX7_beginsNumber 17 = .ok (.aload_n 0, 1) := by decide +kernel
theorem dX7_beginsNumber_18 : decode cX7_beginsNumber 18 = .ok (.iload_n 1, 1) := by decide +kernel
theorem dX7_beginsNumber_19 : decode cX7_beginsNumber 19 = .ok (.bipush 48, 2) := by decide +kernel
theorem dX7_beginsNumber_21 : decode cX7_beginsNumber 21 = .ok (.bipush 57, 2) := by decide +kernel
theorem dX7_beginsNumber_23 : decode cX7_beginsNumber 23 = .ok (.invokestatic 41, 3) := by decide +kernel
theorem dX7_beginsNumber_26 : decode cX7_beginsNumber 26 = .ok (.bipush 20, 2) := by decide +kernel
theorem dX7_beginsNumber_28 : decode cX7_beginsNumber 28 = .ok (.iload_n 2, 1) := by decide +kernel
theorem dX7_beginsNumber_29 : decode cX7_beginsNumber 29 = .ok (.iadd, 1) := by decide +kernel
theorem dX7_beginsNumber_30 : decode cX7_beginsNumber 30 = .ok (.invokevirtual 186, 3) := by decide +kernel
theorem dX7_beginsNumber_33 : decode cX7_beginsNumber 33 = .ok (.ireturn, 1) := by decide +kernel
theorem dX7_endsShow_0 : decode cX7_endsShow 0 = .ok (.iload_n 1, 1) := by decide +kernel
theorem dX7_endsShow_1 : decode cX7_endsShow 1 = .ok (.bipush 59, 2) := by decide +kernel
theorem dX7_endsShow_3 : decode cX7_endsShow 3 = .ok (.if_icmp .ne 18, 3) := by decide +kernel
theorem dX7_endsShow_6 : decode cX7_endsShow 6 = .ok (.aload_n 0, 1) := by decide +kernel
theorem dX7_endsShow_7 : decode cX7_endsShow 7 = .ok (.dup, 1) := by decide +kernel
theorem dX7_endsShow_8 : decode cX7_endsShow 8 = .ok (.getfield 179, 3) := by decide +kernel
theorem dX7_endsShow_11 : decode cX7_endsShow 11 = .ok (.iconst 1, 1) := by decide +kernel
theorem dX7_endsShow_12 : decode cX7_endsShow 12 = .ok (.iadd, 1) := by decide +kernel
theorem dX7_endsShow_13 : decode cX7_endsShow 13 = .ok (.putfield 179, 3) := by decide +kernel
theorem dX7_endsShow_16 : decode cX7_endsShow 16 = .ok (.aload_n 0, 1) := by decide +kernel
theorem dX7_endsShow_17 : decode cX7_endsShow 17 = .ok (.iconst 0, 1) := by decide +kernel
theorem dX7_endsShow_18 : decode cX7_endsShow 18 = .ok (.putfield 176, 3) := by decide +kernel
theorem dX7_endsShow_21 : decode cX7_endsShow 21 = .ok (.iload_n 1, 1) := by decide +kernel
theorem dX7_endsShow_22 : decode cX7_endsShow 22 = .ok (.bipush 59, 2) := by decide +kernel
theorem dX7_endsShow_24 : decode cX7_endsShow 24 = .ok (.if_icmp .ne 7, 3) := by decide +kernel
theorem dX7_endsShow_27 : decode cX7_endsShow 27 = .ok (.iconst 1, 1) := by decide +kernel
theorem dX7_endsShow_28 : decode cX7_endsShow 28 = .ok (.goto 4, 3) := by decide +kernel
theorem dX7_endsShow_31 : decode cX7_endsShow 31 = .ok (.iconst 0, 1) := by decide +kernel
theorem dX7_endsShow_32 : decode cX7_endsShow 32 = .ok (.ireturn, 1) := by decide +kernel
theorem dX7_goesOn_0 : decode cX7_goesOn 0 = .ok (.bipush 6, 2) := by decide +kernel
theorem dX7_goesOn_2 : decode cX7_goesOn 2 = .ok (.aload_n 0, 1) := by decide +kernel
theorem dX7_goesOn_3 : decode cX7_goesOn 3 = .ok (.getfield 179, 3) := by decide +kernel
theorem dX7_goesOn_6 : decode cX7_goesOn 6 = .ok (.imul, 1) := by decide +kernel
theorem dX7_goesOn_7 : decode cX7_goesOn 7 = .ok (.iload_n 2, 1) := by decide +kernel
theorem dX7_goesOn_8 : decode cX7_goesOn 8 = .ok (.invokestatic 190, 3) := by decide +kernel
theorem dX7_goesOn_11 : decode cX7_goesOn 11 = .ok (.iadd, 1) := by decide +kernel
theorem dX7_goesOn_12 : decode cX7_goesOn 12 = .ok (.istore_n 3, 1) := by decide +kernel
theorem dX7_goesOn_13 : decode cX7_goesOn 13 = .ok (.iload_n 1, 1) := by decide +kernel
theorem dX7_goesOn_14 : decode cX7_goesOn 14 = .ok (.bipush 48, 2) := by decide +kernel
theorem dX7_goesOn_16 : decode cX7_goesOn 16 = .ok (.bipush 57, 2) := by decide +kernel
theorem dX7_goesOn_18 : decode cX7_goesOn 18 = .ok (.invokestatic 41, 3) := by decide +kernel
theorem dX7_goesOn_21 : decode cX7_goesOn 21 = .ok (.ifCond .eq 83, 3) := by decide +kernel
theorem dX7_goesOn_24 : decode cX7_goesOn 24 = .ok (.aload_n 0, 1) := by decide +kernel
theorem dX7_goesOn_25 : decode cX7_goesOn 25 = .ok (.getfield 34, 3) := by decide +kernel
theorem dX7_goesOn_28 : decode cX7_goesOn 28 = .ok (.iload_n 3, 1) := by decide +kernel
theorem dX7_goesOn_29 : decode cX7_goesOn 29 = .ok (.iaload, 1) := by decide +kernel
theorem dX7_goesOn_30 : decode cX7_goesOn 30 = .ok (.ifCond .le 15, 3) := by decide +kernel
theorem dX7_goesOn_33 : decode cX7_goesOn 33 = .ok (.aload_n 0, 1) := by decide +kernel
theorem dX7_goesOn_34 : decode cX7_goesOn 34 = .ok (.getfield 193, 3) := by decide +kernel
theorem dX7_goesOn_37 : decode cX7_goesOn 37 = .ok (.iconst 4, 1) := by decide +kernel
theorem dX7_goesOn_38 : decode cX7_goesOn 38 = .ok (.if_icmp .ge 7, 3) := by decide +kernel
theorem dX7_goesOn_41 : decode cX7_goesOn 41 = .ok (.iconst 1, 1) := by decide +kernel
theorem dX7_goesOn_42 : decode cX7_goesOn 42 = .ok (.goto 4, 3) := by decide +kernel
theorem dX7_goesOn_45 : decode cX7_goesOn 45 = .ok (.iconst 0, 1) := by decide +kernel
theorem dX7_goesOn_46 : decode cX7_goesOn 46 = .ok (.istore 4, 2) := by decide +kernel
theorem dX7_goesOn_48 : decode cX7_goesOn 48 = .ok (.aload_n 0, 1) := by decide +kernel
theorem dX7_goesOn_49 : decode cX7_goesOn 49 = .ok (.getfield 34, 3) := by decide +kernel
theorem dX7_goesOn_52 : decode cX7_goesOn 52 = .ok (.iload_n 3, 1) := by decide +kernel
theorem dX7_goesOn_53 : decode cX7_goesOn 53 = .ok (.iload 4, 2) := by decide +kernel
theorem dX7_goesOn_55 : decode cX7_goesOn 55 = .ok (.ifCond .eq 20, 3) := by decide +kernel
theorem dX7_goesOn_58 : decode cX7_goesOn 58 = .ok (.bipush 10, 2) := by decide +kernel
theorem dX7_goesOn_60 : decode cX7_goesOn 60 = .ok (.aload_n 0, 1) := by decide +kernel
theorem dX7_goesOn_61 : decode cX7_goesOn 61 = .ok (.getfield 34, 3) := by decide +kernel
theorem dX7_goesOn_64 : decode cX7_goesOn 64 = .ok (.iload_n 3, 1) := by decide +kernel
theorem dX7_goesOn_65 : decode cX7_goesOn 65 = .ok (.iaload, 1) := by decide +kernel
theorem dX7_goesOn_66 : decode cX7_goesOn 66 = .ok (.imul, 1) := by decide +kernel
theorem dX7_goesOn_67 : decode cX7_goesOn 67 = .ok (.iload_n 1, 1) := by decide +kernel
theorem dX7_goesOn_68 : decode cX7_goesOn 68 = .ok (.iadd, 1) := by decide +kernel
theorem dX7_goesOn_69 : decode cX7_goesOn 69 = .ok (.bipush 48, 2) := by decide +kernel
theorem dX7_goesOn_71 : decode cX7_goesOn 71 = .ok (.isub, 1) := by decide +kernel
theorem dX7_goesOn_72 : decode cX7_goesOn 72 = .ok (.goto 9, 3) := by decide +kernel
theorem dX7_goesOn_75 : decode cX7_goesOn 75 = .ok (.aload_n 0, 1) := by decide +kernel
theorem dX7_goesOn_76 : decode cX7_goesOn 76 = .ok (.getfield 34, 3) := by decide +kernel
theorem dX7_goesOn_79 : decode cX7_goesOn 79 = .ok (.iload_n 3, 1) := by decide +kernel
theorem dX7_goesOn_80 : decode cX7_goesOn 80 = .ok (.iaload, 1) := by decide +kernel
theorem dX7_goesOn_81 : decode cX7_goesOn 81 = .ok (.iastore, 1) := by decide +kernel
theorem dX7_goesOn_82 : decode cX7_goesOn 82 = .ok (.aload_n 0, 1) := by decide +kernel
theorem dX7_goesOn_83 : decode cX7_goesOn 83 = .ok (.dup, 1) := by decide +kernel
theorem dX7_goesOn_84 : decode cX7_goesOn 84 = .ok (.getfield 193, 3) := by decide +kernel
theorem dX7_goesOn_87 : decode cX7_goesOn 87 = .ok (.iload 4, 2) := by decide +kernel
theorem dX7_goesOn_89 : decode cX7_goesOn 89 = .ok (.ifCond .eq 7, 3) := by decide +kernel
theorem dX7_goesOn_92 : decode cX7_goesOn 92 = .ok (.iconst 1, 1) := by decide +kernel
theorem dX7_goesOn_93 : decode cX7_goesOn 93 = .ok (.goto 4, 3) := by decide +kernel
theorem dX7_goesOn_96 : decode cX7_goesOn 96 = .ok (.iconst 0, 1) := by decide +kernel
theorem dX7_goesOn_97 : decode cX7_goesOn 97 = .ok (.iadd, 1) := by decide +kernel
theorem dX7_goesOn_98 : decode cX7_goesOn 98 = .ok (.putfield 193, 3) := by decide +kernel
theorem dX7_goesOn_101 : decode cX7_goesOn 101 = .ok (.iload 4, 2) := by decide +kernel
theorem dX7_goesOn_103 : decode cX7_goesOn 103 = .ok (.ireturn, 1) := by decide +kernel
theorem dX7_goesOn_104 : decode cX7_goesOn 104 = .ok (.aload_n 0, 1) := by decide +kernel
theorem dX7_goesOn_105 : decode cX7_goesOn 105 = .ok (.getfield 34, 3) := by decide +kernel
theorem dX7_goesOn_108 : decode cX7_goesOn 108 = .ok (.bipush 6, 2) := by decide +kernel
theorem dX7_goesOn_110 : decode cX7_goesOn 110 = .ok (.aload_n 0, 1) := by decide +kernel
theorem dX7_goesOn_111 : decode cX7_goesOn 111 = .ok (.getfield 179, 3) := by decide +kernel
theorem dX7_goesOn_114 : decode cX7_goesOn 114 = .ok (.imul, 1) := by decide +kernel
theorem dX7_goesOn_115 : decode cX7_goesOn 115 = .ok (.iaload, 1) := by decide +kernel
theorem dX7_goesOn_116 : decode cX7_goesOn 116 = .ok (.iconst 2, 1) := by decide +kernel
theorem dX7_goesOn_117 : decode cX7_goesOn 117 = .ok (.if_icmp .ne 7, 3) := by decide +kernel
theorem dX7_goesOn_120 : decode cX7_goesOn 120 = .ok (.iconst 1, 1) := by decide +kernel
theorem dX7_goesOn_121 : decode cX7_goesOn 121 = .ok (.goto 4, 3) := by decide +kernel
theorem dX7_goesOn_124 : decode cX7_goesOn 124 = .ok (.iconst 0, 1) := by decide +kernel
theorem dX7_goesOn_125 : decode cX7_goesOn 125 = .ok (.istore 4, 2) := by decide +kernel
theorem dX7_goesOn_127 : decode cX7_goesOn 127 = .ok (.iload_n 2, 1) := by decide +kernel
theorem dX7_goesOn_128 : decode cX7_goesOn 128 = .ok (.tableswitch 110 0 2 #[28, 45, 76], 28) := by decide +kernel
theorem dX7_goesOn_156 : decode cX7_goesOn 156 = .ok (.aload_n 0, 1) := by decide +kernel
theorem dX7_goesOn_157 : decode cX7_goesOn 157 = .ok (.iload_n 1, 1) := by decide +kernel
theorem dX7_goesOn_158 : decode cX7_goesOn 158 = .ok (.bipush 46, 2) := by decide +kernel
theorem dX7_goesOn_160 : decode cX7_goesOn 160 = .ok (.if_icmp .ne 7, 3) := by decide +kernel
theorem dX7_goesOn_163 : decode cX7_goesOn 163 = .ok (.iconst 1, 1) := by decide +kernel
theorem dX7_goesOn_164 : decode cX7_goesOn 164 = .ok (.goto 4, 3) := by decide +kernel
theorem dX7_goesOn_167 : decode cX7_goesOn 167 = .ok (.iconst 0, 1) := by decide +kernel
theorem dX7_goesOn_168 : decode cX7_goesOn 168 = .ok (.iconst 3, 1) := by decide +kernel
theorem dX7_goesOn_169 : decode cX7_goesOn 169 = .ok (.invokevirtual 186, 3) := by decide +kernel
theorem dX7_goesOn_172 : decode cX7_goesOn 172 = .ok (.ireturn, 1) := by decide +kernel
theorem dX7_goesOn_173 : decode cX7_goesOn 173 = .ok (.iload 4, 2) := by decide +kernel
theorem dX7_goesOn_175 : decode cX7_goesOn 175 = .ok (.ifCond .eq 11, 3) := by decide +kernel
theorem dX7_goesOn_178 : decode cX7_goesOn 178 = .ok (.aload_n 0, 1) := by decide +kernel
theorem dX7_goesOn_179 : decode cX7_goesOn 179 = .ok (.iload_n 1, 1) := by decide +kernel
theorem dX7_goesOn_180 : decode cX7_goesOn 180 = .ok (.invokevirtual 196, 3) := by decide +kernel
theorem dX7_goesOn_183 : decode cX7_goesOn 183 = .ok (.goto 20, 3) := by decide +kernel
theorem dX7_goesOn_186 : decode cX7_goesOn 186 = .ok (.aload_n 0, 1) := by decide +kernel
theorem dX7_goesOn_187 : decode cX7_goesOn 187 = .ok (.iload_n 1, 1) := by decide +kernel
theorem dX7_goesOn_188 : decode cX7_goesOn 188 = .ok (.bipush 43, 2) := by decide +kernel
theorem dX7_goesOn_190 : decode cX7_goesOn 190 = .ok (.if_icmp .ne 7, 3) := by decide +kernel
theorem dX7_goesOn_193 : decode cX7_goesOn 193 = .ok (.iconst 1, 1) := by decide +kernel
theorem dX7_goesOn_194 : decode cX7_goesOn 194 = .ok (.goto 4, 3) := by decide +kernel
theorem dX7_goesOn_197 : decode cX7_goesOn 197 = .ok (.iconst 0, 1) := by decide +kernel
theorem dX7_goesOn_198 : decode cX7_goesOn 198 = .ok (.bipush 12, 2) := by decide +kernel
theorem dX7_goesOn_200 : decode cX7_goesOn 200 = .ok (.invokevirtual 186, 3) := by decide +kernel
theorem dX7_goesOn_203 : decode cX7_goesOn 203 = .ok (.ireturn, 1) := by decide +kernel
theorem dX7_goesOn_204 : decode cX7_goesOn 204 = .ok (.aload_n 0, 1) := by decide +kernel
theorem dX7_goesOn_205 : decode cX7_goesOn 205 = .ok (.iload_n 1, 1) := by decide +kernel
theorem dX7_goesOn_206 : decode cX7_goesOn 206 = .ok (.bipush 58, 2) := by decide +kernel
theorem dX7_goesOn_208 : decode cX7_goesOn 208 = .ok (.if_icmp .ne 7, 3) := by decide +kernel
theorem dX7_goesOn_211 : decode cX7_goesOn 211 = .ok (.iconst 1, 1) := by decide +kernel
theorem dX7_goesOn_212 : decode cX7_goesOn 212 = .ok (.goto 4, 3) := by decide +kernel
theorem dX7_goesOn_215 : decode cX7_goesOn 215 = .ok (.iconst 0, 1) := by decide +kernel
theorem dX7_goesOn_216 : decode cX7_goesOn 216 = .ok (.bipush 13, 2) := by decide +kernel
theorem dX7_goesOn_218 : decode cX7_goesOn 218 = .ok (.invokevirtual 186, 3) := by decide +kernel
theorem dX7_goesOn_221 : decode cX7_goesOn 221 = .ok (.ifCond .ne 11, 3) := by decide +kernel
theorem dX7_goesOn_224 : decode cX7_goesOn 224 = .ok (.aload_n 0, 1) := by decide +kernel
theorem dX7_goesOn_225 : decode cX7_goesOn 225 = .ok (.iload_n 1, 1) := by decide +kernel
theorem dX7_goesOn_226 : decode cX7_goesOn 226 = .ok (.invokevirtual 196, 3) := by decide +kernel
theorem dX7_goesOn_229 : decode cX7_goesOn 229 = .ok (.ifCond .eq 7, 3) := by decide +kernel
theorem dX7_goesOn_232 : decode cX7_goesOn 232 = .ok (.iconst 1, 1) := by decide +kernel
theorem dX7_goesOn_233 : decode cX7_goesOn 233 = .ok (.goto 4, 3) := by decide +kernel
theorem dX7_goesOn_236 : decode cX7_goesOn 236 = .ok (.iconst 0, 1) := by decide +kernel
theorem dX7_goesOn_237 : decode cX7_goesOn 237 = .ok (.ireturn, 1) := by decide +kernel
theorem dX7_goesOn_238 : decode cX7_goesOn 238 = .ok (.aload_n 0, 1) := by decide +kernel
theorem dX7_goesOn_239 : decode cX7_goesOn 239 = .ok (.iload_n 1, 1) := by decide +kernel
theorem dX7_goesOn_240 : decode cX7_goesOn 240 = .ok (.invokevirtual 196, 3) := by decide +kernel
theorem dX7_goesOn_243 : decode cX7_goesOn 243 = .ok (.ireturn, 1) := by decide +kernel
theorem dX7_takesDigit_0 : decode cX7_takesDigit 0 = .ok (.aload_n 0, 1) := by decide +kernel
theorem dX7_takesDigit_1 : decode cX7_takesDigit 1 = .ok (.iload_n 2, 1) := by decide +kernel
theorem dX7_takesDigit_2 : decode cX7_takesDigit 2 = .ok (.iload_n 1, 1) := by decide +kernel
theorem dX7_takesDigit_3 : decode cX7_takesDigit 3 = .ok (.bipush 48, 2) := by decide +kernel
theorem dX7_takesDigit_5 : decode cX7_takesDigit 5 = .ok (.isub, 1) := by decide +kernel
theorem dX7_takesDigit_6 : decode cX7_takesDigit 6 = .ok (.invokevirtual 182, 3) := by decide +kernel
theorem dX7_takesDigit_9 : decode cX7_takesDigit 9 = .ok (.aload_n 0, 1) := by decide +kernel
theorem dX7_takesDigit_10 : decode cX7_takesDigit 10 = .ok (.iload_n 1, 1) := by decide +kernel
theorem dX7_takesDigit_11 : decode cX7_takesDigit 11 = .ok (.bipush 48, 2) := by decide +kernel
theorem dX7_takesDigit_13 : decode cX7_takesDigit 13 = .ok (.bipush 48, 2) := by decide +kernel
theorem dX7_takesDigit_15 : decode cX7_takesDigit 15 = .ok (.iload_n 3, 1) := by decide +kernel
theorem dX7_takesDigit_16 : decode cX7_takesDigit 16 = .ok (.iadd, 1) := by decide +kernel
theorem dX7_takesDigit_17 : decode cX7_takesDigit 17 = .ok (.invokestatic 41, 3) := by decide +kernel
theorem dX7_takesDigit_20 : decode cX7_takesDigit 20 = .ok (.iload 4, 2) := by decide +kernel
theorem dX7_takesDigit_22 : decode cX7_takesDigit 22 = .ok (.invokevirtual 186, 3) := by decide +kernel
theorem dX7_takesDigit_25 : decode cX7_takesDigit 25 = .ok (.ireturn, 1) := by decide +kernel
theorem dX7_takes_0 : decode cX7_takes 0 = .ok (.aload_n 0, 1) := by decide +kernel
theorem dX7_takes_1 : decode cX7_takes 1 = .ok (.getfield 176, 3) := by decide +kernel
theorem dX7_takes_4 : decode cX7_takes 4 = .ok (.tableswitch 96 0 4 #[36, 42, 51, 68, 78], 36) := by decide +kernel
theorem dX7_takes_40 : decode cX7_takes 40 = .ok (.aload_n 0, 1) := by decide +kernel
theorem dX7_takes_41 : decode cX7_takes 41 = .ok (.iload_n 1, 1) := by decide +kernel
theorem dX7_takes_42 : decode cX7_takes 42 = .ok (.invokevirtual 199, 3) := by decide +kernel
theorem dX7_takes_45 : decode cX7_takes 45 = .ok (.ireturn, 1) := by decide +kernel
theorem dX7_takes_46 : decode cX7_takes 46 = .ok (.aload_n 0, 1) := by decide +kernel
theorem dX7_takes_47 : decode cX7_takes 47 = .ok (.iload_n 1, 1) := by decide +kernel
theorem dX7_takes_48 : decode cX7_takes 48 = .ok (.iconst 1, 1) := by decide +kernel
theorem dX7_takes_49 : decode cX7_takes 49 = .ok (.iconst 5, 1) := by decide +kernel
theorem dX7_takes_50 : decode cX7_takes 50 = .ok (.iconst 2, 1) := by decide +kernel
theorem dX7_takes_51 : decode cX7_takes 51 = .ok (.invokevirtual 202, 3) := by decide +kernel
theorem dX7_takes_54 : decode cX7_takes 54 = .ok (.ireturn, 1) := by decide +kernel
theorem dX7_takes_55 : decode cX7_takes 55 = .ok (.aload_n 0, 1) := by decide +kernel
theorem dX7_takes_56 : decode cX7_takes 56 = .ok (.iload_n 1, 1) := by decide +kernel
theorem dX7_takes_57 : decode cX7_takes 57 = .ok (.bipush 46, 2) := by decide +kernel
theorem dX7_takes_59 : decode cX7_takes 59 = .ok (.if_icmp .ne 7, 3) := by decide +kernel
theorem dX7_takes_62 : decode cX7_takes 62 = .ok (.iconst 1, 1) := by decide +kernel
theorem dX7_takes_63 : decode cX7_takes 63 = .ok (.goto 4, 3) := by decide +kernel
theorem dX7_takes_66 : decode cX7_takes 66 = .ok (.iconst 0, 1) := by decide +kernel
theorem dX7_takes_67 : decode cX7_takes 67 = .ok (.iconst 3, 1) := by decide +kernel
theorem dX7_takes_68 : decode cX7_takes 68 = .ok (.invokevirtual 186, 3) := by decide +kernel
theorem dX7_takes_71 : decode cX7_takes 71 = .ok (.ireturn, 1) := by decide +kernel
theorem dX7_takes_72 : decode cX7_takes 72 = .ok (.aload_n 0, 1) := by decide +kernel
theorem dX7_takes_73 : decode cX7_takes 73 = .ok (.iload_n 1, 1) := by decide +kernel
theorem dX7_takes_74 : decode cX7_takes 74 = .ok (.iconst 2, 1) := by decide +kernel
theorem dX7_takes_75 : decode cX7_takes 75 = .ok (.bipush 6, 2) := by decide +kernel
theorem dX7_takes_77 : decode cX7_takes 77 = .ok (.iconst 4, 1) := by decide +kernel
theorem dX7_takes_78 : decode cX7_takes 78 = .ok (.invokevirtual 202, 3) := by decide +kernel
theorem dX7_takes_81 : decode cX7_takes 81 = .ok (.ireturn, 1) := by decide +kernel
theorem dX7_takes_82 : decode cX7_takes 82 = .ok (.aload_n 0, 1) := by decide +kernel
theorem dX7_takes_83 : decode cX7_takes 83 = .ok (.iload_n 1, 1) := by decide +kernel
theorem dX7_takes_84 : decode cX7_takes 84 = .ok (.bipush 64, 2) := by decide +kernel
theorem dX7_takes_86 : decode cX7_takes 86 = .ok (.if_icmp .ne 7, 3) := by decide +kernel
theorem dX7_takes_89 : decode cX7_takes 89 = .ok (.iconst 1, 1) := by decide +kernel
theorem dX7_takes_90 : decode cX7_takes 90 = .ok (.goto 4, 3) := by decide +kernel
theorem dX7_takes_93 : decode cX7_takes 93 = .ok (.iconst 0, 1) := by decide +kernel
theorem dX7_takes_94 : decode cX7_takes 94 = .ok (.bipush 11, 2) := by decide +kernel
theorem dX7_takes_96 : decode cX7_takes 96 = .ok (.invokevirtual 186, 3) := by decide +kernel
theorem dX7_takes_99 : decode cX7_takes 99 = .ok (.ireturn, 1) := by decide +kernel
theorem dX7_takes_100 : decode cX7_takes 100 = .ok (.aload_n 0, 1) := by decide +kernel
theorem dX7_takes_101 : decode cX7_takes 101 = .ok (.getfield 176, 3) := by decide +kernel
theorem dX7_takes_104 : decode cX7_takes 104 = .ok (.bipush 20, 2) := by decide +kernel
theorem dX7_takes_106 : decode cX7_takes 106 = .ok (.if_icmp .ge 18, 3) := by decide +kernel
theorem dX7_takes_109 : decode cX7_takes 109 = .ok (.aload_n 0, 1) := by decide +kernel
theorem dX7_takes_110 : decode cX7_takes 110 = .ok (.iload_n 1, 1) := by decide +kernel
theorem dX7_takes_111 : decode cX7_takes 111 = .ok (.aload_n 0, 1) := by decide +kernel
theorem dX7_takes_112 : decode cX7_takes 112 = .ok (.getfield 176, 3) := by decide +kernel
theorem dX7_takes_115 : decode cX7_takes 115 = .ok (.bipush 10, 2) := by decide +kernel
theorem dX7_takes_117 : decode cX7_takes 117 = .ok (.isub, 1) := by decide +kernel
theorem dX7_takes_118 : decode cX7_takes 118 = .ok (.invokevirtual 206, 3) := by decide +kernel
theorem dX7_takes_121 : decode cX7_takes 121 = .ok (.goto 15, 3) := by decide +kernel
theorem dX7_takes_124 : decode cX7_takes 124 = .ok (.aload_n 0, 1) := by decide +kernel
theorem dX7_takes_125 : decode cX7_takes 125 = .ok (.iload_n 1, 1) := by decide +kernel
theorem dX7_takes_126 : decode cX7_takes 126 = .ok (.aload_n 0, 1) := by decide +kernel
theorem dX7_takes_127 : decode cX7_takes 127 = .ok (.getfield 176, 3) := by decide +kernel
theorem dX7_takes_130 : decode cX7_takes 130 = .ok (.bipush 20, 2) := by decide +kernel
theorem dX7_takes_132 : decode cX7_takes 132 = .ok (.isub, 1) := by decide +kernel
theorem dX7_takes_133 : decode cX7_takes 133 = .ok (.invokevirtual 209, 3) := by decide +kernel
theorem dX7_takes_136 : decode cX7_takes 136 = .ok (.ireturn, 1) := by decide +kernel
theorem dX7_readText_0 : decode cX7_readText 0 = .ok (.aload_n 0, 1) := by decide +kernel
theorem dX7_readText_1 : decode cX7_readText 1 = .ok (.iconst 0, 1) := by decide +kernel
theorem dX7_readText_2 : decode cX7_readText 2 = .ok (.putfield 176, 3) := by decide +kernel
theorem dX7_readText_5 : decode cX7_readText 5 = .ok (.aload_n 0, 1) := by decide +kernel
theorem dX7_readText_6 : decode cX7_readText 6 = .ok (.iconst 0, 1) := by decide +kernel
theorem dX7_readText_7 : decode cX7_readText 7 = .ok (.putfield 179, 3) := by decide +kernel
theorem dX7_readText_10 : decode cX7_readText 10 = .ok (.iconst 0, 1) := by decide +kernel
theorem dX7_readText_11 : decode cX7_readText 11 = .ok (.istore_n 1, 1) := by decide +kernel
theorem dX7_readText_12 : decode cX7_readText 12 = .ok (.iload_n 1, 1) := by decide +kernel
theorem dX7_readText_13 : decode cX7_readText 13 = .ok (.aload_n 0, 1) := by decide +kernel
theorem dX7_readText_14 : decode cX7_readText 14 = .ok (.getfield 173, 3) := by decide +kernel
theorem dX7_readText_17 : decode cX7_readText 17 = .ok (.if_icmp .ge 22, 3) := by decide +kernel
theorem dX7_readText_20 : decode cX7_readText 20 = .ok (.aload_n 0, 1) := by decide +kernel
theorem dX7_readText_21 : decode cX7_readText 21 = .ok (.aload_n 0, 1) := by decide +kernel
theorem dX7_readText_22 : decode cX7_readText 22 = .ok (.getfield 16, 3) := by decide +kernel
theorem dX7_readText_25 : decode cX7_readText 25 = .ok (.iload_n 1, 1) := by decide +kernel
theorem dX7_readText_26 : decode cX7_readText 26 = .ok (.iaload, 1) := by decide +kernel
theorem dX7_readText_27 : decode cX7_readText 27 = .ok (.invokevirtual 212, 3) := by decide +kernel
theorem dX7_readText_30 : decode cX7_readText 30 = .ok (.ifCond .eq 9, 3) := by decide +kernel
theorem dX7_readText_33 : decode cX7_readText 33 = .ok (.iinc 1 1, 3) := by decide +kernel
theorem dX7_readText_36 : decode cX7_readText 36 = .ok (.goto (-24), 3) := by decide +kernel
theorem dX7_readText_39 : decode cX7_readText 39 = .ok (.iload_n 1, 1) := by decide +kernel
theorem dX7_readText_40 : decode cX7_readText 40 = .ok (.ireturn, 1) := by decide +kernel
theorem dX7_firstError_0 : decode cX7_firstError 0 = .ok (.aload_n 0, 1) := by decide +kernel
theorem dX7_firstError_1 : decode cX7_firstError 1 = .ok (.iconst 0, 1) := by decide +kernel
theorem dX7_firstError_2 : decode cX7_firstError 2 = .ok (.putfield 37, 3) := by decide +kernel
theorem dX7_firstError_5 : decode cX7_firstError 5 = .ok (.aload_n 0, 1) := by decide +kernel
theorem dX7_firstError_6 : decode cX7_firstError 6 = .ok (.invokevirtual 215, 3) := by decide +kernel
theorem dX7_firstError_9 : decode cX7_firstError 9 = .ok (.ireturn, 1) := by decide +kernel
theorem dX7_isComplete_0 : decode cX7_isComplete 0 = .ok (.aload_n 0, 1) := by decide +kernel
theorem dX7_isComplete_1 : decode cX7_isComplete 1 = .ok (.getfield 34, 3) := by decide +kernel
theorem dX7_isComplete_4 : decode cX7_isComplete 4 = .ok (.bipush 6, 2) := by decide +kernel
theorem dX7_isComplete_6 : decode cX7_isComplete 6 = .ok (.aload_n 0, 1) := by decide +kernel
theorem dX7_isComplete_7 : decode cX7_isComplete 7 = .ok (.getfield 179, 3) := by decide +kernel
theorem dX7_isComplete_10 : decode cX7_isComplete 10 = .ok (.imul, 1) := by decide +kernel
theorem dX7_isComplete_11 : decode cX7_isComplete 11 = .ok (.iaload, 1) := by decide +kernel
theorem dX7_isComplete_12 : decode cX7_isComplete 12 = .ok (.iconst 2, 1) := by decide +kernel
theorem dX7_isComplete_13 : decode cX7_isComplete 13 = .ok (.if_icmp .ne 7, 3) := by decide +kernel
theorem dX7_isComplete_16 : decode cX7_isComplete 16 = .ok (.iconst 1, 1) := by decide +kernel
theorem dX7_isComplete_17 : decode cX7_isComplete 17 = .ok (.goto 4, 3) := by decide +kernel
theorem dX7_isComplete_20 : decode cX7_isComplete 20 = .ok (.iconst 0, 1) := by decide +kernel
theorem dX7_isComplete_21 : decode cX7_isComplete 21 = .ok (.istore_n 1, 1) := by decide +kernel
theorem dX7_isComplete_22 : decode cX7_isComplete 22 = .ok (.aload_n 0, 1) := by decide +kernel
theorem dX7_isComplete_23 : decode cX7_isComplete 23 = .ok (.getfield 176, 3) := by decide +kernel
theorem dX7_isComplete_26 : decode cX7_isComplete 26 = .ok (.bipush 21, 2) := by decide +kernel
theorem dX7_isComplete_28 : decode cX7_isComplete 28 = .ok (.if_icmp .ne 7, 3) := by decide +kernel
theorem dX7_isComplete_31 : decode cX7_isComplete 31 = .ok (.iload_n 1, 1) := by decide +kernel
theorem dX7_isComplete_32 : decode cX7_isComplete 32 = .ok (.ifCond .ne 21, 3) := by decide +kernel
theorem dX7_isComplete_35 : decode cX7_isComplete 35 = .ok (.aload_n 0, 1) := by decide +kernel
theorem dX7_isComplete_36 : decode cX7_isComplete 36 = .ok (.getfield 176, 3) := by decide +kernel
theorem dX7_isComplete_39 : decode cX7_isComplete 39 = .ok (.bipush 22, 2) := by decide +kernel
theorem dX7_isComplete_41 : decode cX7_isComplete 41 = .ok (.if_icmp .eq 12, 3) := by decide +kernel
theorem dX7_isComplete_44 : decode cX7_isComplete 44 = .ok (.aload_n 0, 1) := by decide +kernel
theorem dX7_isComplete_45 : decode cX7_isComplete 45 = .ok (.getfield 176, 3) := by decide +kernel
theorem dX7_isComplete_48 : decode cX7_isComplete 48 = .ok (.bipush 23, 2) := by decide +kernel
theorem dX7_isComplete_50 : decode cX7_isComplete 50 = .ok (.if_icmp .ne 7, 3) := by decide +kernel
theorem dX7_isComplete_53 : decode cX7_isComplete 53 = .ok (.iconst 1, 1) := by decide +kernel
theorem dX7_isComplete_54 : decode cX7_isComplete 54 = .ok (.goto 4, 3) := by decide +kernel
theorem dX7_isComplete_57 : decode cX7_isComplete 57 = .ok (.iconst 0, 1) := by decide +kernel
theorem dX7_isComplete_58 : decode cX7_isComplete 58 = .ok (.ireturn, 1) := by decide +kernel
theorem dX7_addRead_0 : decode cX7_addRead 0 = .ok (.bipush 6, 2) := by decide +kernel
theorem dX7_addRead_2 : decode cX7_addRead 2 = .ok (.iload_n 1, 1) := by decide +kernel
theorem dX7_addRead_3 : decode cX7_addRead 3 = .ok (.imul, 1) := by decide +kernel
theorem dX7_addRead_4 : decode cX7_addRead 4 = .ok (.istore_n 2, 1) := by decide +kernel
theorem dX7_addRead_5 : decode cX7_addRead 5 = .ok (.aload_n 0, 1) := by decide +kernel
theorem dX7_addRead_6 : decode cX7_addRead 6 = .ok (.getfield 34, 3) := by decide +kernel
theorem dX7_addRead_9 : decode cX7_addRead 9 = .ok (.iload_n 2, 1) := by decide +kernel
theorem dX7_addRead_10 : decode cX7_addRead 10 = .ok (.iaload, 1) := by decide +kernel
theorem dX7_addRead_11 : decode cX7_addRead 11 = .ok (.iconst 2, 1) := by decide +kernel
theorem dX7_addRead_12 : decode cX7_addRead 12 = .ok (.if_icmp .ne 66, 3) := by decide +kernel
theorem dX7_addRead_15 : decode cX7_addRead 15 = .ok (.aload_n 0, 1) := by decide +kernel
theorem dX7_addRead_16 : decode cX7_addRead 16 = .ok (.aload_n 0, 1) := by decide +kernel
theorem dX7_addRead_17 : decode cX7_addRead 17 = .ok (.getfield 34, 3) := by decide +kernel
theorem dX7_addRead_20 : decode cX7_addRead 20 = .ok (.iload_n 2, 1) := by decide +kernel
theorem dX7_addRead_21 : decode cX7_addRead 21 = .ok (.iconst 1, 1) := by decide +kernel
theorem dX7_addRead_22 : decode cX7_addRead 22 = .ok (.iadd, 1) := by decide +kernel
theorem dX7_addRead_23 : decode cX7_addRead 23 = .ok (.iaload, 1) := by decide +kernel
theorem dX7_addRead_24 : decode cX7_addRead 24 = .ok (.invokevirtual 152, 3) := by decide +kernel
theorem dX7_addRead_27 : decode cX7_addRead 27 = .ok (.ifCond .eq 17, 3) := by decide +kernel
theorem dX7_addRead_30 : decode cX7_addRead 30 = .ok (.aload_n 0, 1) := by decide +kernel
theorem dX7_addRead_31 : decode cX7_addRead 31 = .ok (.getfield 34, 3) := by decide +kernel
theorem dX7_addRead_34 : decode cX7_addRead 34 = .ok (.iload_n 2, 1) := by decide +kernel
theorem dX7_addRead_35 : decode cX7_addRead 35 = .ok (.iconst 3, 1) := by decide +kernel
theorem dX7_addRead_36 : decode cX7_addRead 36 = .ok (.iadd, 1) := by decide +kernel
theorem dX7_addRead_37 : decode cX7_addRead 37 = .ok (.iaload, 1) := by decide +kernel
theorem dX7_addRead_38 : decode cX7_addRead 38 = .ok (.invokestatic 129, 3) := by decide +kernel
theorem dX7_addRead_41 : decode cX7_addRead 41 = .ok (.ifCond .ne 6, 3) := by decide +kernel
theorem dX7_addRead_44 : decode cX7_addRead 44 = .ok (.bipush 20, 2) := by decide +kernel
theorem dX7_addRead_46 : decode cX7_addRead 46 = .ok (.ireturn, 1) := by decide +kernel
theorem dX7_addRead_47 : decode cX7_addRead 47 = .ok (.aload_n 0, 1) := by decide +kernel
theorem dX7_addRead_48 : decode cX7_addRead 48 = .ok (.aload_n 0, 1) := by decide +kernel
theorem dX7_addRead_49 : decode cX7_addRead 49 = .ok (.getfield 34, 3) := by decide +kernel
theorem dX7_addRead_52 : decode cX7_addRead 52 = .ok (.iload_n 2, 1) := by decide +kernel
theorem dX7_addRead_53 : decode cX7_addRead 53 = .ok (.iconst 1, 1) := by decide +kernel
theorem dX7_addRead_54 : decode cX7_addRead 54 = .ok (.iadd, 1) := by decide +kernel
theorem dX7_addRead_55 : decode cX7_addRead 55 = .ok (.iaload, 1) := by decide +kernel
theorem dX7_addRead_56 : decode cX7_addRead 56 = .ok (.aload_n 0, 1) := by decide +kernel
theorem dX7_addRead_57 : decode cX7_addRead 57 = .ok (.getfield 34, 3) := by decide +kernel
theorem dX7_addRead_60 : decode cX7_addRead 60 = .ok (.iload_n 2, 1) := by decide +kernel
theorem dX7_addRead_61 : decode cX7_addRead 61 = .ok (.iconst 2, 1) := by decide +kernel
theorem dX7_addRead_62 : decode cX7_addRead 62 = .ok (.iadd, 1) := by decide +kernel
theorem dX7_addRead_63 : decode cX7_addRead 63 = .ok (.iaload, 1) := by decide +kernel
theorem dX7_addRead_64 : decode cX7_addRead 64 = .ok (.aload_n 0, 1) := by decide +kernel
theorem dX7_addRead_65 : decode cX7_addRead 65 = .ok (.getfield 34, 3) := by decide +kernel
theorem dX7_addRead_68 : decode cX7_addRead 68 = .ok (.iload_n 2, 1) := by decide +kernel
theorem dX7_addRead_69 : decode cX7_addRead 69 = .ok (.iconst 3, 1) := by decide +kernel
theorem dX7_addRead_70 : decode cX7_addRead 70 = .ok (.iadd, 1) := by decide +kernel
theorem dX7_addRead_71 : decode cX7_addRead 71 = .ok (.iaload, 1) := by decide +kernel
theorem dX7_addRead_72 : decode cX7_addRead 72 = .ok (.invokevirtual 155, 3) := by decide +kernel
theorem dX7_addRead_75 : decode cX7_addRead 75 = .ok (.goto 102, 3) := by decide +kernel
theorem dX7_addRead_78 : decode cX7_addRead 78 = .ok (.aload_n 0, 1) := by decide +kernel
theorem dX7_addRead_79 : decode cX7_addRead 79 = .ok (.getfield 34, 3) := by decide +kernel
theorem dX7_addRead_82 : decode cX7_addRead 82 = .ok (.iload_n 2, 1) := by decide +kernel
theorem dX7_addRead_83 : decode cX7_addRead 83 = .ok (.iconst 1, 1) := by decide +kernel
theorem dX7_addRead_84 : decode cX7_addRead 84 = .ok (.iadd, 1) := by decide +kernel
theorem dX7_addRead_85 : decode cX7_addRead 85 = .ok (.iaload, 1) := by decide +kernel
theorem dX7_addRead_86 : decode cX7_addRead 86 = .ok (.aload_n 0, 1) := by decide +kernel
theorem dX7_addRead_87 : decode cX7_addRead 87 = .ok (.getfield 34, 3) := by decide +kernel
theorem dX7_addRead_90 : decode cX7_addRead 90 = .ok (.iload_n 2, 1) := by decide +kernel
theorem dX7_addRead_91 : decode cX7_addRead 91 = .ok (.iconst 2, 1) := by decide +kernel
theorem dX7_addRead_92 : decode cX7_addRead 92 = .ok (.iadd, 1) := by decide +kernel
theorem dX7_addRead_93 : decode cX7_addRead 93 = .ok (.iaload, 1) := by decide +kernel
theorem dX7_addRead_94 : decode cX7_addRead 94 = .ok (.aload_n 0, 1) := by decide +kernel
theorem dX7_addRead_95 : decode cX7_addRead 95 = .ok (.getfield 34, 3) := by decide +kernel
theorem dX7_addRead_98 : decode cX7_addRead 98 = .ok (.iload_n 2, 1) := by decide +kernel
theorem dX7_addRead_99 : decode cX7_addRead 99 = .ok (.iconst 3, 1) := by decide +kernel
theorem dX7_addRead_100 : decode cX7_addRead 100 = .ok (.iadd, 1) := by decide +kernel
theorem dX7_addRead_101 : decode cX7_addRead 101 = .ok (.iaload, 1) := by decide +kernel
theorem dX7_addRead_102 : decode cX7_addRead 102 = .ok (.aload_n 0, 1) := by decide +kernel
theorem dX7_addRead_103 : decode cX7_addRead 103 = .ok (.getfield 34, 3) := by decide +kernel
theorem dX7_addRead_106 : decode cX7_addRead 106 = .ok (.iload_n 2, 1) := by decide +kernel
theorem dX7_addRead_107 : decode cX7_addRead 107 = .ok (.iconst 4, 1) := by decide +kernel
theorem dX7_addRead_108 : decode cX7_addRead 108 = .ok (.iadd, 1) := by decide +kernel
theorem dX7_addRead_109 : decode cX7_addRead 109 = .ok (.iaload, 1) := by decide +kernel
theorem dX7_addRead_110 : decode cX7_addRead 110 = .ok (.aload_n 0, 1) := by decide +kernel
theorem dX7_addRead_111 : decode cX7_addRead 111 = .ok (.getfield 34, 3) := by decide +kernel
theorem dX7_addRead_114 : decode cX7_addRead 114 = .ok (.iload_n 2, 1) := by decide +kernel
theorem dX7_addRead_115 : decode cX7_addRead 115 = .ok (.iconst 5, 1) := by decide +kernel
theorem dX7_addRead_116 : decode cX7_addRead 116 = .ok (.iadd, 1) := by decide +kernel
theorem dX7_addRead_117 : decode cX7_addRead 117 = .ok (.iaload, 1) := by decide +kernel
theorem dX7_addRead_118 : decode cX7_addRead 118 = .ok (.invokestatic 145, 3) := by decide +kernel
theorem dX7_addRead_121 : decode cX7_addRead 121 = .ok (.ifCond .ne 6, 3) := by decide +kernel
theorem dX7_addRead_124 : decode cX7_addRead 124 = .ok (.bipush 20, 2) := by decide +kernel
theorem dX7_addRead_126 : decode cX7_addRead 126 = .ok (.ireturn, 1) := by decide +kernel
theorem dX7_addRead_127 : decode cX7_addRead 127 = .ok (.aload_n 0, 1) := by decide +kernel
theorem dX7_addRead_128 : decode cX7_addRead 128 = .ok (.aload_n 0, 1) := by decide +kernel
theorem dX7_addRead_129 : decode cX7_addRead 129 = .ok (.getfield 34, 3) := by decide +kernel
theorem dX7_addRead_132 : decode cX7_addRead 132 = .ok (.iload_n 2, 1) := by decide +kernel
theorem dX7_addRead_133 : decode cX7_addRead 133 = .ok (.iaload, 1) := by decide +kernel
theorem dX7_addRead_134 : decode cX7_addRead 134 = .ok (.aload_n 0, 1) := by decide +kernel
theorem dX7_addRead_135 : decode cX7_addRead 135 = .ok (.getfield 34, 3) := by decide +kernel
theorem dX7_addRead_138 : decode cX7_addRead 138 = .ok (.iload_n 2, 1) := by decide +kernel
theorem dX7_addRead_139 : decode cX7_addRead 139 = .ok (.iconst 1, 1) := by decide +kernel
theorem dX7_addRead_140 : decode cX7_addRead 140 = .ok (.iadd, 1) := by decide +kernel
theorem dX7_addRead_141 : decode cX7_addRead 141 = .ok (.iaload, 1) := by decide +kernel
theorem dX7_addRead_142 : decode cX7_addRead 142 = .ok (.aload_n 0, 1) := by decide +kernel
theorem dX7_addRead_143 : decode cX7_addRead 143 = .ok (.getfield 34, 3) := by decide +kernel
theorem dX7_addRead_146 : decode cX7_addRead 146 = .ok (.iload_n 2, 1) := by decide +kernel
theorem dX7_addRead_147 : decode cX7_addRead 147 = .ok (.iconst 2, 1) := by decide +kernel
theorem dX7_addRead_148 : decode cX7_addRead 148 = .ok (.iadd, 1) := by decide +kernel
theorem dX7_addRead_149 : decode cX7_addRead 149 = .ok (.iaload, 1) := by decide +kernel
theorem dX7_addRead_150 : decode cX7_addRead 150 = .ok (.aload_n 0, 1) := by decide +kernel
theorem dX7_addRead_151 : decode cX7_addRead 151 = .ok (.getfield 34, 3) := by decide +kernel
theorem dX7_addRead_154 : decode cX7_addRead 154 = .ok (.iload_n 2, 1) := by decide +kernel
theorem dX7_addRead_155 : decode cX7_addRead 155 = .ok (.iconst 3, 1) := by decide +kernel
theorem dX7_addRead_156 : decode cX7_addRead 156 = .ok (.iadd, 1) := by decide +kernel
theorem dX7_addRead_157 : decode cX7_addRead 157 = .ok (.iaload, 1) := by decide +kernel
theorem dX7_addRead_158 : decode cX7_addRead 158 = .ok (.aload_n 0, 1) := by decide +kernel
theorem dX7_addRead_159 : decode cX7_addRead 159 = .ok (.getfield 34, 3) := by decide +kernel
theorem dX7_addRead_162 : decode cX7_addRead 162 = .ok (.iload_n 2, 1) := by decide +kernel
theorem dX7_addRead_163 : decode cX7_addRead 163 = .ok (.iconst 4, 1) := by decide +kernel
theorem dX7_addRead_164 : decode cX7_addRead 164 = .ok (.iadd, 1) := by decide +kernel
theorem dX7_addRead_165 : decode cX7_addRead 165 = .ok (.iaload, 1) := by decide +kernel
theorem dX7_addRead_166 : decode cX7_addRead 166 = .ok (.aload_n 0, 1) := by decide +kernel
theorem dX7_addRead_167 : decode cX7_addRead 167 = .ok (.getfield 34, 3) := by decide +kernel
theorem dX7_addRead_170 : decode cX7_addRead 170 = .ok (.iload_n 2, 1) := by decide +kernel
theorem dX7_addRead_171 : decode cX7_addRead 171 = .ok (.iconst 5, 1) := by decide +kernel
theorem dX7_addRead_172 : decode cX7_addRead 172 = .ok (.iadd, 1) := by decide +kernel
theorem dX7_addRead_173 : decode cX7_addRead 173 = .ok (.iaload, 1) := by decide +kernel
theorem dX7_addRead_174 : decode cX7_addRead 174 = .ok (.invokevirtual 49, 3) := by decide +kernel
theorem dX7_addRead_177 : decode cX7_addRead 177 = .ok (.aload_n 0, 1) := by decide +kernel
theorem dX7_addRead_178 : decode cX7_addRead 178 = .ok (.invokevirtual 135, 3) := by decide +kernel
theorem dX7_addRead_181 : decode cX7_addRead 181 = .ok (.istore_n 3, 1) := by decide +kernel
theorem dX7_addRead_182 : decode cX7_addRead 182 = .ok (.iload_n 3, 1) := by decide +kernel
theorem dX7_addRead_183 : decode cX7_addRead 183 = .ok (.ifCond .ne 8, 3) := by decide +kernel
theorem dX7_addRead_186 : decode cX7_addRead 186 = .ok (.aload_n 0, 1) := by decide +kernel
theorem dX7_addRead_187 : decode cX7_addRead 187 = .ok (.invokevirtual 142, 3) := by decide +kernel
theorem dX7_addRead_190 : decode cX7_addRead 190 = .ok (.pop, 1) := by decide +kernel
theorem dX7_addRead_191 : decode cX7_addRead 191 = .ok (.iload_n 3, 1) := by decide +kernel
theorem dX7_addRead_192 : decode cX7_addRead 192 = .ok (.ireturn, 1) := by decide +kernel
theorem dX7_load_0 : decode cX7_load 0 = .ok (.aload_n 0, 1) := by decide +kernel
theorem dX7_load_1 : decode cX7_load 1 = .ok (.invokevirtual 215, 3) := by decide +kernel
theorem dX7_load_4 : decode cX7_load 4 = .ok (.aload_n 0, 1) := by decide +kernel
theorem dX7_load_5 : decode cX7_load 5 = .ok (.getfield 173, 3) := by decide +kernel
theorem dX7_load_8 : decode cX7_load 8 = .ok (.if_icmp .ne 14, 3) := by decide +kernel
theorem dX7_load_11 : decode cX7_load 11 = .ok (.aload_n 0, 1) := by decide +kernel
theorem dX7_load_12 : decode cX7_load 12 = .ok (.invokevirtual 218, 3) := by decide +kernel
theorem dX7_load_15 : decode cX7_load 15 = .ok (.ifCond .eq 7, 3) := by decide +kernel
theorem dX7_load_18 : decode cX7_load 18 = .ok (.iconst 1, 1) := by decide +kernel
theorem dX7_load_19 : decode cX7_load 19 = .ok (.goto 4, 3) := by decide +kernel
theorem dX7_load_22 : decode cX7_load 22 = .ok (.iconst 0, 1) := by decide +kernel
theorem dX7_load_23 : decode cX7_load 23 = .ok (.istore_n 1, 1) := by decide +kernel
theorem dX7_load_24 : decode cX7_load 24 = .ok (.aload_n 0, 1) := by decide +kernel
theorem dX7_load_25 : decode cX7_load 25 = .ok (.iload_n 1, 1) := by decide +kernel
theorem dX7_load_26 : decode cX7_load 26 = .ok (.ifCond .eq 7, 3) := by decide +kernel
theorem dX7_load_29 : decode cX7_load 29 = .ok (.iconst 0, 1) := by decide +kernel
theorem dX7_load_30 : decode cX7_load 30 = .ok (.goto 4, 3) := by decide +kernel
theorem dX7_load_33 : decode cX7_load 33 = .ok (.iconst 1, 1) := by decide +kernel
theorem dX7_load_34 : decode cX7_load 34 = .ok (.putfield 37, 3) := by decide +kernel
theorem dX7_load_37 : decode cX7_load 37 = .ok (.aload_n 0, 1) := by decide +kernel
theorem dX7_load_38 : decode cX7_load 38 = .ok (.getfield 37, 3) := by decide +kernel
theorem dX7_load_41 : decode cX7_load 41 = .ok (.ifCond .le 5, 3) := by decide +kernel
theorem dX7_load_44 : decode cX7_load 44 = .ok (.iconst 0, 1) := by decide +kernel
theorem dX7_load_45 : decode cX7_load 45 = .ok (.ireturn, 1) := by decide +kernel
theorem dX7_load_46 : decode cX7_load 46 = .ok (.aload_n 0, 1) := by decide +kernel
theorem dX7_load_47 : decode cX7_load 47 = .ok (.invokevirtual 109, 3) := by decide +kernel
theorem dX7_load_50 : decode cX7_load 50 = .ok (.aload_n 0, 1) := by decide +kernel
theorem dX7_load_51 : decode cX7_load 51 = .ok (.dup, 1) := by decide +kernel
theorem dX7_load_52 : decode cX7_load 52 = .ok (.getfield 179, 3) := by decide +kernel
theorem dX7_load_55 : decode cX7_load 55 = .ok (.iconst 1, 1) := by decide +kernel
theorem dX7_load_56 : decode cX7_load 56 = .ok (.iadd, 1) := by decide +kernel
theorem dX7_load_57 : decode cX7_load 57 = .ok (.putfield 179, 3) := by decide +kernel
theorem dX7_load_60 : decode cX7_load 60 = .ok (.aload_n 0, 1) := by decide +kernel
theorem dX7_load_61 : decode cX7_load 61 = .ok (.iconst 0, 1) := by decide +kernel
theorem dX7_load_62 : decode cX7_load 62 = .ok (.putfield 139, 3) := by decide +kernel
theorem dX7_load_65 : decode cX7_load 65 = .ok (.iconst 0, 1) := by decide +kernel
theorem dX7_load_66 : decode cX7_load 66 = .ok (.istore_n 2, 1) := by decide +kernel
theorem dX7_load_67 : decode cX7_load 67 = .ok (.iload_n 2, 1) := by decide +kernel
theorem dX7_load_68 : decode cX7_load 68 = .ok (.aload_n 0, 1) := by decide +kernel
theorem dX7_load_69 : decode cX7_load 69 = .ok (.getfield 179, 3) := by decide +kernel
theorem dX7_load_72 : decode cX7_load 72 = .ok (.if_icmp .ge 37, 3) := by decide +kernel
theorem dX7_load_75 : decode cX7_load 75 = .ok (.aload_n 0, 1) := by decide +kernel
theorem dX7_load_76 : decode cX7_load 76 = .ok (.getfield 139, 3) := by decide +kernel
theorem dX7_load_79 : decode cX7_load 79 = .ok (.ifCond .ne 30, 3) := by decide +kernel
theorem dX7_load_82 : decode cX7_load 82 = .ok (.aload_n 0, 1) := by decide +kernel
theorem dX7_load_83 : decode cX7_load 83 = .ok (.aload_n 0, 1) := by decide +kernel
theorem dX7_load_84 : decode cX7_load 84 = .ok (.iload_n 2, 1) := by decide +kernel
theorem dX7_load_85 : decode cX7_load 85 = .ok (.invokevirtual 221, 3) := by decide +kernel
theorem dX7_load_88 : decode cX7_load 88 = .ok (.putfield 139, 3) := by decide +kernel
theorem dX7_load_91 : decode cX7_load 91 = .ok (.iload_n 2, 1) := by decide +kernel
theorem dX7_load_92 : decode cX7_load 92 = .ok (.aload_n 0, 1) := by decide +kernel
theorem dX7_load_93 : decode cX7_load 93 = .ok (.getfield 139, 3) := by decide +kernel
theorem dX7_load_96 : decode cX7_load 96 = .ok (.ifCond .ne 7, 3) := by decide +kernel
theorem dX7_load_99 : decode cX7_load 99 = .ok (.iconst 1, 1) := by decide +kernel
theorem dX7_load_100 : decode cX7_load 100 = .ok (.goto 4, 3) := by decide +kernel
theorem dX7_load_103 : decode cX7_load 103 = .ok (.iconst 0, 1) := by decide +kernel
theorem dX7_load_104 : decode cX7_load 104 = .ok (.iadd, 1) := by decide +kernel
theorem dX7_load_105 : decode cX7_load 105 = .ok (.istore_n 2, 1) := by decide +kernel
theorem dX7_load_106 : decode cX7_load 106 = .ok (.goto (-39), 3) := by decide +kernel
theorem dX7_load_109 : decode cX7_load 109 = .ok (.aload_n 0, 1) := by decide +kernel
theorem dX7_load_110 : decode cX7_load 110 = .ok (.iconst 0, 1) := by decide +kernel
theorem dX7_load_111 : decode cX7_load 111 = .ok (.putfield 173, 3) := by decide +kernel
theorem dX7_load_114 : decode cX7_load 114 = .ok (.iload_n 2, 1) := by decide +kernel
theorem dX7_load_115 : decode cX7_load 115 = .ok (.ireturn, 1) := by decide +kernel
theorem dX7_reason_0 : decode cX7_reason 0 = .ok (.aload_n 0, 1) := by decide +kernel
theorem dX7_reason_1 : decode cX7_reason 1 = .ok (.iconst 0, 1) := by decide +kernel
theorem dX7_reason_2 : decode cX7_reason 2 = .ok (.putfield 37, 3) := by decide +kernel
theorem dX7_reason_5 : decode cX7_reason 5 = .ok (.aload_n 0, 1) := by decide +kernel
theorem dX7_reason_6 : decode cX7_reason 6 = .ok (.getfield 139, 3) := by decide +kernel
theorem dX7_reason_9 : decode cX7_reason 9 = .ok (.ireturn, 1) := by decide +kernel
theorem dX7_showNow_0 : decode cX7_showNow 0 = .ok (.iload_n 2, 1) := by decide +kernel
theorem dX7_showNow_1 : decode cX7_showNow 1 = .ok (.bipush 8, 2) := by decide +kernel
theorem dX7_showNow_3 : decode cX7_showNow 3 = .ok (.if_icmp .ge 10, 3) := by decide +kernel
theorem dX7_showNow_6 : decode cX7_showNow 6 = .ok (.aload_n 0, 1) := by decide +kernel
theorem dX7_showNow_7 : decode cX7_showNow 7 = .ok (.iload_n 1, 1) := by decide +kernel
theorem dX7_showNow_8 : decode cX7_showNow 8 = .ok (.iload_n 2, 1) := by decide +kernel
theorem dX7_showNow_9 : decode cX7_showNow 9 = .ok (.invokevirtual 45, 3) := by decide +kernel
theorem dX7_showNow_12 : decode cX7_showNow 12 = .ok (.ireturn, 1) := by decide +kernel
theorem dX7_showNow_13 : decode cX7_showNow 13 = .ok (.aload_n 0, 1) := by decide +kernel
theorem dX7_showNow_14 : decode cX7_showNow 14 = .ok (.aload_n 0, 1) := by decide +kernel
theorem dX7_showNow_15 : decode cX7_showNow 15 = .ok (.iload_n 1, 1) := by decide +kernel
theorem dX7_showNow_16 : decode cX7_showNow 16 = .ok (.iconst 2, 1) := by decide +kernel
theorem dX7_showNow_17 : decode cX7_showNow 17 = .ok (.invokevirtual 45, 3) := by decide +kernel
theorem dX7_showNow_20 : decode cX7_showNow 20 = .ok (.invokevirtual 91, 3) := by decide +kernel
theorem dX7_showNow_23 : decode cX7_showNow 23 = .ok (.iload_n 2, 1) := by decide +kernel
theorem dX7_showNow_24 : decode cX7_showNow 24 = .ok (.bipush 8, 2) := by decide +kernel
theorem dX7_showNow_26 : decode cX7_showNow 26 = .ok (.if_icmp .ne 12, 3) := by decide +kernel
theorem dX7_showNow_29 : decode cX7_showNow 29 = .ok (.aload_n 0, 1) := by decide +kernel
theorem dX7_showNow_30 : decode cX7_showNow 30 = .ok (.getfield 22, 3) := by decide +kernel
theorem dX7_showNow_33 : decode cX7_showNow 33 = .ok (.iload_n 1, 1) := by decide +kernel
theorem dX7_showNow_34 : decode cX7_showNow 34 = .ok (.iaload, 1) := by decide +kernel
theorem dX7_showNow_35 : decode cX7_showNow 35 = .ok (.goto 39, 3) := by decide +kernel
theorem dX7_showNow_38 : decode cX7_showNow 38 = .ok (.iload_n 2, 1) := by decide +kernel
theorem dX7_showNow_39 : decode cX7_showNow 39 = .ok (.bipush 9, 2) := by decide +kernel
theorem dX7_showNow_41 : decode cX7_showNow 41 = .ok (.if_icmp .ne 12, 3) := by decide +kernel
theorem dX7_showNow_44 : decode cX7_showNow 44 = .ok (.aload_n 0, 1) := by decide +kernel
theorem dX7_showNow_45 : decode cX7_showNow 45 = .ok (.getfield 25, 3) := by decide +kernel
theorem dX7_showNow_48 : decode cX7_showNow 48 = .ok (.iload_n 1, 1) := by decide +kernel
theorem dX7_showNow_49 : decode cX7_showNow 49 = .ok (.iaload, 1) := by decide +kernel
theorem dX7_showNow_50 : decode cX7_showNow 50 = .ok (.goto 24, 3) := by decide +kernel
theorem dX7_showNow_53 : decode cX7_showNow 53 = .ok (.iload_n 2, 1) := by decide +kernel
theorem dX7_showNow_54 : decode cX7_showNow 54 = .ok (.bipush 10, 2) := by decide +kernel
theorem dX7_showNow_56 : decode cX7_showNow 56 = .ok (.if_icmp .ne 12, 3) := by decide +kernel
theorem dX7_showNow_59 : decode cX7_showNow 59 = .ok (.aload_n 0, 1) := by decide +kernel
theorem dX7_showNow_60 : decode cX7_showNow 60 = .ok (.getfield 28, 3) := by decide +kernel
theorem dX7_showNow_63 : decode cX7_showNow 63 = .ok (.iload_n 1, 1) := by decide +kernel
theorem dX7_showNow_64 : decode cX7_showNow 64 = .ok (.iaload, 1) := by decide +kernel
theorem dX7_showNow_65 : decode cX7_showNow 65 = .ok (.goto 9, 3) := by decide +kernel
theorem dX7_showNow_68 : decode cX7_showNow 68 = .ok (.aload_n 0, 1) := by decide +kernel
theorem dX7_showNow_69 : decode cX7_showNow 69 = .ok (.getfield 31, 3) := by decide +kernel
theorem dX7_showNow_72 : decode cX7_showNow 72 = .ok (.iload_n 1, 1) := by decide +kernel
theorem dX7_showNow_73 : decode cX7_showNow 73 = .ok (.iaload, 1) := by decide +kernel
theorem dX7_showNow_74 : decode cX7_showNow 74 = .ok (.ireturn, 1) := by decide +kernel
theorem dX7_show_0 : decode cX7_show 0 = .ok (.aload_n 0, 1) := by decide +kernel
theorem dX7_show_1 : decode cX7_show 1 = .ok (.aload_n 0, 1) := by decide +kernel
theorem dX7_show_2 : decode cX7_show 2 = .ok (.iload_n 1, 1) := by decide +kernel
theorem dX7_show_3 : decode cX7_show 3 = .ok (.invokevirtual 152, 3) := by decide +kernel
theorem dX7_show_6 : decode cX7_show 6 = .ok (.ifCond .ne 7, 3) := by decide +kernel
theorem dX7_show_9 : decode cX7_show 9 = .ok (.iconst 1, 1) := by decide +kernel
theorem dX7_show_10 : decode cX7_show 10 = .ok (.goto 18, 3) := by decide +kernel
theorem dX7_show_13 : decode cX7_show 13 = .ok (.iload_n 2, 1) := by decide +kernel
theorem dX7_show_14 : decode cX7_show 14 = .ok (.iconst 0, 1) := by decide +kernel
theorem dX7_show_15 : decode cX7_show 15 = .ok (.bipush 11, 2) := by decide +kernel
theorem dX7_show_17 : decode cX7_show 17 = .ok (.invokestatic 41, 3) := by decide +kernel
theorem dX7_show_20 : decode cX7_show 20 = .ok (.ifCond .eq 7, 3) := by decide +kernel
theorem dX7_show_23 : decode cX7_show 23 = .ok (.iconst 0, 1) := by decide +kernel
theorem dX7_show_24 : decode cX7_show 24 = .ok (.goto 4, 3) := by decide +kernel
theorem dX7_show_27 : decode cX7_show 27 = .ok (.iconst 2, 1) := by decide +kernel
theorem dX7_show_28 : decode cX7_show 28 = .ok (.putfield 37, 3) := by decide +kernel
theorem dX7_show_31 : decode cX7_show 31 = .ok (.aload_n 0, 1) := by decide +kernel
theorem dX7_show_32 : decode cX7_show 32 = .ok (.getfield 37, 3) := by decide +kernel
theorem dX7_show_35 : decode cX7_show 35 = .ok (.ifCond .le 7, 3) := by decide +kernel
theorem dX7_show_38 : decode cX7_show 38 = .ok (.iconst 0, 1) := by decide +kernel
theorem dX7_show_39 : decode cX7_show 39 = .ok (.goto 9, 3) := by decide +kernel
theorem dX7_show_42 : decode cX7_show 42 = .ok (.aload_n 0, 1) := by decide +kernel
theorem dX7_show_43 : decode cX7_show 43 = .ok (.iload_n 1, 1) := by decide +kernel
theorem dX7_show_44 : decode cX7_show 44 = .ok (.iload_n 2, 1) := by decide +kernel
theorem dX7_show_45 : decode cX7_show 45 = .ok (.invokevirtual 224, 3) := by decide +kernel
theorem dX7_show_48 : decode cX7_show 48 = .ok (.ireturn, 1) := by decide +kernel
theorem dX7_showsOf_0 : decode cX7_showsOf 0 = .ok (.iconst 0, 1) := by decide +kernel
theorem dX7_showsOf_1 : decode cX7_showsOf 1 = .ok (.istore_n 2, 1) := by decide +kernel
theorem dX7_showsOf_2 : decode cX7_showsOf 2 = .ok (.iconst 0, 1) := by decide +kernel
theorem dX7_showsOf_3 : decode cX7_showsOf 3 = .ok (.istore_n 3, 1) := by decide +kernel
theorem dX7_showsOf_4 : decode cX7_showsOf 4 = .ok (.iload_n 3, 1) := by decide +kernel
theorem dX7_showsOf_5 : decode cX7_showsOf 5 = .ok (.aload_n 0, 1) := by decide +kernel
theorem dX7_showsOf_6 : decode cX7_showsOf 6 = .ok (.getfield 7, 3) := by decide +kernel
theorem dX7_showsOf_9 : decode cX7_showsOf 9 = .ok (.bipush 39, 2) := by decide +kernel
theorem dX7_showsOf_11 : decode cX7_showsOf 11 = .ok (.iaload, 1) := by decide +kernel
theorem dX7_showsOf_12 : decode cX7_showsOf 12 = .ok (.if_icmp .ge 27, 3) := by decide +kernel
theorem dX7_showsOf_15 : decode cX7_showsOf 15 = .ok (.iload_n 2, 1) := by decide +kernel
theorem dX7_showsOf_16 : decode cX7_showsOf 16 = .ok (.aload_n 0, 1) := by decide +kernel
theorem dX7_showsOf_17 : decode cX7_showsOf 17 = .ok (.iload_n 3, 1) := by decide +kernel
theorem dX7_showsOf_18 : decode cX7_showsOf 18 = .ok (.iconst 1, 1) := by decide +kernel
theorem dX7_showsOf_19 : decode cX7_showsOf 19 = .ok (.invokevirtual 45, 3) := by decide +kernel
theorem dX7_showsOf_22 : decode cX7_showsOf 22 = .ok (.iload_n 1, 1) := by decide +kernel
theorem dX7_showsOf_23 : decode cX7_showsOf 23 = .ok (.if_icmp .ne 7, 3) := by decide +kernel
theorem dX7_showsOf_26 : decode cX7_showsOf 26 = .ok (.iconst 1, 1) := by decide +kernel
theorem dX7_showsOf_27 : decode cX7_showsOf 27 = .ok (.goto 4, 3) := by decide +kernel
theorem dX7_showsOf_30 : decode cX7_showsOf 30 = .ok (.iconst 0, 1) := by decide +kernel
theorem dX7_showsOf_31 : decode cX7_showsOf 31 = .ok (.iadd, 1) := by decide +kernel
theorem dX7_showsOf_32 : decode cX7_showsOf 32 = .ok (.istore_n 2, 1) := by decide +kernel
theorem dX7_showsOf_33 : decode cX7_showsOf 33 = .ok (.iinc 3 1, 3) := by decide +kernel
theorem dX7_showsOf_36 : decode cX7_showsOf 36 = .ok (.goto (-32), 3) := by decide +kernel
theorem dX7_showsOf_39 : decode cX7_showsOf 39 = .ok (.iload_n 2, 1) := by decide +kernel
theorem dX7_showsOf_40 : decode cX7_showsOf 40 = .ok (.ireturn, 1) := by decide +kernel
theorem dX7_groupNow_0 : decode cX7_groupNow 0 = .ok (.bipush 8, 2) := by decide +kernel
theorem dX7_groupNow_2 : decode cX7_groupNow 2 = .ok (.iconst 5, 1) := by decide +kernel
theorem dX7_groupNow_3 : decode cX7_groupNow 3 = .ok (.iload_n 1, 1) := by decide +kernel
theorem dX7_groupNow_4 : decode cX7_groupNow 4 = .ok (.imul, 1) := by decide +kernel
theorem dX7_groupNow_5 : decode cX7_groupNow 5 = .ok (.iadd, 1) := by decide +kernel
theorem dX7_groupNow_6 : decode cX7_groupNow 6 = .ok (.istore_n 3, 1) := by decide +kernel
theorem dX7_groupNow_7 : decode cX7_groupNow 7 = .ok (.iload_n 2, 1) := by decide +kernel
theorem dX7_groupNow_8 : decode cX7_groupNow 8 = .ok (.tableswitch 73 0 5 #[40, 40, 49, 55, 61, 67], 40) := by decide +kernel
theorem dX7_groupNow_48 : decode cX7_groupNow 48 = .ok (.aload_n 0, 1) := by decide +kernel
theorem dX7_groupNow_49 : decode cX7_groupNow 49 = .ok (.getfield 7, 3) := by decide +kernel
theorem dX7_groupNow_52 : decode cX7_groupNow 52 = .ok (.iload_n 3, 1) := by decide +kernel
theorem dX7_groupNow_53 : decode cX7_groupNow 53 = .ok (.iload_n 2, 1) := by decide +kernel
theorem dX7_groupNow_54 : decode cX7_groupNow 54 = .ok (.iadd, 1) := by decide +kernel
theorem dX7_groupNow_55 : decode cX7_groupNow 55 = .ok (.iaload, 1) := by decide +kernel
theorem dX7_groupNow_56 : decode cX7_groupNow 56 = .ok (.ireturn, 1) := by decide +kernel
theorem dX7_groupNow_57 : decode cX7_groupNow 57 = .ok (.aload_n 0, 1) := by decide +kernel
theorem dX7_groupNow_58 : decode cX7_groupNow 58 = .ok (.iload_n 1, 1) := by decide +kernel
theorem dX7_groupNow_59 : decode cX7_groupNow 59 = .ok (.invokevirtual 74, 3) := by decide +kernel
theorem dX7_groupNow_62 : decode cX7_groupNow 62 = .ok (.ireturn, 1) := by decide +kernel
theorem dX7_groupNow_63 : decode cX7_groupNow 63 = .ok (.aload_n 0, 1) := by decide +kernel
theorem dX7_groupNow_64 : decode cX7_groupNow 64 = .ok (.iload_n 1, 1) := by decide +kernel
theorem dX7_groupNow_65 : decode cX7_groupNow 65 = .ok (.invokevirtual 70, 3) := by decide +kernel
theorem dX7_groupNow_68 : decode cX7_groupNow 68 = .ok (.ireturn, 1) := by decide +kernel
theorem dX7_groupNow_69 : decode cX7_groupNow 69 = .ok (.aload_n 0, 1) := by decide +kernel
theorem dX7_groupNow_70 : decode cX7_groupNow 70 = .ok (.iload_n 1, 1) := by decide +kernel
theorem dX7_groupNow_71 : decode cX7_groupNow 71 = .ok (.invokevirtual 167, 3) := by decide +kernel
theorem dX7_groupNow_74 : decode cX7_groupNow 74 = .ok (.ireturn, 1) := by decide +kernel
theorem dX7_groupNow_75 : decode cX7_groupNow 75 = .ok (.aload_n 0, 1) := by decide +kernel
theorem dX7_groupNow_76 : decode cX7_groupNow 76 = .ok (.iload_n 1, 1) := by decide +kernel
theorem dX7_groupNow_77 : decode cX7_groupNow 77 = .ok (.invokevirtual 227, 3) := by decide +kernel
theorem dX7_groupNow_80 : decode cX7_groupNow 80 = .ok (.ireturn, 1) := by decide +kernel
theorem dX7_groupNow_81 : decode cX7_groupNow 81 = .ok (.aload_n 0, 1) := by decide +kernel
theorem dX7_groupNow_82 : decode cX7_groupNow 82 = .ok (.getfield 7, 3) := by decide +kernel
theorem dX7_groupNow_85 : decode cX7_groupNow 85 = .ok (.iload_n 3, 1) := by decide +kernel
theorem dX7_groupNow_86 : decode cX7_groupNow 86 = .ok (.iload_n 2, 1) := by decide +kernel
theorem dX7_groupNow_87 : decode cX7_groupNow 87 = .ok (.iadd, 1) := by decide +kernel
theorem dX7_groupNow_88 : decode cX7_groupNow 88 = .ok (.iconst 4, 1) := by decide +kernel
theorem dX7_groupNow_89 : decode cX7_groupNow 89 = .ok (.isub, 1) := by decide +kernel
theorem dX7_groupNow_90 : decode cX7_groupNow 90 = .ok (.iaload, 1) := by decide +kernel
theorem dX7_groupNow_91 : decode cX7_groupNow 91 = .ok (.ireturn, 1) := by decide +kernel
theorem dX7_group_0 : decode cX7_group 0 = .ok (.aload_n 0, 1) := by decide +kernel
theorem dX7_group_1 : decode cX7_group 1 = .ok (.iload_n 1, 1) := by decide +kernel
theorem dX7_group_2 : decode cX7_group 2 = .ok (.invokestatic 123, 3) := by decide +kernel
theorem dX7_group_5 : decode cX7_group 5 = .ok (.ifCond .ne 7, 3) := by decide +kernel
theorem dX7_group_8 : decode cX7_group 8 = .ok (.iconst 1, 1) := by decide +kernel
theorem dX7_group_9 : decode cX7_group 9 = .ok (.goto 18, 3) := by decide +kernel
theorem dX7_group_12 : decode cX7_group 12 = .ok (.iload_n 2, 1) := by decide +kernel
theorem dX7_group_13 : decode cX7_group 13 = .ok (.iconst 0, 1) := by decide +kernel
theorem dX7_group_14 : decode cX7_group 14 = .ok (.bipush 8, 2) := by decide +kernel
theorem dX7_group_16 : decode cX7_group 16 = .ok (.invokestatic 41, 3) := by decide +kernel
theorem dX7_group_19 : decode cX7_group 19 = .ok (.ifCond .eq 7, 3) := by decide +kernel
theorem dX7_group_22 : decode cX7_group 22 = .ok (.iconst 0, 1) := by decide +kernel
theorem dX7_group_23 : decode cX7_group 23 = .ok (.goto 4, 3) := by decide +kernel
theorem dX7_group_26 : decode cX7_group 26 = .ok (.iconst 2, 1) := by decide +kernel
theorem dX7_group_27 : decode cX7_group 27 = .ok (.putfield 37, 3) := by decide +kernel
theorem dX7_group_30 : decode cX7_group 30 = .ok (.aload_n 0, 1) := by decide +kernel
theorem dX7_group_31 : decode cX7_group 31 = .ok (.getfield 37, 3) := by decide +kernel
theorem dX7_group_34 : decode cX7_group 34 = .ok (.ifCond .le 7, 3) := by decide +kernel
theorem dX7_group_37 : decode cX7_group 37 = .ok (.iconst 0, 1) := by decide +kernel
theorem dX7_group_38 : decode cX7_group 38 = .ok (.goto 9, 3) := by decide +kernel
theorem dX7_group_41 : decode cX7_group 41 = .ok (.aload_n 0, 1) := by decide +kernel
theorem dX7_group_42 : decode cX7_group 42 = .ok (.iload_n 1, 1) := by decide +kernel
theorem dX7_group_43 : decode cX7_group 43 = .ok (.iload_n 2, 1) := by decide +kernel
theorem dX7_group_44 : decode cX7_group 44 = .ok (.invokevirtual 230, 3) := by decide +kernel
theorem dX7_group_47 : decode cX7_group 47 = .ok (.ireturn, 1) := by decide +kernel
theorem dX7_sponsorsNow_0 : decode cX7_sponsorsNow 0 = .ok (.aload_n 0, 1) := by decide +kernel
theorem dX7_sponsorsNow_1 : decode cX7_sponsorsNow 1 = .ok (.iload_n 1, 1) := by decide +kernel
theorem dX7_sponsorsNow_2 : decode cX7_sponsorsNow 2 = .ok (.invokevirtual 91, 3) := by decide +kernel
theorem dX7_sponsorsNow_5 : decode cX7_sponsorsNow 5 = .ok (.iload_n 3, 1) := by decide +kernel
theorem dX7_sponsorsNow_6 : decode cX7_sponsorsNow 6 = .ok (.ifCond .eq 12, 3) := by decide +kernel
theorem dX7_sponsorsNow_9 : decode cX7_sponsorsNow 9 = .ok (.aload_n 0, 1) := by decide +kernel
theorem dX7_sponsorsNow_10 : decode cX7_sponsorsNow 10 = .ok (.iload_n 1, 1) := by decide +kernel
theorem dX7_sponsorsNow_11 : decode cX7_sponsorsNow 11 = .ok (.iload_n 2, 1) := by decide +kernel
theorem dX7_sponsorsNow_12 : decode cX7_sponsorsNow 12 = .ok (.invokevirtual 94, 3) := by decide +kernel
theorem dX7_sponsorsNow_15 : decode cX7_sponsorsNow 15 = .ok (.goto 9, 3) := by decide +kernel
theorem dX7_sponsorsNow_18 : decode cX7_sponsorsNow 18 = .ok (.aload_n 0, 1) := by decide +kernel
theorem dX7_sponsorsNow_19 : decode cX7_sponsorsNow 19 = .ok (.iload_n 1, 1) := by decide +kernel
theorem dX7_sponsorsNow_20 : decode cX7_sponsorsNow 20 = .ok (.iload_n 2, 1) := by decide +kernel
theorem dX7_sponsorsNow_21 : decode cX7_sponsorsNow 21 = .ok (.invokevirtual 60, 3) := by decide +kernel
theorem dX7_sponsorsNow_24 : decode cX7_sponsorsNow 24 = .ok (.ireturn, 1) := by decide +kernel
theorem dX7_sponsors_0 : decode cX7_sponsors 0 = .ok (.aload_n 0, 1) := by decide +kernel
theorem dX7_sponsors_1 : decode cX7_sponsors 1 = .ok (.iload_n 1, 1) := by decide +kernel
theorem dX7_sponsors_2 : decode cX7_sponsors 2 = .ok (.invokestatic 126, 3) := by decide +kernel
theorem dX7_sponsors_5 : decode cX7_sponsors 5 = .ok (.ifCond .eq 17, 3) := by decide +kernel
theorem dX7_sponsors_8 : decode cX7_sponsors 8 = .ok (.iload_n 2, 1) := by decide +kernel
theorem dX7_sponsors_9 : decode cX7_sponsors 9 = .ok (.iconst 0, 1) := by decide +kernel
theorem dX7_sponsors_10 : decode cX7_sponsors 10 = .ok (.bipush 23, 2) := by decide +kernel
theorem dX7_sponsors_12 : decode cX7_sponsors 12 = .ok (.invokestatic 41, 3) := by decide +kernel
theorem dX7_sponsors_15 : decode cX7_sponsors 15 = .ok (.ifCond .eq 7, 3) := by decide +kernel
theorem dX7_sponsors_18 : decode cX7_sponsors 18 = .ok (.iconst 0, 1) := by decide +kernel
theorem dX7_sponsors_19 : decode cX7_sponsors 19 = .ok (.goto 4, 3) := by decide +kernel
theorem dX7_sponsors_22 : decode cX7_sponsors 22 = .ok (.iconst 1, 1) := by decide +kernel
theorem dX7_sponsors_23 : decode cX7_sponsors 23 = .ok (.putfield 37, 3) := by decide +kernel
theorem dX7_sponsors_26 : decode cX7_sponsors 26 = .ok (.aload_n 0, 1) := by decide +kernel
theorem dX7_sponsors_27 : decode cX7_sponsors 27 = .ok (.getfield 37, 3) := by decide +kernel
theorem dX7_sponsors_30 : decode cX7_sponsors 30 = .ok (.ifCond .le 7, 3) := by decide +kernel
theorem dX7_sponsors_33 : decode cX7_sponsors 33 = .ok (.iconst 0, 1) := by decide +kernel
theorem dX7_sponsors_34 : decode cX7_sponsors 34 = .ok (.goto 10, 3) := by decide +kernel
theorem dX7_sponsors_37 : decode cX7_sponsors 37 = .ok (.aload_n 0, 1) := by decide +kernel
theorem dX7_sponsors_38 : decode cX7_sponsors 38 = .ok (.iload_n 1, 1) := by decide +kernel
theorem dX7_sponsors_39 : decode cX7_sponsors 39 = .ok (.iload_n 2, 1) := by decide +kernel
theorem dX7_sponsors_40 : decode cX7_sponsors 40 = .ok (.iload_n 3, 1) := by decide +kernel
theorem dX7_sponsors_41 : decode cX7_sponsors 41 = .ok (.invokevirtual 233, 3) := by decide +kernel
theorem dX7_sponsors_44 : decode cX7_sponsors 44 = .ok (.ireturn, 1) := by decide +kernel
theorem dX7_day_0 : decode cX7_day 0 = .ok (.aload_n 0, 1) := by decide +kernel
theorem dX7_day_1 : decode cX7_day 1 = .ok (.iload_n 1, 1) := by decide +kernel
theorem dX7_day_2 : decode cX7_day 2 = .ok (.invokestatic 126, 3) := by decide +kernel
theorem dX7_day_5 : decode cX7_day 5 = .ok (.ifCond .ne 7, 3) := by decide +kernel
theorem dX7_day_8 : decode cX7_day 8 = .ok (.iconst 1, 1) := by decide +kernel
theorem dX7_day_9 : decode cX7_day 9 = .ok (.goto 18, 3) := by decide +kernel
theorem dX7_day_12 : decode cX7_day 12 = .ok (.iload_n 2, 1) := by decide +kernel
theorem dX7_day_13 : decode cX7_day 13 = .ok (.iconst 0, 1) := by decide +kernel
theorem dX7_day_14 : decode cX7_day 14 = .ok (.bipush 7, 2) := by decide +kernel
theorem dX7_day_16 : decode cX7_day 16 = .ok (.invokestatic 41, 3) := by decide +kernel
theorem dX7_day_19 : decode cX7_day 19 = .ok (.ifCond .eq 7, 3) := by decide +kernel
theorem dX7_day_22 : decode cX7_day 22 = .ok (.iconst 0, 1) := by decide +kernel
theorem dX7_day_23 : decode cX7_day 23 = .ok (.goto 4, 3) := by decide +kernel
theorem dX7_day_26 : decode cX7_day 26 = .ok (.iconst 2, 1) := by decide +kernel
theorem dX7_day_27 : decode cX7_day 27 = .ok (.putfield 37, 3) := by decide +kernel
theorem dX7_day_30 : decode cX7_day 30 = .ok (.aload_n 0, 1) := by decide +kernel
theorem dX7_day_31 : decode cX7_day 31 = .ok (.getfield 37, 3) := by decide +kernel
theorem dX7_day_34 : decode cX7_day 34 = .ok (.ifCond .le 7, 3) := by decide +kernel
theorem dX7_day_37 : decode cX7_day 37 = .ok (.iconst 0, 1) := by decide +kernel
theorem dX7_day_38 : decode cX7_day 38 = .ok (.goto 9, 3) := by decide +kernel
theorem dX7_day_41 : decode cX7_day 41 = .ok (.aload_n 0, 1) := by decide +kernel
theorem dX7_day_42 : decode cX7_day 42 = .ok (.iload_n 1, 1) := by decide +kernel
theorem dX7_day_43 : decode cX7_day 43 = .ok (.iload_n 2, 1) := by decide +kernel
theorem dX7_day_44 : decode cX7_day 44 = .ok (.invokevirtual 100, 3) := by decide +kernel
theorem dX7_day_47 : decode cX7_day 47 = .ok (.ireturn, 1) := by decide +kernel
theorem dX7_ofKind_0 : decode cX7_ofKind 0 = .ok (.iconst 0, 1) := by decide +kernel
theorem dX7_ofKind_1 : decode cX7_ofKind 1 = .ok (.istore_n 2, 1) := by decide +kernel
theorem dX7_ofKind_2 : decode cX7_ofKind 2 = .ok (.iconst 0, 1) := by decide +kernel
theorem dX7_ofKind_3 : decode cX7_ofKind 3 = .ok (.istore_n 3, 1) := by decide +kernel
theorem dX7_ofKind_4 : decode cX7_ofKind 4 = .ok (.iload_n 3, 1) := by decide +kernel
theorem dX7_ofKind_5 : decode cX7_ofKind 5 = .ok (.aload_n 0, 1) := by decide +kernel
theorem dX7_ofKind_6 : decode cX7_ofKind 6 = .ok (.getfield 7, 3) := by decide +kernel
theorem dX7_ofKind_9 : decode cX7_ofKind 9 = .ok (.bipush 39, 2) := by decide +kernel
theorem dX7_ofKind_11 : decode cX7_ofKind 11 = .ok (.iaload, 1) := by decide +kernel
theorem dX7_ofKind_12 : decode cX7_ofKind 12 = .ok (.if_icmp .ge 27, 3) := by decide +kernel
theorem dX7_ofKind_15 : decode cX7_ofKind 15 = .ok (.iload_n 2, 1) := by decide +kernel
theorem dX7_ofKind_16 : decode cX7_ofKind 16 = .ok (.aload_n 0, 1) := by decide +kernel
theorem dX7_ofKind_17 : decode cX7_ofKind 17 = .ok (.iload_n 3, 1) := by decide +kernel
theorem dX7_ofKind_18 : decode cX7_ofKind 18 = .ok (.iconst 0, 1) := by decide +kernel
theorem dX7_ofKind_19 : decode cX7_ofKind 19 = .ok (.invokevirtual 45, 3) := by decide +kernel
theorem dX7_ofKind_22 : decode cX7_ofKind 22 = .ok (.iload_n 1, 1) := by decide +kernel
theorem dX7_ofKind_23 : decode cX7_ofKind 23 = .ok (.if_icmp .ne 7, 3) := by decide +kernel
theorem dX7_ofKind_26 : decode cX7_ofKind 26 = .ok (.iconst 1, 1) := by decide +kernel
theorem dX7_ofKind_27 : decode cX7_ofKind 27 = .ok (.goto 4, 3) := by decide +kernel
theorem dX7_ofKind_30 : decode cX7_ofKind 30 = .ok (.iconst 0, 1) := by decide +kernel
theorem dX7_ofKind_31 : decode cX7_ofKind 31 = .ok (.iadd, 1) := by decide +kernel
theorem dX7_ofKind_32 : decode cX7_ofKind 32 = .ok (.istore_n 2, 1) := by decide +kernel
theorem dX7_ofKind_33 : decode cX7_ofKind 33 = .ok (.iinc 3 1, 3) := by decide +kernel
theorem dX7_ofKind_36 : decode cX7_ofKind 36 = .ok (.goto (-32), 3) := by decide +kernel
theorem dX7_ofKind_39 : decode cX7_ofKind 39 = .ok (.iload_n 2, 1) := by decide +kernel
theorem dX7_ofKind_40 : decode cX7_ofKind 40 = .ok (.ireturn, 1) := by decide +kernel
theorem dX7_counted_0 : decode cX7_counted 0 = .ok (.iload_n 1, 1) := by decide +kernel
theorem dX7_counted_1 : decode cX7_counted 1 = .ok (.tableswitch 88 0 6 #[43, 51, 59, 65, 71, 77, 83], 43) := by decide +kernel
theorem dX7_counted_44 : decode cX7_counted 44 = .ok (.aload_n 0, 1) := by decide +kernel
theorem dX7_counted_45 : decode cX7_counted 45 = .ok (.getfield 7, 3) := by decide +kernel
theorem dX7_counted_48 : decode cX7_counted 48 = .ok (.bipush 38, 2) := by decide +kernel
theorem dX7_counted_50 : decode cX7_counted 50 = .ok (.iaload, 1) := by decide +kernel
theorem dX7_counted_51 : decode cX7_counted 51 = .ok (.ireturn, 1) := by decide +kernel
theorem dX7_counted_52 : decode cX7_counted 52 = .ok (.aload_n 0, 1) := by decide +kernel
theorem dX7_counted_53 : decode cX7_counted 53 = .ok (.getfield 7, 3) := by decide +kernel
theorem dX7_counted_56 : decode cX7_counted 56 = .ok (.bipush 39, 2) := by decide +kernel
theorem dX7_counted_58 : decode cX7_counted 58 = .ok (.iaload, 1) := by decide +kernel
theorem dX7_counted_59 : decode cX7_counted 59 = .ok (.ireturn, 1) := by decide +kernel
theorem dX7_counted_60 : decode cX7_counted 60 = .ok (.aload_n 0, 1) := by decide +kernel
theorem dX7_counted_61 : decode cX7_counted 61 = .ok (.iconst 0, 1) := by decide +kernel
theorem dX7_counted_62 : decode cX7_counted 62 = .ok (.invokevirtual 237, 3) := by decide +kernel
theorem dX7_counted_65 : decode cX7_counted 65 = .ok (.ireturn, 1) := by decide +kernel
theorem dX7_counted_66 : decode cX7_counted 66 = .ok (.aload_n 0, 1) := by decide +kernel
theorem dX7_counted_67 : decode cX7_counted 67 = .ok (.iconst 2, 1) := by decide +kernel
theorem dX7_counted_68 : decode cX7_counted 68 = .ok (.invokevirtual 237, 3) := by decide +kernel
theorem dX7_counted_71 : decode cX7_counted 71 = .ok (.ireturn, 1) := by decide +kernel
theorem dX7_counted_72 : decode cX7_counted 72 = .ok (.aload_n 0, 1) := by decide +kernel
theorem dX7_counted_73 : decode cX7_counted 73 = .ok (.iconst 3, 1) := by decide +kernel
theorem dX7_counted_74 : decode cX7_counted 74 = .ok (.invokevirtual 240, 3) := by decide +kernel
theorem dX7_counted_77 : decode cX7_counted 77 = .ok (.ireturn, 1) := by decide +kernel
theorem dX7_counted_78 : decode cX7_counted 78 = .ok (.aload_n 0, 1) := by decide +kernel
theorem dX7_counted_79 : decode cX7_counted 79 = .ok (.iconst 4, 1) := by decide +kernel
theorem dX7_counted_80 : decode cX7_counted 80 = .ok (.invokevirtual 240, 3) := by decide +kernel
theorem dX7_counted_83 : decode cX7_counted 83 = .ok (.ireturn, 1) := by decide +kernel
theorem dX7_counted_84 : decode cX7_counted 84 = .ok (.aload_n 0, 1) := by decide +kernel
theorem dX7_counted_85 : decode cX7_counted 85 = .ok (.getfield 106, 3) := by decide +kernel
theorem dX7_counted_88 : decode cX7_counted 88 = .ok (.ireturn, 1) := by decide +kernel
theorem dX7_counted_89 : decode cX7_counted 89 = .ok (.aload_n 0, 1) := by decide +kernel
theorem dX7_counted_90 : decode cX7_counted 90 = .ok (.iconst 2, 1) := by decide +kernel
theorem dX7_counted_91 : decode cX7_counted 91 = .ok (.invokevirtual 240, 3) := by decide +kernel
theorem dX7_counted_94 : decode cX7_counted 94 = .ok (.ireturn, 1) := by decide +kernel
theorem dX7_count_0 : decode cX7_count 0 = .ok (.aload_n 0, 1) := by decide +kernel
theorem dX7_count_1 : decode cX7_count 1 = .ok (.iload_n 1, 1) := by decide +kernel
theorem dX7_count_2 : decode cX7_count 2 = .ok (.iconst 0, 1) := by decide +kernel
theorem dX7_count_3 : decode cX7_count 3 = .ok (.bipush 7, 2) := by decide +kernel
theorem dX7_count_5 : decode cX7_count 5 = .ok (.invokestatic 41, 3) := by decide +kernel
theorem dX7_count_8 : decode cX7_count 8 = .ok (.ifCond .eq 7, 3) := by decide +kernel
theorem dX7_count_11 : decode cX7_count 11 = .ok (.iconst 0, 1) := by decide +kernel
theorem dX7_count_12 : decode cX7_count 12 = .ok (.goto 4, 3) := by decide +kernel
theorem dX7_count_15 : decode cX7_count 15 = .ok (.iconst 1, 1) := by decide +kernel
theorem dX7_count_16 : decode cX7_count 16 = .ok (.putfield 37, 3) := by decide +kernel
theorem dX7_count_19 : decode cX7_count 19 = .ok (.aload_n 0, 1) := by decide +kernel
theorem dX7_count_20 : decode cX7_count 20 = .ok (.getfield 37, 3) := by decide +kernel
theorem dX7_count_23 : decode cX7_count 23 = .ok (.ifCond .le 7, 3) := by decide +kernel
theorem dX7_count_26 : decode cX7_count 26 = .ok (.iconst 0, 1) := by decide +kernel
theorem dX7_count_27 : decode cX7_count 27 = .ok (.goto 8, 3) := by decide +kernel
theorem dX7_count_30 : decode cX7_count 30 = .ok (.aload_n 0, 1) := by decide +kernel
theorem dX7_count_31 : decode cX7_count 31 = .ok (.iload_n 1, 1) := by decide +kernel
theorem dX7_count_32 : decode cX7_count 32 = .ok (.invokevirtual 243, 3) := by decide +kernel
theorem dX7_count_35 : decode cX7_count 35 = .ok (.ireturn, 1) := by decide +kernel
theorem dX7_setting_0 : decode cX7_setting 0 = .ok (.aload_n 0, 1) := by decide +kernel
theorem dX7_setting_1 : decode cX7_setting 1 = .ok (.iload_n 1, 1) := by decide +kernel
theorem dX7_setting_2 : decode cX7_setting 2 = .ok (.invokestatic 112, 3) := by decide +kernel
theorem dX7_setting_5 : decode cX7_setting 5 = .ok (.ifCond .eq 7, 3) := by decide +kernel
theorem dX7_setting_8 : decode cX7_setting 8 = .ok (.iconst 0, 1) := by decide +kernel
theorem dX7_setting_9 : decode cX7_setting 9 = .ok (.goto 4, 3) := by decide +kernel
theorem dX7_setting_12 : decode cX7_setting 12 = .ok (.iconst 1, 1) := by decide +kernel
theorem dX7_setting_13 : decode cX7_setting 13 = .ok (.putfield 37, 3) := by decide +kernel
theorem dX7_setting_16 : decode cX7_setting 16 = .ok (.aload_n 0, 1) := by decide +kernel
theorem dX7_setting_17 : decode cX7_setting 17 = .ok (.getfield 37, 3) := by decide +kernel
theorem dX7_setting_20 : decode cX7_setting 20 = .ok (.ifCond .le 7, 3) := by decide +kernel
theorem dX7_setting_23 : decode cX7_setting 23 = .ok (.iconst 0, 1) := by decide +kernel
theorem dX7_setting_24 : decode cX7_setting 24 = .ok (.goto 9, 3) := by decide +kernel
theorem dX7_setting_27 : decode cX7_setting 27 = .ok (.aload_n 0, 1) := by decide +kernel
theorem dX7_setting_28 : decode cX7_setting 28 = .ok (.getfield 7, 3) := by decide +kernel
theorem dX7_setting_31 : decode cX7_setting 31 = .ok (.iload_n 1, 1) := by decide +kernel
theorem dX7_setting_32 : decode cX7_setting 32 = .ok (.iaload, 1) := by decide +kernel
theorem dX7_setting_33 : decode cX7_setting 33 = .ok (.ireturn, 1) := by decide +kernel
theorem dX7_whyTape_0 : decode cX7_whyTape 0 = .ok (.aload_n 0, 1) := by decide +kernel
theorem dX7_whyTape_1 : decode cX7_whyTape 1 = .ok (.iconst 1, 1) := by decide +kernel
theorem dX7_whyTape_2 : decode cX7_whyTape 2 = .ok (.iload_n 1, 1) := by decide +kernel
theorem dX7_whyTape_3 : decode cX7_whyTape 3 = .ok (.iload_n 2, 1) := by decide +kernel
theorem dX7_whyTape_4 : decode cX7_whyTape 4 = .ok (.iload_n 3, 1) := by decide +kernel
theorem dX7_whyTape_5 : decode cX7_whyTape 5 = .ok (.iload 4, 2) := by decide +kernel
theorem dX7_whyTape_7 : decode cX7_whyTape 7 = .ok (.iconst 0, 1) := by decide +kernel
theorem dX7_whyTape_8 : decode cX7_whyTape 8 = .ok (.invokevirtual 49, 3) := by decide +kernel
theorem dX7_whyTape_11 : decode cX7_whyTape 11 = .ok (.aload_n 0, 1) := by decide +kernel
theorem dX7_whyTape_12 : decode cX7_whyTape 12 = .ok (.invokevirtual 135, 3) := by decide +kernel
theorem dX7_whyTape_15 : decode cX7_whyTape 15 = .ok (.ireturn, 1) := by decide +kernel
theorem dX7_why_0 : decode cX7_why 0 = .ok (.aload_n 0, 1) := by decide +kernel
theorem dX7_why_1 : decode cX7_why 1 = .ok (.iload_n 1, 1) := by decide +kernel
theorem dX7_why_2 : decode cX7_why 2 = .ok (.iload_n 2, 1) := by decide +kernel
theorem dX7_why_3 : decode cX7_why 3 = .ok (.iload_n 3, 1) := by decide +kernel
theorem dX7_why_4 : decode cX7_why 4 = .ok (.iload 4, 2) := by decide +kernel
theorem dX7_why_6 : decode cX7_why 6 = .ok (.iconst 0, 1) := by decide +kernel
theorem dX7_why_7 : decode cX7_why 7 = .ok (.invokestatic 145, 3) := by decide +kernel
theorem dX7_why_10 : decode cX7_why 10 = .ok (.ifCond .eq 7, 3) := by decide +kernel
theorem dX7_why_13 : decode cX7_why 13 = .ok (.iconst 0, 1) := by decide +kernel
theorem dX7_why_14 : decode cX7_why 14 = .ok (.goto 4, 3) := by decide +kernel
theorem dX7_why_17 : decode cX7_why 17 = .ok (.iconst 1, 1) := by decide +kernel
theorem dX7_why_18 : decode cX7_why 18 = .ok (.putfield 37, 3) := by decide +kernel
theorem dX7_why_21 : decode cX7_why 21 = .ok (.aload_n 0, 1) := by decide +kernel
theorem dX7_why_22 : decode cX7_why 22 = .ok (.getfield 37, 3) := by decide +kernel
theorem dX7_why_25 : decode cX7_why 25 = .ok (.ifCond .le 7, 3) := by decide +kernel
theorem dX7_why_28 : decode cX7_why 28 = .ok (.iconst 0, 1) := by decide +kernel
theorem dX7_why_29 : decode cX7_why 29 = .ok (.goto 12, 3) := by decide +kernel
theorem dX7_why_32 : decode cX7_why 32 = .ok (.aload_n 0, 1) := by decide +kernel
theorem dX7_why_33 : decode cX7_why 33 = .ok (.iload_n 1, 1) := by decide +kernel
theorem dX7_why_34 : decode cX7_why 34 = .ok (.iload_n 2, 1) := by decide +kernel
theorem dX7_why_35 : decode cX7_why 35 = .ok (.iload_n 3, 1) := by decide +kernel
theorem dX7_why_36 : decode cX7_why 36 = .ok (.iload 4, 2) := by decide +kernel
theorem dX7_why_38 : decode cX7_why 38 = .ok (.invokevirtual 246, 3) := by decide +kernel
theorem dX7_why_41 : decode cX7_why 41 = .ok (.ireturn, 1) := by decide +kernel
theorem dX7_firstOf_0 : decode cX7_firstOf 0 = .ok (.iconst 0, 1) := by decide +kernel
theorem dX7_firstOf_1 : decode cX7_firstOf 1 = .ok (.istore 4, 2) := by decide +kernel
theorem dX7_firstOf_3 : decode cX7_firstOf 3 = .ok (.iload 4, 2) := by decide +kernel
theorem dX7_firstOf_5 : decode cX7_firstOf 5 = .ok (.sipush 1440, 3) := by decide +kernel
theorem dX7_firstOf_8 : decode cX7_firstOf 8 = .ok (.if_icmp .ge 21, 3) := by decide +kernel
theorem dX7_firstOf_11 : decode cX7_firstOf 11 = .ok (.aload_n 0, 1) := by decide +kernel
theorem dX7_firstOf_12 : decode cX7_firstOf 12 = .ok (.iload_n 1, 1) := by decide +kernel
theorem dX7_firstOf_13 : decode cX7_firstOf 13 = .ok (.iload_n 2, 1) := by decide +kernel
theorem dX7_firstOf_14 : decode cX7_firstOf 14 = .ok (.iload 4, 2) := by decide +kernel
theorem dX7_firstOf_16 : decode cX7_firstOf 16 = .ok (.iload_n 3, 1) := by decide +kernel
theorem dX7_firstOf_17 : decode cX7_firstOf 17 = .ok (.invokevirtual 246, 3) := by decide +kernel
theorem dX7_firstOf_20 : decode cX7_firstOf 20 = .ok (.ifCond .le 9, 3) := by decide +kernel
theorem dX7_firstOf_23 : decode cX7_firstOf 23 = .ok (.iinc 4 5, 3) := by decide +kernel
theorem dX7_firstOf_26 : decode cX7_firstOf 26 = .ok (.goto (-23), 3) := by decide +kernel
theorem dX7_firstOf_29 : decode cX7_firstOf 29 = .ok (.iload 4, 2) := by decide +kernel
theorem dX7_firstOf_31 : decode cX7_firstOf 31 = .ok (.sipush 1440, 3) := by decide +kernel
theorem dX7_firstOf_34 : decode cX7_firstOf 34 = .ok (.if_icmp .ge 8, 3) := by decide +kernel
theorem dX7_firstOf_37 : decode cX7_firstOf 37 = .ok (.iload 4, 2) := by decide +kernel
theorem dX7_firstOf_39 : decode cX7_firstOf 39 = .ok (.goto 4, 3) := by decide +kernel
theorem dX7_firstOf_42 : decode cX7_firstOf 42 = .ok (.iconst (-1), 1) := by decide +kernel
theorem dX7_firstOf_43 : decode cX7_firstOf 43 = .ok (.ireturn, 1) := by decide +kernel
theorem dX7_firstTime_0 : decode cX7_firstTime 0 = .ok (.aload_n 0, 1) := by decide +kernel
theorem dX7_firstTime_1 : decode cX7_firstTime 1 = .ok (.iload_n 1, 1) := by decide +kernel
theorem dX7_firstTime_2 : decode cX7_firstTime 2 = .ok (.iload_n 2, 1) := by decide +kernel
theorem dX7_firstTime_3 : decode cX7_firstTime 3 = .ok (.iconst 0, 1) := by decide +kernel
theorem dX7_firstTime_4 : decode cX7_firstTime 4 = .ok (.iload_n 3, 1) := by decide +kernel
theorem dX7_firstTime_5 : decode cX7_firstTime 5 = .ok (.iconst 0, 1) := by decide +kernel
theorem dX7_firstTime_6 : decode cX7_firstTime 6 = .ok (.invokestatic 145, 3) := by decide +kernel
theorem dX7_firstTime_9 : decode cX7_firstTime 9 = .ok (.ifCond .eq 7, 3) := by decide +kernel
theorem dX7_firstTime_12 : decode cX7_firstTime 12 = .ok (.iconst 0, 1) := by decide +kernel
theorem dX7_firstTime_13 : decode cX7_firstTime 13 = .ok (.goto 4, 3) := by decide +kernel
theorem dX7_firstTime_16 : decode cX7_firstTime 16 = .ok (.iconst 1, 1) := by decide +kernel
theorem dX7_firstTime_17 : decode cX7_firstTime 17 = .ok (.putfield 37, 3) := by decide +kernel
theorem dX7_firstTime_20 : decode cX7_firstTime 20 = .ok (.aload_n 0, 1) := by decide +kernel
theorem dX7_firstTime_21 : decode cX7_firstTime 21 = .ok (.getfield 37, 3) := by decide +kernel
theorem dX7_firstTime_24 : decode cX7_firstTime 24 = .ok (.ifCond .le 7, 3) := by decide +kernel
theorem dX7_firstTime_27 : decode cX7_firstTime 27 = .ok (.iconst 0, 1) := by decide +kernel
theorem dX7_firstTime_28 : decode cX7_firstTime 28 = .ok (.goto 10, 3) := by decide +kernel
theorem dX7_firstTime_31 : decode cX7_firstTime 31 = .ok (.aload_n 0, 1) := by decide +kernel
theorem dX7_firstTime_32 : decode cX7_firstTime 32 = .ok (.iload_n 1, 1) := by decide +kernel
theorem dX7_firstTime_33 : decode cX7_firstTime 33 = .ok (.iload_n 2, 1) := by decide +kernel
theorem dX7_firstTime_34 : decode cX7_firstTime 34 = .ok (.iload_n 3, 1) := by decide +kernel
theorem dX7_firstTime_35 : decode cX7_firstTime 35 = .ok (.invokevirtual 250, 3) := by decide +kernel
theorem dX7_firstTime_38 : decode cX7_firstTime 38 = .ok (.ireturn, 1) := by decide +kernel
theorem dX7_repeatOf_0 : decode cX7_repeatOf 0 = .ok (.iconst 0, 1) := by decide +kernel
theorem dX7_repeatOf_1 : decode cX7_repeatOf 1 = .ok (.istore_n 2, 1) := by decide +kernel
theorem dX7_repeatOf_2 : decode cX7_repeatOf 2 = .ok (.iload_n 2, 1) := by decide +kernel
theorem dX7_repeatOf_3 : decode cX7_repeatOf 3 = .ok (.sipush 10080, 3) := by decide +kernel
theorem dX7_repeatOf_6 : decode cX7_repeatOf 6 = .ok (.if_icmp .ge 33, 3) := by decide +kernel
theorem dX7_repeatOf_9 : decode cX7_repeatOf 9 = .ok (.aload_n 0, 1) := by decide +kernel
theorem dX7_repeatOf_10 : decode cX7_repeatOf 10 = .ok (.iload_n 1, 1) := by decide +kernel
theorem dX7_repeatOf_11 : decode cX7_repeatOf 11 = .ok (.iload_n 2, 1) := by decide +kernel
theorem dX7_repeatOf_12 : decode cX7_repeatOf 12 = .ok (.sipush 1440, 3) := by decide +kernel
theorem dX7_repeatOf_15 : decode cX7_repeatOf 15 = .ok (.idiv, 1) := by decide +kernel
theorem dX7_repeatOf_16 : decode cX7_repeatOf 16 = .ok (.iload_n 2, 1) := by decide +kernel
theorem dX7_repeatOf_17 : decode cX7_repeatOf 17 = .ok (.sipush 1440, 3) := by decide +kernel
theorem dX7_repeatOf_20 : decode cX7_repeatOf 20 = .ok (.irem, 1) := by decide +kernel
theorem dX7_repeatOf_21 : decode cX7_repeatOf 21 = .ok (.invokevirtual 155, 3) := by decide +kernel
theorem dX7_repeatOf_24 : decode cX7_repeatOf 24 = .ok (.aload_n 0, 1) := by decide +kernel
theorem dX7_repeatOf_25 : decode cX7_repeatOf 25 = .ok (.invokevirtual 135, 3) := by decide +kernel
theorem dX7_repeatOf_28 : decode cX7_repeatOf 28 = .ok (.ifCond .ne 5, 3) := by decide +kernel
theorem dX7_repeatOf_31 : decode cX7_repeatOf 31 = .ok (.iload_n 2, 1) := by decide +kernel
theorem dX7_repeatOf_32 : decode cX7_repeatOf 32 = .ok (.ireturn, 1) := by decide +kernel
theorem dX7_repeatOf_33 : decode cX7_repeatOf 33 = .ok (.iinc 2 5, 3) := by decide +kernel
theorem dX7_repeatOf_36 : decode cX7_repeatOf 36 = .ok (.goto (-34), 3) := by decide +kernel
theorem dX7_repeatOf_39 : decode cX7_repeatOf 39 = .ok (.iconst (-1), 1) := by decide +kernel
theorem dX7_repeatOf_40 : decode cX7_repeatOf 40 = .ok (.ireturn, 1) := by decide +kernel
theorem dX7_firstRepeat_0 : decode cX7_firstRepeat 0 = .ok (.aload_n 0, 1) := by decide +kernel
theorem dX7_firstRepeat_1 : decode cX7_firstRepeat 1 = .ok (.aload_n 0, 1) := by decide +kernel
theorem dX7_firstRepeat_2 : decode cX7_firstRepeat 2 = .ok (.iload_n 1, 1) := by decide +kernel
theorem dX7_firstRepeat_3 : decode cX7_firstRepeat 3 = .ok (.invokevirtual 152, 3) := by decide +kernel
theorem dX7_firstRepeat_6 : decode cX7_firstRepeat 6 = .ok (.ifCond .eq 7, 3) := by decide +kernel
theorem dX7_firstRepeat_9 : decode cX7_firstRepeat 9 = .ok (.iconst 0, 1) := by decide +kernel
theorem dX7_firstRepeat_10 : decode cX7_firstRepeat 10 = .ok (.goto 4, 3) := by decide +kernel
theorem dX7_firstRepeat_13 : decode cX7_firstRepeat 13 = .ok (.iconst 1, 1) := by decide +kernel
theorem dX7_firstRepeat_14 : decode cX7_firstRepeat 14 = .ok (.putfield 37, 3) := by decide +kernel
theorem dX7_firstRepeat_17 : decode cX7_firstRepeat 17 = .ok (.aload_n 0, 1) := by decide +kernel
theorem dX7_firstRepeat_18 : decode cX7_firstRepeat 18 = .ok (.getfield 37, 3) := by decide +kernel
theorem dX7_firstRepeat_21 : decode cX7_firstRepeat 21 = .ok (.ifCond .le 7, 3) := by decide +kernel
theorem dX7_firstRepeat_24 : decode cX7_firstRepeat 24 = .ok (.iconst 0, 1) := by decide +kernel
theorem dX7_firstRepeat_25 : decode cX7_firstRepeat 25 = .ok (.goto 8, 3) := by decide +kernel
theorem dX7_firstRepeat_28 : decode cX7_firstRepeat 28 = .ok (.aload_n 0, 1) := by decide +kernel
theorem dX7_firstRepeat_29 : decode cX7_firstRepeat 29 = .ok (.iload_n 1, 1) := by decide +kernel
theorem dX7_firstRepeat_30 : decode cX7_firstRepeat 30 = .ok (.invokevirtual 253, 3) := by decide +kernel
theorem dX7_firstRepeat_33 : decode cX7_firstRepeat 33 = .ok (.ireturn, 1) := by decide +kernel
theorem dX7_dayWith_0 : decode cX7_dayWith 0 = .ok (.aload_n 0, 1) := by decide +kernel
theorem dX7_dayWith_1 : decode cX7_dayWith 1 = .ok (.iload_n 1, 1) := by decide +kernel
theorem dX7_dayWith_2 : decode cX7_dayWith 2 = .ok (.bipush 6, 2) := by decide +kernel
theorem dX7_dayWith_4 : decode cX7_dayWith 4 = .ok (.invokevirtual 45, 3) := by decide +kernel
theorem dX7_dayWith_7 : decode cX7_dayWith 7 = .ok (.istore 4, 2) := by decide +kernel
theorem dX7_dayWith_9 : decode cX7_dayWith 9 = .ok (.aload_n 0, 1) := by decide +kernel
theorem dX7_dayWith_10 : decode cX7_dayWith 10 = .ok (.iload_n 1, 1) := by decide +kernel
theorem dX7_dayWith_11 : decode cX7_dayWith 11 = .ok (.bipush 6, 2) := by decide +kernel
theorem dX7_dayWith_13 : decode cX7_dayWith 13 = .ok (.iload_n 2, 1) := by decide +kernel
theorem dX7_dayWith_14 : decode cX7_dayWith 14 = .ok (.invokevirtual 80, 3) := by decide +kernel
theorem dX7_dayWith_17 : decode cX7_dayWith 17 = .ok (.aload_n 0, 1) := by decide +kernel
theorem dX7_dayWith_18 : decode cX7_dayWith 18 = .ok (.aload_n 0, 1) := by decide +kernel
theorem dX7_dayWith_19 : decode cX7_dayWith 19 = .ok (.iload_n 1, 1) := by decide +kernel
theorem dX7_dayWith_20 : decode cX7_dayWith 20 = .ok (.iconst 2, 1) := by decide +kernel
theorem dX7_dayWith_21 : decode cX7_dayWith 21 = .ok (.invokevirtual 45, 3) := by decide +kernel
theorem dX7_dayWith_24 : decode cX7_dayWith 24 = .ok (.iload_n 3, 1) := by decide +kernel
theorem dX7_dayWith_25 : decode cX7_dayWith 25 = .ok (.invokevirtual 100, 3) := by decide +kernel
theorem dX7_dayWith_28 : decode cX7_dayWith 28 = .ok (.istore 5, 2) := by decide +kernel
theorem dX7_dayWith_30 : decode cX7_dayWith 30 = .ok (.aload_n 0, 1) := by decide +kernel
theorem dX7_dayWith_31 : decode cX7_dayWith 31 = .ok (.iload_n 1, 1) := by decide +kernel
theorem dX7_dayWith_32 : decode cX7_dayWith 32 = .ok (.bipush 6, 2) := by decide +kernel
theorem dX7_dayWith_34 : decode cX7_dayWith 34 = .ok (.iload 4, 2) := by decide +kernel
theorem dX7_dayWith_36 : decode cX7_dayWith 36 = .ok (.invokevirtual 80, 3) := by decide +kernel
theorem dX7_dayWith_39 : decode cX7_dayWith 39 = .ok (.iload 5, 2) := by decide +kernel
theorem dX7_dayWith_41 : decode cX7_dayWith 41 = .ok (.ireturn, 1) := by decide +kernel
theorem dX7_ifOverrun_0 : decode cX7_ifOverrun 0 = .ok (.aload_n 0, 1) := by decide +kernel
theorem dX7_ifOverrun_1 : decode cX7_ifOverrun 1 = .ok (.aload_n 0, 1) := by decide +kernel
theorem dX7_ifOverrun_2 : decode cX7_ifOverrun 2 = .ok (.iload_n 1, 1) := by decide +kernel
theorem dX7_ifOverrun_3 : decode cX7_ifOverrun 3 = .ok (.invokevirtual 152, 3) := by decide +kernel
theorem dX7_ifOverrun_6 : decode cX7_ifOverrun 6 = .ok (.ifCond .ne 7, 3) := by decide +kernel
theorem dX7_ifOverrun_9 : decode cX7_ifOverrun 9 = .ok (.iconst 1, 1) := by decide +kernel
theorem dX7_ifOverrun_10 : decode cX7_ifOverrun 10 = .ok (.goto 37, 3) := by decide +kernel
theorem dX7_ifOverrun_13 : decode cX7_ifOverrun 13 = .ok (.iload_n 2, 1) := by decide +kernel
theorem dX7_ifOverrun_14 : decode cX7_ifOverrun 14 = .ok (.invokestatic 161, 3) := by decide +kernel
theorem dX7_ifOverrun_17 : decode cX7_ifOverrun 17 = .ok (.ifCond .eq 13, 3) := by decide +kernel
theorem dX7_ifOverrun_20 : decode cX7_ifOverrun 20 = .ok (.iload_n 3, 1) := by decide +kernel
theorem dX7_ifOverrun_21 : decode cX7_ifOverrun 21 = .ok (.iconst 0, 1) := by decide +kernel
theorem dX7_ifOverrun_22 : decode cX7_ifOverrun 22 = .ok (.bipush 7, 2) := by decide +kernel
theorem dX7_ifOverrun_24 : decode cX7_ifOverrun 24 = .ok (.invokestatic 41, 3) := by decide +kernel
theorem dX7_ifOverrun_27 : decode cX7_ifOverrun 27 = .ok (.ifCond .ne 7, 3) := by decide +kernel
theorem dX7_ifOverrun_30 : decode cX7_ifOverrun 30 = .ok (.iconst 2, 1) := by decide +kernel
theorem dX7_ifOverrun_31 : decode cX7_ifOverrun 31 = .ok (.goto 16, 3) := by decide +kernel
theorem dX7_ifOverrun_34 : decode cX7_ifOverrun 34 = .ok (.aload_n 0, 1) := by decide +kernel
theorem dX7_ifOverrun_35 : decode cX7_ifOverrun 35 = .ok (.iload_n 1, 1) := by decide +kernel
theorem dX7_ifOverrun_36 : decode cX7_ifOverrun 36 = .ok (.invokevirtual 164, 3) := by decide +kernel
theorem dX7_ifOverrun_39 : decode cX7_ifOverrun 39 = .ok (.ifCond .eq 7, 3) := by decide +kernel
theorem dX7_ifOverrun_42 : decode cX7_ifOverrun 42 = .ok (.iconst 0, 1) := by decide +kernel
theorem dX7_ifOverrun_43 : decode cX7_ifOverrun 43 = .ok (.goto 4, 3) := by decide +kernel
theorem dX7_ifOverrun_46 : decode cX7_ifOverrun 46 = .ok (.iconst 3, 1) := by decide +kernel
theorem dX7_ifOverrun_47 : decode cX7_ifOverrun 47 = .ok (.putfield 37, 3) := by decide +kernel
theorem dX7_ifOverrun_50 : decode cX7_ifOverrun 50 = .ok (.aload_n 0, 1) := by decide +kernel
theorem dX7_ifOverrun_51 : decode cX7_ifOverrun 51 = .ok (.getfield 37, 3) := by decide +kernel
theorem dX7_ifOverrun_54 : decode cX7_ifOverrun 54 = .ok (.ifCond .le 7, 3) := by decide +kernel
theorem dX7_ifOverrun_57 : decode cX7_ifOverrun 57 = .ok (.iconst 0, 1) := by decide +kernel
theorem dX7_ifOverrun_58 : decode cX7_ifOverrun 58 = .ok (.goto 10, 3) := by decide +kernel
theorem dX7_ifOverrun_61 : decode cX7_ifOverrun 61 = .ok (.aload_n 0, 1) := by decide +kernel
theorem dX7_ifOverrun_62 : decode cX7_ifOverrun 62 = .ok (.iload_n 1, 1) := by decide +kernel
theorem dX7_ifOverrun_63 : decode cX7_ifOverrun 63 = .ok (.iload_n 2, 1) := by decide +kernel
theorem dX7_ifOverrun_64 : decode cX7_ifOverrun 64 = .ok (.iload_n 3, 1) := by decide +kernel
theorem dX7_ifOverrun_65 : decode cX7_ifOverrun 65 = .ok (.invokevirtual 256, 3) := by decide +kernel
theorem dX7_ifOverrun_68 : decode cX7_ifOverrun 68 = .ok (.ireturn, 1) := by decide +kernel
theorem dX7_mostOverrun_0 : decode cX7_mostOverrun 0 = .ok (.bipush 120, 2) := by decide +kernel
theorem dX7_mostOverrun_2 : decode cX7_mostOverrun 2 = .ok (.istore_n 2, 1) := by decide +kernel
theorem dX7_mostOverrun_3 : decode cX7_mostOverrun 3 = .ok (.iload_n 2, 1) := by decide +kernel
theorem dX7_mostOverrun_4 : decode cX7_mostOverrun 4 = .ok (.bipush (-60), 2) := by decide +kernel
theorem dX7_mostOverrun_6 : decode cX7_mostOverrun 6 = .ok (.if_icmp .lt 39, 3) := by decide +kernel
theorem dX7_mostOverrun_9 : decode cX7_mostOverrun 9 = .ok (.aload_n 0, 1) := by decide +kernel
theorem dX7_mostOverrun_10 : decode cX7_mostOverrun 10 = .ok (.iload_n 1, 1) := by decide +kernel
theorem dX7_mostOverrun_11 : decode cX7_mostOverrun 11 = .ok (.iload_n 2, 1) := by decide +kernel
theorem dX7_mostOverrun_12 : decode cX7_mostOverrun 12 = .ok (.iconst 4, 1) := by decide +kernel
theorem dX7_mostOverrun_13 : decode cX7_mostOverrun 13 = .ok (.invokevirtual 256, 3) := by decide +kernel
theorem dX7_mostOverrun_16 : decode cX7_mostOverrun 16 = .ok (.istore_n 3, 1) := by decide +kernel
theorem dX7_mostOverrun_17 : decode cX7_mostOverrun 17 = .ok (.iload_n 3, 1) := by decide +kernel
theorem dX7_mostOverrun_18 : decode cX7_mostOverrun 18 = .ok (.aload_n 0, 1) := by decide +kernel
theorem dX7_mostOverrun_19 : decode cX7_mostOverrun 19 = .ok (.getfield 31, 3) := by decide +kernel
theorem dX7_mostOverrun_22 : decode cX7_mostOverrun 22 = .ok (.iload_n 1, 1) := by decide +kernel
theorem dX7_mostOverrun_23 : decode cX7_mostOverrun 23 = .ok (.iaload, 1) := by decide +kernel
theorem dX7_mostOverrun_24 : decode cX7_mostOverrun 24 = .ok (.iconst 2, 1) := by decide +kernel
theorem dX7_mostOverrun_25 : decode cX7_mostOverrun 25 = .ok (.if_icmp .ne 7, 3) := by decide +kernel
theorem dX7_mostOverrun_28 : decode cX7_mostOverrun 28 = .ok (.iconst 1, 1) := by decide +kernel
theorem dX7_mostOverrun_29 : decode cX7_mostOverrun 29 = .ok (.goto 4, 3) := by decide +kernel
theorem dX7_mostOverrun_32 : decode cX7_mostOverrun 32 = .ok (.iconst 0, 1) := by decide +kernel
theorem dX7_mostOverrun_33 : decode cX7_mostOverrun 33 = .ok (.isub, 1) := by decide +kernel
theorem dX7_mostOverrun_34 : decode cX7_mostOverrun 34 = .ok (.ifCond .ne 5, 3) := by decide +kernel
theorem dX7_mostOverrun_37 : decode cX7_mostOverrun 37 = .ok (.iload_n 2, 1) := by decide +kernel
theorem dX7_mostOverrun_38 : decode cX7_mostOverrun 38 = .ok (.ireturn, 1) := by decide +kernel
theorem dX7_mostOverrun_39 : decode cX7_mostOverrun 39 = .ok (.iinc 2 (-1), 3) := by decide +kernel
theorem dX7_mostOverrun_42 : decode cX7_mostOverrun 42 = .ok (.goto (-39), 3) := by decide +kernel
theorem dX7_mostOverrun_45 : decode cX7_mostOverrun 45 = .ok (.bipush (-101), 2) := by decide +kernel
theorem dX7_mostOverrun_47 : decode cX7_mostOverrun 47 = .ok (.ireturn, 1) := by decide +kernel
theorem dX7_greatestOverrun_0 : decode cX7_greatestOverrun 0 = .ok (.aload_n 0, 1) := by decide +kernel
theorem dX7_greatestOverrun_1 : decode cX7_greatestOverrun 1 = .ok (.aload_n 0, 1) := by decide +kernel
theorem dX7_greatestOverrun_2 : decode cX7_greatestOverrun 2 = .ok (.iload_n 1, 1) := by decide +kernel
theorem dX7_greatestOverrun_3 : decode cX7_greatestOverrun 3 = .ok (.invokevirtual 152, 3) := by decide +kernel
theorem dX7_greatestOverrun_6 : decode cX7_greatestOverrun 6 = .ok (.ifCond .ne 7, 3) := by decide +kernel
theorem dX7_greatestOverrun_9 : decode cX7_greatestOverrun 9 = .ok (.iconst 1, 1) := by decide +kernel
theorem dX7_greatestOverrun_10 : decode cX7_greatestOverrun 10 = .ok (.goto 16, 3) := by decide +kernel
theorem dX7_greatestOverrun_13 : decode cX7_greatestOverrun 13 = .ok (.aload_n 0, 1) := by decide +kernel
theorem dX7_greatestOverrun_14 : decode cX7_greatestOverrun 14 = .ok (.iload_n 1, 1) := by decide +kernel
theorem dX7_greatestOverrun_15 : decode cX7_greatestOverrun 15 = .ok (.invokevirtual 164, 3) := by decide +kernel
theorem dX7_greatestOverrun_18 : decode cX7_greatestOverrun 18 = .ok (.ifCond .eq 7, 3) := by decide +kernel
theorem dX7_greatestOverrun_21 : decode cX7_greatestOverrun 21 = .ok (.iconst 0, 1) := by decide +kernel
theorem dX7_greatestOverrun_22 : decode cX7_greatestOverrun 22 = .ok (.goto 4, 3) := by decide +kernel
theorem dX7_greatestOverrun_25 : decode cX7_greatestOverrun 25 = .ok (.iconst 2, 1) := by decide +kernel
theorem dX7_greatestOverrun_26 : decode cX7_greatestOverrun 26 = .ok (.putfield 37, 3) := by decide +kernel
theorem dX7_greatestOverrun_29 : decode cX7_greatestOverrun 29 = .ok (.aload_n 0, 1) := by decide +kernel
theorem dX7_greatestOverrun_30 : decode cX7_greatestOverrun 30 = .ok (.getfield 37, 3) := by decide +kernel
theorem dX7_greatestOverrun_33 : decode cX7_greatestOverrun 33 = .ok (.ifCond .le 7, 3) := by decide +kernel
theorem dX7_greatestOverrun_36 : decode cX7_greatestOverrun 36 = .ok (.iconst 0, 1) := by decide +kernel
theorem dX7_greatestOverrun_37 : decode cX7_greatestOverrun 37 = .ok (.goto 8, 3) := by decide +kernel
theorem dX7_greatestOverrun_40 : decode cX7_greatestOverrun 40 = .ok (.aload_n 0, 1) := by decide +kernel
theorem dX7_greatestOverrun_41 : decode cX7_greatestOverrun 41 = .ok (.iload_n 1, 1) := by decide +kernel
theorem dX7_greatestOverrun_42 : decode cX7_greatestOverrun 42 = .ok (.invokevirtual 259, 3) := by decide +kernel
theorem dX7_greatestOverrun_45 : decode cX7_greatestOverrun 45 = .ok (.ireturn, 1) := by decide +kernel
theorem dX7_shareNow_0 : decode cX7_shareNow 0 = .ok (.dconst 1, 1) := by decide +kernel
theorem dX7_shareNow_1 : decode cX7_shareNow 1 = .ok (.aload_n 0, 1) := by decide +kernel
theorem dX7_shareNow_2 : decode cX7_shareNow 2 = .ok (.iconst 2, 1) := by decide +kernel
theorem dX7_shareNow_3 : decode cX7_shareNow 3 = .ok (.invokevirtual 240, 3) := by decide +kernel
theorem dX7_shareNow_6 : decode cX7_shareNow 6 = .ok (.i2d, 1) := by decide +kernel
theorem dX7_shareNow_7 : decode cX7_shareNow 7 = .ok (.dmul, 1) := by decide +kernel
theorem dX7_shareNow_8 : decode cX7_shareNow 8 = .ok (.bipush 7, 2) := by decide +kernel
theorem dX7_shareNow_10 : decode cX7_shareNow 10 = .ok (.aload_n 0, 1) := by decide +kernel
theorem dX7_shareNow_11 : decode cX7_shareNow 11 = .ok (.getfield 7, 3) := by decide +kernel
theorem dX7_shareNow_14 : decode cX7_shareNow 14 = .ok (.iconst 1, 1) := by decide +kernel
theorem dX7_shareNow_15 : decode cX7_shareNow 15 = .ok (.iaload, 1) := by decide +kernel
theorem dX7_shareNow_16 : decode cX7_shareNow 16 = .ok (.aload_n 0, 1) := by decide +kernel
theorem dX7_shareNow_17 : decode cX7_shareNow 17 = .ok (.getfield 7, 3) := by decide +kernel
theorem dX7_shareNow_20 : decode cX7_shareNow 20 = .ok (.iconst 0, 1) := by decide +kernel
theorem dX7_shareNow_21 : decode cX7_shareNow 21 = .ok (.iaload, 1) := by decide +kernel
theorem dX7_shareNow_22 : decode cX7_shareNow 22 = .ok (.isub, 1) := by decide +kernel
theorem dX7_shareNow_23 : decode cX7_shareNow 23 = .ok (.imul, 1) := by decide +kernel
theorem dX7_shareNow_24 : decode cX7_shareNow 24 = .ok (.i2d, 1) := by decide +kernel
theorem dX7_shareNow_25 : decode cX7_shareNow 25 = .ok (.ddiv, 1) := by decide +kernel
theorem dX7_shareNow_26 : decode cX7_shareNow 26 = .ok (.dreturn, 1) := by decide +kernel
theorem dX7_share_0 : decode cX7_share 0 = .ok (.aload_n 0, 1) := by decide +kernel
theorem dX7_share_1 : decode cX7_share 1 = .ok (.iconst 0, 1) := by decide +kernel
theorem dX7_share_2 : decode cX7_share 2 = .ok (.putfield 37, 3) := by decide +kernel
theorem dX7_share_5 : decode cX7_share 5 = .ok (.aload_n 0, 1) := by decide +kernel
theorem dX7_share_6 : decode cX7_share 6 = .ok (.invokevirtual 262, 3) := by decide +kernel
theorem dX7_share_9 : decode cX7_share 9 = .ok (.dreturn, 1) := by decide +kernel
theorem dX7_mix_0 : decode cX7_mix 0 = .ok (.aload_n 0, 1) := by decide +kernel
theorem dX7_mix_1 : decode cX7_mix 1 = .ok (.ldc2_w 266, 3) := by decide +kernel
theorem dX7_mix_4 : decode cX7_mix 4 = .ok (.aload_n 0, 1) := by decide +kernel
theorem dX7_mix_5 : decode cX7_mix 5 = .ok (.getfield 268, 3) := by decide +kernel
theorem dX7_mix_8 : decode cX7_mix 8 = .ok (.lmul, 1) := by decide +kernel
theorem dX7_mix_9 : decode cX7_mix 9 = .ok (.lload_n 1, 1) := by decide +kernel
theorem dX7_mix_10 : decode cX7_mix 10 = .ok (.ladd, 1) := by decide +kernel
theorem dX7_mix_11 : decode cX7_mix 11 = .ok (.putfield 268, 3) := by decide +kernel
theorem dX7_mix_14 : decode cX7_mix 14 = .ok (.return_, 1) := by decide +kernel
theorem dX7_mixDays_0 : decode cX7_mixDays 0 = .ok (.iconst 0, 1) := by decide +kernel
theorem dX7_mixDays_1 : decode cX7_mixDays 1 = .ok (.istore_n 1, 1) := by decide +kernel
theorem dX7_mixDays_2 : decode cX7_mixDays 2 = .ok (.iload_n 1, 1) := by decide +kernel
theorem dX7_mixDays_3 : decode cX7_mixDays 3 = .ok (.bipush 7, 2) := by decide +kernel
theorem dX7_mixDays_5 : decode cX7_mixDays 5 = .ok (.if_icmp .ge 72, 3) := by decide +kernel
theorem dX7_mixDays_8 : decode cX7_mixDays 8 = .ok (.iconst 0, 1) := by decide +kernel
theorem dX7_mixDays_9 : decode cX7_mixDays 9 = .ok (.istore_n 2, 1) := by decide +kernel
theorem dX7_mixDays_10 : decode cX7_mixDays 10 = .ok (.iload_n 2, 1) := by decide +kernel
theorem dX7_mixDays_11 : decode cX7_mixDays 11 = .ok (.bipush 8, 2) := by decide +kernel
theorem dX7_mixDays_13 : decode cX7_mixDays 13 = .ok (.if_icmp .ge 20, 3) := by decide +kernel
theorem dX7_mixDays_16 : decode cX7_mixDays 16 = .ok (.aload_n 0, 1) := by decide +kernel
theorem dX7_mixDays_17 : decode cX7_mixDays 17 = .ok (.aload_n 0, 1) := by decide +kernel
theorem dX7_mixDays_18 : decode cX7_mixDays 18 = .ok (.iload_n 1, 1) := by decide +kernel
theorem dX7_mixDays_19 : decode cX7_mixDays 19 = .ok (.iload_n 2, 1) := by decide +kernel
theorem dX7_mixDays_20 : decode cX7_mixDays 20 = .ok (.invokevirtual 100, 3) := by decide +kernel
theorem dX7_mixDays_23 : decode cX7_mixDays 23 = .ok (.i2l, 1) := by decide +kernel
theorem dX7_mixDays_24 : decode cX7_mixDays 24 = .ok (.invokevirtual 272, 3) := by decide +kernel
theorem dX7_mixDays_27 : decode cX7_mixDays 27 = .ok (.iinc 2 1, 3) := by decide +kernel
theorem dX7_mixDays_30 : decode cX7_mixDays 30 = .ok (.goto (-20), 3) := by decide +kernel
theorem dX7_mixDays_33 : decode cX7_mixDays 33 = .ok (.iconst 0, 1) := by decide +kernel
theorem dX7_mixDays_34 : decode cX7_mixDays 34 = .ok (.istore_n 2, 1) := by decide +kernel
theorem dX7_mixDays_35 : decode cX7_mixDays 35 = .ok (.iload_n 2, 1) := by decide +kernel
theorem dX7_mixDays_36 : decode cX7_mixDays 36 = .ok (.bipush 24, 2) := by decide +kernel
theorem dX7_mixDays_38 : decode cX7_mixDays 38 = .ok (.if_icmp .ge 33, 3) := by decide +kernel
theorem dX7_mixDays_41 : decode cX7_mixDays 41 = .ok (.aload_n 0, 1) := by decide +kernel
theorem dX7_mixDays_42 : decode cX7_mixDays 42 = .ok (.aload_n 0, 1) := by decide +kernel
theorem dX7_mixDays_43 : decode cX7_mixDays 43 = .ok (.iload_n 1, 1) := by decide +kernel
theorem dX7_mixDays_44 : decode cX7_mixDays 44 = .ok (.iload_n 2, 1) := by decide +kernel
theorem dX7_mixDays_45 : decode cX7_mixDays 45 = .ok (.iconst 0, 1) := by decide +kernel
theorem dX7_mixDays_46 : decode cX7_mixDays 46 = .ok (.invokevirtual 233, 3) := by decide +kernel
theorem dX7_mixDays_49 : decode cX7_mixDays 49 = .ok (.i2l, 1) := by decide +kernel
theorem dX7_mixDays_50 : decode cX7_mixDays 50 = .ok (.invokevirtual 272, 3) := by decide +kernel
theorem dX7_mixDays_53 : decode cX7_mixDays 53 = .ok (.aload_n 0, 1) := by decide +kernel
theorem dX7_mixDays_54 : decode cX7_mixDays 54 = .ok (.aload_n 0, 1) := by decide +kernel
theorem dX7_mixDays_55 : decode cX7_mixDays 55 = .ok (.iload_n 1, 1) := by decide +kernel
theorem dX7_mixDays_56 : decode cX7_mixDays 56 = .ok (.iload_n 2, 1) := by decide +kernel
theorem dX7_mixDays_57 : decode cX7_mixDays 57 = .ok (.iconst 1, 1) := by decide +kernel
theorem dX7_mixDays_58 : decode cX7_mixDays 58 = .ok (.invokevirtual 233, 3) := by decide +kernel
theorem dX7_mixDays_61 : decode cX7_mixDays 61 = .ok (.i2l, 1) := by decide +kernel
theorem dX7_mixDays_62 : decode cX7_mixDays 62 = .ok (.invokevirtual 272, 3) := by decide +kernel
theorem dX7_mixDays_65 : decode cX7_mixDays 65 = .ok (.iinc 2 1, 3) := by decide +kernel
theorem dX7_mixDays_68 : decode cX7_mixDays 68 = .ok (.goto (-33), 3) := by decide +kernel
theorem dX7_mixDays_71 : decode cX7_mixDays 71 = .ok (.iinc 1 1, 3) := by decide +kernel
theorem dX7_mixDays_74 : decode cX7_mixDays 74 = .ok (.goto (-72), 3) := by decide +kernel
theorem dX7_mixDays_77 : decode cX7_mixDays 77 = .ok (.return_, 1) := by decide +kernel
theorem dX7_digest_0 : decode cX7_digest 0 = .ok (.aload_n 0, 1) := by decide +kernel
theorem dX7_digest_1 : decode cX7_digest 1 = .ok (.iconst 0, 1) := by decide +kernel
theorem dX7_digest_2 : decode cX7_digest 2 = .ok (.putfield 37, 3) := by decide +kernel
theorem dX7_digest_5 : decode cX7_digest 5 = .ok (.aload_n 0, 1) := by decide +kernel
theorem dX7_digest_6 : decode cX7_digest 6 = .ok (.ldc2_w 276, 3) := by decide +kernel
theorem dX7_digest_9 : decode cX7_digest 9 = .ok (.putfield 268, 3) := by decide +kernel
theorem dX7_digest_12 : decode cX7_digest 12 = .ok (.iconst 0, 1) := by decide +kernel
theorem dX7_digest_13 : decode cX7_digest 13 = .ok (.istore_n 1, 1) := by decide +kernel
theorem dX7_digest_14 : decode cX7_digest 14 = .ok (.iload_n 1, 1) := by decide +kernel
theorem dX7_digest_15 : decode cX7_digest 15 = .ok (.bipush 8, 2) := by decide +kernel
theorem dX7_digest_17 : decode cX7_digest 17 = .ok (.if_icmp .ge 19, 3) := by decide +kernel
theorem dX7_digest_20 : decode cX7_digest 20 = .ok (.aload_n 0, 1) := by decide +kernel
theorem dX7_digest_21 : decode cX7_digest 21 = .ok (.aload_n 0, 1) := by decide +kernel
theorem dX7_digest_22 : decode cX7_digest 22 = .ok (.iload_n 1, 1) := by decide +kernel
theorem dX7_digest_23 : decode cX7_digest 23 = .ok (.invokevirtual 243, 3) := by decide +kernel
theorem dX7_digest_26 : decode cX7_digest 26 = .ok (.i2l, 1) := by decide +kernel
theorem dX7_digest_27 : decode cX7_digest 27 = .ok (.invokevirtual 272, 3) := by decide +kernel
theorem dX7_digest_30 : decode cX7_digest 30 = .ok (.iinc 1 1, 3) := by decide +kernel
theorem dX7_digest_33 : decode cX7_digest 33 = .ok (.goto (-19), 3) := by decide +kernel
theorem dX7_digest_36 : decode cX7_digest 36 = .ok (.iconst 0, 1) := by decide +kernel
theorem dX7_digest_37 : decode cX7_digest 37 = .ok (.istore_n 1, 1) := by decide +kernel
theorem dX7_digest_38 : decode cX7_digest 38 = .ok (.iload_n 1, 1) := by decide +kernel
theorem dX7_digest_39 : decode cX7_digest 39 = .ok (.bipush 8, 2) := by decide +kernel
theorem dX7_digest_41 : decode cX7_digest 41 = .ok (.if_icmp .ge 20, 3) := by decide +kernel
theorem dX7_digest_44 : decode cX7_digest 44 = .ok (.aload_n 0, 1) := by decide +kernel
theorem dX7_digest_45 : decode cX7_digest 45 = .ok (.aload_n 0, 1) := by decide +kernel
theorem dX7_digest_46 : decode cX7_digest 46 = .ok (.getfield 7, 3) := by decide +kernel
theorem dX7_digest_49 : decode cX7_digest 49 = .ok (.iload_n 1, 1) := by decide +kernel
theorem dX7_digest_50 : decode cX7_digest 50 = .ok (.iaload, 1) := by decide +kernel
theorem dX7_digest_51 : decode cX7_digest 51 = .ok (.i2l, 1) := by decide +kernel
theorem dX7_digest_52 : decode cX7_digest 52 = .ok (.invokevirtual 272, 3) := by decide +kernel
theorem dX7_digest_55 : decode cX7_digest 55 = .ok (.iinc 1 1, 3) := by decide +kernel
theorem dX7_digest_58 : decode cX7_digest 58 = .ok (.goto (-20), 3) := by decide +kernel
theorem dX7_digest_61 : decode cX7_digest 61 = .ok (.iconst 0, 1) := by decide +kernel
theorem dX7_digest_62 : decode cX7_digest 62 = .ok (.istore_n 1, 1) := by decide +kernel
theorem dX7_digest_63 : decode cX7_digest 63 = .ok (.iload_n 1, 1) := by decide +kernel
theorem dX7_digest_64 : decode cX7_digest 64 = .ok (.bipush 54, 2) := by decide +kernel
theorem dX7_digest_66 : decode cX7_digest 66 = .ok (.if_icmp .ge 26, 3) := by decide +kernel
theorem dX7_digest_69 : decode cX7_digest 69 = .ok (.aload_n 0, 1) := by decide +kernel
theorem dX7_digest_70 : decode cX7_digest 70 = .ok (.aload_n 0, 1) := by decide +kernel
theorem dX7_digest_71 : decode cX7_digest 71 = .ok (.iload_n 1, 1) := by decide +kernel
theorem dX7_digest_72 : decode cX7_digest 72 = .ok (.bipush 9, 2) := by decide +kernel
theorem dX7_digest_74 : decode cX7_digest 74 = .ok (.idiv, 1) := by decide +kernel
theorem dX7_digest_75 : decode cX7_digest 75 = .ok (.iload_n 1, 1) := by decide +kernel
theorem dX7_digest_76 : decode cX7_digest 76 = .ok (.bipush 9, 2) := by decide +kernel
theorem dX7_digest_78 : decode cX7_digest 78 = .ok (.irem, 1) := by decide +kernel
theorem dX7_digest_79 : decode cX7_digest 79 = .ok (.invokevirtual 230, 3) := by decide +kernel
theorem dX7_digest_82 : decode cX7_digest 82 = .ok (.i2l, 1) := by decide +kernel
theorem dX7_digest_83 : decode cX7_digest 83 = .ok (.invokevirtual 272, 3) := by decide +kernel
theorem dX7_digest_86 : decode cX7_digest 86 = .ok (.iinc 1 1, 3) := by decide +kernel
theorem dX7_digest_89 : decode cX7_digest 89 = .ok (.goto (-26), 3) := by decide +kernel
theorem dX7_digest_92 : decode cX7_digest 92 = .ok (.iconst 0, 1) := by decide +kernel
theorem dX7_digest_93 : decode cX7_digest 93 = .ok (.istore_n 1, 1) := by decide +kernel
theorem dX7_digest_94 : decode cX7_digest 94 = .ok (.iload_n 1, 1) := by decide +kernel
theorem dX7_digest_95 : decode cX7_digest 95 = .ok (.aload_n 0, 1) := by decide +kernel
theorem dX7_digest_96 : decode cX7_digest 96 = .ok (.getfield 7, 3) := by decide +kernel
theorem dX7_digest_99 : decode cX7_digest 99 = .ok (.bipush 39, 2) := by decide +kernel
theorem dX7_digest_101 : decode cX7_digest 101 = .ok (.iaload, 1) := by decide +kernel
theorem dX7_digest_102 : decode cX7_digest 102 = .ok (.if_icmp .ge 62, 3) := by decide +kernel
theorem dX7_digest_105 : decode cX7_digest 105 = .ok (.iconst 0, 1) := by decide +kernel
theorem dX7_digest_106 : decode cX7_digest 106 = .ok (.istore_n 2, 1) := by decide +kernel
theorem dX7_digest_107 : decode cX7_digest 107 = .ok (.iload_n 2, 1) := by decide +kernel
theorem dX7_digest_108 : decode cX7_digest 108 = .ok (.bipush 12, 2) := by decide +kernel
theorem dX7_digest_110 : decode cX7_digest 110 = .ok (.if_icmp .ge 20, 3) := by decide +kernel
theorem dX7_digest_113 : decode cX7_digest 113 = .ok (.aload_n 0, 1) := by decide +kernel
theorem dX7_digest_114 : decode cX7_digest 114 = .ok (.aload_n 0, 1) := by decide +kernel
theorem dX7_digest_115 : decode cX7_digest 115 = .ok (.iload_n 1, 1) := by decide +kernel
theorem dX7_digest_116 : decode cX7_digest 116 = .ok (.iload_n 2, 1) := by decide +kernel
theorem dX7_digest_117 : decode cX7_digest 117 = .ok (.invokevirtual 224, 3) := by decide +kernel
theorem dX7_digest_120 : decode cX7_digest 120 = .ok (.i2l, 1) := by decide +kernel
theorem dX7_digest_121 : decode cX7_digest 121 = .ok (.invokevirtual 272, 3) := by decide +kernel
theorem dX7_digest_124 : decode cX7_digest 124 = .ok (.iinc 2 1, 3) := by decide +kernel
theorem dX7_digest_127 : decode cX7_digest 127 = .ok (.goto (-20), 3) := by decide +kernel
theorem dX7_digest_130 : decode cX7_digest 130 = .ok (.aload_n 0, 1) := by decide +kernel
theorem dX7_digest_131 : decode cX7_digest 131 = .ok (.aload_n 0, 1) := by decide +kernel
theorem dX7_digest_132 : decode cX7_digest 132 = .ok (.iload_n 1, 1) := by decide +kernel
theorem dX7_digest_133 : decode cX7_digest 133 = .ok (.invokevirtual 253, 3) := by decide +kernel
theorem dX7_digest_136 : decode cX7_digest 136 = .ok (.i2l, 1) := by decide +kernel
theorem dX7_digest_137 : decode cX7_digest 137 = .ok (.invokevirtual 272, 3) := by decide +kernel
theorem dX7_digest_140 : decode cX7_digest 140 = .ok (.aload_n 0, 1) := by decide +kernel
theorem dX7_digest_141 : decode cX7_digest 141 = .ok (.iload_n 1, 1) := by decide +kernel
theorem dX7_digest_142 : decode cX7_digest 142 = .ok (.invokevirtual 164, 3) := by decide +kernel
theorem dX7_digest_145 : decode cX7_digest 145 = .ok (.ifCond .eq 13, 3) := by decide +kernel
theorem dX7_digest_148 : decode cX7_digest 148 = .ok (.aload_n 0, 1) := by decide +kernel
theorem dX7_digest_149 : decode cX7_digest 149 = .ok (.aload_n 0, 1) := by decide +kernel
theorem dX7_digest_150 : decode cX7_digest 150 = .ok (.iload_n 1, 1) := by decide +kernel
theorem dX7_digest_151 : decode cX7_digest 151 = .ok (.invokevirtual 259, 3) := by decide +kernel
theorem dX7_digest_154 : decode cX7_digest 154 = .ok (.i2l, 1) := by decide +kernel
theorem dX7_digest_155 : decode cX7_digest 155 = .ok (.invokevirtual 272, 3) := by decide +kernel
theorem dX7_digest_158 : decode cX7_digest 158 = .ok (.iinc 1 1, 3) := by decide +kernel
theorem dX7_digest_161 : decode cX7_digest 161 = .ok (.goto (-67), 3) := by decide +kernel
theorem dX7_digest_164 : decode cX7_digest 164 = .ok (.aload_n 0, 1) := by decide +kernel
theorem dX7_digest_165 : decode cX7_digest 165 = .ok (.invokevirtual 278, 3) := by decide +kernel
theorem dX7_digest_168 : decode cX7_digest 168 = .ok (.iconst 0, 1) := by decide +kernel
theorem dX7_digest_169 : decode cX7_digest 169 = .ok (.istore_n 1, 1) := by decide +kernel
theorem dX7_digest_170 : decode cX7_digest 170 = .ok (.iload_n 1, 1) := by decide +kernel
theorem dX7_digest_171 : decode cX7_digest 171 = .ok (.bipush 6, 2) := by decide +kernel
theorem dX7_digest_173 : decode cX7_digest 173 = .ok (.if_icmp .ge 22, 3) := by decide +kernel
theorem dX7_digest_176 : decode cX7_digest 176 = .ok (.aload_n 0, 1) := by decide +kernel
theorem dX7_digest_177 : decode cX7_digest 177 = .ok (.aload_n 0, 1) := by decide +kernel
theorem dX7_digest_178 : decode cX7_digest 178 = .ok (.iload_n 1, 1) := by decide +kernel
theorem dX7_digest_179 : decode cX7_digest 179 = .ok (.iconst 3, 1) := by decide +kernel
theorem dX7_digest_180 : decode cX7_digest 180 = .ok (.bipush 30, 2) := by decide +kernel
theorem dX7_digest_182 : decode cX7_digest 182 = .ok (.invokevirtual 250, 3) := by decide +kernel
theorem dX7_digest_185 : decode cX7_digest 185 = .ok (.i2l, 1) := by decide +kernel
theorem dX7_digest_186 : decode cX7_digest 186 = .ok (.invokevirtual 272, 3) := by decide +kernel
theorem dX7_digest_189 : decode cX7_digest 189 = .ok (.iinc 1 1, 3) := by decide +kernel
theorem dX7_digest_192 : decode cX7_digest 192 = .ok (.goto (-22), 3) := by decide +kernel
theorem dX7_digest_195 : decode cX7_digest 195 = .ok (.aload_n 0, 1) := by decide +kernel
theorem dX7_digest_196 : decode cX7_digest 196 = .ok (.aload_n 0, 1) := by decide +kernel
theorem dX7_digest_197 : decode cX7_digest 197 = .ok (.invokevirtual 262, 3) := by decide +kernel
theorem dX7_digest_200 : decode cX7_digest 200 = .ok (.invokestatic 281, 3) := by decide +kernel
theorem dX7_digest_203 : decode cX7_digest 203 = .ok (.invokevirtual 272, 3) := by decide +kernel
theorem dX7_digest_206 : decode cX7_digest 206 = .ok (.aload_n 0, 1) := by decide +kernel
theorem dX7_digest_207 : decode cX7_digest 207 = .ok (.aload_n 0, 1) := by decide +kernel
theorem dX7_digest_208 : decode cX7_digest 208 = .ok (.getfield 139, 3) := by decide +kernel
theorem dX7_digest_211 : decode cX7_digest 211 = .ok (.i2l, 1) := by decide +kernel
theorem dX7_digest_212 : decode cX7_digest 212 = .ok (.invokevirtual 272, 3) := by decide +kernel
theorem dX7_digest_215 : decode cX7_digest 215 = .ok (.aload_n 0, 1) := by decide +kernel
theorem dX7_digest_216 : decode cX7_digest 216 = .ok (.aload_n 0, 1) := by decide +kernel
theorem dX7_digest_217 : decode cX7_digest 217 = .ok (.getfield 173, 3) := by decide +kernel
theorem dX7_digest_220 : decode cX7_digest 220 = .ok (.i2l, 1) := by decide +kernel
theorem dX7_digest_221 : decode cX7_digest 221 = .ok (.invokevirtual 272, 3) := by decide +kernel
theorem dX7_digest_224 : decode cX7_digest 224 = .ok (.iconst 0, 1) := by decide +kernel
theorem dX7_digest_225 : decode cX7_digest 225 = .ok (.istore_n 1, 1) := by decide +kernel
theorem dX7_digest_226 : decode cX7_digest 226 = .ok (.iload_n 1, 1) := by decide +kernel
theorem dX7_digest_227 : decode cX7_digest 227 = .ok (.aload_n 0, 1) := by decide +kernel
theorem dX7_digest_228 : decode cX7_digest 228 = .ok (.getfield 173, 3) := by decide +kernel
theorem dX7_digest_231 : decode cX7_digest 231 = .ok (.if_icmp .ge 20, 3) := by decide +kernel
theorem dX7_digest_234 : decode cX7_digest 234 = .ok (.aload_n 0, 1) := by decide +kernel
theorem dX7_digest_235 : decode cX7_digest 235 = .ok (.aload_n 0, 1) := by decide +kernel
theorem dX7_digest_236 : decode cX7_digest 236 = .ok (.getfield 16, 3) := by decide +kernel
theorem dX7_digest_239 : decode cX7_digest 239 = .ok (.iload_n 1, 1) := by decide +kernel
theorem dX7_digest_240 : decode cX7_digest 240 = .ok (.iaload, 1) := by decide +kernel
theorem dX7_digest_241 : decode cX7_digest 241 = .ok (.i2l, 1) := by decide +kernel
theorem dX7_digest_242 : decode cX7_digest 242 = .ok (.invokevirtual 272, 3) := by decide +kernel
theorem dX7_digest_245 : decode cX7_digest 245 = .ok (.iinc 1 1, 3) := by decide +kernel
theorem dX7_digest_248 : decode cX7_digest 248 = .ok (.goto (-22), 3) := by decide +kernel
theorem dX7_digest_251 : decode cX7_digest 251 = .ok (.aload_n 0, 1) := by decide +kernel
theorem dX7_digest_252 : decode cX7_digest 252 = .ok (.getfield 268, 3) := by decide +kernel
theorem dX7_digest_255 : decode cX7_digest 255 = .ok (.lreturn, 1) := by decide +kernel
end
section
theorem dL_set_0 : decode cL_set 0 = .ok (.aload_n 3, 1) := by decide +kernel
theorem dL_set_1 : decode cL_set 1 = .ok (.iconst 0, 1) := by decide +kernel
theorem dL_set_2 : decode cL_set 2 = .ok (.aload_n 0, 1) := by decide +kernel
theorem dL_set_3 : decode cL_set 3 = .ok (.iload_n 1, 1) := by decide +kernel
theorem dL_set_4 : decode cL_set 4 = .ok (.iload_n 2, 1) := by decide +kernel
theorem dL_set_5 : decode cL_set 5 = .ok (.invokevirtual 7, 3) := by decide +kernel
theorem dL_set_8 : decode cL_set 8 = .ok (.i2l, 1) := by decide +kernel
theorem dL_set_9 : decode cL_set 9 = .ok (.lastore, 1) := by decide +kernel
theorem dL_set_10 : decode cL_set 10 = .ok (.goto 11, 3) := by decide +kernel
theorem dL_set_13 : decode cL_set 13 = .ok (.astore 4, 2) := by decide +kernel
theorem dL_set_15 : decode cL_set 15 = .ok (.iconst 1, 1) := by decide +kernel
theorem dL_set_16 : decode cL_set 16 = .ok (.ireturn, 1) := by decide +kernel
theorem dL_set_17 : decode cL_set 17 = .ok (.astore 4, 2) := by decide +kernel
theorem dL_set_19 : decode cL_set 19 = .ok (.iconst 2, 1) := by decide +kernel
theorem dL_set_20 : decode cL_set 20 = .ok (.ireturn, 1) := by decide +kernel
theorem dL_set_21 : decode cL_set 21 = .ok (.iconst 0, 1) := by decide +kernel
theorem dL_set_22 : decode cL_set 22 = .ok (.ireturn, 1) := by decide +kernel
theorem dL_setQuota_0 : decode cL_setQuota 0 = .ok (.aload_n 3, 1) := by decide +kernel
theorem dL_setQuota_1 : decode cL_setQuota 1 = .ok (.iconst 0, 1) := by decide +kernel
theorem dL_setQuota_2 : decode cL_setQuota 2 = .ok (.aload_n 0, 1) := by decide +kernel
theorem dL_setQuota_3 : decode cL_setQuota 3 = .ok (.iload_n 1, 1) := by decide +kernel
theorem dL_setQuota_4 : decode cL_setQuota 4 = .ok (.iload_n 2, 1) := by decide +kernel
theorem dL_setQuota_5 : decode cL_setQuota 5 = .ok (.invokevirtual 17, 3) := by decide +kernel
theorem dL_setQuota_8 : decode cL_setQuota 8 = .ok (.i2l, 1) := by decide +kernel
theorem dL_setQuota_9 : decode cL_setQuota 9 = .ok (.lastore, 1) := by decide +kernel
theorem dL_setQuota_10 : decode cL_setQuota 10 = .ok (.goto 11, 3) := by decide +kernel
theorem dL_setQuota_13 : decode cL_setQuota 13 = .ok (.astore 4, 2) := by decide +kernel
theorem dL_setQuota_15 : decode cL_setQuota 15 = .ok (.iconst 1, 1) := by decide +kernel
theorem dL_setQuota_16 : decode cL_setQuota 16 = .ok (.ireturn, 1) := by decide +kernel
theorem dL_setQuota_17 : decode cL_setQuota 17 = .ok (.astore 4, 2) := by decide +kernel
theorem dL_setQuota_19 : decode cL_setQuota 19 = .ok (.iconst 2, 1) := by decide +kernel
theorem dL_setQuota_20 : decode cL_setQuota 20 = .ok (.ireturn, 1) := by decide +kernel
theorem dL_setQuota_21 : decode cL_setQuota 21 = .ok (.iconst 0, 1) := by decide +kernel
theorem dL_setQuota_22 : decode cL_setQuota 22 = .ok (.ireturn, 1) := by decide +kernel
theorem dL_add_0 : decode cL_add 0 = .ok (.aload 7, 2) := by decide +kernel
theorem dL_add_2 : decode cL_add 2 = .ok (.iconst 0, 1) := by decide +kernel
theorem dL_add_3 : decode cL_add 3 = .ok (.aload_n 0, 1) := by decide +kernel
theorem dL_add_4 : decode cL_add 4 = .ok (.iload_n 1, 1) := by decide +kernel
theorem dL_add_5 : decode cL_add 5 = .ok (.iload_n 2, 1) := by decide +kernel
theorem dL_add_6 : decode cL_add 6 = .ok (.iload_n 3, 1) := by decide +kernel
theorem dL_add_7 : decode cL_add 7 = .ok (.iload 4, 2) := by decide +kernel
theorem dL_add_9 : decode cL_add 9 = .ok (.iload 5, 2) := by decide +kernel
theorem dL_add_11 : decode cL_add 11 = .ok (.iload 6, 2) := by decide +kernel
theorem dL_add_13 : decode cL_add 13 = .ok (.invokevirtual 20, 3) := by decide +kernel
theorem dL_add_16 : decode cL_add 16 = .ok (.i2l, 1) := by decide +kernel
theorem dL_add_17 : decode cL_add 17 = .ok (.lastore, 1) := by decide +kernel
theorem dL_add_18 : decode cL_add 18 = .ok (.goto 11, 3) := by decide +kernel
theorem dL_add_21 : decode cL_add 21 = .ok (.astore 8, 2) := by decide +kernel
theorem dL_add_23 : decode cL_add 23 = .ok (.iconst 1, 1) := by decide +kernel
theorem dL_add_24 : decode cL_add 24 = .ok (.ireturn, 1) := by decide +kernel
theorem dL_add_25 : decode cL_add 25 = .ok (.astore 8, 2) := by decide +kernel
theorem dL_add_27 : decode cL_add 27 = .ok (.iconst 2, 1) := by decide +kernel
theorem dL_add_28 : decode cL_add 28 = .ok (.ireturn, 1) := by decide +kernel
theorem dL_add_29 : decode cL_add 29 = .ok (.iconst 0, 1) := by decide +kernel
theorem dL_add_30 : decode cL_add 30 = .ok (.ireturn, 1) := by decide +kernel
theorem dL_repeat_0 : decode cL_repeat 0 = .ok (.aload 4, 2) := by decide +kernel
theorem dL_repeat_2 : decode cL_repeat 2 = .ok (.iconst 0, 1) := by decide +kernel
theorem dL_repeat_3 : decode cL_repeat 3 = .ok (.aload_n 0, 1) := by decide +kernel
theorem dL_repeat_4 : decode cL_repeat 4 = .ok (.iload_n 1, 1) := by decide +kernel
theorem dL_repeat_5 : decode cL_repeat 5 = .ok (.iload_n 2, 1) := by decide +kernel
theorem dL_repeat_6 : decode cL_repeat 6 = .ok (.iload_n 3, 1) := by decide +kernel
theorem dL_repeat_7 : decode cL_repeat 7 = .ok (.invokevirtual 26, 3) := by decide +kernel
theorem dL_repeat_10 : decode cL_repeat 10 = .ok (.i2l, 1) := by decide +kernel
theorem dL_repeat_11 : decode cL_repeat 11 = .ok (.lastore, 1) := by decide +kernel
theorem dL_repeat_12 : decode cL_repeat 12 = .ok (.goto 15, 3) := by decide +kernel
theorem dL_repeat_15 : decode cL_repeat 15 = .ok (.astore 5, 2) := by decide +kernel
theorem dL_repeat_17 : decode cL_repeat 17 = .ok (.iconst 1, 1) := by decide +kernel
theorem dL_repeat_18 : decode cL_repeat 18 = .ok (.ireturn, 1) := by decide +kernel
theorem dL_repeat_19 : decode cL_repeat 19 = .ok (.astore 5, 2) := by decide +kernel
theorem dL_repeat_21 : decode cL_repeat 21 = .ok (.iconst 2, 1) := by decide +kernel
theorem dL_repeat_22 : decode cL_repeat 22 = .ok (.ireturn, 1) := by decide +kernel
theorem dL_repeat_23 : decode cL_repeat 23 = .ok (.astore 5, 2) := by decide +kernel
theorem dL_repeat_25 : decode cL_repeat 25 = .ok (.iconst 3, 1) := by decide +kernel
theorem dL_repeat_26 : decode cL_repeat 26 = .ok (.ireturn, 1) := by decide +kernel
theorem dL_repeat_27 : decode cL_repeat 27 = .ok (.iconst 0, 1) := by decide +kernel
theorem dL_repeat_28 : decode cL_repeat 28 = .ok (.ireturn, 1) := by decide +kernel
theorem dL_remove_0 : decode cL_remove 0 = .ok (.aload_n 2, 1) := by decide +kernel
theorem dL_remove_1 : decode cL_remove 1 = .ok (.iconst 0, 1) := by decide +kernel
theorem dL_remove_2 : decode cL_remove 2 = .ok (.aload_n 0, 1) := by decide +kernel
theorem dL_remove_3 : decode cL_remove 3 = .ok (.iload_n 1, 1) := by decide +kernel
theorem dL_remove_4 : decode cL_remove 4 = .ok (.invokevirtual 30, 3) := by decide +kernel
theorem dL_remove_7 : decode cL_remove 7 = .ok (.i2l, 1) := by decide +kernel
theorem dL_remove_8 : decode cL_remove 8 = .ok (.lastore, 1) := by decide +kernel
theorem dL_remove_9 : decode cL_remove 9 = .ok (.goto 6, 3) := by decide +kernel
theorem dL_remove_12 : decode cL_remove 12 = .ok (.astore_n 3, 1) := by decide +kernel
theorem dL_remove_13 : decode cL_remove 13 = .ok (.iconst 1, 1) := by decide +kernel
theorem dL_remove_14 : decode cL_remove 14 = .ok (.ireturn, 1) := by decide +kernel
theorem dL_remove_15 : decode cL_remove 15 = .ok (.iconst 0, 1) := by decide +kernel
theorem dL_remove_16 : decode cL_remove 16 = .ok (.ireturn, 1) := by decide +kernel
theorem dL_overrun_0 : decode cL_overrun 0 = .ok (.aload_n 3, 1) := by decide +kernel
theorem dL_overrun_1 : decode cL_overrun 1 = .ok (.iconst 0, 1) := by decide +kernel
theorem dL_overrun_2 : decode cL_overrun 2 = .ok (.aload_n 0, 1) := by decide +kernel
theorem dL_overrun_3 : decode cL_overrun 3 = .ok (.iload_n 1, 1) := by decide +kernel
theorem dL_overrun_4 : decode cL_overrun 4 = .ok (.iload_n 2, 1) := by decide +kernel
theorem dL_overrun_5 : decode cL_overrun 5 = .ok (.invokevirtual 34, 3) := by decide +kernel
theorem dL_overrun_8 : decode cL_overrun 8 = .ok (.i2l, 1) := by decide +kernel
theorem dL_overrun_9 : decode cL_overrun 9 = .ok (.lastore, 1) := by decide +kernel
theorem dL_overrun_10 : decode cL_overrun 10 = .ok (.goto 15, 3) := by decide +kernel
theorem dL_overrun_13 : decode cL_overrun 13 = .ok (.astore 4, 2) := by decide +kernel
theorem dL_overrun_15 : decode cL_overrun 15 = .ok (.iconst 1, 1) := by decide +kernel
theorem dL_overrun_16 : decode cL_overrun 16 = .ok (.ireturn, 1) := by decide +kernel
theorem dL_overrun_17 : decode cL_overrun 17 = .ok (.astore 4, 2) := by decide +kernel
theorem dL_overrun_19 : decode cL_overrun 19 = .ok (.iconst 2, 1) := by decide +kernel
theorem dL_overrun_20 : decode cL_overrun 20 = .ok (.ireturn, 1) := by decide +kernel
theorem dL_overrun_21 : decode cL_overrun 21 = .ok (.astore 4, 2) := by decide +kernel
theorem dL_overrun_23 : decode cL_overrun 23 = .ok (.iconst 3, 1) := by decide +kernel
theorem dL_overrun_24 : decode cL_overrun 24 = .ok (.ireturn, 1) := by decide +kernel
theorem dL_overrun_25 : decode cL_overrun 25 = .ok (.iconst 0, 1) := by decide +kernel
theorem dL_overrun_26 : decode cL_overrun 26 = .ok (.ireturn, 1) := by decide +kernel
theorem dL_closeWeek_0 : decode cL_closeWeek 0 = .ok (.aload_n 1, 1) := by decide +kernel
theorem dL_closeWeek_1 : decode cL_closeWeek 1 = .ok (.iconst 0, 1) := by decide +kernel
theorem dL_closeWeek_2 : decode cL_closeWeek 2 = .ok (.aload_n 0, 1) := by decide +kernel
theorem dL_closeWeek_3 : decode cL_closeWeek 3 = .ok (.invokevirtual 37, 3) := by decide +kernel
theorem dL_closeWeek_6 : decode cL_closeWeek 6 = .ok (.i2l, 1) := by decide +kernel
theorem dL_closeWeek_7 : decode cL_closeWeek 7 = .ok (.lastore, 1) := by decide +kernel
theorem dL_closeWeek_8 : decode cL_closeWeek 8 = .ok (.goto 6, 3) := by decide +kernel
theorem dL_closeWeek_11 : decode cL_closeWeek 11 = .ok (.astore_n 2, 1) := by decide +kernel
theorem dL_closeWeek_12 : decode cL_closeWeek 12 = .ok (.iconst 1, 1) := by decide +kernel
theorem dL_closeWeek_13 : decode cL_closeWeek 13 = .ok (.ireturn, 1) := by decide +kernel
theorem dL_closeWeek_14 : decode cL_closeWeek 14 = .ok (.iconst 0, 1) := by decide +kernel
theorem dL_closeWeek_15 : decode cL_closeWeek 15 = .ok (.ireturn, 1) := by decide +kernel
theorem dL_append_0 : decode cL_append 0 = .ok (.aload_n 2, 1) := by decide +kernel
theorem dL_append_1 : decode cL_append 1 = .ok (.iconst 0, 1) := by decide +kernel
theorem dL_append_2 : decode cL_append 2 = .ok (.aload_n 0, 1) := by decide +kernel
theorem dL_append_3 : decode cL_append 3 = .ok (.iload_n 1, 1) := by decide +kernel
theorem dL_append_4 : decode cL_append 4 = .ok (.invokevirtual 41, 3) := by decide +kernel
theorem dL_append_7 : decode cL_append 7 = .ok (.i2l, 1) := by decide +kernel
theorem dL_append_8 : decode cL_append 8 = .ok (.lastore, 1) := by decide +kernel
theorem dL_append_9 : decode cL_append 9 = .ok (.goto 9, 3) := by decide +kernel
theorem dL_append_12 : decode cL_append 12 = .ok (.astore_n 3, 1) := by decide +kernel
theorem dL_append_13 : decode cL_append 13 = .ok (.iconst 1, 1) := by decide +kernel
theorem dL_append_14 : decode cL_append 14 = .ok (.ireturn, 1) := by decide +kernel
theorem dL_append_15 : decode cL_append 15 = .ok (.astore_n 3, 1) := by decide +kernel
theorem dL_append_16 : decode cL_append 16 = .ok (.iconst 2, 1) := by decide +kernel
theorem dL_append_17 : decode cL_append 17 = .ok (.ireturn, 1) := by decide +kernel
theorem dL_append_18 : decode cL_append 18 = .ok (.iconst 0, 1) := by decide +kernel
theorem dL_append_19 : decode cL_append 19 = .ok (.ireturn, 1) := by decide +kernel
theorem dL_load_0 : decode cL_load 0 = .ok (.aload_n 1, 1) := by decide +kernel
theorem dL_load_1 : decode cL_load 1 = .ok (.iconst 0, 1) := by decide +kernel
theorem dL_load_2 : decode cL_load 2 = .ok (.aload_n 0, 1) := by decide +kernel
theorem dL_load_3 : decode cL_load 3 = .ok (.invokevirtual 44, 3) := by decide +kernel
theorem dL_load_6 : decode cL_load 6 = .ok (.i2l, 1) := by decide +kernel
theorem dL_load_7 : decode cL_load 7 = .ok (.lastore, 1) := by decide +kernel
theorem dL_load_8 : decode cL_load 8 = .ok (.goto 6, 3) := by decide +kernel
theorem dL_load_11 : decode cL_load 11 = .ok (.astore_n 2, 1) := by decide +kernel
theorem dL_load_12 : decode cL_load 12 = .ok (.iconst 1, 1) := by decide +kernel
theorem dL_load_13 : decode cL_load 13 = .ok (.ireturn, 1) := by decide +kernel
theorem dL_load_14 : decode cL_load 14 = .ok (.iconst 0, 1) := by decide +kernel
theorem dL_load_15 : decode cL_load 15 = .ok (.ireturn, 1) := by decide +kernel
theorem dL_undo_0 : decode cL_undo 0 = .ok (.aload_n 1, 1) := by decide +kernel
theorem dL_undo_1 : decode cL_undo 1 = .ok (.iconst 0, 1) := by decide +kernel
theorem dL_undo_2 : decode cL_undo 2 = .ok (.aload_n 0, 1) := by decide +kernel
theorem dL_undo_3 : decode cL_undo 3 = .ok (.invokevirtual 47, 3) := by decide +kernel
theorem dL_undo_6 : decode cL_undo 6 = .ok (.i2l, 1) := by decide +kernel
theorem dL_undo_7 : decode cL_undo 7 = .ok (.lastore, 1) := by decide +kernel
theorem dL_undo_8 : decode cL_undo 8 = .ok (.goto 6, 3) := by decide +kernel
theorem dL_undo_11 : decode cL_undo 11 = .ok (.astore_n 2, 1) := by decide +kernel
theorem dL_undo_12 : decode cL_undo 12 = .ok (.iconst 1, 1) := by decide +kernel
theorem dL_undo_13 : decode cL_undo 13 = .ok (.ireturn, 1) := by decide +kernel
theorem dL_undo_14 : decode cL_undo 14 = .ok (.iconst 0, 1) := by decide +kernel
theorem dL_undo_15 : decode cL_undo 15 = .ok (.ireturn, 1) := by decide +kernel
theorem dL_show_0 : decode cL_show 0 = .ok (.aload_n 3, 1) := by decide +kernel
theorem dL_show_1 : decode cL_show 1 = .ok (.iconst 0, 1) := by decide +kernel
theorem dL_show_2 : decode cL_show 2 = .ok (.aload_n 0, 1) := by decide +kernel
theorem dL_show_3 : decode cL_show 3 = .ok (.iload_n 1, 1) := by decide +kernel
theorem dL_show_4 : decode cL_show 4 = .ok (.iload_n 2, 1) := by decide +kernel
theorem dL_show_5 : decode cL_show 5 = .ok (.invokevirtual 50, 3) := by decide +kernel
theorem dL_show_8 : decode cL_show 8 = .ok (.i2l, 1) := by decide +kernel
theorem dL_show_9 : decode cL_show 9 = .ok (.lastore, 1) := by decide +kernel
theorem dL_show_10 : decode cL_show 10 = .ok (.goto 11, 3) := by decide +kernel
theorem dL_show_13 : decode cL_show 13 = .ok (.astore 4, 2) := by decide +kernel
theorem dL_show_15 : decode cL_show 15 = .ok (.iconst 1, 1) := by decide +kernel
theorem dL_show_16 : decode cL_show 16 = .ok (.ireturn, 1) := by decide +kernel
theorem dL_show_17 : decode cL_show 17 = .ok (.astore 4, 2) := by decide +kernel
theorem dL_show_19 : decode cL_show 19 = .ok (.iconst 2, 1) := by decide +kernel
theorem dL_show_20 : decode cL_show 20 = .ok (.ireturn, 1) := by decide +kernel
theorem dL_show_21 : decode cL_show 21 = .ok (.iconst 0, 1) := by decide +kernel
theorem dL_show_22 : decode cL_show 22 = .ok (.ireturn, 1) := by decide +kernel
theorem dL_group_0 : decode cL_group 0 = .ok (.aload_n 3, 1) := by decide +kernel
theorem dL_group_1 : decode cL_group 1 = .ok (.iconst 0, 1) := by decide +kernel
theorem dL_group_2 : decode cL_group 2 = .ok (.aload_n 0, 1) := by decide +kernel
theorem dL_group_3 : decode cL_group 3 = .ok (.iload_n 1, 1) := by decide +kernel
theorem dL_group_4 : decode cL_group 4 = .ok (.iload_n 2, 1) := by decide +kernel
theorem dL_group_5 : decode cL_group 5 = .ok (.invokevirtual 53, 3) := by decide +kernel
theorem dL_group_8 : decode cL_group 8 = .ok (.i2l, 1) := by decide +kernel
theorem dL_group_9 : decode cL_group 9 = .ok (.lastore, 1) := by decide +kernel
theorem dL_group_10 : decode cL_group 10 = .ok (.goto 11, 3) := by decide +kernel
theorem dL_group_13 : decode cL_group 13 = .ok (.astore 4, 2) := by decide +kernel
theorem dL_group_15 : decode cL_group 15 = .ok (.iconst 1, 1) := by decide +kernel
theorem dL_group_16 : decode cL_group 16 = .ok (.ireturn, 1) := by decide +kernel
theorem dL_group_17 : decode cL_group 17 = .ok (.astore 4, 2) := by decide +kernel
theorem dL_group_19 : decode cL_group 19 = .ok (.iconst 2, 1) := by decide +kernel
theorem dL_group_20 : decode cL_group 20 = .ok (.ireturn, 1) := by decide +kernel
theorem dL_group_21 : decode cL_group 21 = .ok (.iconst 0, 1) := by decide +kernel
theorem dL_group_22 : decode cL_group 22 = .ok (.ireturn, 1) := by decide +kernel
theorem dL_sponsors_0 : decode cL_sponsors 0 = .ok (.aload 4, 2) := by decide +kernel
theorem dL_sponsors_2 : decode cL_sponsors 2 = .ok (.iconst 0, 1) := by decide +kernel
theorem dL_sponsors_3 : decode cL_sponsors 3 = .ok (.aload_n 0, 1) := by decide +kernel
theorem dL_sponsors_4 : decode cL_sponsors 4 = .ok (.iload_n 1, 1) := by decide +kernel
theorem dL_sponsors_5 : decode cL_sponsors 5 = .ok (.iload_n 2, 1) := by decide +kernel
theorem dL_sponsors_6 : decode cL_sponsors 6 = .ok (.iload_n 3, 1) := by decide +kernel
theorem dL_sponsors_7 : decode cL_sponsors 7 = .ok (.invokevirtual 56, 3) := by decide +kernel
theorem dL_sponsors_10 : decode cL_sponsors 10 = .ok (.i2l, 1) := by decide +kernel
theorem dL_sponsors_11 : decode cL_sponsors 11 = .ok (.lastore, 1) := by decide +kernel
theorem dL_sponsors_12 : decode cL_sponsors 12 = .ok (.goto 7, 3) := by decide +kernel
theorem dL_sponsors_15 : decode cL_sponsors 15 = .ok (.astore 5, 2) := by decide +kernel
theorem dL_sponsors_17 : decode cL_sponsors 17 = .ok (.iconst 1, 1) := by decide +kernel
theorem dL_sponsors_18 : decode cL_sponsors 18 = .ok (.ireturn, 1) := by decide +kernel
theorem dL_sponsors_19 : decode cL_sponsors 19 = .ok (.iconst 0, 1) := by decide +kernel
theorem dL_sponsors_20 : decode cL_sponsors 20 = .ok (.ireturn, 1) := by decide +kernel
theorem dL_day_0 : decode cL_day 0 = .ok (.aload_n 3, 1) := by decide +kernel
theorem dL_day_1 : decode cL_day 1 = .ok (.iconst 0, 1) := by decide +kernel
theorem dL_day_2 : decode cL_day 2 = .ok (.aload_n 0, 1) := by decide +kernel
theorem dL_day_3 : decode cL_day 3 = .ok (.iload_n 1, 1) := by decide +kernel
theorem dL_day_4 : decode cL_day 4 = .ok (.iload_n 2, 1) := by decide +kernel
theorem dL_day_5 : decode cL_day 5 = .ok (.invokevirtual 60, 3) := by decide +kernel
theorem dL_day_8 : decode cL_day 8 = .ok (.i2l, 1) := by decide +kernel
theorem dL_day_9 : decode cL_day 9 = .ok (.lastore, 1) := by decide +kernel
theorem dL_day_10 : decode cL_day 10 = .ok (.goto 11, 3) := by decide +kernel
theorem dL_day_13 : decode cL_day 13 = .ok (.astore 4, 2) := by decide +kernel
theorem dL_day_15 : decode cL_day 15 = .ok (.iconst 1, 1) := by decide +kernel
theorem dL_day_16 : decode cL_day 16 = .ok (.ireturn, 1) := by decide +kernel
theorem dL_day_17 : decode cL_day 17 = .ok (.astore 4, 2) := by decide +kernel
theorem dL_day_19 : decode cL_day 19 = .ok (.iconst 2, 1) := by decide +kernel
theorem dL_day_20 : decode cL_day 20 = .ok (.ireturn, 1) := by decide +kernel
theorem dL_day_21 : decode cL_day 21 = .ok (.iconst 0, 1) := by decide +kernel
theorem dL_day_22 : decode cL_day 22 = .ok (.ireturn, 1) := by decide +kernel
theorem dL_count_0 : decode cL_count 0 = .ok (.aload_n 2, 1) := by decide +kernel
theorem dL_count_1 : decode cL_count 1 = .ok (.iconst 0, 1) := by decide +kernel
theorem dL_count_2 : decode cL_count 2 = .ok (.aload_n 0, 1) := by decide +kernel
theorem dL_count_3 : decode cL_count 3 = .ok (.iload_n 1, 1) := by decide +kernel
theorem dL_count_4 : decode cL_count 4 = .ok (.invokevirtual 63, 3) := by decide +kernel
theorem dL_count_7 : decode cL_count 7 = .ok (.i2l, 1) := by decide +kernel
theorem dL_count_8 : decode cL_count 8 = .ok (.lastore, 1) := by decide +kernel
theorem dL_count_9 : decode cL_count 9 = .ok (.goto 6, 3) := by decide +kernel
theorem dL_count_12 : decode cL_count 12 = .ok (.astore_n 3, 1) := by decide +kernel
theorem dL_count_13 : decode cL_count 13 = .ok (.iconst 1, 1) := by decide +kernel
theorem dL_count_14 : decode cL_count 14 = .ok (.ireturn, 1) := by decide +kernel
theorem dL_count_15 : decode cL_count 15 = .ok (.iconst 0, 1) := by decide +kernel
theorem dL_count_16 : decode cL_count 16 = .ok (.ireturn, 1) := by decide +kernel
theorem dL_setting_0 : decode cL_setting 0 = .ok (.aload_n 2, 1) := by decide +kernel
theorem dL_setting_1 : decode cL_setting 1 = .ok (.iconst 0, 1) := by decide +kernel
theorem dL_setting_2 : decode cL_setting 2 = .ok (.aload_n 0, 1) := by decide +kernel
theorem dL_setting_3 : decode cL_setting 3 = .ok (.iload_n 1, 1) := by decide +kernel
theorem dL_setting_4 : decode cL_setting 4 = .ok (.invokevirtual 66, 3) := by decide +kernel
theorem dL_setting_7 : decode cL_setting 7 = .ok (.i2l, 1) := by decide +kernel
theorem dL_setting_8 : decode cL_setting 8 = .ok (.lastore, 1) := by decide +kernel
theorem dL_setting_9 : decode cL_setting 9 = .ok (.goto 6, 3) := by decide +kernel
theorem dL_setting_12 : decode cL_setting 12 = .ok (.astore_n 3, 1) := by decide +kernel
theorem dL_setting_13 : decode cL_setting 13 = .ok (.iconst 1, 1) := by decide +kernel
theorem dL_setting_14 : decode cL_setting 14 = .ok (.ireturn, 1) := by decide +kernel
theorem dL_setting_15 : decode cL_setting 15 = .ok (.iconst 0, 1) := by decide +kernel
theorem dL_setting_16 : decode cL_setting 16 = .ok (.ireturn, 1) := by decide +kernel
theorem dL_why_0 : decode cL_why 0 = .ok (.aload 5, 2) := by decide +kernel
theorem dL_why_2 : decode cL_why 2 = .ok (.iconst 0, 1) := by decide +kernel
theorem dL_why_3 : decode cL_why 3 = .ok (.aload_n 0, 1) := by decide +kernel
theorem dL_why_4 : decode cL_why 4 = .ok (.iload_n 1, 1) := by decide +kernel
theorem dL_why_5 : decode cL_why 5 = .ok (.iload_n 2, 1) := by decide +kernel
theorem dL_why_6 : decode cL_why 6 = .ok (.iload_n 3, 1) := by decide +kernel
theorem dL_why_7 : decode cL_why 7 = .ok (.iload 4, 2) := by decide +kernel
theorem dL_why_9 : decode cL_why 9 = .ok (.invokevirtual 69, 3) := by decide +kernel
theorem dL_why_12 : decode cL_why 12 = .ok (.i2l, 1) := by decide +kernel
theorem dL_why_13 : decode cL_why 13 = .ok (.lastore, 1) := by decide +kernel
theorem dL_why_14 : decode cL_why 14 = .ok (.goto 7, 3) := by decide +kernel
theorem dL_why_17 : decode cL_why 17 = .ok (.astore 6, 2) := by decide +kernel
theorem dL_why_19 : decode cL_why 19 = .ok (.iconst 1, 1) := by decide +kernel
theorem dL_why_20 : decode cL_why 20 = .ok (.ireturn, 1) := by decide +kernel
theorem dL_why_21 : decode cL_why 21 = .ok (.iconst 0, 1) := by decide +kernel
theorem dL_why_22 : decode cL_why 22 = .ok (.ireturn, 1) := by decide +kernel
theorem dL_firstTime_0 : decode cL_firstTime 0 = .ok (.aload 4, 2) := by decide +kernel
theorem dL_firstTime_2 : decode cL_firstTime 2 = .ok (.iconst 0, 1) := by decide +kernel
theorem dL_firstTime_3 : decode cL_firstTime 3 = .ok (.aload_n 0, 1) := by decide +kernel
theorem dL_firstTime_4 : decode cL_firstTime 4 = .ok (.iload_n 1, 1) := by decide +kernel
theorem dL_firstTime_5 : decode cL_firstTime 5 = .ok (.iload_n 2, 1) := by decide +kernel
theorem dL_firstTime_6 : decode cL_firstTime 6 = .ok (.iload_n 3, 1) := by decide +kernel
theorem dL_firstTime_7 : decode cL_firstTime 7 = .ok (.invokevirtual 73, 3) := by decide +kernel
theorem dL_firstTime_10 : decode cL_firstTime 10 = .ok (.i2l, 1) := by decide +kernel
theorem dL_firstTime_11 : decode cL_firstTime 11 = .ok (.lastore, 1) := by decide +kernel
theorem dL_firstTime_12 : decode cL_firstTime 12 = .ok (.goto 7, 3) := by decide +kernel
theorem dL_firstTime_15 : decode cL_firstTime 15 = .ok (.astore 5, 2) := by decide +kernel
theorem dL_firstTime_17 : decode cL_firstTime 17 = .ok (.iconst 1, 1) := by decide +kernel
theorem dL_firstTime_18 : decode cL_firstTime 18 = .ok (.ireturn, 1) := by decide +kernel
theorem dL_firstTime_19 : decode cL_firstTime 19 = .ok (.iconst 0, 1) := by decide +kernel
theorem dL_firstTime_20 : decode cL_firstTime 20 = .ok (.ireturn, 1) := by decide +kernel
theorem dL_firstRepeat_0 : decode cL_firstRepeat 0 = .ok (.aload_n 2, 1) := by decide +kernel
theorem dL_firstRepeat_1 : decode cL_firstRepeat 1 = .ok (.iconst 0, 1) := by decide +kernel
theorem dL_firstRepeat_2 : decode cL_firstRepeat 2 = .ok (.aload_n 0, 1) := by decide +kernel
theorem dL_firstRepeat_3 : decode cL_firstRepeat 3 = .ok (.iload_n 1, 1) := by decide +kernel
theorem dL_firstRepeat_4 : decode cL_firstRepeat 4 = .ok (.invokevirtual 76, 3) := by decide +kernel
theorem dL_firstRepeat_7 : decode cL_firstRepeat 7 = .ok (.i2l, 1) := by decide +kernel
theorem dL_firstRepeat_8 : decode cL_firstRepeat 8 = .ok (.lastore, 1) := by decide +kernel
theorem dL_firstRepeat_9 : decode cL_firstRepeat 9 = .ok (.goto 6, 3) := by decide +kernel
theorem dL_firstRepeat_12 : decode cL_firstRepeat 12 = .ok (.astore_n 3, 1) := by decide +kernel
theorem dL_firstRepeat_13 : decode cL_firstRepeat 13 = .ok (.iconst 1, 1) := by decide +kernel
theorem dL_firstRepeat_14 : decode cL_firstRepeat 14 = .ok (.ireturn, 1) := by decide +kernel
theorem dL_firstRepeat_15 : decode cL_firstRepeat 15 = .ok (.iconst 0, 1) := by decide +kernel
theorem dL_firstRepeat_16 : decode cL_firstRepeat 16 = .ok (.ireturn, 1) := by decide +kernel
theorem dL_ifOverrun_0 : decode cL_ifOverrun 0 = .ok (.aload 4, 2) := by decide +kernel
theorem dL_ifOverrun_2 : decode cL_ifOverrun 2 = .ok (.iconst 0, 1) := by decide +kernel
theorem dL_ifOverrun_3 : decode cL_ifOverrun 3 = .ok (.aload_n 0, 1) := by decide +kernel
theorem dL_ifOverrun_4 : decode cL_ifOverrun 4 = .ok (.iload_n 1, 1) := by decide +kernel
theorem dL_ifOverrun_5 : decode cL_ifOverrun 5 = .ok (.iload_n 2, 1) := by decide +kernel
theorem dL_ifOverrun_6 : decode cL_ifOverrun 6 = .ok (.iload_n 3, 1) := by decide +kernel
theorem dL_ifOverrun_7 : decode cL_ifOverrun 7 = .ok (.invokevirtual 79, 3) := by decide +kernel
theorem dL_ifOverrun_10 : decode cL_ifOverrun 10 = .ok (.i2l, 1) := by decide +kernel
theorem dL_ifOverrun_11 : decode cL_ifOverrun 11 = .ok (.lastore, 1) := by decide +kernel
theorem dL_ifOverrun_12 : decode cL_ifOverrun 12 = .ok (.goto 15, 3) := by decide +kernel
theorem dL_ifOverrun_15 : decode cL_ifOverrun 15 = .ok (.astore 5, 2) := by decide +kernel
theorem dL_ifOverrun_17 : decode cL_ifOverrun 17 = .ok (.iconst 1, 1) := by decide +kernel
theorem dL_ifOverrun_18 : decode cL_ifOverrun 18 = .ok (.ireturn, 1) := by decide +kernel
theorem dL_ifOverrun_19 : decode cL_ifOverrun 19 = .ok (.astore 5, 2) := by decide +kernel
theorem dL_ifOverrun_21 : decode cL_ifOverrun 21 = .ok (.iconst 2, 1) := by decide +kernel
theorem dL_ifOverrun_22 : decode cL_ifOverrun 22 = .ok (.ireturn, 1) := by decide +kernel
theorem dL_ifOverrun_23 : decode cL_ifOverrun 23 = .ok (.astore 5, 2) := by decide +kernel
theorem dL_ifOverrun_25 : decode cL_ifOverrun 25 = .ok (.iconst 3, 1) := by decide +kernel
theorem dL_ifOverrun_26 : decode cL_ifOverrun 26 = .ok (.ireturn, 1) := by decide +kernel
theorem dL_ifOverrun_27 : decode cL_ifOverrun 27 = .ok (.iconst 0, 1) := by decide +kernel
theorem dL_ifOverrun_28 : decode cL_ifOverrun 28 = .ok (.ireturn, 1) := by decide +kernel
theorem dL_greatestOverrun_0 : decode cL_greatestOverrun 0 = .ok (.aload_n 2, 1) := by decide +kernel
theorem dL_greatestOverrun_1 : decode cL_greatestOverrun 1 = .ok (.iconst 0, 1) := by decide +kernel
theorem dL_greatestOverrun_2 : decode cL_greatestOverrun 2 = .ok (.aload_n 0, 1) := by decide +kernel
theorem dL_greatestOverrun_3 : decode cL_greatestOverrun 3 = .ok (.iload_n 1, 1) := by decide +kernel
theorem dL_greatestOverrun_4 : decode cL_greatestOverrun 4 = .ok (.invokevirtual 82, 3) := by decide +kernel
theorem dL_greatestOverrun_7 : decode cL_greatestOverrun 7 = .ok (.i2l, 1) := by decide +kernel
theorem dL_greatestOverrun_8 : decode cL_greatestOverrun 8 = .ok (.lastore, 1) := by decide +kernel
theorem dL_greatestOverrun_9 : decode cL_greatestOverrun 9 = .ok (.goto 9, 3) := by decide +kernel
theorem dL_greatestOverrun_12 : decode cL_greatestOverrun 12 = .ok (.astore_n 3, 1) := by decide +kernel
theorem dL_greatestOverrun_13 : decode cL_greatestOverrun 13 = .ok (.iconst 1, 1) := by decide +kernel
theorem dL_greatestOverrun_14 : decode cL_greatestOverrun 14 = .ok (.ireturn, 1) := by decide +kernel
theorem dL_greatestOverrun_15 : decode cL_greatestOverrun 15 = .ok (.astore_n 3, 1) := by decide +kernel
theorem dL_greatestOverrun_16 : decode cL_greatestOverrun 16 = .ok (.iconst 2, 1) := by decide +kernel
theorem dL_greatestOverrun_17 : decode cL_greatestOverrun 17 = .ok (.ireturn, 1) := by decide +kernel
theorem dL_greatestOverrun_18 : decode cL_greatestOverrun 18 = .ok (.iconst 0, 1) := by decide +kernel
theorem dL_greatestOverrun_19 : decode cL_greatestOverrun 19 = .ok (.ireturn, 1) := by decide +kernel
theorem dL_law_0 : decode cL_law 0 = .ok (.new 8, 3) := by decide +kernel
theorem dL_law_3 : decode cL_law 3 = .ok (.dup, 1) := by decide +kernel
theorem dL_law_4 : decode cL_law 4 = .ok (.invokespecial 85, 3) := by decide +kernel
theorem dL_law_7 : decode cL_law 7 = .ok (.astore_n 1, 1) := by decide +kernel
theorem dL_law_8 : decode cL_law 8 = .ok (.new 86, 3) := by decide +kernel
theorem dL_law_11 : decode cL_law 11 = .ok (.dup, 1) := by decide +kernel
theorem dL_law_12 : decode cL_law 12 = .ok (.invokespecial 88, 3) := by decide +kernel
theorem dL_law_15 : decode cL_law 15 = .ok (.astore_n 2, 1) := by decide +kernel
theorem dL_law_16 : decode cL_law 16 = .ok (.iconst 1, 1) := by decide +kernel
theorem dL_law_17 : decode cL_law 17 = .ok (.newarray .long, 2) := by decide +kernel
theorem dL_law_19 : decode cL_law 19 = .ok (.astore_n 3, 1) := by decide +kernel
theorem dL_law_20 : decode cL_law 20 = .ok (.iconst 0, 1) := by decide +kernel
theorem dL_law_21 : decode cL_law 21 = .ok (.istore 4, 2) := by decide +kernel
theorem dL_law_23 : decode cL_law 23 = .ok (.iload 4, 2) := by decide +kernel
theorem dL_law_25 : decode cL_law 25 = .ok (.aload_n 0, 1) := by decide +kernel
theorem dL_law_26 : decode cL_law 26 = .ok (.arraylength, 1) := by decide +kernel
theorem dL_law_27 : decode cL_law 27 = .ok (.bipush 7, 2) := by decide +kernel
theorem dL_law_29 : decode cL_law 29 = .ok (.isub, 1) := by decide +kernel
theorem dL_law_30 : decode cL_law 30 = .ok (.if_icmp .gt 1668, 3) := by decide +kernel
theorem dL_law_33 : decode cL_law 33 = .ok (.aload_n 0, 1) := by decide +kernel
theorem dL_law_34 : decode cL_law 34 = .ok (.iload 4, 2) := by decide +kernel
theorem dL_law_36 : decode cL_law 36 = .ok (.iaload, 1) := by decide +kernel
theorem dL_law_37 : decode cL_law 37 = .ok (.bipush 31, 2) := by decide +kernel
theorem dL_law_39 : decode cL_law 39 = .ok (.iand, 1) := by decide +kernel
theorem dL_law_40 : decode cL_law 40 = .ok (.tableswitch 1652 0 25 #[120, 188, 256, 390, 470, 526, 594, 638, 694, 707, 720, 764, 808, 821, 889, 957, 1053, 1121, 1177, 1233, 1325, 1405, 1461, 1541, 1597, 1638], 120) := by decide +kernel
theorem dL_law_160 : decode cL_law 160 = .ok (.aload_n 1, 1) := by decide +kernel
theorem dL_law_161 : decode cL_law 161 = .ok (.aload_n 0, 1) := by decide +kernel
theorem dL_law_162 : decode cL_law 162 = .ok (.iload 4, 2) := by decide +kernel
theorem dL_law_164 : decode cL_law 164 = .ok (.iconst 1, 1) := by decide +kernel
theorem dL_law_165 : decode cL_law 165 = .ok (.iadd, 1) := by decide +kernel
theorem dL_law_166 : decode cL_law 166 = .ok (.iaload, 1) := by decide +kernel
theorem dL_law_167 : decode cL_law 167 = .ok (.aload_n 0, 1) := by decide +kernel
theorem dL_law_168 : decode cL_law 168 = .ok (.iload 4, 2) := by decide +kernel
theorem dL_law_170 : decode cL_law 170 = .ok (.iconst 2, 1) := by decide +kernel
theorem dL_law_171 : decode cL_law 171 = .ok (.iadd, 1) := by decide +kernel
theorem dL_law_172 : decode cL_law 172 = .ok (.iaload, 1) := by decide +kernel
theorem dL_law_173 : decode cL_law 173 = .ok (.aload_n 3, 1) := by decide +kernel
theorem dL_law_174 : decode cL_law 174 = .ok (.invokestatic 89, 3) := by decide +kernel
theorem dL_law_177 : decode cL_law 177 = .ok (.istore 5, 2) := by decide +kernel
theorem dL_law_179 : decode cL_law 179 = .ok (.aload_n 2, 1) := by decide +kernel
theorem dL_law_180 : decode cL_law 180 = .ok (.aload_n 0, 1) := by decide +kernel
theorem dL_law_181 : decode cL_law 181 = .ok (.iload 4, 2) := by decide +kernel
theorem dL_law_183 : decode cL_law 183 = .ok (.iconst 1, 1) := by decide +kernel
theorem dL_law_184 : decode cL_law 184 = .ok (.iadd, 1) := by decide +kernel
theorem dL_law_185 : decode cL_law 185 = .ok (.iaload, 1) := by decide +kernel
theorem dL_law_186 : decode cL_law 186 = .ok (.aload_n 0, 1) := by decide +kernel
theorem dL_law_187 : decode cL_law 187 = .ok (.iload 4, 2) := by decide +kernel
theorem dL_law_189 : decode cL_law 189 = .ok (.iconst 2, 1) := by decide +kernel
theorem dL_law_190 : decode cL_law 190 = .ok (.iadd, 1) := by decide +kernel
theorem dL_law_191 : decode cL_law 191 = .ok (.iaload, 1) := by decide +kernel
theorem dL_law_192 : decode cL_law 192 = .ok (.invokevirtual 94, 3) := by decide +kernel
theorem dL_law_195 : decode cL_law 195 = .ok (.istore 6, 2) := by decide +kernel
theorem dL_law_197 : decode cL_law 197 = .ok (.aload_n 2, 1) := by decide +kernel
theorem dL_law_198 : decode cL_law 198 = .ok (.invokevirtual 95, 3) := by decide +kernel
theorem dL_law_201 : decode cL_law 201 = .ok (.iload 5, 2) := by decide +kernel
theorem dL_law_203 : decode cL_law 203 = .ok (.if_icmp .eq 5, 3) := by decide +kernel
theorem dL_law_206 : decode cL_law 206 = .ok (.iconst 0, 1) := by decide +kernel
theorem dL_law_207 : decode cL_law 207 = .ok (.ireturn, 1) := by decide +kernel
theorem dL_law_208 : decode cL_law 208 = .ok (.iload 5, 2) := by decide +kernel
theorem dL_law_210 : decode cL_law 210 = .ok (.ifCond .ne 15, 3) := by decide +kernel
theorem dL_law_213 : decode cL_law 213 = .ok (.aload_n 3, 1) := by decide +kernel
theorem dL_law_214 : decode cL_law 214 = .ok (.iconst 0, 1) := by decide +kernel
theorem dL_law_215 : decode cL_law 215 = .ok (.laload, 1) := by decide +kernel
theorem dL_law_216 : decode cL_law 216 = .ok (.iload 6, 2) := by decide +kernel
theorem dL_law_218 : decode cL_law 218 = .ok (.i2l, 1) := by decide +kernel
theorem dL_law_219 : decode cL_law 219 = .ok (.lcmp, 1) := by decide +kernel
theorem dL_law_220 : decode cL_law 220 = .ok (.ifCond .eq 5, 3) := by decide +kernel
theorem dL_law_223 : decode cL_law 223 = .ok (.iconst 0, 1) := by decide +kernel
theorem dL_law_224 : decode cL_law 224 = .ok (.ireturn, 1) := by decide +kernel
theorem dL_law_225 : decode cL_law 225 = .ok (.goto 1467, 3) := by decide +kernel
theorem dL_law_228 : decode cL_law 228 = .ok (.aload_n 1, 1) := by decide +kernel
theorem dL_law_229 : decode cL_law 229 = .ok (.aload_n 0, 1) := by decide +kernel
theorem dL_law_230 : decode cL_law 230 = .ok (.iload 4, 2) := by decide +kernel
theorem dL_law_232 : decode cL_law 232 = .ok (.iconst 1, 1) := by decide +kernel
theorem dL_law_233 : decode cL_law 233 = .ok (.iadd, 1) := by decide +kernel
theorem dL_law_234 : decode cL_law 234 = .ok (.iaload, 1) := by decide +kernel
theorem dL_law_235 : decode cL_law 235 = .ok (.aload_n 0, 1) := by decide +kernel
theorem dL_law_236 : decode cL_law 236 = .ok (.iload 4, 2) := by decide +kernel
theorem dL_law_238 : decode cL_law 238 = .ok (.iconst 2, 1) := by decide +kernel
theorem dL_law_239 : decode cL_law 239 = .ok (.iadd, 1) := by decide +kernel
theorem dL_law_240 : decode cL_law 240 = .ok (.iaload, 1) := by decide +kernel
theorem dL_law_241 : decode cL_law 241 = .ok (.aload_n 3, 1) := by decide +kernel
theorem dL_law_242 : decode cL_law 242 = .ok (.invokestatic 98, 3) := by decide +kernel
theorem dL_law_245 : decode cL_law 245 = .ok (.istore 5, 2) := by decide +kernel
theorem dL_law_247 : decode cL_law 247 = .ok (.aload_n 2, 1) := by decide +kernel
theorem dL_law_248 : decode cL_law 248 = .ok (.aload_n 0, 1) := by decide +kernel
theorem dL_law_249 : decode cL_law 249 = .ok (.iload 4, 2) := by decide +kernel
theorem dL_law_251 : decode cL_law 251 = .ok (.iconst 1, 1) := by decide +kernel
theorem dL_law_252 : decode cL_law 252 = .ok (.iadd, 1) := by decide +kernel
theorem dL_law_253 : decode cL_law 253 = .ok (.iaload, 1) := by decide +kernel
theorem dL_law_254 : decode cL_law 254 = .ok (.aload_n 0, 1) := by decide +kernel
theorem dL_law_255 : decode cL_law 255 = .ok (.iload 4, 2) := by decide +kernel
theorem dL_law_257 : decode cL_law 257 = .ok (.iconst 2, 1) := by decide +kernel
theorem dL_law_258 : decode cL_law 258 = .ok (.iadd, 1) := by decide +kernel
theorem dL_law_259 : decode cL_law 259 = .ok (.iaload, 1) := by decide +kernel
theorem dL_law_260 : decode cL_law 260 = .ok (.invokevirtual 100, 3) := by decide +kernel
theorem dL_law_263 : decode cL_law 263 = .ok (.istore 6, 2) := by decide +kernel
theorem dL_law_265 : decode cL_law 265 = .ok (.aload_n 2, 1) := by decide +kernel
theorem dL_law_266 : decode cL_law 266 = .ok (.invokevirtual 95, 3) := by decide +kernel
theorem dL_law_269 : decode cL_law 269 = .ok (.iload 5, 2) := by decide +kernel
theorem dL_law_271 : decode cL_law 271 = .ok (.if_icmp .eq 5, 3) := by decide +kernel
theorem dL_law_274 : decode cL_law 274 = .ok (.iconst 0, 1) := by decide +kernel
theorem dL_law_275 : decode cL_law 275 = .ok (.ireturn, 1) := by decide +kernel
theorem dL_law_276 : decode cL_law 276 = .ok (.iload 5, 2) := by decide +kernel
theorem dL_law_278 : decode cL_law 278 = .ok (.ifCond .ne 15, 3) := by decide +kernel
theorem dL_law_281 : decode cL_law 281 = .ok (.aload_n 3, 1) := by decide +kernel
theorem dL_law_282 : decode cL_law 282 = .ok (.iconst 0, 1) := by decide +kernel
theorem dL_law_283 : decode cL_law 283 = .ok (.laload, 1) := by decide +kernel
theorem dL_law_284 : decode cL_law 284 = .ok (.iload 6, 2) := by decide +kernel
theorem dL_law_286 : decode cL_law 286 = .ok (.i2l, 1) := by decide +kernel
theorem dL_law_287 : decode cL_law 287 = .ok (.lcmp, 1) := by decide +kernel
theorem dL_law_288 : decode cL_law 288 = .ok (.ifCond .eq 5, 3) := by decide +kernel
theorem dL_law_291 : decode cL_law 291 = .ok (.iconst 0, 1) := by decide +kernel
theorem dL_law_292 : decode cL_law 292 = .ok (.ireturn, 1) := by decide +kernel
theorem dL_law_293 : decode cL_law 293 = .ok (.goto 1399, 3) := by decide +kernel
theorem dL_law_296 : decode cL_law 296 = .ok (.aload_n 1, 1) := by decide +kernel
theorem dL_law_297 : decode cL_law 297 = .ok (.aload_n 0, 1) := by decide +kernel
theorem dL_law_298 : decode cL_law 298 = .ok (.iload 4, 2) := by decide +kernel
theorem dL_law_300 : decode cL_law 300 = .ok (.iconst 1, 1) := by decide +kernel
theorem dL_law_301 : decode cL_law 301 = .ok (.iadd, 1) := by decide +kernel
theorem dL_law_302 : decode cL_law 302 = .ok (.iaload, 1) := by decide +kernel
theorem dL_law_303 : decode cL_law 303 = .ok (.ifCond .eq 7, 3) := by decide +kernel
theorem dL_law_306 : decode cL_law 306 = .ok (.iconst 1, 1) := by decide +kernel
theorem dL_law_307 : decode cL_law 307 = .ok (.goto 4, 3) := by decide +kernel
theorem dL_law_310 : decode cL_law 310 = .ok (.iconst 0, 1) := by decide +kernel
theorem dL_law_311 : decode cL_law 311 = .ok (.aload_n 0, 1) := by decide +kernel
theorem dL_law_312 : decode cL_law 312 = .ok (.iload 4, 2) := by decide +kernel
theorem dL_law_314 : decode cL_law 314 = .ok (.iconst 2, 1) := by decide +kernel
theorem dL_law_315 : decode cL_law 315 = .ok (.iadd, 1) := by decide +kernel
theorem dL_law_316 : decode cL_law 316 = .ok (.iaload, 1) := by decide +kernel
theorem dL_law_317 : decode cL_law 317 = .ok (.aload_n 0, 1) := by decide +kernel
theorem dL_law_318 : decode cL_law 318 = .ok (.iload 4, 2) := by decide +kernel
theorem dL_law_320 : decode cL_law 320 = .ok (.iconst 3, 1) := by decide +kernel
theorem dL_law_321 : decode cL_law 321 = .ok (.iadd, 1) := by decide +kernel
theorem dL_law_322 : decode cL_law 322 = .ok (.iaload, 1) := by decide +kernel
theorem dL_law_323 : decode cL_law 323 = .ok (.aload_n 0, 1) := by decide +kernel
theorem dL_law_324 : decode cL_law 324 = .ok (.iload 4, 2) := by decide +kernel
theorem dL_law_326 : decode cL_law 326 = .ok (.iconst 4, 1) := by decide +kernel
theorem dL_law_327 : decode cL_law 327 = .ok (.iadd, 1) := by decide +kernel
theorem dL_law_328 : decode cL_law 328 = .ok (.iaload, 1) := by decide +kernel
theorem dL_law_329 : decode cL_law 329 = .ok (.aload_n 0, 1) := by decide +kernel
theorem dL_law_330 : decode cL_law 330 = .ok (.iload 4, 2) := by decide +kernel
theorem dL_law_332 : decode cL_law 332 = .ok (.iconst 5, 1) := by decide +kernel
theorem dL_law_333 : decode cL_law 333 = .ok (.iadd, 1) := by decide +kernel
theorem dL_law_334 : decode cL_law 334 = .ok (.iaload, 1) := by decide +kernel
theorem dL_law_335 : decode cL_law 335 = .ok (.aload_n 0, 1) := by decide +kernel
theorem dL_law_336 : decode cL_law 336 = .ok (.iload 4, 2) := by decide +kernel
theorem dL_law_338 : decode cL_law 338 = .ok (.bipush 6, 2) := by decide +kernel
theorem dL_law_340 : decode cL_law 340 = .ok (.iadd, 1) := by decide +kernel
theorem dL_law_341 : decode cL_law 341 = .ok (.iaload, 1) := by decide +kernel
theorem dL_law_342 : decode cL_law 342 = .ok (.aload_n 3, 1) := by decide +kernel
theorem dL_law_343 : decode cL_law 343 = .ok (.invokestatic 101, 3) := by decide +kernel
theorem dL_law_346 : decode cL_law 346 = .ok (.istore 5, 2) := by decide +kernel
theorem dL_law_348 : decode cL_law 348 = .ok (.aload_n 2, 1) := by decide +kernel
theorem dL_law_349 : decode cL_law 349 = .ok (.aload_n 0, 1) := by decide +kernel
theorem dL_law_350 : decode cL_law 350 = .ok (.iload 4, 2) := by decide +kernel
theorem dL_law_352 : decode cL_law 352 = .ok (.iconst 1, 1) := by decide +kernel
theorem dL_law_353 : decode cL_law 353 = .ok (.iadd, 1) := by decide +kernel
theorem dL_law_354 : decode cL_law 354 = .ok (.iaload, 1) := by decide +kernel
theorem dL_law_355 : decode cL_law 355 = .ok (.ifCond .eq 7, 3) := by decide +kernel
theorem dL_law_358 : decode cL_law 358 = .ok (.iconst 1, 1) := by decide +kernel
theorem dL_law_359 : decode cL_law 359 = .ok (.goto 4, 3) := by decide +kernel
theorem dL_law_362 : decode cL_law 362 = .ok (.iconst 0, 1) := by decide +kernel
theorem dL_law_363 : decode cL_law 363 = .ok (.aload_n 0, 1) := by decide +kernel
theorem dL_law_364 : decode cL_law 364 = .ok (.iload 4, 2) := by decide +kernel
theorem dL_law_366 : decode cL_law 366 = .ok (.iconst 2, 1) := by decide +kernel
theorem dL_law_367 : decode cL_law 367 = .ok (.iadd, 1) := by decide +kernel
theorem dL_law_368 : decode cL_law 368 = .ok (.iaload, 1) := by decide +kernel
theorem dL_law_369 : decode cL_law 369 = .ok (.aload_n 0, 1) := by decide +kernel
theorem dL_law_370 : decode cL_law 370 = .ok (.iload 4, 2) := by decide +kernel
theorem dL_law_372 : decode cL_law 372 = .ok (.iconst 3, 1) := by decide +kernel
theorem dL_law_373 : decode cL_law 373 = .ok (.iadd, 1) := by decide +kernel
theorem dL_law_374 : decode cL_law 374 = .ok (.iaload, 1) := by decide +kernel
theorem dL_law_375 : decode cL_law 375 = .ok (.aload_n 0, 1) := by decide +kernel
theorem dL_law_376 : decode cL_law 376 = .ok (.iload 4, 2) := by decide +kernel
theorem dL_law_378 : decode cL_law 378 = .ok (.iconst 4, 1) := by decide +kernel
theorem dL_law_379 : decode cL_law 379 = .ok (.iadd, 1) := by decide +kernel
theorem dL_law_380 : decode cL_law 380 = .ok (.iaload, 1) := by decide +kernel
theorem dL_law_381 : decode cL_law 381 = .ok (.aload_n 0, 1) := by decide +kernel
theorem dL_law_382 : decode cL_law 382 = .ok (.iload 4, 2) := by decide +kernel
theorem dL_law_384 : decode cL_law 384 = .ok (.iconst 5, 1) := by decide +kernel
theorem dL_law_385 : decode cL_law 385 = .ok (.iadd, 1) := by decide +kernel
theorem dL_law_386 : decode cL_law 386 = .ok (.iaload, 1) := by decide +kernel
theorem dL_law_387 : decode cL_law 387 = .ok (.aload_n 0, 1) := by decide +kernel
theorem dL_law_388 : decode cL_law 388 = .ok (.iload 4, 2) := by decide +kernel
theorem dL_law_390 : decode cL_law 390 = .ok (.bipush 6, 2) := by decide +kernel
theorem dL_law_392 : decode cL_law 392 = .ok (.iadd, 1) := by decide +kernel
theorem dL_law_393 : decode cL_law 393 = .ok (.iaload, 1) := by decide +kernel
theorem dL_law_394 : decode cL_law 394 = .ok (.invokevirtual 104, 3) := by decide +kernel
theorem dL_law_397 : decode cL_law 397 = .ok (.istore 6, 2) := by decide +kernel
theorem dL_law_399 : decode cL_law 399 = .ok (.aload_n 2, 1) := by decide +kernel
theorem dL_law_400 : decode cL_law 400 = .ok (.invokevirtual 95, 3) := by decide +kernel
theorem dL_law_403 : decode cL_law 403 = .ok (.iload 5, 2) := by decide +kernel
theorem dL_law_405 : decode cL_law 405 = .ok (.if_icmp .eq 5, 3) := by decide +kernel
theorem dL_law_408 : decode cL_law 408 = .ok (.iconst 0, 1) := by decide +kernel
theorem dL_law_409 : decode cL_law 409 = .ok (.ireturn, 1) := by decide +kernel
theorem dL_law_410 : decode cL_law 410 = .ok (.iload 5, 2) := by decide +kernel
theorem dL_law_412 : decode cL_law 412 = .ok (.ifCond .ne 15, 3) := by decide +kernel
theorem dL_law_415 : decode cL_law 415 = .ok (.aload_n 3, 1) := by decide +kernel
theorem dL_law_416 : decode cL_law 416 = .ok (.iconst 0, 1) := by decide +kernel
theorem dL_law_417 : decode cL_law 417 = .ok (.laload, 1) := by decide +kernel
theorem dL_law_418 : decode cL_law 418 = .ok (.iload 6, 2) := by decide +kernel
theorem dL_law_420 : decode cL_law 420 = .ok (.i2l, 1) := by decide +kernel
theorem dL_law_421 : decode cL_law 421 = .ok (.lcmp, 1) := by decide +kernel
theorem dL_law_422 : decode cL_law 422 = .ok (.ifCond .eq 5, 3) := by decide +kernel
theorem dL_law_425 : decode cL_law 425 = .ok (.iconst 0, 1) := by decide +kernel
theorem dL_law_426 : decode cL_law 426 = .ok (.ireturn, 1) := by decide +kernel
theorem dL_law_427 : decode cL_law 427 = .ok (.goto 1265, 3) := by decide +kernel
theorem dL_law_430 : decode cL_law 430 = .ok (.aload_n 1, 1) := by decide +kernel
theorem dL_law_431 : decode cL_law 431 = .ok (.aload_n 0, 1) := by decide +kernel
theorem dL_law_432 : decode cL_law 432 = .ok (.iload 4, 2) := by decide +kernel
theorem dL_law_434 : decode cL_law 434 = .ok (.iconst 1, 1) := by decide +kernel
theorem dL_law_435 : decode cL_law 435 = .ok (.iadd, 1) := by decide +kernel
theorem dL_law_436 : decode cL_law 436 = .ok (.iaload, 1) := by decide +kernel
theorem dL_law_437 : decode cL_law 437 = .ok (.aload_n 0, 1) := by decide +kernel
theorem dL_law_438 : decode cL_law 438 = .ok (.iload 4, 2) := by decide +kernel
theorem dL_law_440 : decode cL_law 440 = .ok (.iconst 2, 1) := by decide +kernel
theorem dL_law_441 : decode cL_law 441 = .ok (.iadd, 1) := by decide +kernel
theorem dL_law_442 : decode cL_law 442 = .ok (.iaload, 1) := by decide +kernel
theorem dL_law_443 : decode cL_law 443 = .ok (.aload_n 0, 1) := by decide +kernel
theorem dL_law_444 : decode cL_law 444 = .ok (.iload 4, 2) := by decide +kernel
theorem dL_law_446 : decode cL_law 446 = .ok (.iconst 3, 1) := by decide +kernel
theorem dL_law_447 : decode cL_law 447 = .ok (.iadd, 1) := by decide +kernel
theorem dL_law_448 : decode cL_law 448 = .ok (.iaload, 1) := by decide +kernel
theorem dL_law_449 : decode cL_law 449 = .ok (.aload_n 3, 1) := by decide +kernel
theorem dL_law_450 : decode cL_law 450 = .ok (.invokestatic 105, 3) := by decide +kernel
theorem dL_law_453 : decode cL_law 453 = .ok (.istore 5, 2) := by decide +kernel
theorem dL_law_455 : decode cL_law 455 = .ok (.aload_n 2, 1) := by decide +kernel
theorem dL_law_456 : decode cL_law 456 = .ok (.aload_n 0, 1) := by decide +kernel
theorem dL_law_457 : decode cL_law 457 = .ok (.iload 4, 2) := by decide +kernel
theorem dL_law_459 : decode cL_law 459 = .ok (.iconst 1, 1) := by decide +kernel
theorem dL_law_460 : decode cL_law 460 = .ok (.iadd, 1) := by decide +kernel
theorem dL_law_461 : decode cL_law 461 = .ok (.iaload, 1) := by decide +kernel
theorem dL_law_462 : decode cL_law 462 = .ok (.aload_n 0, 1) := by decide +kernel
theorem dL_law_463 : decode cL_law 463 = .ok (.iload 4, 2) := by decide +kernel
theorem dL_law_465 : decode cL_law 465 = .ok (.iconst 2, 1) := by decide +kernel
theorem dL_law_466 : decode cL_law 466 = .ok (.iadd, 1) := by decide +kernel
theorem dL_law_467 : decode cL_law 467 = .ok (.iaload, 1) := by decide +kernel
theorem dL_law_468 : decode cL_law 468 = .ok (.aload_n 0, 1) := by decide +kernel
theorem dL_law_469 : decode cL_law 469 = .ok (.iload 4, 2) := by decide +kernel
theorem dL_law_471 : decode cL_law 471 = .ok (.iconst 3, 1) := by decide +kernel
theorem dL_law_472 : decode cL_law 472 = .ok (.iadd, 1) := by decide +kernel
theorem dL_law_473 : decode cL_law 473 = .ok (.iaload, 1) := by decide +kernel
theorem dL_law_474 : decode cL_law 474 = .ok (.invokevirtual 108, 3) := by decide +kernel
theorem dL_law_477 : decode cL_law 477 = .ok (.istore 6, 2) := by decide +kernel
theorem dL_law_479 : decode cL_law 479 = .ok (.aload_n 2, 1) := by decide +kernel
theorem dL_law_480 : decode cL_law 480 = .ok (.invokevirtual 95, 3) := by decide +kernel
theorem dL_law_483 : decode cL_law 483 = .ok (.iload 5, 2) := by decide +kernel
theorem dL_law_485 : decode cL_law 485 = .ok (.if_icmp .eq 5, 3) := by decide +kernel
theorem dL_law_488 : decode cL_law 488 = .ok (.iconst 0, 1) := by decide +kernel
theorem dL_law_489 : decode cL_law 489 = .ok (.ireturn, 1) := by decide +kernel
theorem dL_law_490 : decode cL_law 490 = .ok (.iload 5, 2) := by decide +kernel
theorem dL_law_492 : decode cL_law 492 = .ok (.ifCond .ne 15, 3) := by decide +kernel
theorem dL_law_495 : decode cL_law 495 = .ok (.aload_n 3, 1) := by decide +kernel
theorem dL_law_496 : decode cL_law 496 = .ok (.iconst 0, 1) := by decide +kernel
theorem dL_law_497 : decode cL_law 497 = .ok (.laload, 1) := by decide +kernel
theorem dL_law_498 : decode cL_law 498 = .ok (.iload 6, 2) := by decide +kernel
theorem dL_law_500 : decode cL_law 500 = .ok (.i2l, 1) := by decide +kernel
theorem dL_law_501 : decode cL_law 501 = .ok (.lcmp, 1) := by decide +kernel
theorem dL_law_502 : decode cL_law 502 = .ok (.ifCond .eq 5, 3) := by decide +kernel
theorem dL_law_505 : decode cL_law 505 = .ok (.iconst 0, 1) := by decide +kernel
theorem dL_law_506 : decode cL_law 506 = .ok (.ireturn, 1) := by decide +kernel
theorem dL_law_507 : decode cL_law 507 = .ok (.goto 1185, 3) := by decide +kernel
theorem dL_law_510 : decode cL_law 510 = .ok (.aload_n 1, 1) := by decide +kernel
theorem dL_law_511 : decode cL_law 511 = .ok (.aload_n 0, 1) := by decide +kernel
theorem dL_law_512 : decode cL_law 512 = .ok (.iload 4, 2) := by decide +kernel
theorem dL_law_514 : decode cL_law 514 = .ok (.iconst 1, 1) := by decide +kernel
theorem dL_law_515 : decode cL_law 515 = .ok (.iadd, 1) := by decide +kernel
theorem dL_law_516 : decode cL_law 516 = .ok (.iaload, 1) := by decide +kernel
theorem dL_law_517 : decode cL_law 517 = .ok (.aload_n 3, 1) := by decide +kernel
theorem dL_law_518 : decode cL_law 518 = .ok (.invokestatic 109, 3) := by decide +kernel
theorem dL_law_521 : decode cL_law 521 = .ok (.istore 5, 2) := by decide +kernel
theorem dL_law_523 : decode cL_law 523 = .ok (.aload_n 2, 1) := by decide +kernel
theorem dL_law_524 : decode cL_law 524 = .ok (.aload_n 0, 1) := by decide +kernel
theorem dL_law_525 : decode cL_law 525 = .ok (.iload 4, 2) := by decide +kernel
theorem dL_law_527 : decode cL_law 527 = .ok (.iconst 1, 1) := by decide +kernel
theorem dL_law_528 : decode cL_law 528 = .ok (.iadd, 1) := by decide +kernel
theorem dL_law_529 : decode cL_law 529 = .ok (.iaload, 1) := by decide +kernel
theorem dL_law_530 : decode cL_law 530 = .ok (.invokevirtual 112, 3) := by decide +kernel
theorem dL_law_533 : decode cL_law 533 = .ok (.istore 6, 2) := by decide +kernel
theorem dL_law_535 : decode cL_law 535 = .ok (.aload_n 2, 1) := by decide +kernel
theorem dL_law_536 : decode cL_law 536 = .ok (.invokevirtual 95, 3) := by decide +kernel
theorem dL_law_539 : decode cL_law 539 = .ok (.iload 5, 2) := by decide +kernel
theorem dL_law_541 : decode cL_law 541 = .ok (.if_icmp .eq 5, 3) := by decide +kernel
theorem dL_law_544 : decode cL_law 544 = .ok (.iconst 0, 1) := by decide +kernel
theorem dL_law_545 : decode cL_law 545 = .ok (.ireturn, 1) := by decide +kernel
theorem dL_law_546 : decode cL_law 546 = .ok (.iload 5, 2) := by decide +kernel
theorem dL_law_548 : decode cL_law 548 = .ok (.ifCond .ne 15, 3) := by decide +kernel
theorem dL_law_551 : decode cL_law 551 = .ok (.aload_n 3, 1) := by decide +kernel
theorem dL_law_552 : decode cL_law 552 = .ok (.iconst 0, 1) := by decide +kernel
theorem dL_law_553 : decode cL_law 553 = .ok (.laload, 1) := by decide +kernel
theorem dL_law_554 : decode cL_law 554 = .ok (.iload 6, 2) := by decide +kernel
theorem dL_law_556 : decode cL_law 556 = .ok (.i2l, 1) := by decide +kernel
theorem dL_law_557 : decode cL_law 557 = .ok (.lcmp, 1) := by decide +kernel
theorem dL_law_558 : decode cL_law 558 = .ok (.ifCond .eq 5, 3) := by decide +kernel
theorem dL_law_561 : decode cL_law 561 = .ok (.iconst 0, 1) := by decide +kernel
theorem dL_law_562 : decode cL_law 562 = .ok (.ireturn, 1) := by decide +kernel
theorem dL_law_563 : decode cL_law 563 = .ok (.goto 1129, 3) := by decide +kernel
theorem dL_law_566 : decode cL_law 566 = .ok (.aload_n 1, 1) := by decide +kernel
theorem dL_law_567 : decode cL_law 567 = .ok (.aload_n 0, 1) := by decide +kernel
theorem dL_law_568 : decode cL_law 568 = .ok (.iload 4, 2) := by decide +kernel
theorem dL_law_570 : decode cL_law 570 = .ok (.iconst 1, 1) := by decide +kernel
theorem dL_law_571 : decode cL_law 571 = .ok (.iadd, 1) := by decide +kernel
theorem dL_law_572 : decode cL_law 572 = .ok (.iaload, 1) := by decide +kernel
theorem dL_law_573 : decode cL_law 573 = .ok (.aload_n 0, 1) := by decide +kernel
theorem dL_law_574 : decode cL_law 574 = .ok (.iload 4, 2) := by decide +kernel
theorem dL_law_576 : decode cL_law 576 = .ok (.iconst 2, 1) := by decide +kernel
theorem dL_law_577 : decode cL_law 577 = .ok (.iadd, 1) := by decide +kernel
theorem dL_law_578 : decode cL_law 578 = .ok (.iaload, 1) := by decide +kernel
theorem dL_law_579 : decode cL_law 579 = .ok (.aload_n 3, 1) := by decide +kernel
theorem dL_law_580 : decode cL_law 580 = .ok (.invokestatic 113, 3) := by decide +kernel
theorem dL_law_583 : decode cL_law 583 = .ok (.istore 5, 2) := by decide +kernel
theorem dL_law_585 : decode cL_law 585 = .ok (.aload_n 2, 1) := by decide +kernel
theorem dL_law_586 : decode cL_law 586 = .ok (.aload_n 0, 1) := by decide +kernel
theorem dL_law_587 : decode cL_law 587 = .ok (.iload 4, 2) := by decide +kernel
theorem dL_law_589 : decode cL_law 589 = .ok (.iconst 1, 1) := by decide +kernel
theorem dL_law_590 : decode cL_law 590 = .ok (.iadd, 1) := by decide +kernel
theorem dL_law_591 : decode cL_law 591 = .ok (.iaload, 1) := by decide +kernel
theorem dL_law_592 : decode cL_law 592 = .ok (.aload_n 0, 1) := by decide +kernel
theorem dL_law_593 : decode cL_law 593 = .ok (.iload 4, 2) := by decide +kernel
theorem dL_law_595 : decode cL_law 595 = .ok (.iconst 2, 1) := by decide +kernel
theorem dL_law_596 : decode cL_law 596 = .ok (.iadd, 1) := by decide +kernel
theorem dL_law_597 : decode cL_law 597 = .ok (.iaload, 1) := by decide +kernel
theorem dL_law_598 : decode cL_law 598 = .ok (.invokevirtual 115, 3) := by decide +kernel
theorem dL_law_601 : decode cL_law 601 = .ok (.istore 6, 2) := by decide +kernel
theorem dL_law_603 : decode cL_law 603 = .ok (.aload_n 2, 1) := by decide +kernel
theorem dL_law_604 : decode cL_law 604 = .ok (.invokevirtual 95, 3) := by decide +kernel
theorem dL_law_607 : decode cL_law 607 = .ok (.iload 5, 2) := by decide +kernel
theorem dL_law_609 : decode cL_law 609 = .ok (.if_icmp .eq 5, 3) := by decide +kernel
theorem dL_law_612 : decode cL_law 612 = .ok (.iconst 0, 1) := by decide +kernel
theorem dL_law_613 : decode cL_law 613 = .ok (.ireturn, 1) := by decide +kernel
theorem dL_law_614 : decode cL_law 614 = .ok (.iload 5, 2) := by decide +kernel
theorem dL_law_616 : decode cL_law 616 = .ok (.ifCond .ne 15, 3) := by decide +kernel
theorem dL_law_619 : decode cL_law 619 = .ok (.aload_n 3, 1) := by decide +kernel
theorem dL_law_620 : decode cL_law 620 = .ok (.iconst 0, 1) := by decide +kernel
theorem dL_law_621 : decode cL_law 621 = .ok (.laload, 1) := by decide +kernel
theorem dL_law_622 : decode cL_law 622 = .ok (.iload 6, 2) := by decide +kernel
theorem dL_law_624 : decode cL_law 624 = .ok (.i2l, 1) := by decide +kernel
theorem dL_law_625 : decode cL_law 625 = .ok (.lcmp, 1) := by decide +kernel
theorem dL_law_626 : decode cL_law 626 = .ok (.ifCond .eq 5, 3) := by decide +kernel
theorem dL_law_629 : decode cL_law 629 = .ok (.iconst 0, 1) := by decide +kernel
theorem dL_law_630 : decode cL_law 630 = .ok (.ireturn, 1) := by decide +kernel
theorem dL_law_631 : decode cL_law 631 = .ok (.goto 1061, 3) := by decide +kernel
theorem dL_law_634 : decode cL_law 634 = .ok (.aload_n 1, 1) := by decide +kernel
theorem dL_law_635 : decode cL_law 635 = .ok (.aload_n 3, 1) := by decide +kernel
theorem dL_law_636 : decode cL_law 636 = .ok (.invokestatic 116, 3) := by decide +kernel
theorem dL_law_639 : decode cL_law 639 = .ok (.istore 5, 2) := by decide +kernel
theorem dL_law_641 : decode cL_law 641 = .ok (.aload_n 2, 1) := by decide +kernel
theorem dL_law_642 : decode cL_law 642 = .ok (.invokevirtual 119, 3) := by decide +kernel
theorem dL_law_645 : decode cL_law 645 = .ok (.istore 6, 2) := by decide +kernel
theorem dL_law_647 : decode cL_law 647 = .ok (.aload_n 2, 1) := by decide +kernel
theorem dL_law_648 : decode cL_law 648 = .ok (.invokevirtual 95, 3) := by decide +kernel
theorem dL_law_651 : decode cL_law 651 = .ok (.iload 5, 2) := by decide +kernel
theorem dL_law_653 : decode cL_law 653 = .ok (.if_icmp .eq 5, 3) := by decide +kernel
theorem dL_law_656 : decode cL_law 656 = .ok (.iconst 0, 1) := by decide +kernel
theorem dL_law_657 : decode cL_law 657 = .ok (.ireturn, 1) := by decide +kernel
theorem dL_law_658 : decode cL_law 658 = .ok (.iload 5, 2) := by decide +kernel
theorem dL_law_660 : decode cL_law 660 = .ok (.ifCond .ne 15, 3) := by decide +kernel
theorem dL_law_663 : decode cL_law 663 = .ok (.aload_n 3, 1) := by decide +kernel
theorem dL_law_664 : decode cL_law 664 = .ok (.iconst 0, 1) := by decide +kernel
theorem dL_law_665 : decode cL_law 665 = .ok (.laload, 1) := by decide +kernel
theorem dL_law_666 : decode cL_law 666 = .ok (.iload 6, 2) := by decide +kernel
theorem dL_law_668 : decode cL_law 668 = .ok (.i2l, 1) := by decide +kernel
theorem dL_law_669 : decode cL_law 669 = .ok (.lcmp, 1) := by decide +kernel
theorem dL_law_670 : decode cL_law 670 = .ok (.ifCond .eq 5, 3) := by decide +kernel
theorem dL_law_673 : decode cL_law 673 = .ok (.iconst 0, 1) := by decide +kernel
theorem dL_law_674 : decode cL_law 674 = .ok (.ireturn, 1) := by decide +kernel
theorem dL_law_675 : decode cL_law 675 = .ok (.goto 1017, 3) := by decide +kernel
theorem dL_law_678 : decode cL_law 678 = .ok (.aload_n 1, 1) := by decide +kernel
theorem dL_law_679 : decode cL_law 679 = .ok (.aload_n 0, 1) := by decide +kernel
theorem dL_law_680 : decode cL_law 680 = .ok (.iload 4, 2) := by decide +kernel
theorem dL_law_682 : decode cL_law 682 = .ok (.iconst 1, 1) := by decide +kernel
theorem dL_law_683 : decode cL_law 683 = .ok (.iadd, 1) := by decide +kernel
theorem dL_law_684 : decode cL_law 684 = .ok (.iaload, 1) := by decide +kernel
theorem dL_law_685 : decode cL_law 685 = .ok (.aload_n 3, 1) := by decide +kernel
theorem dL_law_686 : decode cL_law 686 = .ok (.invokestatic 120, 3) := by decide +kernel
theorem dL_law_689 : decode cL_law 689 = .ok (.istore 5, 2) := by decide +kernel
theorem dL_law_691 : decode cL_law 691 = .ok (.aload_n 2, 1) := by decide +kernel
theorem dL_law_692 : decode cL_law 692 = .ok (.aload_n 0, 1) := by decide +kernel
theorem dL_law_693 : decode cL_law 693 = .ok (.iload 4, 2) := by decide +kernel
theorem dL_law_695 : decode cL_law 695 = .ok (.iconst 1, 1) := by decide +kernel
theorem dL_law_696 : decode cL_law 696 = .ok (.iadd, 1) := by decide +kernel
theorem dL_law_697 : decode cL_law 697 = .ok (.iaload, 1) := by decide +kernel
theorem dL_law_698 : decode cL_law 698 = .ok (.invokevirtual 122, 3) := by decide +kernel
theorem dL_law_701 : decode cL_law 701 = .ok (.istore 6, 2) := by decide +kernel
theorem dL_law_703 : decode cL_law 703 = .ok (.aload_n 2, 1) := by decide +kernel
theorem dL_law_704 : decode cL_law 704 = .ok (.invokevirtual 95, 3) := by decide +kernel
theorem dL_law_707 : decode cL_law 707 = .ok (.iload 5, 2) := by decide +kernel
theorem dL_law_709 : decode cL_law 709 = .ok (.if_icmp .eq 5, 3) := by decide +kernel
theorem dL_law_712 : decode cL_law 712 = .ok (.iconst 0, 1) := by decide +kernel
theorem dL_law_713 : decode cL_law 713 = .ok (.ireturn, 1) := by decide +kernel
theorem dL_law_714 : decode cL_law 714 = .ok (.iload 5, 2) := by decide +kernel
theorem dL_law_716 : decode cL_law 716 = .ok (.ifCond .ne 15, 3) := by decide +kernel
theorem dL_law_719 : decode cL_law 719 = .ok (.aload_n 3, 1) := by decide +kernel
theorem dL_law_720 : decode cL_law 720 = .ok (.iconst 0, 1) := by decide +kernel
theorem dL_law_721 : decode cL_law 721 = .ok (.laload, 1) := by decide +kernel
theorem dL_law_722 : decode cL_law 722 = .ok (.iload 6, 2) := by decide +kernel
theorem dL_law_724 : decode cL_law 724 = .ok (.i2l, 1) := by decide +kernel
theorem dL_law_725 : decode cL_law 725 = .ok (.lcmp, 1) := by decide +kernel
theorem dL_law_726 : decode cL_law 726 = .ok (.ifCond .eq 5, 3) := by decide +kernel
theorem dL_law_729 : decode cL_law 729 = .ok (.iconst 0, 1) := by decide +kernel
theorem dL_law_730 : decode cL_law 730 = .ok (.ireturn, 1) := by decide +kernel
theorem dL_law_731 : decode cL_law 731 = .ok (.goto 961, 3) := by decide +kernel
theorem dL_law_734 : decode cL_law 734 = .ok (.aload_n 1, 1) := by decide +kernel
theorem dL_law_735 : decode cL_law 735 = .ok (.invokevirtual 123, 3) := by decide +kernel
theorem dL_law_738 : decode cL_law 738 = .ok (.aload_n 2, 1) := by decide +kernel
theorem dL_law_739 : decode cL_law 739 = .ok (.invokevirtual 126, 3) := by decide +kernel
theorem dL_law_742 : decode cL_law 742 = .ok (.if_icmp .eq 950, 3) := by decide +kernel
theorem dL_law_745 : decode cL_law 745 = .ok (.iconst 0, 1) := by decide +kernel
theorem dL_law_746 : decode cL_law 746 = .ok (.ireturn, 1) := by decide +kernel
theorem dL_law_747 : decode cL_law 747 = .ok (.aload_n 1, 1) := by decide +kernel
theorem dL_law_748 : decode cL_law 748 = .ok (.invokevirtual 127, 3) := by decide +kernel
theorem dL_law_751 : decode cL_law 751 = .ok (.aload_n 2, 1) := by decide +kernel
theorem dL_law_752 : decode cL_law 752 = .ok (.invokevirtual 130, 3) := by decide +kernel
theorem dL_law_755 : decode cL_law 755 = .ok (.if_icmp .eq 937, 3) := by decide +kernel
theorem dL_law_758 : decode cL_law 758 = .ok (.iconst 0, 1) := by decide +kernel
theorem dL_law_759 : decode cL_law 759 = .ok (.ireturn, 1) := by decide +kernel
theorem dL_law_760 : decode cL_law 760 = .ok (.aload_n 1, 1) := by decide +kernel
theorem dL_law_761 : decode cL_law 761 = .ok (.aload_n 3, 1) := by decide +kernel
theorem dL_law_762 : decode cL_law 762 = .ok (.invokestatic 131, 3) := by decide +kernel
theorem dL_law_765 : decode cL_law 765 = .ok (.istore 5, 2) := by decide +kernel
theorem dL_law_767 : decode cL_law 767 = .ok (.aload_n 2, 1) := by decide +kernel
theorem dL_law_768 : decode cL_law 768 = .ok (.invokevirtual 133, 3) := by decide +kernel
theorem dL_law_771 : decode cL_law 771 = .ok (.istore 6, 2) := by decide +kernel
theorem dL_law_773 : decode cL_law 773 = .ok (.aload_n 2, 1) := by decide +kernel
theorem dL_law_774 : decode cL_law 774 = .ok (.invokevirtual 95, 3) := by decide +kernel
theorem dL_law_777 : decode cL_law 777 = .ok (.iload 5, 2) := by decide +kernel
theorem dL_law_779 : decode cL_law 779 = .ok (.if_icmp .eq 5, 3) := by decide +kernel
theorem dL_law_782 : decode cL_law 782 = .ok (.iconst 0, 1) := by decide +kernel
theorem dL_law_783 : decode cL_law 783 = .ok (.ireturn, 1) := by decide +kernel
theorem dL_law_784 : decode cL_law 784 = .ok (.iload 5, 2) := by decide +kernel
theorem dL_law_786 : decode cL_law 786 = .ok (.ifCond .ne 15, 3) := by decide +kernel
theorem dL_law_789 : decode cL_law 789 = .ok (.aload_n 3, 1) := by decide +kernel
theorem dL_law_790 : decode cL_law 790 = .ok (.iconst 0, 1) := by decide +kernel
theorem dL_law_791 : decode cL_law 791 = .ok (.laload, 1) := by decide +kernel
theorem dL_law_792 : decode cL_law 792 = .ok (.iload 6, 2) := by decide +kernel
theorem dL_law_794 : decode cL_law 794 = .ok (.i2l, 1) := by decide +kernel
theorem dL_law_795 : decode cL_law 795 = .ok (.lcmp, 1) := by decide +kernel
theorem dL_law_796 : decode cL_law 796 = .ok (.ifCond .eq 5, 3) := by decide +kernel
theorem dL_law_799 : decode cL_law 799 = .ok (.iconst 0, 1) := by decide +kernel
theorem dL_law_800 : decode cL_law 800 = .ok (.ireturn, 1) := by decide +kernel
theorem dL_law_801 : decode cL_law 801 = .ok (.goto 891, 3) := by decide +kernel
theorem dL_law_804 : decode cL_law 804 = .ok (.aload_n 1, 1) := by decide +kernel
theorem dL_law_805 : decode cL_law 805 = .ok (.aload_n 3, 1) := by decide +kernel
theorem dL_law_806 : decode cL_law 806 = .ok (.invokestatic 134, 3) := by decide +kernel
theorem dL_law_809 : decode cL_law 809 = .ok (.istore 5, 2) := by decide +kernel
theorem dL_law_811 : decode cL_law 811 = .ok (.aload_n 2, 1) := by decide +kernel
theorem dL_law_812 : decode cL_law 812 = .ok (.invokevirtual 136, 3) := by decide +kernel
theorem dL_law_815 : decode cL_law 815 = .ok (.istore 6, 2) := by decide +kernel
theorem dL_law_817 : decode cL_law 817 = .ok (.aload_n 2, 1) := by decide +kernel
theorem dL_law_818 : decode cL_law 818 = .ok (.invokevirtual 95, 3) := by decide +kernel
theorem dL_law_821 : decode cL_law 821 = .ok (.iload 5, 2) := by decide +kernel
theorem dL_law_823 : decode cL_law 823 = .ok (.if_icmp .eq 5, 3) := by decide +kernel
theorem dL_law_826 : decode cL_law 826 = .ok (.iconst 0, 1) := by decide +kernel
theorem dL_law_827 : decode cL_law 827 = .ok (.ireturn, 1) := by decide +kernel
theorem dL_law_828 : decode cL_law 828 = .ok (.iload 5, 2) := by decide +kernel
theorem dL_law_830 : decode cL_law 830 = .ok (.ifCond .ne 15, 3) := by decide +kernel
theorem dL_law_833 : decode cL_law 833 = .ok (.aload_n 3, 1) := by decide +kernel
theorem dL_law_834 : decode cL_law 834 = .ok (.iconst 0, 1) := by decide +kernel
theorem dL_law_835 : decode cL_law 835 = .ok (.laload, 1) := by decide +kernel
theorem dL_law_836 : decode cL_law 836 = .ok (.iload 6, 2) := by decide +kernel
theorem dL_law_838 : decode cL_law 838 = .ok (.i2l, 1) := by decide +kernel
theorem dL_law_839 : decode cL_law 839 = .ok (.lcmp, 1) := by decide +kernel
theorem dL_law_840 : decode cL_law 840 = .ok (.ifCond .eq 5, 3) := by decide +kernel
theorem dL_law_843 : decode cL_law 843 = .ok (.iconst 0, 1) := by decide +kernel
theorem dL_law_844 : decode cL_law 844 = .ok (.ireturn, 1) := by decide +kernel
theorem dL_law_845 : decode cL_law 845 = .ok (.goto 847, 3) := by decide +kernel
theorem dL_law_848 : decode cL_law 848 = .ok (.aload_n 1, 1) := by decide +kernel
theorem dL_law_849 : decode cL_law 849 = .ok (.invokevirtual 137, 3) := by decide +kernel
theorem dL_law_852 : decode cL_law 852 = .ok (.aload_n 2, 1) := by decide +kernel
theorem dL_law_853 : decode cL_law 853 = .ok (.invokevirtual 140, 3) := by decide +kernel
theorem dL_law_856 : decode cL_law 856 = .ok (.if_icmp .eq 836, 3) := by decide +kernel
theorem dL_law_859 : decode cL_law 859 = .ok (.iconst 0, 1) := by decide +kernel
theorem dL_law_860 : decode cL_law 860 = .ok (.ireturn, 1) := by decide +kernel
theorem dL_law_861 : decode cL_law 861 = .ok (.aload_n 1, 1) := by decide +kernel
theorem dL_law_862 : decode cL_law 862 = .ok (.aload_n 0, 1) := by decide +kernel
theorem dL_law_863 : decode cL_law 863 = .ok (.iload 4, 2) := by decide +kernel
theorem dL_law_865 : decode cL_law 865 = .ok (.iconst 1, 1) := by decide +kernel
theorem dL_law_866 : decode cL_law 866 = .ok (.iadd, 1) := by decide +kernel
theorem dL_law_867 : decode cL_law 867 = .ok (.iaload, 1) := by decide +kernel
theorem dL_law_868 : decode cL_law 868 = .ok (.aload_n 0, 1) := by decide +kernel
theorem dL_law_869 : decode cL_law 869 = .ok (.iload 4, 2) := by decide +kernel
theorem dL_law_871 : decode cL_law 871 = .ok (.iconst 2, 1) := by decide +kernel
theorem dL_law_872 : decode cL_law 872 = .ok (.iadd, 1) := by decide +kernel
theorem dL_law_873 : decode cL_law 873 = .ok (.iaload, 1) := by decide +kernel
theorem dL_law_874 : decode cL_law 874 = .ok (.aload_n 3, 1) := by decide +kernel
theorem dL_law_875 : decode cL_law 875 = .ok (.invokestatic 141, 3) := by decide +kernel
theorem dL_law_878 : decode cL_law 878 = .ok (.istore 5, 2) := by decide +kernel
theorem dL_law_880 : decode cL_law 880 = .ok (.aload_n 2, 1) := by decide +kernel
theorem dL_law_881 : decode cL_law 881 = .ok (.aload_n 0, 1) := by decide +kernel
theorem dL_law_882 : decode cL_law 882 = .ok (.iload 4, 2) := by decide +kernel
theorem dL_law_884 : decode cL_law 884 = .ok (.iconst 1, 1) := by decide +kernel
theorem dL_law_885 : decode cL_law 885 = .ok (.iadd, 1) := by decide +kernel
theorem dL_law_886 : decode cL_law 886 = .ok (.iaload, 1) := by decide +kernel
theorem dL_law_887 : decode cL_law 887 = .ok (.aload_n 0, 1) := by decide +kernel
theorem dL_law_888 : decode cL_law 888 = .ok (.iload 4, 2) := by decide +kernel
theorem dL_law_890 : decode cL_law 890 = .ok (.iconst 2, 1) := by decide +kernel
theorem dL_law_891 : decode cL_law 891 = .ok (.iadd, 1) := by decide +kernel
theorem dL_law_892 : decode cL_law 892 = .ok (.iaload, 1) := by decide +kernel
theorem dL_law_893 : decode cL_law 893 = .ok (.invokevirtual 143, 3) := by decide +kernel
theorem dL_law_896 : decode cL_law 896 = .ok (.istore 6, 2) := by decide +kernel
theorem dL_law_898 : decode cL_law 898 = .ok (.aload_n 2, 1) := by decide +kernel
theorem dL_law_899 : decode cL_law 899 = .ok (.invokevirtual 95, 3) := by decide +kernel
theorem dL_law_902 : decode cL_law 902 = .ok (.iload 5, 2) := by decide +kernel
theorem dL_law_904 : decode cL_law 904 = .ok (.if_icmp .eq 5, 3) := by decide +kernel
theorem dL_law_907 : decode cL_law 907 = .ok (.iconst 0, 1) := by decide +kernel
theorem dL_law_908 : decode cL_law 908 = .ok (.ireturn, 1) := by decide +kernel
theorem dL_law_909 : decode cL_law 909 = .ok (.iload 5, 2) := by decide +kernel
theorem dL_law_911 : decode cL_law 911 = .ok (.ifCond .ne 15, 3) := by decide +kernel
theorem dL_law_914 : decode cL_law 914 = .ok (.aload_n 3, 1) := by decide +kernel
theorem dL_law_915 : decode cL_law 915 = .ok (.iconst 0, 1) := by decide +kernel
theorem dL_law_916 : decode cL_law 916 = .ok (.laload, 1) := by decide +kernel
theorem dL_law_917 : decode cL_law 917 = .ok (.iload 6, 2) := by decide +kernel
theorem dL_law_919 : decode cL_law 919 = .ok (.i2l, 1) := by decide +kernel
theorem dL_law_920 : decode cL_law 920 = .ok (.lcmp, 1) := by decide +kernel
theorem dL_law_921 : decode cL_law 921 = .ok (.ifCond .eq 5, 3) := by decide +kernel
theorem dL_law_924 : decode cL_law 924 = .ok (.iconst 0, 1) := by decide +kernel
theorem dL_law_925 : decode cL_law 925 = .ok (.ireturn, 1) := by decide +kernel
theorem dL_law_926 : decode cL_law 926 = .ok (.goto 766, 3) := by decide +kernel
theorem dL_law_929 : decode cL_law 929 = .ok (.aload_n 1, 1) := by decide +kernel
theorem dL_law_930 : decode cL_law 930 = .ok (.aload_n 0, 1) := by decide +kernel
theorem dL_law_931 : decode cL_law 931 = .ok (.iload 4, 2) := by decide +kernel
theorem dL_law_933 : decode cL_law 933 = .ok (.iconst 1, 1) := by decide +kernel
theorem dL_law_934 : decode cL_law 934 = .ok (.iadd, 1) := by decide +kernel
theorem dL_law_935 : decode cL_law 935 = .ok (.iaload, 1) := by decide +kernel
theorem dL_law_936 : decode cL_law 936 = .ok (.aload_n 0, 1) := by decide +kernel
theorem dL_law_937 : decode cL_law 937 = .ok (.iload 4, 2) := by decide +kernel
theorem dL_law_939 : decode cL_law 939 = .ok (.iconst 2, 1) := by decide +kernel
theorem dL_law_940 : decode cL_law 940 = .ok (.iadd, 1) := by decide +kernel
theorem dL_law_941 : decode cL_law 941 = .ok (.iaload, 1) := by decide +kernel
theorem dL_law_942 : decode cL_law 942 = .ok (.aload_n 3, 1) := by decide +kernel
theorem dL_law_943 : decode cL_law 943 = .ok (.invokestatic 144, 3) := by decide +kernel
theorem dL_law_946 : decode cL_law 946 = .ok (.istore 5, 2) := by decide +kernel
theorem dL_law_948 : decode cL_law 948 = .ok (.aload_n 2, 1) := by decide +kernel
theorem dL_law_949 : decode cL_law 949 = .ok (.aload_n 0, 1) := by decide +kernel
theorem dL_law_950 : decode cL_law 950 = .ok (.iload 4, 2) := by decide +kernel
theorem dL_law_952 : decode cL_law 952 = .ok (.iconst 1, 1) := by decide +kernel
theorem dL_law_953 : decode cL_law 953 = .ok (.iadd, 1) := by decide +kernel
theorem dL_law_954 : decode cL_law 954 = .ok (.iaload, 1) := by decide +kernel
theorem dL_law_955 : decode cL_law 955 = .ok (.aload_n 0, 1) := by decide +kernel
theorem dL_law_956 : decode cL_law 956 = .ok (.iload 4, 2) := by decide +kernel
theorem dL_law_958 : decode cL_law 958 = .ok (.iconst 2, 1) := by decide +kernel
theorem dL_law_959 : decode cL_law 959 = .ok (.iadd, 1) := by decide +kernel
theorem dL_law_960 : decode cL_law 960 = .ok (.iaload, 1) := by decide +kernel
theorem dL_law_961 : decode cL_law 961 = .ok (.invokevirtual 146, 3) := by decide +kernel
theorem dL_law_964 : decode cL_law 964 = .ok (.istore 6, 2) := by decide +kernel
theorem dL_law_966 : decode cL_law 966 = .ok (.aload_n 2, 1) := by decide +kernel
theorem dL_law_967 : decode cL_law 967 = .ok (.invokevirtual 95, 3) := by decide +kernel
theorem dL_law_970 : decode cL_law 970 = .ok (.iload 5, 2) := by decide +kernel
theorem dL_law_972 : decode cL_law 972 = .ok (.if_icmp .eq 5, 3) := by decide +kernel
theorem dL_law_975 : decode cL_law 975 = .ok (.iconst 0, 1) := by decide +kernel
theorem dL_law_976 : decode cL_law 976 = .ok (.ireturn, 1) := by decide +kernel
theorem dL_law_977 : decode cL_law 977 = .ok (.iload 5, 2) := by decide +kernel
theorem dL_law_979 : decode cL_law 979 = .ok (.ifCond .ne 15, 3) := by decide +kernel
theorem dL_law_982 : decode cL_law 982 = .ok (.aload_n 3, 1) := by decide +kernel
theorem dL_law_983 : decode cL_law 983 = .ok (.iconst 0, 1) := by decide +kernel
theorem dL_law_984 : decode cL_law 984 = .ok (.laload, 1) := by decide +kernel
theorem dL_law_985 : decode cL_law 985 = .ok (.iload 6, 2) := by decide +kernel
theorem dL_law_987 : decode cL_law 987 = .ok (.i2l, 1) := by decide +kernel
theorem dL_law_988 : decode cL_law 988 = .ok (.lcmp, 1) := by decide +kernel
theorem dL_law_989 : decode cL_law 989 = .ok (.ifCond .eq 5, 3) := by decide +kernel
theorem dL_law_992 : decode cL_law 992 = .ok (.iconst 0, 1) := by decide +kernel
theorem dL_law_993 : decode cL_law 993 = .ok (.ireturn, 1) := by decide +kernel
theorem dL_law_994 : decode cL_law 994 = .ok (.goto 698, 3) := by decide +kernel
theorem dL_law_997 : decode cL_law 997 = .ok (.aload_n 1, 1) := by decide +kernel
theorem dL_law_998 : decode cL_law 998 = .ok (.aload_n 0, 1) := by decide +kernel
theorem dL_law_999 : decode cL_law 999 = .ok (.iload 4, 2) := by decide +kernel
theorem dL_law_1001 : decode cL_law 1001 = .ok (.iconst 1, 1) := by decide +kernel
theorem dL_law_1002 : decode cL_law 1002 = .ok (.iadd, 1) := by decide +kernel
theorem dL_law_1003 : decode cL_law 1003 = .ok (.iaload, 1) := by decide +kernel
theorem dL_law_1004 : decode cL_law 1004 = .ok (.aload_n 0, 1) := by decide +kernel
theorem dL_law_1005 : decode cL_law 1005 = .ok (.iload 4, 2) := by decide +kernel
theorem dL_law_1007 : decode cL_law 1007 = .ok (.iconst 2, 1) := by decide +kernel
theorem dL_law_1008 : decode cL_law 1008 = .ok (.iadd, 1) := by decide +kernel
theorem dL_law_1009 : decode cL_law 1009 = .ok (.iaload, 1) := by decide +kernel
theorem dL_law_1010 : decode cL_law 1010 = .ok (.aload_n 0, 1) := by decide +kernel
theorem dL_law_1011 : decode cL_law 1011 = .ok (.iload 4, 2) := by decide +kernel
theorem dL_law_1013 : decode cL_law 1013 = .ok (.iconst 3, 1) := by decide +kernel
theorem dL_law_1014 : decode cL_law 1014 = .ok (.iadd, 1) := by decide +kernel
theorem dL_law_1015 : decode cL_law 1015 = .ok (.iaload, 1) := by decide +kernel
theorem dL_law_1016 : decode cL_law 1016 = .ok (.ifCond .eq 7, 3) := by decide +kernel
theorem dL_law_1019 : decode cL_law 1019 = .ok (.iconst 1, 1) := by decide +kernel
theorem dL_law_1020 : decode cL_law 1020 = .ok (.goto 4, 3) := by decide +kernel
theorem dL_law_1023 : decode cL_law 1023 = .ok (.iconst 0, 1) := by decide +kernel
theorem dL_law_1024 : decode cL_law 1024 = .ok (.aload_n 3, 1) := by decide +kernel
theorem dL_law_1025 : decode cL_law 1025 = .ok (.invokestatic 147, 3) := by decide +kernel
theorem dL_law_1028 : decode cL_law 1028 = .ok (.istore 5, 2) := by decide +kernel
theorem dL_law_1030 : decode cL_law 1030 = .ok (.aload_n 2, 1) := by decide +kernel
theorem dL_law_1031 : decode cL_law 1031 = .ok (.aload_n 0, 1) := by decide +kernel
theorem dL_law_1032 : decode cL_law 1032 = .ok (.iload 4, 2) := by decide +kernel
theorem dL_law_1034 : decode cL_law 1034 = .ok (.iconst 1, 1) := by decide +kernel
theorem dL_law_1035 : decode cL_law 1035 = .ok (.iadd, 1) := by decide +kernel
theorem dL_law_1036 : decode cL_law 1036 = .ok (.iaload, 1) := by decide +kernel
theorem dL_law_1037 : decode cL_law 1037 = .ok (.aload_n 0, 1) := by decide +kernel
theorem dL_law_1038 : decode cL_law 1038 = .ok (.iload 4, 2) := by decide +kernel
theorem dL_law_1040 : decode cL_law 1040 = .ok (.iconst 2, 1) := by decide +kernel
theorem dL_law_1041 : decode cL_law 1041 = .ok (.iadd, 1) := by decide +kernel
theorem dL_law_1042 : decode cL_law 1042 = .ok (.iaload, 1) := by decide +kernel
theorem dL_law_1043 : decode cL_law 1043 = .ok (.aload_n 0, 1) := by decide +kernel
theorem dL_law_1044 : decode cL_law 1044 = .ok (.iload 4, 2) := by decide +kernel
theorem dL_law_1046 : decode cL_law 1046 = .ok (.iconst 3, 1) := by decide +kernel
theorem dL_law_1047 : decode cL_law 1047 = .ok (.iadd, 1) := by decide +kernel
theorem dL_law_1048 : decode cL_law 1048 = .ok (.iaload, 1) := by decide +kernel
theorem dL_law_1049 : decode cL_law 1049 = .ok (.ifCond .eq 7, 3) := by decide +kernel
theorem dL_law_1052 : decode cL_law 1052 = .ok (.iconst 1, 1) := by decide +kernel
theorem dL_law_1053 : decode cL_law 1053 = .ok (.goto 4, 3) := by decide +kernel
theorem dL_law_1056 : decode cL_law 1056 = .ok (.iconst 0, 1) := by decide +kernel
theorem dL_law_1057 : decode cL_law 1057 = .ok (.invokevirtual 150, 3) := by decide +kernel
theorem dL_law_1060 : decode cL_law 1060 = .ok (.istore 6, 2) := by decide +kernel
theorem dL_law_1062 : decode cL_law 1062 = .ok (.aload_n 2, 1) := by decide +kernel
theorem dL_law_1063 : decode cL_law 1063 = .ok (.invokevirtual 95, 3) := by decide +kernel
theorem dL_law_1066 : decode cL_law 1066 = .ok (.iload 5, 2) := by decide +kernel
theorem dL_law_1068 : decode cL_law 1068 = .ok (.if_icmp .eq 5, 3) := by decide +kernel
theorem dL_law_1071 : decode cL_law 1071 = .ok (.iconst 0, 1) := by decide +kernel
theorem dL_law_1072 : decode cL_law 1072 = .ok (.ireturn, 1) := by decide +kernel
theorem dL_law_1073 : decode cL_law 1073 = .ok (.iload 5, 2) := by decide +kernel
theorem dL_law_1075 : decode cL_law 1075 = .ok (.ifCond .ne 15, 3) := by decide +kernel
theorem dL_law_1078 : decode cL_law 1078 = .ok (.aload_n 3, 1) := by decide +kernel
theorem dL_law_1079 : decode cL_law 1079 = .ok (.iconst 0, 1) := by decide +kernel
theorem dL_law_1080 : decode cL_law 1080 = .ok (.laload, 1) := by decide +kernel
theorem dL_law_1081 : decode cL_law 1081 = .ok (.iload 6, 2) := by decide +kernel
theorem dL_law_1083 : decode cL_law 1083 = .ok (.i2l, 1) := by decide +kernel
theorem dL_law_1084 : decode cL_law 1084 = .ok (.lcmp, 1) := by decide +kernel
theorem dL_law_1085 : decode cL_law 1085 = .ok (.ifCond .eq 5, 3) := by decide +kernel
theorem dL_law_1088 : decode cL_law 1088 = .ok (.iconst 0, 1) := by decide +kernel
theorem dL_law_1089 : decode cL_law 1089 = .ok (.ireturn, 1) := by decide +kernel
theorem dL_law_1090 : decode cL_law 1090 = .ok (.goto 602, 3) := by decide +kernel
theorem dL_law_1093 : decode cL_law 1093 = .ok (.aload_n 1, 1) := by decide +kernel
theorem dL_law_1094 : decode cL_law 1094 = .ok (.aload_n 0, 1) := by decide +kernel
theorem dL_law_1095 : decode cL_law 1095 = .ok (.iload 4, 2) := by decide +kernel
theorem dL_law_1097 : decode cL_law 1097 = .ok (.iconst 1, 1) := by decide +kernel
theorem dL_law_1098 : decode cL_law 1098 = .ok (.iadd, 1) := by decide +kernel
theorem dL_law_1099 : decode cL_law 1099 = .ok (.iaload, 1) := by decide +kernel
theorem dL_law_1100 : decode cL_law 1100 = .ok (.aload_n 0, 1) := by decide +kernel
theorem dL_law_1101 : decode cL_law 1101 = .ok (.iload 4, 2) := by decide +kernel
theorem dL_law_1103 : decode cL_law 1103 = .ok (.iconst 2, 1) := by decide +kernel
theorem dL_law_1104 : decode cL_law 1104 = .ok (.iadd, 1) := by decide +kernel
theorem dL_law_1105 : decode cL_law 1105 = .ok (.iaload, 1) := by decide +kernel
theorem dL_law_1106 : decode cL_law 1106 = .ok (.aload_n 3, 1) := by decide +kernel
theorem dL_law_1107 : decode cL_law 1107 = .ok (.invokestatic 151, 3) := by decide +kernel
theorem dL_law_1110 : decode cL_law 1110 = .ok (.istore 5, 2) := by decide +kernel
theorem dL_law_1112 : decode cL_law 1112 = .ok (.aload_n 2, 1) := by decide +kernel
theorem dL_law_1113 : decode cL_law 1113 = .ok (.aload_n 0, 1) := by decide +kernel
theorem dL_law_1114 : decode cL_law 1114 = .ok (.iload 4, 2) := by decide +kernel
theorem dL_law_1116 : decode cL_law 1116 = .ok (.iconst 1, 1) := by decide +kernel
theorem dL_law_1117 : decode cL_law 1117 = .ok (.iadd, 1) := by decide +kernel
theorem dL_law_1118 : decode cL_law 1118 = .ok (.iaload, 1) := by decide +kernel
theorem dL_law_1119 : decode cL_law 1119 = .ok (.aload_n 0, 1) := by decide +kernel
theorem dL_law_1120 : decode cL_law 1120 = .ok (.iload 4, 2) := by decide +kernel
theorem dL_law_1122 : decode cL_law 1122 = .ok (.iconst 2, 1) := by decide +kernel
theorem dL_law_1123 : decode cL_law 1123 = .ok (.iadd, 1) := by decide +kernel
theorem dL_law_1124 : decode cL_law 1124 = .ok (.iaload, 1) := by decide +kernel
theorem dL_law_1125 : decode cL_law 1125 = .ok (.invokevirtual 153, 3) := by decide +kernel
theorem dL_law_1128 : decode cL_law 1128 = .ok (.istore 6, 2) := by decide +kernel
theorem dL_law_1130 : decode cL_law 1130 = .ok (.aload_n 2, 1) := by decide +kernel
theorem dL_law_1131 : decode cL_law 1131 = .ok (.invokevirtual 95, 3) := by decide +kernel
theorem dL_law_1134 : decode cL_law 1134 = .ok (.iload 5, 2) := by decide +kernel
theorem dL_law_1136 : decode cL_law 1136 = .ok (.if_icmp .eq 5, 3) := by decide +kernel
theorem dL_law_1139 : decode cL_law 1139 = .ok (.iconst 0, 1) := by decide +kernel
theorem dL_law_1140 : decode cL_law 1140 = .ok (.ireturn, 1) := by decide +kernel
theorem dL_law_1141 : decode cL_law 1141 = .ok (.iload 5, 2) := by decide +kernel
theorem dL_law_1143 : decode cL_law 1143 = .ok (.ifCond .ne 15, 3) := by decide +kernel
theorem dL_law_1146 : decode cL_law 1146 = .ok (.aload_n 3, 1) := by decide +kernel
theorem dL_law_1147 : decode cL_law 1147 = .ok (.iconst 0, 1) := by decide +kernel
theorem dL_law_1148 : decode cL_law 1148 = .ok (.laload, 1) := by decide +kernel
theorem dL_law_1149 : decode cL_law 1149 = .ok (.iload 6, 2) := by decide +kernel
theorem dL_law_1151 : decode cL_law 1151 = .ok (.i2l, 1) := by decide +kernel
theorem dL_law_1152 : decode cL_law 1152 = .ok (.lcmp, 1) := by decide +kernel
theorem dL_law_1153 : decode cL_law 1153 = .ok (.ifCond .eq 5, 3) := by decide +kernel
theorem dL_law_1156 : decode cL_law 1156 = .ok (.iconst 0, 1) := by decide +kernel
theorem dL_law_1157 : decode cL_law 1157 = .ok (.ireturn, 1) := by decide +kernel
theorem dL_law_1158 : decode cL_law 1158 = .ok (.goto 534, 3) := by decide +kernel
theorem dL_law_1161 : decode cL_law 1161 = .ok (.aload_n 1, 1) := by decide +kernel
theorem dL_law_1162 : decode cL_law 1162 = .ok (.aload_n 0, 1) := by decide +kernel
theorem dL_law_1163 : decode cL_law 1163 = .ok (.iload 4, 2) := by decide +kernel
theorem dL_law_1165 : decode cL_law 1165 = .ok (.iconst 1, 1) := by decide +kernel
theorem dL_law_1166 : decode cL_law 1166 = .ok (.iadd, 1) := by decide +kernel
theorem dL_law_1167 : decode cL_law 1167 = .ok (.iaload, 1) := by decide +kernel
theorem dL_law_1168 : decode cL_law 1168 = .ok (.aload_n 3, 1) := by decide +kernel
theorem dL_law_1169 : decode cL_law 1169 = .ok (.invokestatic 154, 3) := by decide +kernel
theorem dL_law_1172 : decode cL_law 1172 = .ok (.istore 5, 2) := by decide +kernel
theorem dL_law_1174 : decode cL_law 1174 = .ok (.aload_n 2, 1) := by decide +kernel
theorem dL_law_1175 : decode cL_law 1175 = .ok (.aload_n 0, 1) := by decide +kernel
theorem dL_law_1176 : decode cL_law 1176 = .ok (.iload 4, 2) := by decide +kernel
theorem dL_law_1178 : decode cL_law 1178 = .ok (.iconst 1, 1) := by decide +kernel
theorem dL_law_1179 : decode cL_law 1179 = .ok (.iadd, 1) := by decide +kernel
theorem dL_law_1180 : decode cL_law 1180 = .ok (.iaload, 1) := by decide +kernel
theorem dL_law_1181 : decode cL_law 1181 = .ok (.invokevirtual 156, 3) := by decide +kernel
theorem dL_law_1184 : decode cL_law 1184 = .ok (.istore 6, 2) := by decide +kernel
theorem dL_law_1186 : decode cL_law 1186 = .ok (.aload_n 2, 1) := by decide +kernel
theorem dL_law_1187 : decode cL_law 1187 = .ok (.invokevirtual 95, 3) := by decide +kernel
theorem dL_law_1190 : decode cL_law 1190 = .ok (.iload 5, 2) := by decide +kernel
theorem dL_law_1192 : decode cL_law 1192 = .ok (.if_icmp .eq 5, 3) := by decide +kernel
theorem dL_law_1195 : decode cL_law 1195 = .ok (.iconst 0, 1) := by decide +kernel
theorem dL_law_1196 : decode cL_law 1196 = .ok (.ireturn, 1) := by decide +kernel
theorem dL_law_1197 : decode cL_law 1197 = .ok (.iload 5, 2) := by decide +kernel
theorem dL_law_1199 : decode cL_law 1199 = .ok (.ifCond .ne 15, 3) := by decide +kernel
theorem dL_law_1202 : decode cL_law 1202 = .ok (.aload_n 3, 1) := by decide +kernel
theorem dL_law_1203 : decode cL_law 1203 = .ok (.iconst 0, 1) := by decide +kernel
theorem dL_law_1204 : decode cL_law 1204 = .ok (.laload, 1) := by decide +kernel
theorem dL_law_1205 : decode cL_law 1205 = .ok (.iload 6, 2) := by decide +kernel
theorem dL_law_1207 : decode cL_law 1207 = .ok (.i2l, 1) := by decide +kernel
theorem dL_law_1208 : decode cL_law 1208 = .ok (.lcmp, 1) := by decide +kernel
theorem dL_law_1209 : decode cL_law 1209 = .ok (.ifCond .eq 5, 3) := by decide +kernel
theorem dL_law_1212 : decode cL_law 1212 = .ok (.iconst 0, 1) := by decide +kernel
theorem dL_law_1213 : decode cL_law 1213 = .ok (.ireturn, 1) := by decide +kernel
theorem dL_law_1214 : decode cL_law 1214 = .ok (.goto 478, 3) := by decide +kernel
theorem dL_law_1217 : decode cL_law 1217 = .ok (.aload_n 1, 1) := by decide +kernel
theorem dL_law_1218 : decode cL_law 1218 = .ok (.aload_n 0, 1) := by decide +kernel
theorem dL_law_1219 : decode cL_law 1219 = .ok (.iload 4, 2) := by decide +kernel
theorem dL_law_1221 : decode cL_law 1221 = .ok (.iconst 1, 1) := by decide +kernel
theorem dL_law_1222 : decode cL_law 1222 = .ok (.iadd, 1) := by decide +kernel
theorem dL_law_1223 : decode cL_law 1223 = .ok (.iaload, 1) := by decide +kernel
theorem dL_law_1224 : decode cL_law 1224 = .ok (.aload_n 3, 1) := by decide +kernel
theorem dL_law_1225 : decode cL_law 1225 = .ok (.invokestatic 157, 3) := by decide +kernel
theorem dL_law_1228 : decode cL_law 1228 = .ok (.istore 5, 2) := by decide +kernel
theorem dL_law_1230 : decode cL_law 1230 = .ok (.aload_n 2, 1) := by decide +kernel
theorem dL_law_1231 : decode cL_law 1231 = .ok (.aload_n 0, 1) := by decide +kernel
theorem dL_law_1232 : decode cL_law 1232 = .ok (.iload 4, 2) := by decide +kernel
theorem dL_law_1234 : decode cL_law 1234 = .ok (.iconst 1, 1) := by decide +kernel
theorem dL_law_1235 : decode cL_law 1235 = .ok (.iadd, 1) := by decide +kernel
theorem dL_law_1236 : decode cL_law 1236 = .ok (.iaload, 1) := by decide +kernel
theorem dL_law_1237 : decode cL_law 1237 = .ok (.invokevirtual 159, 3) := by decide +kernel
theorem dL_law_1240 : decode cL_law 1240 = .ok (.istore 6, 2) := by decide +kernel
theorem dL_law_1242 : decode cL_law 1242 = .ok (.aload_n 2, 1) := by decide +kernel
theorem dL_law_1243 : decode cL_law 1243 = .ok (.invokevirtual 95, 3) := by decide +kernel
theorem dL_law_1246 : decode cL_law 1246 = .ok (.iload 5, 2) := by decide +kernel
theorem dL_law_1248 : decode cL_law 1248 = .ok (.if_icmp .eq 5, 3) := by decide +kernel
theorem dL_law_1251 : decode cL_law 1251 = .ok (.iconst 0, 1) := by decide +kernel
theorem dL_law_1252 : decode cL_law 1252 = .ok (.ireturn, 1) := by decide +kernel
theorem dL_law_1253 : decode cL_law 1253 = .ok (.iload 5, 2) := by decide +kernel
theorem dL_law_1255 : decode cL_law 1255 = .ok (.ifCond .ne 15, 3) := by decide +kernel
theorem dL_law_1258 : decode cL_law 1258 = .ok (.aload_n 3, 1) := by decide +kernel
theorem dL_law_1259 : decode cL_law 1259 = .ok (.iconst 0, 1) := by decide +kernel
theorem dL_law_1260 : decode cL_law 1260 = .ok (.laload, 1) := by decide +kernel
theorem dL_law_1261 : decode cL_law 1261 = .ok (.iload 6, 2) := by decide +kernel
theorem dL_law_1263 : decode cL_law 1263 = .ok (.i2l, 1) := by decide +kernel
theorem dL_law_1264 : decode cL_law 1264 = .ok (.lcmp, 1) := by decide +kernel
theorem dL_law_1265 : decode cL_law 1265 = .ok (.ifCond .eq 5, 3) := by decide +kernel
theorem dL_law_1268 : decode cL_law 1268 = .ok (.iconst 0, 1) := by decide +kernel
theorem dL_law_1269 : decode cL_law 1269 = .ok (.ireturn, 1) := by decide +kernel
theorem dL_law_1270 : decode cL_law 1270 = .ok (.goto 422, 3) := by decide +kernel
theorem dL_law_1273 : decode cL_law 1273 = .ok (.aload_n 1, 1) := by decide +kernel
theorem dL_law_1274 : decode cL_law 1274 = .ok (.aload_n 0, 1) := by decide +kernel
theorem dL_law_1275 : decode cL_law 1275 = .ok (.iload 4, 2) := by decide +kernel
theorem dL_law_1277 : decode cL_law 1277 = .ok (.iconst 1, 1) := by decide +kernel
theorem dL_law_1278 : decode cL_law 1278 = .ok (.iadd, 1) := by decide +kernel
theorem dL_law_1279 : decode cL_law 1279 = .ok (.iaload, 1) := by decide +kernel
theorem dL_law_1280 : decode cL_law 1280 = .ok (.aload_n 0, 1) := by decide +kernel
theorem dL_law_1281 : decode cL_law 1281 = .ok (.iload 4, 2) := by decide +kernel
theorem dL_law_1283 : decode cL_law 1283 = .ok (.iconst 2, 1) := by decide +kernel
theorem dL_law_1284 : decode cL_law 1284 = .ok (.iadd, 1) := by decide +kernel
theorem dL_law_1285 : decode cL_law 1285 = .ok (.iaload, 1) := by decide +kernel
theorem dL_law_1286 : decode cL_law 1286 = .ok (.aload_n 0, 1) := by decide +kernel
theorem dL_law_1287 : decode cL_law 1287 = .ok (.iload 4, 2) := by decide +kernel
theorem dL_law_1289 : decode cL_law 1289 = .ok (.iconst 3, 1) := by decide +kernel
theorem dL_law_1290 : decode cL_law 1290 = .ok (.iadd, 1) := by decide +kernel
theorem dL_law_1291 : decode cL_law 1291 = .ok (.iaload, 1) := by decide +kernel
theorem dL_law_1292 : decode cL_law 1292 = .ok (.aload_n 0, 1) := by decide +kernel
theorem dL_law_1293 : decode cL_law 1293 = .ok (.iload 4, 2) := by decide +kernel
theorem dL_law_1295 : decode cL_law 1295 = .ok (.iconst 4, 1) := by decide +kernel
theorem dL_law_1296 : decode cL_law 1296 = .ok (.iadd, 1) := by decide +kernel
theorem dL_law_1297 : decode cL_law 1297 = .ok (.iaload, 1) := by decide +kernel
theorem dL_law_1298 : decode cL_law 1298 = .ok (.aload_n 3, 1) := by decide +kernel
theorem dL_law_1299 : decode cL_law 1299 = .ok (.invokestatic 160, 3) := by decide +kernel
theorem dL_law_1302 : decode cL_law 1302 = .ok (.istore 5, 2) := by decide +kernel
theorem dL_law_1304 : decode cL_law 1304 = .ok (.aload_n 2, 1) := by decide +kernel
theorem dL_law_1305 : decode cL_law 1305 = .ok (.aload_n 0, 1) := by decide +kernel
theorem dL_law_1306 : decode cL_law 1306 = .ok (.iload 4, 2) := by decide +kernel
theorem dL_law_1308 : decode cL_law 1308 = .ok (.iconst 1, 1) := by decide +kernel
theorem dL_law_1309 : decode cL_law 1309 = .ok (.iadd, 1) := by decide +kernel
theorem dL_law_1310 : decode cL_law 1310 = .ok (.iaload, 1) := by decide +kernel
theorem dL_law_1311 : decode cL_law 1311 = .ok (.aload_n 0, 1) := by decide +kernel
theorem dL_law_1312 : decode cL_law 1312 = .ok (.iload 4, 2) := by decide +kernel
theorem dL_law_1314 : decode cL_law 1314 = .ok (.iconst 2, 1) := by decide +kernel
theorem dL_law_1315 : decode cL_law 1315 = .ok (.iadd, 1) := by decide +kernel
theorem dL_law_1316 : decode cL_law 1316 = .ok (.iaload, 1) := by decide +kernel
theorem dL_law_1317 : decode cL_law 1317 = .ok (.aload_n 0, 1) := by decide +kernel
theorem dL_law_1318 : decode cL_law 1318 = .ok (.iload 4, 2) := by decide +kernel
theorem dL_law_1320 : decode cL_law 1320 = .ok (.iconst 3, 1) := by decide +kernel
theorem dL_law_1321 : decode cL_law 1321 = .ok (.iadd, 1) := by decide +kernel
theorem dL_law_1322 : decode cL_law 1322 = .ok (.iaload, 1) := by decide +kernel
theorem dL_law_1323 : decode cL_law 1323 = .ok (.aload_n 0, 1) := by decide +kernel
theorem dL_law_1324 : decode cL_law 1324 = .ok (.iload 4, 2) := by decide +kernel
theorem dL_law_1326 : decode cL_law 1326 = .ok (.iconst 4, 1) := by decide +kernel
theorem dL_law_1327 : decode cL_law 1327 = .ok (.iadd, 1) := by decide +kernel
theorem dL_law_1328 : decode cL_law 1328 = .ok (.iaload, 1) := by decide +kernel
theorem dL_law_1329 : decode cL_law 1329 = .ok (.invokevirtual 163, 3) := by decide +kernel
theorem dL_law_1332 : decode cL_law 1332 = .ok (.istore 6, 2) := by decide +kernel
theorem dL_law_1334 : decode cL_law 1334 = .ok (.aload_n 2, 1) := by decide +kernel
theorem dL_law_1335 : decode cL_law 1335 = .ok (.invokevirtual 95, 3) := by decide +kernel
theorem dL_law_1338 : decode cL_law 1338 = .ok (.iload 5, 2) := by decide +kernel
theorem dL_law_1340 : decode cL_law 1340 = .ok (.if_icmp .eq 5, 3) := by decide +kernel
theorem dL_law_1343 : decode cL_law 1343 = .ok (.iconst 0, 1) := by decide +kernel
theorem dL_law_1344 : decode cL_law 1344 = .ok (.ireturn, 1) := by decide +kernel
theorem dL_law_1345 : decode cL_law 1345 = .ok (.iload 5, 2) := by decide +kernel
theorem dL_law_1347 : decode cL_law 1347 = .ok (.ifCond .ne 15, 3) := by decide +kernel
theorem dL_law_1350 : decode cL_law 1350 = .ok (.aload_n 3, 1) := by decide +kernel
theorem dL_law_1351 : decode cL_law 1351 = .ok (.iconst 0, 1) := by decide +kernel
theorem dL_law_1352 : decode cL_law 1352 = .ok (.laload, 1) := by decide +kernel
theorem dL_law_1353 : decode cL_law 1353 = .ok (.iload 6, 2) := by decide +kernel
theorem dL_law_1355 : decode cL_law 1355 = .ok (.i2l, 1) := by decide +kernel
theorem dL_law_1356 : decode cL_law 1356 = .ok (.lcmp, 1) := by decide +kernel
theorem dL_law_1357 : decode cL_law 1357 = .ok (.ifCond .eq 5, 3) := by decide +kernel
theorem dL_law_1360 : decode cL_law 1360 = .ok (.iconst 0, 1) := by decide +kernel
theorem dL_law_1361 : decode cL_law 1361 = .ok (.ireturn, 1) := by decide +kernel
theorem dL_law_1362 : decode cL_law 1362 = .ok (.goto 330, 3) := by decide +kernel
theorem dL_law_1365 : decode cL_law 1365 = .ok (.aload_n 1, 1) := by decide +kernel
theorem dL_law_1366 : decode cL_law 1366 = .ok (.aload_n 0, 1) := by decide +kernel
theorem dL_law_1367 : decode cL_law 1367 = .ok (.iload 4, 2) := by decide +kernel
theorem dL_law_1369 : decode cL_law 1369 = .ok (.iconst 1, 1) := by decide +kernel
theorem dL_law_1370 : decode cL_law 1370 = .ok (.iadd, 1) := by decide +kernel
theorem dL_law_1371 : decode cL_law 1371 = .ok (.iaload, 1) := by decide +kernel
theorem dL_law_1372 : decode cL_law 1372 = .ok (.aload_n 0, 1) := by decide +kernel
theorem dL_law_1373 : decode cL_law 1373 = .ok (.iload 4, 2) := by decide +kernel
theorem dL_law_1375 : decode cL_law 1375 = .ok (.iconst 2, 1) := by decide +kernel
theorem dL_law_1376 : decode cL_law 1376 = .ok (.iadd, 1) := by decide +kernel
theorem dL_law_1377 : decode cL_law 1377 = .ok (.iaload, 1) := by decide +kernel
theorem dL_law_1378 : decode cL_law 1378 = .ok (.aload_n 0, 1) := by decide +kernel
theorem dL_law_1379 : decode cL_law 1379 = .ok (.iload 4, 2) := by decide +kernel
theorem dL_law_1381 : decode cL_law 1381 = .ok (.iconst 3, 1) := by decide +kernel
theorem dL_law_1382 : decode cL_law 1382 = .ok (.iadd, 1) := by decide +kernel
theorem dL_law_1383 : decode cL_law 1383 = .ok (.iaload, 1) := by decide +kernel
theorem dL_law_1384 : decode cL_law 1384 = .ok (.aload_n 3, 1) := by decide +kernel
theorem dL_law_1385 : decode cL_law 1385 = .ok (.invokestatic 164, 3) := by decide +kernel
theorem dL_law_1388 : decode cL_law 1388 = .ok (.istore 5, 2) := by decide +kernel
theorem dL_law_1390 : decode cL_law 1390 = .ok (.aload_n 2, 1) := by decide +kernel
theorem dL_law_1391 : decode cL_law 1391 = .ok (.aload_n 0, 1) := by decide +kernel
theorem dL_law_1392 : decode cL_law 1392 = .ok (.iload 4, 2) := by decide +kernel
theorem dL_law_1394 : decode cL_law 1394 = .ok (.iconst 1, 1) := by decide +kernel
theorem dL_law_1395 : decode cL_law 1395 = .ok (.iadd, 1) := by decide +kernel
theorem dL_law_1396 : decode cL_law 1396 = .ok (.iaload, 1) := by decide +kernel
theorem dL_law_1397 : decode cL_law 1397 = .ok (.aload_n 0, 1) := by decide +kernel
theorem dL_law_1398 : decode cL_law 1398 = .ok (.iload 4, 2) := by decide +kernel
theorem dL_law_1400 : decode cL_law 1400 = .ok (.iconst 2, 1) := by decide +kernel
theorem dL_law_1401 : decode cL_law 1401 = .ok (.iadd, 1) := by decide +kernel
theorem dL_law_1402 : decode cL_law 1402 = .ok (.iaload, 1) := by decide +kernel
theorem dL_law_1403 : decode cL_law 1403 = .ok (.aload_n 0, 1) := by decide +kernel
theorem dL_law_1404 : decode cL_law 1404 = .ok (.iload 4, 2) := by decide +kernel
theorem dL_law_1406 : decode cL_law 1406 = .ok (.iconst 3, 1) := by decide +kernel
theorem dL_law_1407 : decode cL_law 1407 = .ok (.iadd, 1) := by decide +kernel
theorem dL_law_1408 : decode cL_law 1408 = .ok (.iaload, 1) := by decide +kernel
theorem dL_law_1409 : decode cL_law 1409 = .ok (.invokevirtual 166, 3) := by decide +kernel
theorem dL_law_1412 : decode cL_law 1412 = .ok (.istore 6, 2) := by decide +kernel
theorem dL_law_1414 : decode cL_law 1414 = .ok (.aload_n 2, 1) := by decide +kernel
theorem dL_law_1415 : decode cL_law 1415 = .ok (.invokevirtual 95, 3) := by decide +kernel
theorem dL_law_1418 : decode cL_law 1418 = .ok (.iload 5, 2) := by decide +kernel
theorem dL_law_1420 : decode cL_law 1420 = .ok (.if_icmp .eq 5, 3) := by decide +kernel
theorem dL_law_1423 : decode cL_law 1423 = .ok (.iconst 0, 1) := by decide +kernel
theorem dL_law_1424 : decode cL_law 1424 = .ok (.ireturn, 1) := by decide +kernel
theorem dL_law_1425 : decode cL_law 1425 = .ok (.iload 5, 2) := by decide +kernel
theorem dL_law_1427 : decode cL_law 1427 = .ok (.ifCond .ne 15, 3) := by decide +kernel
theorem dL_law_1430 : decode cL_law 1430 = .ok (.aload_n 3, 1) := by decide +kernel
theorem dL_law_1431 : decode cL_law 1431 = .ok (.iconst 0, 1) := by decide +kernel
theorem dL_law_1432 : decode cL_law 1432 = .ok (.laload, 1) := by decide +kernel
theorem dL_law_1433 : decode cL_law 1433 = .ok (.iload 6, 2) := by decide +kernel
theorem dL_law_1435 : decode cL_law 1435 = .ok (.i2l, 1) := by decide +kernel
theorem dL_law_1436 : decode cL_law 1436 = .ok (.lcmp, 1) := by decide +kernel
theorem dL_law_1437 : decode cL_law 1437 = .ok (.ifCond .eq 5, 3) := by decide +kernel
theorem dL_law_1440 : decode cL_law 1440 = .ok (.iconst 0, 1) := by decide +kernel
theorem dL_law_1441 : decode cL_law 1441 = .ok (.ireturn, 1) := by decide +kernel
theorem dL_law_1442 : decode cL_law 1442 = .ok (.goto 250, 3) := by decide +kernel
theorem dL_law_1445 : decode cL_law 1445 = .ok (.aload_n 1, 1) := by decide +kernel
theorem dL_law_1446 : decode cL_law 1446 = .ok (.aload_n 0, 1) := by decide +kernel
theorem dL_law_1447 : decode cL_law 1447 = .ok (.iload 4, 2) := by decide +kernel
theorem dL_law_1449 : decode cL_law 1449 = .ok (.iconst 1, 1) := by decide +kernel
theorem dL_law_1450 : decode cL_law 1450 = .ok (.iadd, 1) := by decide +kernel
theorem dL_law_1451 : decode cL_law 1451 = .ok (.iaload, 1) := by decide +kernel
theorem dL_law_1452 : decode cL_law 1452 = .ok (.aload_n 3, 1) := by decide +kernel
theorem dL_law_1453 : decode cL_law 1453 = .ok (.invokestatic 167, 3) := by decide +kernel
theorem dL_law_1456 : decode cL_law 1456 = .ok (.istore 5, 2) := by decide +kernel
theorem dL_law_1458 : decode cL_law 1458 = .ok (.aload_n 2, 1) := by decide +kernel
theorem dL_law_1459 : decode cL_law 1459 = .ok (.aload_n 0, 1) := by decide +kernel
theorem dL_law_1460 : decode cL_law 1460 = .ok (.iload 4, 2) := by decide +kernel
theorem dL_law_1462 : decode cL_law 1462 = .ok (.iconst 1, 1) := by decide +kernel
theorem dL_law_1463 : decode cL_law 1463 = .ok (.iadd, 1) := by decide +kernel
theorem dL_law_1464 : decode cL_law 1464 = .ok (.iaload, 1) := by decide +kernel
theorem dL_law_1465 : decode cL_law 1465 = .ok (.invokevirtual 169, 3) := by decide +kernel
theorem dL_law_1468 : decode cL_law 1468 = .ok (.istore 6, 2) := by decide +kernel
theorem dL_law_1470 : decode cL_law 1470 = .ok (.aload_n 2, 1) := by decide +kernel
theorem dL_law_1471 : decode cL_law 1471 = .ok (.invokevirtual 95, 3) := by decide +kernel
theorem dL_law_1474 : decode cL_law 1474 = .ok (.iload 5, 2) := by decide +kernel
theorem dL_law_1476 : decode cL_law 1476 = .ok (.if_icmp .eq 5, 3) := by decide +kernel
theorem dL_law_1479 : decode cL_law 1479 = .ok (.iconst 0, 1) := by decide +kernel
theorem dL_law_1480 : decode cL_law 1480 = .ok (.ireturn, 1) := by decide +kernel
theorem dL_law_1481 : decode cL_law 1481 = .ok (.iload 5, 2) := by decide +kernel
theorem dL_law_1483 : decode cL_law 1483 = .ok (.ifCond .ne 15, 3) := by decide +kernel
theorem dL_law_1486 : decode cL_law 1486 = .ok (.aload_n 3, 1) := by decide +kernel
theorem dL_law_1487 : decode cL_law 1487 = .ok (.iconst 0, 1) := by decide +kernel
theorem dL_law_1488 : decode cL_law 1488 = .ok (.laload, 1) := by decide +kernel
theorem dL_law_1489 : decode cL_law 1489 = .ok (.iload 6, 2) := by decide +kernel
theorem dL_law_1491 : decode cL_law 1491 = .ok (.i2l, 1) := by decide +kernel
theorem dL_law_1492 : decode cL_law 1492 = .ok (.lcmp, 1) := by decide +kernel
theorem dL_law_1493 : decode cL_law 1493 = .ok (.ifCond .eq 5, 3) := by decide +kernel
theorem dL_law_1496 : decode cL_law 1496 = .ok (.iconst 0, 1) := by decide +kernel
theorem dL_law_1497 : decode cL_law 1497 = .ok (.ireturn, 1) := by decide +kernel
theorem dL_law_1498 : decode cL_law 1498 = .ok (.goto 194, 3) := by decide +kernel
theorem dL_law_1501 : decode cL_law 1501 = .ok (.aload_n 1, 1) := by decide +kernel
theorem dL_law_1502 : decode cL_law 1502 = .ok (.aload_n 0, 1) := by decide +kernel
theorem dL_law_1503 : decode cL_law 1503 = .ok (.iload 4, 2) := by decide +kernel
theorem dL_law_1505 : decode cL_law 1505 = .ok (.iconst 1, 1) := by decide +kernel
theorem dL_law_1506 : decode cL_law 1506 = .ok (.iadd, 1) := by decide +kernel
theorem dL_law_1507 : decode cL_law 1507 = .ok (.iaload, 1) := by decide +kernel
theorem dL_law_1508 : decode cL_law 1508 = .ok (.aload_n 0, 1) := by decide +kernel
theorem dL_law_1509 : decode cL_law 1509 = .ok (.iload 4, 2) := by decide +kernel
theorem dL_law_1511 : decode cL_law 1511 = .ok (.iconst 2, 1) := by decide +kernel
theorem dL_law_1512 : decode cL_law 1512 = .ok (.iadd, 1) := by decide +kernel
theorem dL_law_1513 : decode cL_law 1513 = .ok (.iaload, 1) := by decide +kernel
theorem dL_law_1514 : decode cL_law 1514 = .ok (.aload_n 0, 1) := by decide +kernel
theorem dL_law_1515 : decode cL_law 1515 = .ok (.iload 4, 2) := by decide +kernel
theorem dL_law_1517 : decode cL_law 1517 = .ok (.iconst 3, 1) := by decide +kernel
theorem dL_law_1518 : decode cL_law 1518 = .ok (.iadd, 1) := by decide +kernel
theorem dL_law_1519 : decode cL_law 1519 = .ok (.iaload, 1) := by decide +kernel
theorem dL_law_1520 : decode cL_law 1520 = .ok (.aload_n 3, 1) := by decide +kernel
theorem dL_law_1521 : decode cL_law 1521 = .ok (.invokestatic 170, 3) := by decide +kernel
theorem dL_law_1524 : decode cL_law 1524 = .ok (.istore 5, 2) := by decide +kernel
theorem dL_law_1526 : decode cL_law 1526 = .ok (.aload_n 2, 1) := by decide +kernel
theorem dL_law_1527 : decode cL_law 1527 = .ok (.aload_n 0, 1) := by decide +kernel
theorem dL_law_1528 : decode cL_law 1528 = .ok (.iload 4, 2) := by decide +kernel
theorem dL_law_1530 : decode cL_law 1530 = .ok (.iconst 1, 1) := by decide +kernel
theorem dL_law_1531 : decode cL_law 1531 = .ok (.iadd, 1) := by decide +kernel
theorem dL_law_1532 : decode cL_law 1532 = .ok (.iaload, 1) := by decide +kernel
theorem dL_law_1533 : decode cL_law 1533 = .ok (.aload_n 0, 1) := by decide +kernel
theorem dL_law_1534 : decode cL_law 1534 = .ok (.iload 4, 2) := by decide +kernel
theorem dL_law_1536 : decode cL_law 1536 = .ok (.iconst 2, 1) := by decide +kernel
theorem dL_law_1537 : decode cL_law 1537 = .ok (.iadd, 1) := by decide +kernel
theorem dL_law_1538 : decode cL_law 1538 = .ok (.iaload, 1) := by decide +kernel
theorem dL_law_1539 : decode cL_law 1539 = .ok (.aload_n 0, 1) := by decide +kernel
theorem dL_law_1540 : decode cL_law 1540 = .ok (.iload 4, 2) := by decide +kernel
theorem dL_law_1542 : decode cL_law 1542 = .ok (.iconst 3, 1) := by decide +kernel
theorem dL_law_1543 : decode cL_law 1543 = .ok (.iadd, 1) := by decide +kernel
theorem dL_law_1544 : decode cL_law 1544 = .ok (.iaload, 1) := by decide +kernel
theorem dL_law_1545 : decode cL_law 1545 = .ok (.invokevirtual 172, 3) := by decide +kernel
theorem dL_law_1548 : decode cL_law 1548 = .ok (.istore 6, 2) := by decide +kernel
theorem dL_law_1550 : decode cL_law 1550 = .ok (.aload_n 2, 1) := by decide +kernel
theorem dL_law_1551 : decode cL_law 1551 = .ok (.invokevirtual 95, 3) := by decide +kernel
theorem dL_law_1554 : decode cL_law 1554 = .ok (.iload 5, 2) := by decide +kernel
theorem dL_law_1556 : decode cL_law 1556 = .ok (.if_icmp .eq 5, 3) := by decide +kernel
theorem dL_law_1559 : decode cL_law 1559 = .ok (.iconst 0, 1) := by decide +kernel
theorem dL_law_1560 : decode cL_law 1560 = .ok (.ireturn, 1) := by decide +kernel
theorem dL_law_1561 : decode cL_law 1561 = .ok (.iload 5, 2) := by decide +kernel
theorem dL_law_1563 : decode cL_law 1563 = .ok (.ifCond .ne 15, 3) := by decide +kernel
theorem dL_law_1566 : decode cL_law 1566 = .ok (.aload_n 3, 1) := by decide +kernel
theorem dL_law_1567 : decode cL_law 1567 = .ok (.iconst 0, 1) := by decide +kernel
theorem dL_law_1568 : decode cL_law 1568 = .ok (.laload, 1) := by decide +kernel
theorem dL_law_1569 : decode cL_law 1569 = .ok (.iload 6, 2) := by decide +kernel
theorem dL_law_1571 : decode cL_law 1571 = .ok (.i2l, 1) := by decide +kernel
theorem dL_law_1572 : decode cL_law 1572 = .ok (.lcmp, 1) := by decide +kernel
theorem dL_law_1573 : decode cL_law 1573 = .ok (.ifCond .eq 5, 3) := by decide +kernel
theorem dL_law_1576 : decode cL_law 1576 = .ok (.iconst 0, 1) := by decide +kernel
theorem dL_law_1577 : decode cL_law 1577 = .ok (.ireturn, 1) := by decide +kernel
theorem dL_law_1578 : decode cL_law 1578 = .ok (.goto 114, 3) := by decide +kernel
theorem dL_law_1581 : decode cL_law 1581 = .ok (.aload_n 1, 1) := by decide +kernel
theorem dL_law_1582 : decode cL_law 1582 = .ok (.aload_n 0, 1) := by decide +kernel
theorem dL_law_1583 : decode cL_law 1583 = .ok (.iload 4, 2) := by decide +kernel
theorem dL_law_1585 : decode cL_law 1585 = .ok (.iconst 1, 1) := by decide +kernel
theorem dL_law_1586 : decode cL_law 1586 = .ok (.iadd, 1) := by decide +kernel
theorem dL_law_1587 : decode cL_law 1587 = .ok (.iaload, 1) := by decide +kernel
theorem dL_law_1588 : decode cL_law 1588 = .ok (.aload_n 3, 1) := by decide +kernel
theorem dL_law_1589 : decode cL_law 1589 = .ok (.invokestatic 173, 3) := by decide +kernel
theorem dL_law_1592 : decode cL_law 1592 = .ok (.istore 5, 2) := by decide +kernel
theorem dL_law_1594 : decode cL_law 1594 = .ok (.aload_n 2, 1) := by decide +kernel
theorem dL_law_1595 : decode cL_law 1595 = .ok (.aload_n 0, 1) := by decide +kernel
theorem dL_law_1596 : decode cL_law 1596 = .ok (.iload 4, 2) := by decide +kernel
theorem dL_law_1598 : decode cL_law 1598 = .ok (.iconst 1, 1) := by decide +kernel
theorem dL_law_1599 : decode cL_law 1599 = .ok (.iadd, 1) := by decide +kernel
theorem dL_law_1600 : decode cL_law 1600 = .ok (.iaload, 1) := by decide +kernel
theorem dL_law_1601 : decode cL_law 1601 = .ok (.invokevirtual 175, 3) := by decide +kernel
theorem dL_law_1604 : decode cL_law 1604 = .ok (.istore 6, 2) := by decide +kernel
theorem dL_law_1606 : decode cL_law 1606 = .ok (.aload_n 2, 1) := by decide +kernel
theorem dL_law_1607 : decode cL_law 1607 = .ok (.invokevirtual 95, 3) := by decide +kernel
theorem dL_law_1610 : decode cL_law 1610 = .ok (.iload 5, 2) := by decide +kernel
theorem dL_law_1612 : decode cL_law 1612 = .ok (.if_icmp .eq 5, 3) := by decide +kernel
theorem dL_law_1615 : decode cL_law 1615 = .ok (.iconst 0, 1) := by decide +kernel
theorem dL_law_1616 : decode cL_law 1616 = .ok (.ireturn, 1) := by decide +kernel
theorem dL_law_1617 : decode cL_law 1617 = .ok (.iload 5, 2) := by decide +kernel
theorem dL_law_1619 : decode cL_law 1619 = .ok (.ifCond .ne 15, 3) := by decide +kernel
theorem dL_law_1622 : decode cL_law 1622 = .ok (.aload_n 3, 1) := by decide +kernel
theorem dL_law_1623 : decode cL_law 1623 = .ok (.iconst 0, 1) := by decide +kernel
theorem dL_law_1624 : decode cL_law 1624 = .ok (.laload, 1) := by decide +kernel
theorem dL_law_1625 : decode cL_law 1625 = .ok (.iload 6, 2) := by decide +kernel
theorem dL_law_1627 : decode cL_law 1627 = .ok (.i2l, 1) := by decide +kernel
theorem dL_law_1628 : decode cL_law 1628 = .ok (.lcmp, 1) := by decide +kernel
theorem dL_law_1629 : decode cL_law 1629 = .ok (.ifCond .eq 5, 3) := by decide +kernel
theorem dL_law_1632 : decode cL_law 1632 = .ok (.iconst 0, 1) := by decide +kernel
theorem dL_law_1633 : decode cL_law 1633 = .ok (.ireturn, 1) := by decide +kernel
theorem dL_law_1634 : decode cL_law 1634 = .ok (.goto 58, 3) := by decide +kernel
theorem dL_law_1637 : decode cL_law 1637 = .ok (.aload_n 1, 1) := by decide +kernel
theorem dL_law_1638 : decode cL_law 1638 = .ok (.invokevirtual 176, 3) := by decide +kernel
theorem dL_law_1641 : decode cL_law 1641 = .ok (.dstore 5, 2) := by decide +kernel
theorem dL_law_1643 : decode cL_law 1643 = .ok (.aload_n 2, 1) := by decide +kernel
theorem dL_law_1644 : decode cL_law 1644 = .ok (.invokevirtual 180, 3) := by decide +kernel
theorem dL_law_1647 : decode cL_law 1647 = .ok (.dstore 7, 2) := by decide +kernel
theorem dL_law_1649 : decode cL_law 1649 = .ok (.dload 5, 2) := by decide +kernel
theorem dL_law_1651 : decode cL_law 1651 = .ok (.dload 7, 2) := by decide +kernel
theorem dL_law_1653 : decode cL_law 1653 = .ok (.dcmp .l, 1) := by decide +kernel
theorem dL_law_1654 : decode cL_law 1654 = .ok (.ifCond .eq 21, 3) := by decide +kernel
theorem dL_law_1657 : decode cL_law 1657 = .ok (.dload 5, 2) := by decide +kernel
theorem dL_law_1659 : decode cL_law 1659 = .ok (.dload 5, 2) := by decide +kernel
theorem dL_law_1661 : decode cL_law 1661 = .ok (.dcmp .l, 1) := by decide +kernel
theorem dL_law_1662 : decode cL_law 1662 = .ok (.ifCond .eq 11, 3) := by decide +kernel
theorem dL_law_1665 : decode cL_law 1665 = .ok (.dload 7, 2) := by decide +kernel
theorem dL_law_1667 : decode cL_law 1667 = .ok (.dload 7, 2) := by decide +kernel
theorem dL_law_1669 : decode cL_law 1669 = .ok (.dcmp .l, 1) := by decide +kernel
theorem dL_law_1670 : decode cL_law 1670 = .ok (.ifCond .ne 5, 3) := by decide +kernel
theorem dL_law_1673 : decode cL_law 1673 = .ok (.iconst 0, 1) := by decide +kernel
theorem dL_law_1674 : decode cL_law 1674 = .ok (.ireturn, 1) := by decide +kernel
theorem dL_law_1675 : decode cL_law 1675 = .ok (.goto 17, 3) := by decide +kernel
theorem dL_law_1678 : decode cL_law 1678 = .ok (.aload_n 1, 1) := by decide +kernel
theorem dL_law_1679 : decode cL_law 1679 = .ok (.invokevirtual 181, 3) := by decide +kernel
theorem dL_law_1682 : decode cL_law 1682 = .ok (.aload_n 2, 1) := by decide +kernel
theorem dL_law_1683 : decode cL_law 1683 = .ok (.invokevirtual 185, 3) := by decide +kernel
theorem dL_law_1686 : decode cL_law 1686 = .ok (.lcmp, 1) := by decide +kernel
theorem dL_law_1687 : decode cL_law 1687 = .ok (.ifCond .eq 5, 3) := by decide +kernel
theorem dL_law_1690 : decode cL_law 1690 = .ok (.iconst 0, 1) := by decide +kernel
theorem dL_law_1691 : decode cL_law 1691 = .ok (.ireturn, 1) := by decide +kernel
theorem dL_law_1692 : decode cL_law 1692 = .ok (.iinc 4 7, 3) := by decide +kernel
theorem dL_law_1695 : decode cL_law 1695 = .ok (.goto (-1672), 3) := by decide +kernel
theorem dL_law_1698 : decode cL_law 1698 = .ok (.iconst 1, 1) := by decide +kernel
theorem dL_law_1699 : decode cL_law 1699 = .ok (.ireturn, 1) := by decide +kernel
end
section
-- the memory as numbers: ids for the cells, V their ints, L their longs, N which of the six saved plans is still null, I the ids that are there
abbrev AV : Type := Value ⊕ Nat
abbrev VV : Type := Nat → Nat → Int32
abbrev LL : Type := Nat → Nat → Int64
abbrev NN : Type := Nat → Bool
abbrev aI (x : Int32) : AV := .inl (.int x)
abbrev aL (x : Int64) : AV := .inl (.long x)
abbrev aD (x : UInt64) : AV := .inl (.double x)
abbrev aR (i : Nat) : AV := .inr i
abbrev aQ (q : Nat) : AV := .inl (.ref q)
def en (ad : Nat → Nat) : AV → Value
  | .inl v => v
  | .inr i => .ref (ad i)
/-- the class (its number in vwCl) of an id that is an object -/
def ocl (i : Nat) : Option Nat :=
  if i % 20 = 0 ∧ 20 ≤ i ∧ i ≤ 140 then some 3 else if i = 0 then some 6 else if i = 1 then some 2 else if i = 3 then some 5 else if i = 5 then some 4
  else if i = 6 then some 0 else if i = 12 then some 0 else if i = 18 then some 1 else if i = 200 then some 7 else none
def nfl (ci : Nat) : Nat := if ci = 0 then 5 else if ci = 1 then 1 else if ci = 2 then 3 else if ci = 3 then 16 else if ci = 4 then 7 else if ci = 5 then 4 else if ci = 6 then 7 else 18
/-- the id that a field of references holds -/
def fref (ci i k : Nat) : Option Nat :=
  if ci = 0 then some (i + 1 + k) else if ci = 2 then (if k = 0 then some 2 else none) else if ci = 3 then (if k = 6 ∨ k = 7 then none else some (i + 1 + k))
  else if ci = 5 then (if k = 0 then some 4 else none)
  else if ci = 6 then (if k = 0 then some 20 else if k = 1 then some 1 else if k = 2 then some 3 else if k = 3 then some 5 else if k = 4 then some 6 else if k = 5 then some 12 else none)
  else if ci = 7 then (if k = 1 then some 201 else if k = 3 then some 202 else if k = 6 then some 203 else if k = 7 then some 204 else if k = 8 then some 205 else if k = 9 then some 206 else if k = 10 then some 207 else if k = 11 then some 208 else if k = 16 then some 209 else none)
  else none
def flong (ci k : Nat) : Bool := decide (ci = 1 ∧ k = 0 ∨ ci = 7 ∧ k = 17)
def aln (i : Nat) : Nat :=
  if 20 ≤ i ∧ i < 160 then (if i % 20 = 1 then 8 else if i % 20 < 7 then 6 else 24)
  else if i = 4 then 60 else if i = 11 ∨ i = 17 then 7 else if 6 < i ∧ i < 18 then 24 else if i = 201 then 232 else if i = 202 then 1392 else if i = 203 then 60 else if i = 204 then 8 else if i = 209 then 96 else 24
def fvM (ad : Nat → Nat) (V : VV) (L : LL) (i ci k : Nat) : Value := match fref ci i k with
  | some j => .ref (ad j)
  | none => if flong ci k = true then .long (L i k) else .int (V i k)
/-- 0 int, 1 boolean, 2 references, 3 long -/
def akd (i : Nat) : Nat := if i = 2 then 2 else if i = 10 ∨ i = 16 then 1 else if i = 210 then 3 else 0
def cellM (ca : Nat → ClassId) (ad : Nat → Nat) (V : VV) (L : LL) (N : NN) (i : Nat) : va_E := match ocl i with
  | some ci => .inr (ci, (List.range (nfl ci)).map (fvM ad V L i ci))
  | none => if akd i = 2 then .inl (ca 2, 6, .inr (.inr (.inr (.inr (fun k => if N k = true then none else some (ad (40 + 20 * k)))))))
    else if akd i = 3 then .inl (ca 3, 1, .inr (.inl (L i)))
    else if akd i = 1 then .inl (ca 1, aln i, .inl (V i)) else .inl (ca 0, aln i, .inl (V i))
def wsM (ca : Nat → ClassId) (ad : Nat → Nat) (V : VV) (L : LL) (N : NN) (I : List Nat) : va_W := I.map (fun i => (ad i, cellM ca ad V L N i))
def dyn (i : Nat) : Bool := decide (i = 18 ∨ (40 ≤ i ∧ i < 160))
abbrev tyM (ca : Nat → ClassId) : List (ClassId × FieldType) := [(ca 0, .int), (ca 1, .boolean), (ca 2, .object RX3), (ca 3, .long)]
def up (V : VV) (o k : Nat) (x : Int32) : VV := fun i j => if i = o then (if j = k then x else V i j) else V i j
def upL (V : LL) (o k : Nat) (x : Int64) : LL := fun i j => if i = o then (if j = k then x else V i j) else V i j
theorem up_ss {V : VV} {o k : Nat} {x : Int32} : up V o k x o k = x := by simp [up]
theorem up_no {V : VV} {o k i j : Nat} {x : Int32} (h : i ≠ o) : up V o k x i j = V i j := by simp [up, h]
theorem up_nk {V : VV} {o k i j : Nat} {x : Int32} (h : j ≠ k) : up V o k x i j = V i j := by simp [up, h]
theorem up_nf {V : VV} {o k i : Nat} {x : Int32} (h : i ≠ o) : up V o k x i = V i := funext fun j => up_no h
-- the words that all methods take: the good ones of the tables
def U0 : List Cond := lw_tbl.filter goodWord
theorem u0_in {w : Cond} (i : Nat) (h : lw_tbl[i]? = some w) (g : goodWord w = true) : w ∈ U0 := List.mem_filter.mpr ⟨List.mem_of_getElem? h, g⟩
theorem u0_good {w : Cond} (h : w ∈ U0) : (w.onTables && w.keeps) = true ∨ ∃ ty, w = .arrayClass ty := good_of_word (List.mem_filter.mp h).2
theorem u0_self (w0 : Cond) : GoodIn (w0 :: U0) U0 := fun w h => ⟨List.mem_cons_of_mem _ h, u0_good h⟩
/-- the words that are not good, but that a warm table keeps -/
def ubw : Cond → Bool
  | .methodLinkNest .. | .fieldLinkNest .. | .castable .. | .declares .. | .privateMethod .. => true
  | _ => false
theorem ub_warm {s U : State} (hW : s.WarmedH U.vm) : ∀ {w : Cond}, ubw w = true → w.before #[] s = true → w.before #[] U = true := by
  intro w hu h
  cases w with
  | methodLinkNest a i x hh => exact va_Nw.warmM hW h
  | fieldLinkNest a i b n d hh => exact va_Nw.warmF hW h
  | castable a b => exact va_tabs rfl (rfl : (s.setVm U.vm).vm = U.vm) (Cond.before_shiftedCast (State.Shifted.of_warmed hW) _ rfl h)
  | declares x => exact va_tabs rfl (rfl : (s.setVm U.vm).vm = U.vm) (Cond.before_shiftedCast (State.Shifted.of_warmed hW) _ rfl h)
  | privateMethod x => exact va_tabs rfl (rfl : (s.setVm U.vm).vm = U.vm) (Cond.before_shiftedCast (State.Shifted.of_warmed hW) _ rfl h)
  | _ => simp [ubw] at hu
/-- which exceptions are no instances of which class -/
def ncs : List (String × String) := [("java/lang/IllegalArgumentException", "java/lang/IndexOutOfBoundsException"), ("java/lang/IllegalStateException", "java/lang/IndexOutOfBoundsException"), ("java/lang/IllegalStateException", "java/lang/IllegalArgumentException")]
def Gl (U : State) : Prop := (∀ w ∈ tables_1, ubw w = true → w.before #[] U = true) ∧ (∀ own k tx, Cond.stringRef own k tx ∈ tables_1 → ∃ a, vk_R own k tx a U) ∧ (∀ q ∈ ncs, va_Nc q.1 q.2 U)
theorem Gl.warm {s U : State} (hW : s.WarmedH U.vm) (h : Gl s) : Gl U := by
  refine ⟨fun w hw hu => ub_warm hW hu (h.1 w hw hu), fun own k tx hm => ?_, fun q hq => ?_⟩
  · obtain ⟨a, ha⟩ := h.2.1 own k tx hm
    exact ⟨a, vk_R.warm hW ha⟩
  · exact va_Nc.moved hW.alike (h.2.2 q hq)
/-- the statics that are read: two of Throwable's, three arrays -/
def stArr (j : Nat) : String := if j = 0 then "LEAST_SETTINGS" else if j = 1 then "GREATEST_SETTINGS" else "FIRST_SETTINGS"
def stVal (j k : Nat) : Int32 := (([[0, 721, 0, 0, 1, 0, 0, 0], [720, 1440, 120, 240, 100, 100, 30, 600], [480, 1380, 10, 60, 20, 50, 8, 120]] : List (List Int32)).getD j []).getD k 0
def StA (A : Nat → Prop) (U : State) (H : Heap) : Prop := vx_Zq Bundle.tN "UNASSIGNED_STACK" Bundle.steD A U H ∧ vx_Zq Bundle.tN "SUPPRESSED_SENTINEL" Bundle.listD A U H ∧
  ∀ j, j < 3 → ∃ t, va_Z RX6 (stArr j) "[I" (.ref t) A U H ∧ va_T .int t 8 (fun k => .int (stVal j k)) A U H
theorem StA.moved {A : Nat → Prop} {u U : State} {H : Heap} (hvm : u.vm.Alike U.vm) (h : StA A u H) : StA A U H := by
  refine ⟨h.1.moved hvm, h.2.1.moved hvm, fun j hj => ?_⟩
  obtain ⟨t, h1, h2⟩ := h.2.2 j hj
  exact ⟨t, h1.moved hvm, h2.moved hvm⟩
theorem StA.kept {A : Nat → Prop} {U : State} {H H1 : Heap} (h : StA A U H) (hq : ∀ a : Nat, a < H.size → ¬ A a → H1[a]? = H[a]?) : StA A U H1 := by
  refine ⟨h.1.kept hq, h.2.1.kept hq, fun j hj => ?_⟩
  obtain ⟨t, h1, h2⟩ := h.2.2 j hj
  exact ⟨t, h1.kept hq, h2.kept hq⟩
theorem StA.narrow {A B : Nat → Prop} {U : State} {H : Heap} (h : StA A U H) (hAB : ∀ q, B q → A q) : StA B U H := by
  refine ⟨h.1.narrow hAB, h.2.1.narrow hAB, fun j hj => ?_⟩
  obtain ⟨t, h1, h2⟩ := h.2.2 j hj
  exact ⟨t, h1.narrow hAB, h2.narrow hAB⟩
end
section
-- the judgements over that memory
abbrev EE : Type := Program × Launch × Env × Room × State × MethodId × Array Value × List Frame × Method × Code × (State → Prop) × ((Nat → ClassId) × (Nat → Nat → Nat)) × (Nat → ClassId) × (Nat → Nat) × (Nat → Prop) × Nat × (Nat → Prop)
abbrev eP (E : EE) : Program := E.1
abbrev eL (E : EE) : Launch := E.2.1
abbrev eE (E : EE) : Env := E.2.2.1
abbrev eR (E : EE) : Room := E.2.2.2.1
abbrev eS (E : EE) : State := E.2.2.2.2.1
abbrev eM (E : EE) : MethodId := E.2.2.2.2.2.1
abbrev eX (E : EE) : Array Value := E.2.2.2.2.2.2.1
abbrev eB (E : EE) : List Frame := E.2.2.2.2.2.2.2.1
abbrev eT (E : EE) : Method := E.2.2.2.2.2.2.2.2.1
abbrev eC (E : EE) : Code := E.2.2.2.2.2.2.2.2.2.1
abbrev eQ (E : EE) : State → Prop := E.2.2.2.2.2.2.2.2.2.2.1
abbrev eD (E : EE) : (Nat → ClassId) × (Nat → Nat → Nat) := E.2.2.2.2.2.2.2.2.2.2.2.1
abbrev eK (E : EE) : Nat → ClassId := E.2.2.2.2.2.2.2.2.2.2.2.2.1
abbrev eA (E : EE) : Nat → Nat := E.2.2.2.2.2.2.2.2.2.2.2.2.2.1
abbrev eF (E : EE) : Nat → Prop := E.2.2.2.2.2.2.2.2.2.2.2.2.2.2.1
abbrev eN (E : EE) : Nat := E.2.2.2.2.2.2.2.2.2.2.2.2.2.2.2.1
abbrev eI (E : EE) : Nat → Prop := E.2.2.2.2.2.2.2.2.2.2.2.2.2.2.2.2
abbrev zLS : Type := List (Option AV)
/-- the locals -/
def LH (lsa : Array Slot) (nL : Nat) (ad : Nat → Nat) (ls : zLS) : Prop := lsa.size = nL ∧ lv_wf lsa ∧ ∀ (k : Nat) (v : AV), ls[k]? = some (some v) → lsa[k]? = some (.val (en ad v))
def toL (ad : Nat → Nat) (ls : zLS) : List (Nat × Value) := (List.range ls.length).filterMap (fun k => (ls[k]?.getD none).map (fun v => (k, en ad v)))
theorem toL_mem {ad : Nat → Nat} {ls : zLS} {k : Nat} {v : AV} (h : ls[k]? = some (some v)) : (k, en ad v) ∈ toL ad ls := by
  refine List.mem_filterMap.mpr ⟨k, List.mem_range.mpr (List.getElem?_eq_some_iff.mp h).1, ?_⟩
  simp [h]
theorem toL_of {ad : Nat → Nat} {ls : zLS} {q : Nat × Value} (h : q ∈ toL ad ls) : ∃ v, ls[q.1]? = some (some v) ∧ q.2 = en ad v := by
  obtain ⟨k, hk, he⟩ := List.mem_filterMap.mp h
  have hl := List.mem_range.mp hk
  cases ho : ls[k]? with
  | none => rw [List.getElem?_eq_none_iff] at ho; omega
  | some o =>
    cases o with
    | none => simp [ho] at he
    | some v =>
      simp only [ho, Option.getD_some, Option.map_some, Option.some.injEq] at he
      subst he
      exact ⟨v, ho, rfl⟩
theorem LH.has {lsa : Array Slot} {nL : Nat} {ad : Nat → Nat} {ls : zLS} (h : LH lsa nL ad ls) : lv_has lsa nL (toL ad ls) := by
  refine ⟨h.1, h.2.1, fun q hq => ?_⟩
  obtain ⟨v, h1, h2⟩ := toL_of hq
  rw [h2]
  exact h.2.2 _ _ h1
def isW : AV → Bool
  | .inl (.long _) => true
  | .inl (.double _) => true
  | _ => false
theorem isW_cat {ad : Nat → Nat} {v : AV} : (en ad v).category = 2 ↔ isW v = true := by
  cases v with
  | inr i => simp [en, isW, Value.category]
  | inl v => cases v <;> simp [en, isW, Value.category]
/-- a long at i - 1 goes when something is written at i -/
def killL (ls : zLS) (i : Nat) : zLS := match i with
  | 0 => ls
  | j + 1 => match ls[j]? with
    | some (some v) => if isW v = true then ls.set j none else ls
    | _ => ls
def st1 (ls : zLS) (i : Nat) (v : AV) : zLS := (killL ls i).set i (some v)
def st2 (ls : zLS) (i : Nat) (v : AV) : zLS := ((killL ls i).set i (some v)).set (i + 1) none
theorem killL_get {ls : zLS} {i k : Nat} {v : AV} (h : (killL ls i)[k]? = some (some v)) : ls[k]? = some (some v) ∧ ¬ (k + 1 = i ∧ isW v = true) := by
  unfold killL at h
  split at h
  · exact ⟨h, fun q => by omega⟩
  · rename_i j
    split at h
    · rename_i w hw
      split at h
      · rename_i hW
        by_cases hkj : k = j
        · subst hkj
          rw [List.getElem?_set_self (List.getElem?_eq_some_iff.mp hw).1] at h
          cases h
        · rw [List.getElem?_set_ne (Ne.symm hkj)] at h
          exact ⟨h, fun q => hkj (by omega)⟩
      · rename_i hW
        refine ⟨h, fun q => ?_⟩
        have : k = j := by omega
        subst this
        rw [hw] at h
        cases h
        exact hW q.2
    · rename_i hn
      refine ⟨h, fun q => ?_⟩
      have : k = j := by omega
      subst this
      exact hn v h
theorem LH_st1 {ls' : Array Slot} {nL i : Nat} {ad : Nat → Nat} {ls : zLS} {v : AV} {lv' : List (Nat × Value)} (hl : (i, en ad v) :: (toL ad ls).filter (fun q => !(q.1 == i) && !(q.1 + 1 == i && q.2.category == 2)) = lv') (h' : lv_has ls' nL lv') : LH ls' nL ad (st1 ls i v) := by
  subst hl
  refine ⟨h'.1, h'.2.1, fun k w hk => ?_⟩
  unfold st1 at hk
  by_cases hki : k = i
  · subst hki
    have hlt : k < (killL ls k).length := by
      have := (List.getElem?_eq_some_iff.mp hk).1
      simpa using this
    rw [List.getElem?_set_self hlt] at hk
    cases hk
    exact h'.2.2 _ List.mem_cons_self
  · rw [List.getElem?_set_ne (Ne.symm hki)] at hk
    obtain ⟨h1, h2⟩ := killL_get hk
    refine h'.2.2 (k, en ad w) (List.mem_cons_of_mem _ (List.mem_filter.mpr ⟨toL_mem h1, ?_⟩))
    have h3 : ¬ (k + 1 = i ∧ (en ad w).category = 2) := fun q => h2 ⟨q.1, isW_cat.mp q.2⟩
    simp only [Bool.and_eq_true, Bool.not_eq_true', beq_eq_false_iff_ne, ne_eq, Bool.and_eq_false_iff]
    refine ⟨hki, ?_⟩
    by_cases hq : k + 1 = i
    · exact Or.inr fun q => h3 ⟨hq, q⟩
    · exact Or.inl hq
theorem LH_st2 {ls' : Array Slot} {nL i : Nat} {ad : Nat → Nat} {ls : zLS} {v : AV} {lv' : List (Nat × Value)} (hl : (i, en ad v) :: (toL ad ls).filter (fun q => !(q.1 == i) && (!(q.1 == i + 1) && !(q.1 + 1 == i && q.2.category == 2))) = lv') (h' : lv_has ls' nL lv') : LH ls' nL ad (st2 ls i v) := by
  subst hl
  refine ⟨h'.1, h'.2.1, fun k w hk => ?_⟩
  unfold st2 at hk
  by_cases hk1 : k = i + 1
  · subst hk1
    have hlt := (List.getElem?_eq_some_iff.mp hk).1
    rw [List.getElem?_set_self (by simpa using hlt)] at hk
    cases hk
  · rw [List.getElem?_set_ne (Ne.symm hk1)] at hk
    by_cases hki : k = i
    · subst hki
      have hlt : k < (killL ls k).length := by
        have := (List.getElem?_eq_some_iff.mp hk).1
        simpa using this
      rw [List.getElem?_set_self hlt] at hk
      cases hk
      exact h'.2.2 _ List.mem_cons_self
    · rw [List.getElem?_set_ne (Ne.symm hki)] at hk
      obtain ⟨h1, h2⟩ := killL_get hk
      refine h'.2.2 (k, en ad w) (List.mem_cons_of_mem _ (List.mem_filter.mpr ⟨toL_mem h1, ?_⟩))
      have h3 : ¬ (k + 1 = i ∧ (en ad w).category = 2) := fun q => h2 ⟨q.1, isW_cat.mp q.2⟩
      simp only [Bool.and_eq_true, Bool.not_eq_true', beq_eq_false_iff_ne, ne_eq, Bool.and_eq_false_iff]
      refine ⟨hki, hk1, ?_⟩
      by_cases hq : k + 1 = i
      · exact Or.inr fun q => h3 ⟨hq, q⟩
      · exact Or.inl hq
def Wx (E : EE) (pc : Nat) (ls : zLS) (st : List AV) (V : VV) (L : LL) (N : NN) (I : List Nat) (a b : Nat) : Prop :=
  ∀ (ad : Nat → Nat) (H : Heap) (locs : List Loc) (lsa : Array Slot), va_P (eD E) vwCl (wsM (eK E) ad V L N I) H → va_D (eF E) (wsM (eK E) ad V L N I) → va_S (eF E) (eS E).heap H locs → ((∀ i, eI E i → ad i = eA E i) ∧ ∀ i, eI E i → dyn i = false ∨ i ∈ I) → LH lsa (eN E) ad ls →
    W (eP E) (eL E) (eE E) (eR E) (eS E) (eM E) (eX E) (eB E) (eT E) (eC E) H locs a b (eQ E) (F0 (eM E) pc lsa (st.map (en ad)))
/-- what stands for a whole method: its class, its bytes, its level, its room -/
def OK (E : EE) (own : String) (cc : ByteArray) (nL : Nat) (ret : Option FieldType) (D MC MS : Nat) : Prop :=
  (eP E).tables.exec = Jvm.exec ∧ (eC E).code = cc ∧ (eC E).maxLocals = eN E ∧ (eS E).vm.findClass own = some (eM E).cls ∧ (∀ w ∈ U0, w.before (eX E) (eS E) = true) ∧ va_K (eD E) vwCl (tyM (eK E)) (eS E) ∧ (∀ q, (eS E).heap.size ≤ q → eF E q) ∧
  StA (eF E) (eS E) (eS E).heap ∧ Gl (eS E) ∧ (eT E).locks = false ∧ (eL E).stackTraces = false ∧ D ≤ (eR E).frames ∧ 28 * D + 12 ≤ (eR E).locals ∧ MC ≤ (eR E).cells ∧ MS ≤ (eR E).slots ∧ eN E = nL ∧ (eT E).sig.returnType = ret
theorem OK.nl {E : EE} {own : String} {cc : ByteArray} {nL : Nat} {ret : Option FieldType} {D MC MS : Nat} (C : OK E own cc nL ret D MC MS) : eN E = nL := C.2.2.2.2.2.2.2.2.2.2.2.2.2.2.2.1
theorem OK.rt {E : EE} {own : String} {cc : ByteArray} {nL : Nat} {ret : Option FieldType} {D MC MS : Nat} (C : OK E own cc nL ret D MC MS) : (eT E).sig.returnType = ret := C.2.2.2.2.2.2.2.2.2.2.2.2.2.2.2.2
/-- how a method ends: with a value or none, or with an exception of a class -/
abbrev RR : Type := (Option AV) ⊕ String
abbrev PP : Type := RR → VV → LL → NN → List Nat → Prop
def rmD (D mc ms : Nat) : Room := { frames := D, cells := mc, slots := ms, locals := 28 * D + 12 }
def PreM (d : (Nat → ClassId) × (Nat → Nat → Nat)) (ca : Nat → ClassId) (ad : Nat → Nat) (V : VV) (L : LL) (N : NN) (I : List Nat) (sz : Nat) (U : State) : Prop :=
  U.heap.size = sz ∧ va_P d vwCl (wsM ca ad V L N I) U.heap ∧ va_K d vwCl (tyM ca) U ∧ va_D (fun _ => True) (wsM ca ad V L N I) ∧ StA (va_A (wsM ca ad V L N I) sz) U U.heap ∧ Gl U
def EndM (A : Nat → Prop) (d : (Nat → ClassId) × (Nat → Nat → Nat)) (ca : Nat → ClassId) (ad : Nat → Nat) (I0 : List Nat) (Post : PP) (r : RR) (ad1 : Nat → Nat) (t : State) : Prop :=
  ∃ (V : VV) (L : LL) (N : NN) (I : List Nat), Post r V L N I ∧ ((∀ i, dyn i = false ∨ i ∈ I0 → ad1 i = ad i) ∧ ∀ i, i ∈ I0 → dyn i = false ∨ i ∈ I) ∧ va_P d vwCl (wsM ca ad1 V L N I) t.heap ∧ va_D A (wsM ca ad1 V L N I)
def RetM (A : Nat → Prop) (d : (Nat → ClassId) × (Nat → Nat → Nat)) (ca : Nat → ClassId) (ad : Nat → Nat) (I0 : List Nat) (Post : PP) : Array Value → State → Outcome → State → Prop := fun _ st o t =>
  (∃ (r : Option AV) (ad1 : Nat → Nat), o = .returned (r.map (en ad1)) ∧ EndM A d ca ad I0 Post (.inl r) ad1 t) ∧ va_F A st t
def ThrM (A : Nat → Prop) (d : (Nat → ClassId) × (Nat → Nat → Nat)) (ca : Nat → ClassId) (ad : Nat → Nat) (I0 : List Nat) (Post : PP) : String → State → State → Prop := fun X st t =>
  (∃ ad1 : Nat → Nat, EndM A d ca ad I0 Post (.inr X) ad1 t) ∧ va_F A st t
/-- THE CONTRACT: the method y (its code word w0), at level D, called with args in this memory, ends as Post says -/
def Runs (l : Launch) (D mc ms : Nat) (y : MethodName) (w0 : Cond) (args : List AV) (V : VV) (L : LL) (N : NN) (I : List Nat) (Post : PP) : Prop :=
  l.stackTraces = false → ∀ (d : (Nat → ClassId) × (Nat → Nat → Nat)) (ca : Nat → ClassId) (ad : Nat → Nat) (sz : Nat),
    vx_Met l y (w0 :: U0) (rmD D mc ms) (va_Pc (args.map (en ad)) (PreM d ca ad V L N I sz)) (RetM (va_A (wsM ca ad V L N I) sz) d ca ad I Post) (ThrM (va_A (wsM ca ad V L N I) sz) d ca ad I Post) mc ms (va_A (wsM ca ad V L N I) sz)
end
section
section
variable {E : EE} {own : String} {cc : ByteArray} {ret : Option FieldType} {nL D MC MS pc : Nat} {ls : zLS} {st : List AV} {V : VV} {L : LL} {N : NN} {I : List Nat} {a b : Nat}
theorem st_len {ad : Nat → Nat} : (st.map (en ad)).length = st.length := by simp
theorem x_iconst (C : OK E own cc nL ret D MC MS) {n : Int} (v : Int32) (d : decode cc pc = .ok (.iconst n, 1)) (hv : Int32.ofInt n = v) (K : Wx E (pc + 1) (ls) (aI v :: st) V L N I a b) : Wx E (pc) (ls) (st) V L N I a b := by
  intro ad H locs lsa hP hD hS ha hl
  refine lv_iconst C.1 C.2.1 d hv ?_
  exact K ad H locs lsa hP hD hS ha hl
theorem x_bipush (C : OK E own cc nL ret D MC MS) {n : Int} (v : Int32) (d : decode cc pc = .ok (.bipush n, 2)) (hv : (Int8.ofInt n).toInt32 = v) (K : Wx E (pc + 2) (ls) (aI v :: st) V L N I a b) : Wx E (pc) (ls) (st) V L N I a b := by
  intro ad H locs lsa hP hD hS ha hl
  refine lv_bipush C.1 C.2.1 d hv ?_
  exact K ad H locs lsa hP hD hS ha hl
theorem x_sipush (C : OK E own cc nL ret D MC MS) {n : Int} (v : Int32) (d : decode cc pc = .ok (.sipush n, 3)) (hv : (Int16.ofInt n).toInt32 = v) (K : Wx E (pc + 3) (ls) (aI v :: st) V L N I a b) : Wx E (pc) (ls) (st) V L N I a b := by
  intro ad H locs lsa hP hD hS ha hl
  refine lv_sipush C.1 C.2.1 d hv ?_
  exact K ad H locs lsa hP hD hS ha hl
theorem x_lconst (C : OK E own cc nL ret D MC MS) {n : Fin 2} (v : Int64) (d : decode cc pc = .ok (.lconst n, 1)) (hv : Int64.ofNat (n : Nat) = v) (K : Wx E (pc + 1) (ls) (aL v :: st) V L N I a b) : Wx E (pc) (ls) (st) V L N I a b := by
  intro ad H locs lsa hP hD hS ha hl
  refine lv_lconst C.1 C.2.1 d hv ?_
  exact K ad H locs lsa hP hD hS ha hl
theorem x_dconst0 (C : OK E own cc nL ret D MC MS) (d : decode cc pc = .ok (.dconst 0, 1)) (K : Wx E (pc + 1) (ls) (aD FP.dconst0 :: st) V L N I a b) : Wx E (pc) (ls) (st) V L N I a b := by
  intro ad H locs lsa hP hD hS ha hl
  refine lv_dconst0 C.1 C.2.1 d ?_
  exact K ad H locs lsa hP hD hS ha hl
theorem x_dconst1 (C : OK E own cc nL ret D MC MS) (d : decode cc pc = .ok (.dconst 1, 1)) (K : Wx E (pc + 1) (ls) (aD FP.dconst1 :: st) V L N I a b) : Wx E (pc) (ls) (st) V L N I a b := by
  intro ad H locs lsa hP hD hS ha hl
  refine lv_dconst1 C.1 C.2.1 d ?_
  exact K ad H locs lsa hP hD hS ha hl
theorem x_iload_n (C : OK E own cc nL ret D MC MS) {k : Fin 4} {x : Int32} (d : decode cc pc = .ok (.iload_n k, 1)) (h : ls[(k : Nat)]? = some (some (aI x))) (K : Wx E (pc + 1) (ls) (aI x :: st) V L N I a b) : Wx E (pc) (ls) (st) V L N I a b := by
  intro ad H locs lsa hP hD hS ha hl
  refine lv_iload_n C.1 C.2.1 d rfl (hl.2.2 _ _ h) ?_
  exact K ad H locs lsa hP hD hS ha hl
theorem x_iload (C : OK E own cc nL ret D MC MS) {k : Nat} {x : Int32} (d : decode cc pc = .ok (.iload k, 2)) (h : ls[k]? = some (some (aI x))) (K : Wx E (pc + 2) (ls) (aI x :: st) V L N I a b) : Wx E (pc) (ls) (st) V L N I a b := by
  intro ad H locs lsa hP hD hS ha hl
  refine lv_iload C.1 C.2.1 d (hl.2.2 _ _ h) ?_
  exact K ad H locs lsa hP hD hS ha hl
theorem x_lload_n (C : OK E own cc nL ret D MC MS) {k : Fin 4} {x : Int64} (d : decode cc pc = .ok (.lload_n k, 1)) (h : ls[(k : Nat)]? = some (some (aL x))) (K : Wx E (pc + 1) (ls) (aL x :: st) V L N I a b) : Wx E (pc) (ls) (st) V L N I a b := by
  intro ad H locs lsa hP hD hS ha hl
  refine lv_lload_n C.1 C.2.1 d rfl (hl.2.2 _ _ h) ?_
  exact K ad H locs lsa hP hD hS ha hl
theorem x_lload (C : OK E own cc nL ret D MC MS) {k : Nat} {x : Int64} (d : decode cc pc = .ok (.lload k, 2)) (h : ls[k]? = some (some (aL x))) (K : Wx E (pc + 2) (ls) (aL x :: st) V L N I a b) : Wx E (pc) (ls) (st) V L N I a b := by
  intro ad H locs lsa hP hD hS ha hl
  refine lv_lload C.1 C.2.1 d (hl.2.2 _ _ h) ?_
  exact K ad H locs lsa hP hD hS ha hl
theorem x_dload_n (C : OK E own cc nL ret D MC MS) {k : Fin 4} {x : UInt64} (d : decode cc pc = .ok (.dload_n k, 1)) (h : ls[(k : Nat)]? = some (some (aD x))) (K : Wx E (pc + 1) (ls) (aD x :: st) V L N I a b) : Wx E (pc) (ls) (st) V L N I a b := by
  intro ad H locs lsa hP hD hS ha hl
  refine lv_dload_n C.1 C.2.1 d rfl (hl.2.2 _ _ h) ?_
  exact K ad H locs lsa hP hD hS ha hl
theorem x_dload (C : OK E own cc nL ret D MC MS) {k : Nat} {x : UInt64} (d : decode cc pc = .ok (.dload k, 2)) (h : ls[k]? = some (some (aD x))) (K : Wx E (pc + 2) (ls) (aD x :: st) V L N I a b) : Wx E (pc) (ls) (st) V L N I a b := by
  intro ad H locs lsa hP hD hS ha hl
  refine lv_dload C.1 C.2.1 d (hl.2.2 _ _ h) ?_
  exact K ad H locs lsa hP hD hS ha hl
theorem x_aload_n (C : OK E own cc nL ret D MC MS) {k : Fin 4} {x : Nat} (d : decode cc pc = .ok (.aload_n k, 1)) (h : ls[(k : Nat)]? = some (some (aR x))) (K : Wx E (pc + 1) (ls) (aR x :: st) V L N I a b) : Wx E (pc) (ls) (st) V L N I a b := by
  intro ad H locs lsa hP hD hS ha hl
  refine lv_aload_n C.1 C.2.1 d rfl (hl.2.2 _ _ h) ?_
  exact K ad H locs lsa hP hD hS ha hl
theorem x_aload (C : OK E own cc nL ret D MC MS) {k : Nat} {x : Nat} (d : decode cc pc = .ok (.aload k, 2)) (h : ls[k]? = some (some (aR x))) (K : Wx E (pc + 2) (ls) (aR x :: st) V L N I a b) : Wx E (pc) (ls) (st) V L N I a b := by
  intro ad H locs lsa hP hD hS ha hl
  refine lv_aload C.1 C.2.1 d (hl.2.2 _ _ h) ?_
  exact K ad H locs lsa hP hD hS ha hl
theorem x_aload_nq (C : OK E own cc nL ret D MC MS) {k : Fin 4} {x : Nat} (d : decode cc pc = .ok (.aload_n k, 1)) (h : ls[(k : Nat)]? = some (some (aQ x))) (K : Wx E (pc + 1) (ls) (aQ x :: st) V L N I a b) : Wx E (pc) (ls) (st) V L N I a b := by
  intro ad H locs lsa hP hD hS ha hl
  refine lv_aload_n C.1 C.2.1 d rfl (hl.2.2 _ _ h) ?_
  exact K ad H locs lsa hP hD hS ha hl
theorem x_aloadq (C : OK E own cc nL ret D MC MS) {k : Nat} {x : Nat} (d : decode cc pc = .ok (.aload k, 2)) (h : ls[k]? = some (some (aQ x))) (K : Wx E (pc + 2) (ls) (aQ x :: st) V L N I a b) : Wx E (pc) (ls) (st) V L N I a b := by
  intro ad H locs lsa hP hD hS ha hl
  refine lv_aload C.1 C.2.1 d (hl.2.2 _ _ h) ?_
  exact K ad H locs lsa hP hD hS ha hl
theorem x_istore_n (C : OK E own cc nL ret D MC MS) {k : Fin 4} {x : Int32} (d : decode cc pc = .ok (.istore_n k, 1)) (hn : (k : Nat) < nL) (K : Wx E (pc + 1) (st1 ls (k : Nat) (aI x)) st V L N I a b) : Wx E (pc) (ls) (aI x :: st) V L N I a b := by
  intro ad H locs lsa hP hD hS ha hl
  refine lv_istore_n C.1 C.2.1 d rfl hl.has (C.nl ▸ hn) rfl (fun ls1 h1 => ?_)
  exact K ad H locs ls1 hP hD hS ha (LH_st1 rfl h1)
theorem x_istore (C : OK E own cc nL ret D MC MS) {k : Nat} {x : Int32} (d : decode cc pc = .ok (.istore k, 2)) (hn : k < nL) (K : Wx E (pc + 2) (st1 ls k (aI x)) st V L N I a b) : Wx E (pc) (ls) (aI x :: st) V L N I a b := by
  intro ad H locs lsa hP hD hS ha hl
  refine lv_istore C.1 C.2.1 d hl.has (C.nl ▸ hn) rfl (fun ls1 h1 => ?_)
  exact K ad H locs ls1 hP hD hS ha (LH_st1 rfl h1)
theorem x_lstore_n (C : OK E own cc nL ret D MC MS) {k : Fin 4} {x : Int64} (d : decode cc pc = .ok (.lstore_n k, 1)) (hn : (k : Nat) + 1 < nL) (K : Wx E (pc + 1) (st2 ls (k : Nat) (aL x)) st V L N I a b) : Wx E (pc) (ls) (aL x :: st) V L N I a b := by
  intro ad H locs lsa hP hD hS ha hl
  refine lv_lstore_n C.1 C.2.1 d rfl hl.has (C.nl ▸ hn) rfl (fun ls1 h1 => ?_)
  exact K ad H locs ls1 hP hD hS ha (LH_st2 rfl h1)
theorem x_lstore (C : OK E own cc nL ret D MC MS) {k : Nat} {x : Int64} (d : decode cc pc = .ok (.lstore k, 2)) (hn : k + 1 < nL) (K : Wx E (pc + 2) (st2 ls k (aL x)) st V L N I a b) : Wx E (pc) (ls) (aL x :: st) V L N I a b := by
  intro ad H locs lsa hP hD hS ha hl
  refine lv_lstore C.1 C.2.1 d hl.has (C.nl ▸ hn) rfl (fun ls1 h1 => ?_)
  exact K ad H locs ls1 hP hD hS ha (LH_st2 rfl h1)
theorem x_dstore_n (C : OK E own cc nL ret D MC MS) {k : Fin 4} {x : UInt64} (d : decode cc pc = .ok (.dstore_n k, 1)) (hn : (k : Nat) + 1 < nL) (K : Wx E (pc + 1) (st2 ls (k : Nat) (aD x)) st V L N I a b) : Wx E (pc) (ls) (aD x :: st) V L N I a b := by
  intro ad H locs lsa hP hD hS ha hl
  refine lv_dstore_n C.1 C.2.1 d rfl hl.has (C.nl ▸ hn) rfl (fun ls1 h1 => ?_)
  exact K ad H locs ls1 hP hD hS ha (LH_st2 rfl h1)
theorem x_dstore (C : OK E own cc nL ret D MC MS) {k : Nat} {x : UInt64} (d : decode cc pc = .ok (.dstore k, 2)) (hn : k + 1 < nL) (K : Wx E (pc + 2) (st2 ls k (aD x)) st V L N I a b) : Wx E (pc) (ls) (aD x :: st) V L N I a b := by
  intro ad H locs lsa hP hD hS ha hl
  refine lv_dstore C.1 C.2.1 d hl.has (C.nl ▸ hn) rfl (fun ls1 h1 => ?_)
  exact K ad H locs ls1 hP hD hS ha (LH_st2 rfl h1)
theorem x_astore_n (C : OK E own cc nL ret D MC MS) {k : Fin 4} {x : Nat} (d : decode cc pc = .ok (.astore_n k, 1)) (hn : (k : Nat) < nL) (K : Wx E (pc + 1) (st1 ls (k : Nat) (aR x)) st V L N I a b) : Wx E (pc) (ls) (aR x :: st) V L N I a b := by
  intro ad H locs lsa hP hD hS ha hl
  refine lv_astore_n C.1 C.2.1 d rfl hl.has (C.nl ▸ hn) rfl (fun ls1 h1 => ?_)
  exact K ad H locs ls1 hP hD hS ha (LH_st1 rfl h1)
theorem x_astore (C : OK E own cc nL ret D MC MS) {k : Nat} {x : Nat} (d : decode cc pc = .ok (.astore k, 2)) (hn : k < nL) (K : Wx E (pc + 2) (st1 ls k (aR x)) st V L N I a b) : Wx E (pc) (ls) (aR x :: st) V L N I a b := by
  intro ad H locs lsa hP hD hS ha hl
  refine lv_astore C.1 C.2.1 d hl.has (C.nl ▸ hn) rfl (fun ls1 h1 => ?_)
  exact K ad H locs ls1 hP hD hS ha (LH_st1 rfl h1)
theorem x_astore_nq (C : OK E own cc nL ret D MC MS) {k : Fin 4} {x : Nat} (d : decode cc pc = .ok (.astore_n k, 1)) (hn : (k : Nat) < nL) (K : Wx E (pc + 1) (st1 ls (k : Nat) (aQ x)) st V L N I a b) : Wx E (pc) (ls) (aQ x :: st) V L N I a b := by
  intro ad H locs lsa hP hD hS ha hl
  refine lv_astore_n C.1 C.2.1 d rfl hl.has (C.nl ▸ hn) rfl (fun ls1 h1 => ?_)
  exact K ad H locs ls1 hP hD hS ha (LH_st1 rfl h1)
theorem x_astoreq (C : OK E own cc nL ret D MC MS) {k : Nat} {x : Nat} (d : decode cc pc = .ok (.astore k, 2)) (hn : k < nL) (K : Wx E (pc + 2) (st1 ls k (aQ x)) st V L N I a b) : Wx E (pc) (ls) (aQ x :: st) V L N I a b := by
  intro ad H locs lsa hP hD hS ha hl
  refine lv_astore C.1 C.2.1 d hl.has (C.nl ▸ hn) rfl (fun ls1 h1 => ?_)
  exact K ad H locs ls1 hP hD hS ha (LH_st1 rfl h1)
theorem x_iinc (C : OK E own cc nL ret D MC MS) {k : Nat} {n : Int} {x : Int32} (v : Int32) (d : decode cc pc = .ok (.iinc k n, 3)) (h : ls[k]? = some (some (aI x))) (hv : x + Int32.ofInt n = v) (hn : k < nL) (K : Wx E (pc + 3) (st1 ls k (aI v)) st V L N I a b) : Wx E (pc) (ls) (st) V L N I a b := by
  intro ad H locs lsa hP hD hS ha hl
  obtain ⟨j, hj⟩ := List.getElem?_of_mem (toL_mem (ad := ad) h)
  refine lv_iinc C.1 C.2.1 d hl.has hj hv (C.nl ▸ hn) rfl (fun ls1 h1 => ?_)
  exact K ad H locs ls1 hP hD hS ha (LH_st1 rfl h1)
theorem x_iadd (C : OK E own cc nL ret D MC MS) {x y : Int32} (d : decode cc pc = .ok (.iadd, 1)) (K : Wx E (pc + 1) (ls) (aI (x + y) :: st) V L N I a b) : Wx E (pc) (ls) (aI y :: aI x :: st) V L N I a b := by
  intro ad H locs lsa hP hD hS ha hl
  refine lv_iadd C.1 C.2.1 d ?_
  exact K ad H locs lsa hP hD hS ha hl
theorem x_isub (C : OK E own cc nL ret D MC MS) {x y : Int32} (d : decode cc pc = .ok (.isub, 1)) (K : Wx E (pc + 1) (ls) (aI (x - y) :: st) V L N I a b) : Wx E (pc) (ls) (aI y :: aI x :: st) V L N I a b := by
  intro ad H locs lsa hP hD hS ha hl
  refine lv_isub C.1 C.2.1 d ?_
  exact K ad H locs lsa hP hD hS ha hl
theorem x_imul (C : OK E own cc nL ret D MC MS) {x y : Int32} (d : decode cc pc = .ok (.imul, 1)) (K : Wx E (pc + 1) (ls) (aI (x * y) :: st) V L N I a b) : Wx E (pc) (ls) (aI y :: aI x :: st) V L N I a b := by
  intro ad H locs lsa hP hD hS ha hl
  refine lv_imul C.1 C.2.1 d ?_
  exact K ad H locs lsa hP hD hS ha hl
theorem x_iand (C : OK E own cc nL ret D MC MS) {x y : Int32} (d : decode cc pc = .ok (.iand, 1)) (K : Wx E (pc + 1) (ls) (aI (x &&& y) :: st) V L N I a b) : Wx E (pc) (ls) (aI y :: aI x :: st) V L N I a b := by
  intro ad H locs lsa hP hD hS ha hl
  refine lv_iand C.1 C.2.1 d ?_
  exact K ad H locs lsa hP hD hS ha hl
theorem x_idiv (C : OK E own cc nL ret D MC MS) {x y : Int32} (d : decode cc pc = .ok (.idiv, 1)) (hne : ¬ y = 0) (K : Wx E (pc + 1) (ls) (aI (x / y) :: st) V L N I a b) : Wx E (pc) (ls) (aI y :: aI x :: st) V L N I a b := by
  intro ad H locs lsa hP hD hS ha hl
  refine lv_idiv C.1 C.2.1 d hne ?_
  exact K ad H locs lsa hP hD hS ha hl
theorem x_irem (C : OK E own cc nL ret D MC MS) {x y : Int32} (d : decode cc pc = .ok (.irem, 1)) (hne : ¬ y = 0) (K : Wx E (pc + 1) (ls) (aI (x - x / y * y) :: st) V L N I a b) : Wx E (pc) (ls) (aI y :: aI x :: st) V L N I a b := by
  intro ad H locs lsa hP hD hS ha hl
  refine lv_irem C.1 C.2.1 d hne ?_
  exact K ad H locs lsa hP hD hS ha hl
theorem x_ineg (C : OK E own cc nL ret D MC MS) {x : Int32} (d : decode cc pc = .ok (.ineg, 1)) (K : Wx E (pc + 1) (ls) (aI (-x) :: st) V L N I a b) : Wx E (pc) (ls) (aI x :: st) V L N I a b := by
  intro ad H locs lsa hP hD hS ha hl
  refine lv_ineg C.1 C.2.1 d ?_
  exact K ad H locs lsa hP hD hS ha hl
theorem x_ladd (C : OK E own cc nL ret D MC MS) {x y : Int64} (d : decode cc pc = .ok (.ladd, 1)) (K : Wx E (pc + 1) (ls) (aL (x + y) :: st) V L N I a b) : Wx E (pc) (ls) (aL y :: aL x :: st) V L N I a b := by
  intro ad H locs lsa hP hD hS ha hl
  refine lv_ladd C.1 C.2.1 d ?_
  exact K ad H locs lsa hP hD hS ha hl
theorem x_lsub (C : OK E own cc nL ret D MC MS) {x y : Int64} (d : decode cc pc = .ok (.lsub, 1)) (K : Wx E (pc + 1) (ls) (aL (x - y) :: st) V L N I a b) : Wx E (pc) (ls) (aL y :: aL x :: st) V L N I a b := by
  intro ad H locs lsa hP hD hS ha hl
  refine lv_lsub C.1 C.2.1 d ?_
  exact K ad H locs lsa hP hD hS ha hl
theorem x_lmul (C : OK E own cc nL ret D MC MS) {x y : Int64} (d : decode cc pc = .ok (.lmul, 1)) (K : Wx E (pc + 1) (ls) (aL (x * y) :: st) V L N I a b) : Wx E (pc) (ls) (aL y :: aL x :: st) V L N I a b := by
  intro ad H locs lsa hP hD hS ha hl
  refine lv_lmul C.1 C.2.1 d ?_
  exact K ad H locs lsa hP hD hS ha hl
theorem x_lshl (C : OK E own cc nL ret D MC MS) {x : Int64} {y : Int32} (d : decode cc pc = .ok (.lshl, 1)) (K : Wx E (pc + 1) (ls) (aL (x <<< (y.toInt64 &&& 63)) :: st) V L N I a b) : Wx E (pc) (ls) (aI y :: aL x :: st) V L N I a b := by
  intro ad H locs lsa hP hD hS ha hl
  refine lv_lshl C.1 C.2.1 d rfl ?_
  exact K ad H locs lsa hP hD hS ha hl
theorem x_i2l (C : OK E own cc nL ret D MC MS) {x : Int32} (d : decode cc pc = .ok (.i2l, 1)) (K : Wx E (pc + 1) (ls) (aL x.toInt64 :: st) V L N I a b) : Wx E (pc) (ls) (aI x :: st) V L N I a b := by
  intro ad H locs lsa hP hD hS ha hl
  refine lv_i2l C.1 C.2.1 d rfl ?_
  exact K ad H locs lsa hP hD hS ha hl
theorem x_lcmp (C : OK E own cc nL ret D MC MS) {x y : Int64} (d : decode cc pc = .ok (.lcmp, 1)) (K : Wx E (pc + 1) (ls) (aI (lg_cmp x y) :: st) V L N I a b) : Wx E (pc) (ls) (aL y :: aL x :: st) V L N I a b := by
  intro ad H locs lsa hP hD hS ha hl
  refine W.lcmp C.1 C.2.1 d ?_
  exact K ad H locs lsa hP hD hS ha hl
theorem x_dcmp (C : OK E own cc nL ret D MC MS) {x y : UInt64} {op : CmpOp} (d : decode cc pc = .ok (.dcmp op, 1)) (K : Wx E (pc + 1) (ls) (aI (Op.cmpValue (FP.dcmp x y) op) :: st) V L N I a b) : Wx E (pc) (ls) (aD y :: aD x :: st) V L N I a b := by
  intro ad H locs lsa hP hD hS ha hl
  refine lv_dcmp C.1 C.2.1 d ?_
  exact K ad H locs lsa hP hD hS ha hl
theorem x_dmul (C : OK E own cc nL ret D MC MS) {x y : UInt64} (d : decode cc pc = .ok (.dmul, 1)) (hne : vf_n64 (FP.dmul x y)) (K : Wx E (pc + 1) (ls) (aD (FP.dmul x y) :: st) V L N I a b) : Wx E (pc) (ls) (aD y :: aD x :: st) V L N I a b := by
  intro ad H locs lsa hP hD hS ha hl
  refine lv_dmul C.1 C.2.1 d hne ?_
  exact K ad H locs lsa hP hD hS ha hl
theorem x_dsub (C : OK E own cc nL ret D MC MS) {x y : UInt64} (d : decode cc pc = .ok (.dsub, 1)) (hne : vf_n64 (FP.dsub x y)) (K : Wx E (pc + 1) (ls) (aD (FP.dsub x y) :: st) V L N I a b) : Wx E (pc) (ls) (aD y :: aD x :: st) V L N I a b := by
  intro ad H locs lsa hP hD hS ha hl
  refine lv_dsub C.1 C.2.1 d hne ?_
  exact K ad H locs lsa hP hD hS ha hl
theorem x_ddiv (C : OK E own cc nL ret D MC MS) {x y : UInt64} (d : decode cc pc = .ok (.ddiv, 1)) (hne : vf_n64 (FP.ddiv x y)) (K : Wx E (pc + 1) (ls) (aD (FP.ddiv x y) :: st) V L N I a b) : Wx E (pc) (ls) (aD y :: aD x :: st) V L N I a b := by
  intro ad H locs lsa hP hD hS ha hl
  refine lv_ddiv C.1 C.2.1 d hne ?_
  exact K ad H locs lsa hP hD hS ha hl
theorem x_i2d (C : OK E own cc nL ret D MC MS) {x : Int32} (d : decode cc pc = .ok (.i2d, 1)) (K : Wx E (pc + 1) (ls) (aD (FP.i2d x) :: st) V L N I a b) : Wx E (pc) (ls) (aI x :: st) V L N I a b := by
  intro ad H locs lsa hP hD hS ha hl
  refine lv_i2d C.1 C.2.1 d ?_
  exact K ad H locs lsa hP hD hS ha hl
theorem x_d2l (C : OK E own cc nL ret D MC MS) {x : UInt64} (d : decode cc pc = .ok (.d2l, 1)) (K : Wx E (pc + 1) (ls) (aL (FP.d2l x) :: st) V L N I a b) : Wx E (pc) (ls) (aD x :: st) V L N I a b := by
  intro ad H locs lsa hP hD hS ha hl
  refine lv_d2l C.1 C.2.1 d ?_
  exact K ad H locs lsa hP hD hS ha hl
theorem x_dup (C : OK E own cc nL ret D MC MS) {v : AV} (d : decode cc pc = .ok (.dup, 1)) (hw : isW v = false) (K : Wx E (pc + 1) (ls) (v :: v :: st) V L N I a b) : Wx E (pc) (ls) (v :: st) V L N I a b := by
  intro ad H locs lsa hP hD hS ha hl
  refine lv_dup C.1 C.2.1 d (by rcases lv_cat (en ad v) with q | q; exact q; exact absurd (isW_cat.mp q) (by rw [hw]; decide)) ?_
  exact K ad H locs lsa hP hD hS ha hl
theorem x_pop (C : OK E own cc nL ret D MC MS) {v : AV} (d : decode cc pc = .ok (.pop, 1)) (hw : isW v = false) (K : Wx E (pc + 1) (ls) (st) V L N I a b) : Wx E (pc) (ls) (v :: st) V L N I a b := by
  intro ad H locs lsa hP hD hS ha hl
  refine lv_pop C.1 C.2.1 d (by rcases lv_cat (en ad v) with q | q; exact q; exact absurd (isW_cat.mp q) (by rw [hw]; decide)) ?_
  exact K ad H locs lsa hP hD hS ha hl
theorem x_dup2 (C : OK E own cc nL ret D MC MS) {v u : AV} (d : decode cc pc = .ok (.dup2, 1)) (hw : isW v = false) (hw2 : isW u = false) (K : Wx E (pc + 1) (ls) (v :: u :: v :: u :: st) V L N I a b) : Wx E (pc) (ls) (v :: u :: st) V L N I a b := by
  intro ad H locs lsa hP hD hS ha hl
  refine lv_dup2_11 C.1 C.2.1 d (by rcases lv_cat (en ad v) with q | q; exact q; exact absurd (isW_cat.mp q) (by rw [hw]; decide)) (by rcases lv_cat (en ad u) with q | q; exact q; exact absurd (isW_cat.mp q) (by rw [hw2]; decide)) ?_
  exact K ad H locs lsa hP hD hS ha hl
theorem x_if_eq (C : OK E own cc nL ret D MC MS) {x : Int32} {off : Int} {tgt : Nat} (d : decode cc pc = .ok (.ifCond .eq off, 3)) (ht : (pc : Int) + off = (tgt : Int)) (kt : x = 0 → Wx E tgt ls st V L N I a b) (kf : ¬ x = 0 → Wx E (pc + 3) ls st V L N I a b) : Wx E (pc) (ls) (aI x :: st) V L N I a b := by
  intro ad H locs lsa hP hD hS ha hl
  exact lv_if_eq C.1 C.2.1 d ht (fun h => kt h ad H locs lsa hP hD hS ha hl) (fun h => kf h ad H locs lsa hP hD hS ha hl)
theorem x_icmp_eq (C : OK E own cc nL ret D MC MS) {x y : Int32} {off : Int} {tgt : Nat} (d : decode cc pc = .ok (.if_icmp .eq off, 3)) (ht : (pc : Int) + off = (tgt : Int)) (kt : x = y → Wx E tgt ls st V L N I a b) (kf : ¬ x = y → Wx E (pc + 3) ls st V L N I a b) : Wx E (pc) (ls) (aI y :: aI x :: st) V L N I a b := by
  intro ad H locs lsa hP hD hS ha hl
  exact lv_icmp_eq C.1 C.2.1 d ht (fun h => kt h ad H locs lsa hP hD hS ha hl) (fun h => kf h ad H locs lsa hP hD hS ha hl)
theorem x_if_ne (C : OK E own cc nL ret D MC MS) {x : Int32} {off : Int} {tgt : Nat} (d : decode cc pc = .ok (.ifCond .ne off, 3)) (ht : (pc : Int) + off = (tgt : Int)) (kt : ¬ x = 0 → Wx E tgt ls st V L N I a b) (kf : x = 0 → Wx E (pc + 3) ls st V L N I a b) : Wx E (pc) (ls) (aI x :: st) V L N I a b := by
  intro ad H locs lsa hP hD hS ha hl
  exact lv_if_ne C.1 C.2.1 d ht (fun h => kt h ad H locs lsa hP hD hS ha hl) (fun h => kf h ad H locs lsa hP hD hS ha hl)
theorem x_icmp_ne (C : OK E own cc nL ret D MC MS) {x y : Int32} {off : Int} {tgt : Nat} (d : decode cc pc = .ok (.if_icmp .ne off, 3)) (ht : (pc : Int) + off = (tgt : Int)) (kt : ¬ x = y → Wx E tgt ls st V L N I a b) (kf : x = y → Wx E (pc + 3) ls st V L N I a b) : Wx E (pc) (ls) (aI y :: aI x :: st) V L N I a b := by
  intro ad H locs lsa hP hD hS ha hl
  exact lv_icmp_ne C.1 C.2.1 d ht (fun h => kt h ad H locs lsa hP hD hS ha hl) (fun h => kf h ad H locs lsa hP hD hS ha hl)
theorem x_if_lt (C : OK E own cc nL ret D MC MS) {x : Int32} {off : Int} {tgt : Nat} (d : decode cc pc = .ok (.ifCond .lt off, 3)) (ht : (pc : Int) + off = (tgt : Int)) (kt : x < 0 → Wx E tgt ls st V L N I a b) (kf : ¬ x < 0 → Wx E (pc + 3) ls st V L N I a b) : Wx E (pc) (ls) (aI x :: st) V L N I a b := by
  intro ad H locs lsa hP hD hS ha hl
  exact lv_if_lt C.1 C.2.1 d ht (fun h => kt h ad H locs lsa hP hD hS ha hl) (fun h => kf h ad H locs lsa hP hD hS ha hl)
theorem x_icmp_lt (C : OK E own cc nL ret D MC MS) {x y : Int32} {off : Int} {tgt : Nat} (d : decode cc pc = .ok (.if_icmp .lt off, 3)) (ht : (pc : Int) + off = (tgt : Int)) (kt : x < y → Wx E tgt ls st V L N I a b) (kf : ¬ x < y → Wx E (pc + 3) ls st V L N I a b) : Wx E (pc) (ls) (aI y :: aI x :: st) V L N I a b := by
  intro ad H locs lsa hP hD hS ha hl
  exact lv_icmp_lt C.1 C.2.1 d ht (fun h => kt h ad H locs lsa hP hD hS ha hl) (fun h => kf h ad H locs lsa hP hD hS ha hl)
theorem x_if_ge (C : OK E own cc nL ret D MC MS) {x : Int32} {off : Int} {tgt : Nat} (d : decode cc pc = .ok (.ifCond .ge off, 3)) (ht : (pc : Int) + off = (tgt : Int)) (kt : 0 ≤ x → Wx E tgt ls st V L N I a b) (kf : ¬ 0 ≤ x → Wx E (pc + 3) ls st V L N I a b) : Wx E (pc) (ls) (aI x :: st) V L N I a b := by
  intro ad H locs lsa hP hD hS ha hl
  exact lv_if_ge C.1 C.2.1 d ht (fun h => kt h ad H locs lsa hP hD hS ha hl) (fun h => kf h ad H locs lsa hP hD hS ha hl)
theorem x_icmp_ge (C : OK E own cc nL ret D MC MS) {x y : Int32} {off : Int} {tgt : Nat} (d : decode cc pc = .ok (.if_icmp .ge off, 3)) (ht : (pc : Int) + off = (tgt : Int)) (kt : y ≤ x → Wx E tgt ls st V L N I a b) (kf : ¬ y ≤ x → Wx E (pc + 3) ls st V L N I a b) : Wx E (pc) (ls) (aI y :: aI x :: st) V L N I a b := by
  intro ad H locs lsa hP hD hS ha hl
  exact lv_icmp_ge C.1 C.2.1 d ht (fun h => kt h ad H locs lsa hP hD hS ha hl) (fun h => kf h ad H locs lsa hP hD hS ha hl)
theorem x_if_gt (C : OK E own cc nL ret D MC MS) {x : Int32} {off : Int} {tgt : Nat} (d : decode cc pc = .ok (.ifCond .gt off, 3)) (ht : (pc : Int) + off = (tgt : Int)) (kt : 0 < x → Wx E tgt ls st V L N I a b) (kf : ¬ 0 < x → Wx E (pc + 3) ls st V L N I a b) : Wx E (pc) (ls) (aI x :: st) V L N I a b := by
  intro ad H locs lsa hP hD hS ha hl
  exact lv_if_gt C.1 C.2.1 d ht (fun h => kt h ad H locs lsa hP hD hS ha hl) (fun h => kf h ad H locs lsa hP hD hS ha hl)
theorem x_icmp_gt (C : OK E own cc nL ret D MC MS) {x y : Int32} {off : Int} {tgt : Nat} (d : decode cc pc = .ok (.if_icmp .gt off, 3)) (ht : (pc : Int) + off = (tgt : Int)) (kt : y < x → Wx E tgt ls st V L N I a b) (kf : ¬ y < x → Wx E (pc + 3) ls st V L N I a b) : Wx E (pc) (ls) (aI y :: aI x :: st) V L N I a b := by
  intro ad H locs lsa hP hD hS ha hl
  exact lv_icmp_gt C.1 C.2.1 d ht (fun h => kt h ad H locs lsa hP hD hS ha hl) (fun h => kf h ad H locs lsa hP hD hS ha hl)
theorem x_if_le (C : OK E own cc nL ret D MC MS) {x : Int32} {off : Int} {tgt : Nat} (d : decode cc pc = .ok (.ifCond .le off, 3)) (ht : (pc : Int) + off = (tgt : Int)) (kt : x ≤ 0 → Wx E tgt ls st V L N I a b) (kf : ¬ x ≤ 0 → Wx E (pc + 3) ls st V L N I a b) : Wx E (pc) (ls) (aI x :: st) V L N I a b := by
  intro ad H locs lsa hP hD hS ha hl
  exact lv_if_le C.1 C.2.1 d ht (fun h => kt h ad H locs lsa hP hD hS ha hl) (fun h => kf h ad H locs lsa hP hD hS ha hl)
theorem x_icmp_le (C : OK E own cc nL ret D MC MS) {x y : Int32} {off : Int} {tgt : Nat} (d : decode cc pc = .ok (.if_icmp .le off, 3)) (ht : (pc : Int) + off = (tgt : Int)) (kt : x ≤ y → Wx E tgt ls st V L N I a b) (kf : ¬ x ≤ y → Wx E (pc + 3) ls st V L N I a b) : Wx E (pc) (ls) (aI y :: aI x :: st) V L N I a b := by
  intro ad H locs lsa hP hD hS ha hl
  exact lv_icmp_le C.1 C.2.1 d ht (fun h => kt h ad H locs lsa hP hD hS ha hl) (fun h => kf h ad H locs lsa hP hD hS ha hl)
theorem x_goto (C : OK E own cc nL ret D MC MS) {off : Int} {tgt : Nat} (d : decode cc pc = .ok (.goto off, 3)) (ht : (pc : Int) + off = (tgt : Int)) (K : Wx E tgt ls st V L N I a b) : Wx E (pc) (ls) (st) V L N I a b := by
  intro ad H locs lsa hP hD hS ha hl
  exact lv_goto C.1 C.2.1 d ht (K ad H locs lsa hP hD hS ha hl)
theorem x_tableOut (C : OK E own cc nL ret D MC MS) {dflt lo hi : Int} {offs : Array Int} {len : Nat} {x : Int32} {tgt : Nat} (d : decode cc pc = .ok (.tableswitch dflt lo hi offs, len)) (h : x.toInt < lo ∨ hi < x.toInt) (ht : (pc : Int) + dflt = (tgt : Int)) (K : Wx E tgt ls st V L N I a b) : Wx E (pc) (ls) (aI x :: st) V L N I a b := by
  intro ad H locs lsa hP hD hS ha hl
  exact lv_tableOut C.1 C.2.1 d h ht (K ad H locs lsa hP hD hS ha hl)
theorem x_tableIn (C : OK E own cc nL ret D MC MS) {dflt lo hi : Int} {offs : Array Int} {len : Nat} {x : Int32} {off : Int} {tgt : Nat} (d : decode cc pc = .ok (.tableswitch dflt lo hi offs, len)) (h1 : ¬ x.toInt < lo) (h2 : ¬ hi < x.toInt) (ho : offs[(x.toInt - lo).toNat]? = some off) (ht : (pc : Int) + off = (tgt : Int)) (K : Wx E tgt ls st V L N I a b) : Wx E (pc) (ls) (aI x :: st) V L N I a b := by
  intro ad H locs lsa hP hD hS ha hl
  exact lv_tableIn C.1 C.2.1 d h1 h2 ho ht (K ad H locs lsa hP hD hS ha hl)
theorem x_top {x : AV} (y : AV) (h : x = y) (K : Wx E pc ls (y :: st) V L N I a b) : Wx E (pc) (ls) (x :: st) V L N I a b := by subst h; exact K
theorem x_topi {x : Int32} (y : Int32) (h : x = y) (K : Wx E pc ls (aI y :: st) V L N I a b) : Wx E (pc) (ls) (aI x :: st) V L N I a b := by subst h; exact K
theorem x_nmi {x : Int32} (K : ∀ y : Int32, y = x → Wx E pc ls (aI y :: st) V L N I a b) : Wx E (pc) (ls) (aI x :: st) V L N I a b := K x rfl
theorem x_widen {a1 b1 : Nat} (h1 : a ≤ a1) (h2 : b ≤ b1) (K : Wx E pc ls st V L N I a1 b1) : Wx E (pc) (ls) (st) V L N I a b := by
  intro ad H locs lsa hP hD hS ha hl
  exact W.widen h1 h2 (K ad H locs lsa hP hD hS ha hl)
theorem x_ldc2 (C : OK E own cc nL ret D MC MS) {k : Nat} {v : Int64} (d : decode cc pc = .ok (.ldc2_w k, 3)) (hw : Cond.constantLong own k v ∈ U0) (K : Wx E (pc + 3) ls (aL v :: st) V L N I a b) : Wx E (pc) (ls) (st) V L N I a b := by
  intro ad H locs lsa hP hD hS ha hl
  exact lv_ldc2 C.1 C.2.1 C.2.2.2.1 (C.2.2.2.2.1 _ hw) d (K ad H locs lsa hP hD hS ha hl)
theorem x_ldc2d (C : OK E own cc nL ret D MC MS) {k : Nat} {v : UInt64} (d : decode cc pc = .ok (.ldc2_w k, 3)) (hw : Cond.constantDouble own k v ∈ U0) (K : Wx E (pc + 3) ls (aD v :: st) V L N I a b) : Wx E (pc) (ls) (st) V L N I a b := by
  intro ad H locs lsa hP hD hS ha hl
  exact lv_ldc2d C.1 C.2.1 C.2.2.2.1 (C.2.2.2.2.1 _ hw) d (K ad H locs lsa hP hD hS ha hl)
end
end
section
theorem ws_at {ca : Nat → ClassId} {ad : Nat → Nat} {V : VV} {L : LL} {N : NN} {I : List Nat} {q o : Nat} (h : I[q]? = some o) : (wsM ca ad V L N I)[q]? = some (ad o, cellM ca ad V L N o) := by
  simp [wsM, h]
theorem ws_inv {ca : Nat → ClassId} {ad : Nat → Nat} {V : VV} {L : LL} {N : NN} {I : List Nat} {q : Nat} {p : Nat × va_E} (h : (wsM ca ad V L N I)[q]? = some p) : ∃ o, I[q]? = some o ∧ p = (ad o, cellM ca ad V L N o) := by
  unfold wsM at h
  rw [List.getElem?_map] at h
  cases ho : I[q]? with
  | none => rw [ho] at h; cases h
  | some o => rw [ho] at h; exact ⟨o, rfl, (Option.some.inj h).symm⟩
theorem ws_inj {ca : Nat → ClassId} {ad : Nat → Nat} {V : VV} {L : LL} {N : NN} {I : List Nat} {A : Nat → Prop} (hD : va_D A (wsM ca ad V L N I)) {i j o p : Nat} (h1 : I[i]? = some o) (h2 : I[j]? = some p) (h : ad o = ad p) : i = j := hD.1 i j _ _ (ws_at h1) (ws_at h2) h
theorem ws_set {ca : Nat → ClassId} {ad : Nat → Nat} {V V' : VV} {L L' : LL} {N N' : NN} {I : List Nat} {A : Nat → Prop} (hD : va_D A (wsM ca ad V L N I)) {q o : Nat} {e : va_E} (h : I[q]? = some o) (he : cellM ca ad V' L' N' o = e) (hr : ∀ i, i ≠ o → cellM ca ad V' L' N' i = cellM ca ad V L N i) : (wsM ca ad V L N I).set q (ad o, e) = wsM ca ad V' L' N' I := by
  subst he
  apply List.ext_getElem?
  intro k
  have hql := (List.getElem?_eq_some_iff.mp h).1
  by_cases hk : k = q
  · subst hk
    rw [List.getElem?_set_self (by simpa [wsM] using hql), ws_at h]
  · rw [List.getElem?_set_ne (Ne.symm hk)]
    unfold wsM
    rw [List.getElem?_map, List.getElem?_map]
    cases ho : I[k]? with
    | none => rfl
    | some p =>
      have hpo : p ≠ o := fun z => hk (ws_inj hD ho h (by rw [z]))
      simp only [Option.map_some, hr p hpo]
theorem cell_obj {ca : Nat → ClassId} {ad : Nat → Nat} {V : VV} {L : LL} {N : NN} {o ci : Nat} (h : ocl o = some ci) : cellM ca ad V L N o = .inr (ci, (List.range (nfl ci)).map (fvM ad V L o ci)) := by
  unfold cellM; rw [h]
theorem cell_int {ca : Nat → ClassId} {ad : Nat → Nat} {V : VV} {L : LL} {N : NN} {o : Nat} (h : ocl o = none ∧ akd o = 0) : cellM ca ad V L N o = .inl (ca 0, aln o, .inl (V o)) := by
  unfold cellM; rw [h.1]; simp [h.2]
theorem cell_bool {ca : Nat → ClassId} {ad : Nat → Nat} {V : VV} {L : LL} {N : NN} {o : Nat} (h : ocl o = none ∧ akd o = 1) : cellM ca ad V L N o = .inl (ca 1, aln o, .inl (V o)) := by
  unfold cellM; rw [h.1]; simp [h.2]
theorem cell_long {ca : Nat → ClassId} {ad : Nat → Nat} {V : VV} {L : LL} {N : NN} {o : Nat} (h : ocl o = none ∧ akd o = 3) : cellM ca ad V L N o = .inl (ca 3, 1, .inr (.inl (L o))) := by
  unfold cellM; rw [h.1]; simp [h.2]
theorem cell_ref {ca : Nat → ClassId} {ad : Nat → Nat} {V : VV} {L : LL} {N : NN} {o : Nat} (h : ocl o = none ∧ akd o = 2) : cellM ca ad V L N o = .inl (ca 2, 6, .inr (.inr (.inr (.inr (fun k => if N k = true then none else some (ad (40 + 20 * k))))))) := by
  unfold cellM; rw [h.1]; simp [h.2]
theorem fvM_up {ad : Nat → Nat} {V V' : VV} {L L' : LL} {i ci : Nat} (h : V' i = V i) (h2 : L' i = L i) : fvM ad V' L' i ci = fvM ad V L i ci := by
  funext k; unfold fvM; rw [h, h2]
theorem cell_same {ca : Nat → ClassId} {ad : Nat → Nat} {V V' : VV} {L L' : LL} {N : NN} {i : Nat} (h : V' i = V i) (h2 : L' i = L i) : cellM ca ad V' L' N i = cellM ca ad V L N i := by
  unfold cellM; rw [h, h2]; simp only [fvM_up h h2]
theorem cell_set {ca : Nat → ClassId} {ad : Nat → Nat} {V : VV} {L : LL} {N : NN} {o ci k : Nat} {x : Int32} (h : ocl o = some ci) (hr : fref ci o k = none) (hw : flong ci k = false) : cellM ca ad (up V o k x) L N o = .inr (ci, ((List.range (nfl ci)).map (fvM ad V L o ci)).set k (.int x)) := by
  rw [cell_obj h]
  refine congrArg (fun l => (Sum.inr (ci, l) : va_E)) ?_
  apply List.ext_getElem?
  intro j
  by_cases hj : j = k
  · subst hj
    by_cases hl : j < nfl ci
    · rw [List.getElem?_set_self (by simpa using hl)]
      simp [hl, fvM, hr, hw, up]
    · rw [List.getElem?_eq_none (by simpa using hl), List.getElem?_eq_none (by simpa using hl)]
  · rw [List.getElem?_set_ne (Ne.symm hj)]
    simp only [List.getElem?_map]
    cases hq : (List.range (nfl ci))[j]? with
    | none => rfl
    | some z =>
      have hz : z = j := by
        have h1 := List.getElem?_eq_some_iff.mp hq
        obtain ⟨h2, h3⟩ := h1
        simpa using h3.symm
      subst hz
      simp [fvM, up, hj]
theorem cell_setL {ca : Nat → ClassId} {ad : Nat → Nat} {V : VV} {L : LL} {N : NN} {o ci k : Nat} {x : Int64} (h : ocl o = some ci) (hr : fref ci o k = none) (hw : flong ci k = true) : cellM ca ad V (upL L o k x) N o = .inr (ci, ((List.range (nfl ci)).map (fvM ad V L o ci)).set k (.long x)) := by
  rw [cell_obj h]
  refine congrArg (fun l => (Sum.inr (ci, l) : va_E)) ?_
  apply List.ext_getElem?
  intro j
  by_cases hj : j = k
  · subst hj
    by_cases hl : j < nfl ci
    · rw [List.getElem?_set_self (by simpa using hl)]
      simp [hl, fvM, hr, hw, upL]
    · rw [List.getElem?_eq_none (by simpa using hl), List.getElem?_eq_none (by simpa using hl)]
  · rw [List.getElem?_set_ne (Ne.symm hj)]
    simp only [List.getElem?_map]
    cases hq : (List.range (nfl ci))[j]? with
    | none => rfl
    | some z =>
      have hz : z = j := by
        have h1 := List.getElem?_eq_some_iff.mp hq
        obtain ⟨h2, h3⟩ := h1
        simpa using h3.symm
      subst hz
      simp [fvM, upL, hj]
-- what is true of each class
theorem cl_words : ∀ q ∈ vwCl, ∀ w ∈ u_ws q.1 q.2.1 q.2.2, w ∈ U0 := by
  have h : ∀ q ∈ vwCl, ∀ w ∈ u_ws q.1 q.2.1 q.2.2, w ∈ lw_tbl ∧ goodWord w = true := by decide +kernel
  exact fun q hq w hw => List.mem_filter.mpr (h q hq w hw)
/-- a field: by whom and by which number of the pool it is named, its class' number, its place -/
def FLk (own : String) (idx ci k : Nat) : Prop := ∃ (Cn : String) (T : u_T), vwCl[ci]? = some (Cn, T, nfl ci) ∧ k < nfl ci ∧ Cond.fieldLink own idx (T k).1 (T k).2.1 (T k).2.2.1 ∈ U0
def tyOf (ci : Nat) : Nat → FieldType := if ci = 0 then tyX0 else if ci = 1 then tyX1 else if ci = 2 then tyX2 else if ci = 3 then tyX3 else if ci = 4 then tyX4 else if ci = 5 then tyX5 else if ci = 6 then tyX6 else tyX7
theorem cl_ty {ci : Nat} {Cn : String} {T : u_T} {n : Nat} (h : vwCl[ci]? = some (Cn, T, n)) : (∀ k, k < n → parseFieldDescriptor (T k).2.2.1 = some (tyOf ci k)) ∧ (∀ a, a < n → ∀ b, b < n → a ≠ b → (T a).2.1 ≠ (T b).2.1) := by
  match ci, h with
  | 0, h => cases h; exact ⟨tyX0_ok, nmX0⟩
  | 1, h => cases h; exact ⟨tyX1_ok, nmX1⟩
  | 2, h => cases h; exact ⟨tyX2_ok, nmX2⟩
  | 3, h => cases h; exact ⟨tyX3_ok, nmX3⟩
  | 4, h => cases h; exact ⟨tyX4_ok, nmX4⟩
  | 5, h => cases h; exact ⟨tyX5_ok, nmX5⟩
  | 6, h => cases h; exact ⟨tyX6_ok, nmX6⟩
  | 7, h => cases h; exact ⟨tyX7_ok, nmX7⟩
  | k + 8, h => simp [vwCl] at h
/-- .. that is written after the making: its type -/
def FPk (own : String) (idx ci k : Nat) (ty : FieldType) : Prop := ∃ (Cn : String) (T : u_T), vwCl[ci]? = some (Cn, T, nfl ci) ∧ k < nfl ci ∧ Cond.fieldLink own idx (T k).1 (T k).2.1 (T k).2.2.1 ∈ U0 ∧ (T k).2.2.2 = false ∧ parseFieldDescriptor (T k).2.2.1 = some ty
section
variable {E : EE} {own : String} {cc : ByteArray} {ret : Option FieldType} {nL D MC MS pc : Nat} {ls : zLS} {st : List AV} {V : VV} {L : LL} {N : NN} {I : List Nat} {a b : Nat}
theorem x_getf (C : OK E own cc nL ret D MC MS) {idx ci k o : Nat} (f : FLk own idx ci k) (d : decode cc pc = .ok (.getfield idx, 3)) (hi : o ∈ I) (ho : ocl o = some ci) (y : AV) (hy : ∀ ad, fvM ad V L o ci k = en ad y) (K : Wx E (pc + 3) ls (y :: st) V L N I a b) : Wx E pc ls (aR o :: st) V L N I a b := by
  intro ad H locs lsa hP hD hS ha hl
  obtain ⟨Cn, T, hc, hk, hw⟩ := f
  obtain ⟨q, hq⟩ := List.getElem?_of_mem hi
  have he := ws_at (ca := eK E) (ad := ad) (V := V) (L := L) (N := N) hq
  rw [cell_obj ho] at he
  refine va_get C.1 C.2.1 C.2.2.2.2.1 (cl_words _ (List.mem_of_getElem? hc)) C.2.2.2.1 C.2.2.2.2.2.1 hP q he hc k hk (C.2.2.2.2.1 _ hw) (fun x h => h) (v := en ad y) ?_ d ?_
  · rw [List.getElem?_map]
    simp [hk, hy ad]
  · exact K ad H locs lsa hP hD hS ha hl
theorem x_getI (C : OK E own cc nL ret D MC MS) {idx ci k o : Nat} (f : FLk own idx ci k) (d : decode cc pc = .ok (.getfield idx, 3)) (hi : o ∈ I) (h : ocl o = some ci ∧ fref ci o k = none ∧ flong ci k = false) (K : Wx E (pc + 3) ls (aI (V o k) :: st) V L N I a b) : Wx E pc ls (aR o :: st) V L N I a b :=
  x_getf C f d hi h.1 _ (fun ad => by unfold fvM; rw [h.2.1]; simp [h.2.2, en]) K
theorem x_getR (C : OK E own cc nL ret D MC MS) {idx ci k o j : Nat} (f : FLk own idx ci k) (d : decode cc pc = .ok (.getfield idx, 3)) (hi : o ∈ I) (h : ocl o = some ci ∧ fref ci o k = some j) (K : Wx E (pc + 3) ls (aR j :: st) V L N I a b) : Wx E pc ls (aR o :: st) V L N I a b :=
  x_getf C f d hi h.1 _ (fun ad => by unfold fvM; rw [h.2]; rfl) K
theorem x_getL (C : OK E own cc nL ret D MC MS) {idx ci k o : Nat} (f : FLk own idx ci k) (d : decode cc pc = .ok (.getfield idx, 3)) (hi : o ∈ I) (h : ocl o = some ci ∧ fref ci o k = none ∧ flong ci k = true) (K : Wx E (pc + 3) ls (aL (L o k) :: st) V L N I a b) : Wx E pc ls (aR o :: st) V L N I a b :=
  x_getf C f d hi h.1 _ (fun ad => by unfold fvM; rw [h.2.1]; simp [h.2.2, en]) K
theorem x_putI (C : OK E own cc nL ret D MC MS) {idx ci k o : Nat} {x : Int32} (f : FPk own idx ci k .int) (d : decode cc pc = .ok (.putfield idx, 3)) (hi : o ∈ I) (h : ocl o = some ci ∧ fref ci o k = none ∧ flong ci k = false) (K : Wx E (pc + 3) ls st (up V o k x) L N I a b) : Wx E pc ls (aI x :: aR o :: st) V L N I a b := by
  intro ad H locs lsa hP hD hS ha hl
  obtain ⟨Cn, T, hc, hk, hw, hfin, hty⟩ := f
  obtain ⟨q, hq⟩ := List.getElem?_of_mem hi
  have he := ws_at (ca := eK E) (ad := ad) (V := V) (L := L) (N := N) hq
  rw [cell_obj h.1] at he
  refine va_put C.1 C.2.1 C.2.2.2.2.1 (cl_words _ (List.mem_of_getElem? hc)) (tyOf ci) (cl_ty hc).1 (cl_ty hc).2 C.2.2.2.1 C.2.2.2.2.2.1 hP hD hS q he hc k hk (C.2.2.2.2.1 _ hw) (fun x h => h) hfin hty rfl rfl (by simpa using hk) d (fun H1 locs1 hP1 hD1 hS1 => ?_)
  rw [show en ad (aI x) = Value.int x from rfl] at hP1 hD1
  rw [ws_set hD hq (cell_set h.1 h.2.1 h.2.2) (fun i hi => cell_same (up_nf hi) rfl)] at hP1 hD1
  exact K ad H1 locs1 lsa hP1 hD1 hS1 ha hl
theorem x_putL (C : OK E own cc nL ret D MC MS) {idx ci k o : Nat} {x : Int64} (f : FPk own idx ci k .long) (d : decode cc pc = .ok (.putfield idx, 3)) (hi : o ∈ I) (h : ocl o = some ci ∧ fref ci o k = none ∧ flong ci k = true) (K : Wx E (pc + 3) ls st V (upL L o k x) N I a b) : Wx E pc ls (aL x :: aR o :: st) V L N I a b := by
  intro ad H locs lsa hP hD hS ha hl
  obtain ⟨Cn, T, hc, hk, hw, hfin, hty⟩ := f
  obtain ⟨q, hq⟩ := List.getElem?_of_mem hi
  have he := ws_at (ca := eK E) (ad := ad) (V := V) (L := L) (N := N) hq
  rw [cell_obj h.1] at he
  refine va_put C.1 C.2.1 C.2.2.2.2.1 (cl_words _ (List.mem_of_getElem? hc)) (tyOf ci) (cl_ty hc).1 (cl_ty hc).2 C.2.2.2.1 C.2.2.2.2.2.1 hP hD hS q he hc k hk (C.2.2.2.2.1 _ hw) (fun x h => h) hfin hty rfl rfl (by simpa using hk) d (fun H1 locs1 hP1 hD1 hS1 => ?_)
  rw [show en ad (aL x) = Value.long x from rfl] at hP1 hD1
  rw [ws_set (V' := V) (L' := upL L o k x) (N' := N) hD hq (cell_setL h.1 h.2.1 h.2.2) (fun i hi => cell_same rfl (funext fun j => by simp [upL, hi]))] at hP1 hD1
  exact K ad H1 locs1 lsa hP1 hD1 hS1 ha hl
theorem x_iald (C : OK E own cc nL ret D MC MS) {o j : Nat} (d : decode cc pc = .ok (.iaload, 1)) (hi : o ∈ I) (h : ocl o = none ∧ akd o = 0) (hj : j < aln o) (hl31 : aln o < 2 ^ 31) (K : Wx E (pc + 1) ls (aI (V o j) :: st) V L N I a b) : Wx E pc ls (aI (nI j) :: aR o :: st) V L N I a b := by
  intro ad H locs lsa hP hD hS ha hl
  obtain ⟨q, hq⟩ := List.getElem?_of_mem hi
  have he := ws_at (ca := eK E) (ad := ad) (V := V) (L := L) (N := N) hq
  rw [cell_int h] at he
  refine va_iald C.1 C.2.1 C.2.2.2.2.2.1 hP q 0 he rfl (vp_in_nI hj hl31) d ?_
  rw [nI_clamp (by omega)]
  exact K ad H locs lsa hP hD hS ha hl
theorem x_zald (C : OK E own cc nL ret D MC MS) {o j : Nat} (d : decode cc pc = .ok (.baload, 1)) (hi : o ∈ I) (h : ocl o = none ∧ akd o = 1) (hj : j < aln o) (hl31 : aln o < 2 ^ 31) (K : Wx E (pc + 1) ls (aI (V o j) :: st) V L N I a b) : Wx E pc ls (aI (nI j) :: aR o :: st) V L N I a b := by
  intro ad H locs lsa hP hD hS ha hl
  obtain ⟨q, hq⟩ := List.getElem?_of_mem hi
  have he := ws_at (ca := eK E) (ad := ad) (V := V) (L := L) (N := N) hq
  rw [cell_bool h] at he
  refine va_zald C.1 C.2.1 C.2.2.2.2.2.1 hP q 1 he rfl (vp_in_nI hj hl31) d ?_
  rw [nI_clamp (by omega)]
  exact K ad H locs lsa hP hD hS ha hl
theorem x_lald (C : OK E own cc nL ret D MC MS) {o : Nat} (d : decode cc pc = .ok (.laload, 1)) (hi : o ∈ I) (h : ocl o = none ∧ akd o = 3) (K : Wx E (pc + 1) ls (aL (L o 0) :: st) V L N I a b) : Wx E pc ls (aI 0 :: aR o :: st) V L N I a b := by
  intro ad H locs lsa hP hD hS ha hl
  obtain ⟨q, hq⟩ := List.getElem?_of_mem hi
  have he := ws_at (ca := eK E) (ad := ad) (V := V) (L := L) (N := N) hq
  rw [cell_long h] at he
  exact va_lald C.1 C.2.1 C.2.2.2.2.2.1 hP q 3 he rfl (nI_0 ▸ vp_in_nI (n := 0) (by decide) (by decide)) d (K ad H locs lsa hP hD hS ha hl)
theorem up_arr {V : VV} {o j : Nat} {x : Int32} : up V o j x o = upd (V o) j x := by
  funext i; simp [up, upd]
theorem x_iast (C : OK E own cc nL ret D MC MS) {o j : Nat} {x : Int32} (d : decode cc pc = .ok (.iastore, 1)) (hi : o ∈ I) (h : ocl o = none ∧ akd o = 0) (hj : j < aln o) (hl31 : aln o < 2 ^ 31) (K : Wx E (pc + 1) ls st (up V o j x) L N I a b) : Wx E pc ls (aI x :: aI (nI j) :: aR o :: st) V L N I a b := by
  intro ad H locs lsa hP hD hS ha hl
  obtain ⟨q, hq⟩ := List.getElem?_of_mem hi
  have he := ws_at (ca := eK E) (ad := ad) (V := V) (L := L) (N := N) hq
  rw [cell_int h] at he
  refine va_iast C.1 C.2.1 C.2.2.2.2.2.1 hP hD hS q 0 he rfl (vp_in_nI hj hl31) d (fun H1 locs1 hP1 hD1 hS1 => ?_)
  rw [nI_clamp (by omega)] at hP1 hD1
  rw [ws_set (V' := up V o j x) (L' := L) (N' := N) hD hq (by rw [cell_int h, up_arr]) (fun i hi => cell_same (up_nf hi) rfl)] at hP1 hD1
  exact K ad H1 locs1 lsa hP1 hD1 hS1 ha hl
theorem x_zast (C : OK E own cc nL ret D MC MS) {o j : Nat} {x : Int32} (d : decode cc pc = .ok (.bastore, 1)) (hx : vp_nar .boolean x = x) (hi : o ∈ I) (h : ocl o = none ∧ akd o = 1) (hj : j < aln o) (hl31 : aln o < 2 ^ 31) (K : Wx E (pc + 1) ls st (up V o j x) L N I a b) : Wx E pc ls (aI x :: aI (nI j) :: aR o :: st) V L N I a b := by
  intro ad H locs lsa hP hD hS ha hl
  obtain ⟨q, hq⟩ := List.getElem?_of_mem hi
  have he := ws_at (ca := eK E) (ad := ad) (V := V) (L := L) (N := N) hq
  rw [cell_bool h] at he
  refine va_zast C.1 C.2.1 C.2.2.2.2.2.1 hP hD hS q 1 he rfl (vp_in_nI hj hl31) d (fun H1 locs1 hP1 hD1 hS1 => ?_)
  rw [nI_clamp (by omega), hx] at hP1 hD1
  rw [ws_set (V' := up V o j x) (L' := L) (N' := N) hD hq (by rw [cell_bool h, up_arr]) (fun i hi => cell_same (up_nf hi) rfl)] at hP1 hD1
  exact K ad H1 locs1 lsa hP1 hD1 hS1 ha hl
theorem x_last (C : OK E own cc nL ret D MC MS) {o : Nat} {x : Int64} (d : decode cc pc = .ok (.lastore, 1)) (hi : o ∈ I) (h : ocl o = none ∧ akd o = 3) (K : Wx E (pc + 1) ls st V (upL L o 0 x) N I a b) : Wx E pc ls (aL x :: aI 0 :: aR o :: st) V L N I a b := by
  intro ad H locs lsa hP hD hS ha hl
  obtain ⟨q, hq⟩ := List.getElem?_of_mem hi
  have he := ws_at (ca := eK E) (ad := ad) (V := V) (L := L) (N := N) hq
  rw [cell_long h] at he
  refine va_last C.1 C.2.1 C.2.2.2.2.2.1 hP hD hS q 3 he rfl (nI_0 ▸ vp_in_nI (n := 0) (by decide) (by decide)) d (fun H1 locs1 hP1 hD1 hS1 => ?_)
  rw [ws_set (V' := V) (L' := upL L o 0 x) (N' := N) hD hq (by rw [cell_long h]; refine congrArg (fun f => (Sum.inl (eK E 3, 1, .inr (.inl f)) : va_E)) (funext fun i => ?_); simp [upL, vp_updL]) (fun i hi => cell_same rfl (funext fun j => by simp [upL, hi]))] at hP1 hD1
  exact K ad H1 locs1 lsa hP1 hD1 hS1 ha hl
theorem x_aald (C : OK E own cc nL ret D MC MS) {j : Nat} (d : decode cc pc = .ok (.aaload, 1)) (hi : 2 ∈ I) (hj : j < 6) (kn : N j = true → Wx E (pc + 1) ls (.inl .null :: st) V L N I a b) (kr : N j = false → Wx E (pc + 1) ls (aR (40 + 20 * j) :: st) V L N I a b) : Wx E pc ls (aI (nI j) :: aR 2 :: st) V L N I a b := by
  intro ad H locs lsa hP hD hS ha hl
  obtain ⟨q, hq⟩ := List.getElem?_of_mem hi
  have he := ws_at (ca := eK E) (ad := ad) (V := V) (L := L) (N := N) hq
  rw [cell_ref ⟨rfl, rfl⟩] at he
  refine va_aldq C.1 C.2.1 C.2.2.2.2.2.1 hP q 2 he rfl (vp_in_nI hj (by decide)) d ?_
  rw [nI_clamp (by omega)]
  cases hN : N j with
  | true =>
    simp only [if_true, va_rf]
    exact kn hN ad H locs lsa hP hD hS ha hl
  | false =>
    simp only [Bool.false_eq_true, if_false, va_rf]
    exact kr hN ad H locs lsa hP hD hS ha hl
theorem x_aast (C : OK E own cc nL ret D MC MS) {j : Nat} (d : decode cc pc = .ok (.aastore, 1)) (hi : 2 ∈ I) (hk : 40 + 20 * j ∈ I) (hj : j < 6) (K : Wx E (pc + 1) ls st V L (fun k => if k = j then false else N k) I a b) : Wx E pc ls (aR (40 + 20 * j) :: aI (nI j) :: aR 2 :: st) V L N I a b := by
  intro ad H locs lsa hP hD hS ha hl
  obtain ⟨q, hq⟩ := List.getElem?_of_mem hi
  have he := ws_at (ca := eK E) (ad := ad) (V := V) (L := L) (N := N) hq
  rw [cell_ref ⟨rfl, rfl⟩] at he
  obtain ⟨q2, hq2⟩ := List.getElem?_of_mem hk
  have he2 := ws_at (ca := eK E) (ad := ad) (V := V) (L := L) (N := N) hq2
  have ho : ocl (40 + 20 * j) = some 3 := by unfold ocl; rw [if_pos (by omega)]
  rw [cell_obj ho] at he2
  refine va_astq C.1 C.2.1 C.2.2.2.2.2.1 hP hD hS q 2 q2 3 he rfl he2 rfl (vp_in_nI hj (by decide)) d (fun H1 locs1 hP1 hD1 hS1 => ?_)
  rw [nI_clamp (by omega)] at hP1 hD1
  rw [ws_set (V' := V) (L' := L) (N' := fun k => if k = j then false else N k) hD hq (by
      rw [cell_ref ⟨rfl, rfl⟩]
      refine congrArg (fun f => (Sum.inl (eK E 2, 6, .inr (.inr (.inr (.inr f)))) : va_E)) (funext fun i => ?_)
      by_cases hij : i = j
      · subst hij; simp [va_up]
      · simp [va_up, hij]) (fun i hi => by
      unfold cellM
      cases ocl i with
      | some ci => rfl
      | none => have : ¬ akd i = 2 := by unfold akd; rw [if_neg hi]; (repeat' split) <;> decide
                simp [this])] at hP1 hD1
  exact K ad H1 locs1 lsa hP1 hD1 hS1 ha hl
theorem x_gets (C : OK E own cc nL ret D MC MS) {idx j : Nat} (hj : j < 3) (hw : Cond.fieldLink own idx RX6 (stArr j) "[I" ∈ U0) (d : decode cc pc = .ok (.getstatic idx, 3)) (K : ∀ t, va_T .int t 8 (fun k => .int (stVal j k)) (eF E) (eS E) (eS E).heap → Wx E (pc + 3) ls (aQ t :: st) V L N I a b) : Wx E pc ls st V L N I a b := by
  intro ad H locs lsa hP hD hS ha hl
  obtain ⟨t, h1, h2⟩ := C.2.2.2.2.2.2.2.1.2.2 j hj
  exact va_gets C.1 C.2.1 h1 hS C.2.2.2.1 (C.2.2.2.2.1 _ hw) (fun x h => h) d (K t h2 ad H locs lsa hP hD hS ha hl)
theorem x_tld (C : OK E own cc nL ret D MC MS) {j t i : Nat} (h : va_T .int t 8 (fun k => .int (stVal j k)) (eF E) (eS E) (eS E).heap) (d : decode cc pc = .ok (.iaload, 1)) (hi : i < 8) (K : Wx E (pc + 1) ls (aI (stVal j i) :: st) V L N I a b) : Wx E pc ls (aI (nI i) :: aQ t :: st) V L N I a b := by
  intro ad H locs lsa hP hD hS ha hl
  exact va_ti C.1 C.2.1 h hS (vp_in_nI hi (by decide)) (v := .int (stVal j i)) (by rw [nI_clamp (by omega)]) d (K ad H locs lsa hP hD hS ha hl)
theorem x_ifnonnull (C : OK E own cc nL ret D MC MS) {o : Nat} {off : Int} {tgt : Nat} (d : decode cc pc = .ok (.ifnonnull off, 3)) (ht : (pc : Int) + off = (tgt : Int)) (K : Wx E tgt ls st V L N I a b) : Wx E pc ls (aR o :: st) V L N I a b := by
  intro ad H locs lsa hP hD hS ha hl
  exact lv_ifnonnull C.1 C.2.1 d ht (K ad H locs lsa hP hD hS ha hl)
theorem x_ifnull (C : OK E own cc nL ret D MC MS) {o : Nat} {off : Int} (d : decode cc pc = .ok (.ifnull off, 3)) (K : Wx E (pc + 3) ls st V L N I a b) : Wx E pc ls (aR o :: st) V L N I a b := by
  intro ad H locs lsa hP hD hS ha hl
  exact lv_ifnull C.1 C.2.1 d (K ad H locs lsa hP hD hS ha hl)
theorem x_ifnonnullN (C : OK E own cc nL ret D MC MS) {off : Int} (d : decode cc pc = .ok (.ifnonnull off, 3)) (K : Wx E (pc + 3) ls st V L N I a b) : Wx E pc ls (.inl .null :: st) V L N I a b := by
  intro ad H locs lsa hP hD hS ha hl
  exact lv_ifnonnullN C.1 C.2.1 d (K ad H locs lsa hP hD hS ha hl)
theorem x_ifnullN (C : OK E own cc nL ret D MC MS) {off : Int} {tgt : Nat} (d : decode cc pc = .ok (.ifnull off, 3)) (ht : (pc : Int) + off = (tgt : Int)) (K : Wx E tgt ls st V L N I a b) : Wx E pc ls (.inl .null :: st) V L N I a b := by
  intro ad H locs lsa hP hD hS ha hl
  exact lv_ifnullN C.1 C.2.1 d ht (K ad H locs lsa hP hD hS ha hl)
end
end
section
def entA : List AV → zLS
  | [] => []
  | v :: r => if isW v = true then some v :: none :: entA r else some v :: entA r
def entL (args : List AV) (n : Nat) : zLS := entA args ++ List.replicate (n - (entA args).length) none
theorem entA_len {ad : Nat → Nat} : ∀ args : List AV, (lg_sl (args.map (en ad))).length = (entA args).length
  | [] => rfl
  | v :: r => by
    have ih := entA_len (ad := ad) r
    simp only [lg_sl, List.map_cons, List.flatMap_cons, entA] at ih ⊢
    by_cases h : isW v = true
    · rw [if_pos (isW_cat.mpr h), if_pos h]
      simp only [List.length_append, List.length_cons, List.length_nil, ih]
      omega
    · rw [if_neg (fun q => h (isW_cat.mp q)), if_neg h]
      simp only [List.length_append, List.length_cons, List.length_nil, ih]
      omega
theorem entA_mem {ad : Nat → Nat} : ∀ (args : List AV) (i k : Nat) (v : AV), (entA args)[k]? = some (some v) → (i + k, en ad v) ∈ lv_args i (args.map (en ad))
  | [], i, k, v, h => by simp [entA] at h
  | u :: r, i, k, v, h => by
    have ih := entA_mem (ad := ad) r
    simp only [entA] at h
    simp only [List.map_cons, lv_args]
    by_cases hw : isW u = true
    · rw [if_pos hw] at h
      rw [if_pos (isW_cat.mpr hw)]
      match k, h with
      | 0, h => simp at h; subst h; simp
      | 1, h => simp at h
      | k + 2, h =>
        have := ih (i + 2) k v (by simpa using h)
        rw [show i + (k + 2) = i + 2 + k by omega]
        exact List.mem_cons_of_mem _ this
    · rw [if_neg hw] at h
      rw [if_neg (fun q => hw (isW_cat.mp q))]
      match k, h with
      | 0, h => simp at h; subst h; simp
      | k + 1, h =>
        have := ih (i + 1) k v (by simpa using h)
        rw [show i + (k + 1) = i + 1 + k by omega]
        exact List.mem_cons_of_mem _ this
theorem entL_get {args : List AV} {n k : Nat} {v : AV} (h : (entL args n)[k]? = some (some v)) : (entA args)[k]? = some (some v) := by
  unfold entL at h
  by_cases hk : k < (entA args).length
  · rwa [List.getElem?_append_left hk] at h
  · rw [List.getElem?_append_right (by omega)] at h
    obtain ⟨h1, h2⟩ := List.getElem?_eq_some_iff.mp h
    rw [List.getElem_replicate] at h2
    cases h2
/-- how the method's own end is owed -/
def HQ (E : EE) (I0 : List Nat) (Post : PP) (mc ms : Nat) : Prop := eQ E = vx_MQ (eB E) (RetM (eF E) (eD E) (eK E) (eA E) I0 Post) (ThrM (eF E) (eD E) (eK E) (eA E) I0 Post) (eX E) (eS E) mc ms (eF E) ∧ eI E = (fun i => dyn i = false ∨ i ∈ I0)
theorem run_of {l : Launch} {D mc ms : Nat} {y : MethodName} {cc : ByteArray} {maxL : Nat} {ret : Option FieldType} {args : List AV} {V : VV} {L : LL} {N : NN} {I : List Nat} {Post : PP} (own : String) (hy : plainName y.cls = true) (ho : y.cls = own) (hlen : (entA args).length ≤ maxL)
    (body : ∀ E : EE, eL E = l → OK E own cc maxL ret D mc ms → HQ E I Post mc ms → Wx E 0 (entL args maxL) [] V L N I 0 0) : Runs l D mc ms y (Cond.code y cc maxL ret) args V L N I Post := by
  intro hl d ca ad sz
  refine vx_ofW hy rfl ?_
  intro p e s m a below meth c s1 B hml hno hv
  obtain ⟨rfl, hsz, hP, hK, hD0, hSt, hG⟩ := hv
  subst hsz
  have hts := atoms_spec (ws := Cond.code y cc maxL ret :: U0) B.pre
  have hown : s.vm.findClass y.cls = some m.cls := findClass_of_methodNamed B.named
  have hlv := lv_entry (args.map (en ad)) (n := maxL) (by rw [entA_len]; exact hlen)
  rw [lg_entry_eq]
  have key := body (p, l, e, rmD D mc ms, s, m, (args.map (en ad)).toArray, below, meth, c, vx_MQ below (RetM (va_A (wsM ca ad V L N I) s.heap.size) d ca ad I Post) (ThrM (va_A (wsM ca ad V L N I) s.heap.size) d ca ad I Post) (args.map (en ad)).toArray s mc ms (va_A (wsM ca ad V L N I) s.heap.size), d, ca, ad, va_A (wsM ca ad V L N I) s.heap.size, maxL, fun i => dyn i = false ∨ i ∈ I) rfl
    ⟨B.exec, B.bytes, hml, ho ▸ hown, fun w hw => hts w (List.mem_cons_of_mem _ hw), hK, fun q hq => Or.inr hq, hSt, hG, B.notSynchronized, hl, Nat.le_refl _, Nat.le_refl _, Nat.le_refl _, Nat.le_refl _, rfl, B.returns⟩ ⟨rfl, rfl⟩
  refine key ad s.heap [] _ hP hD0.self va_S.rf ⟨fun i _ => rfl, fun i h => h⟩ ⟨hlv.1, hlv.2.1, fun k v hk => ?_⟩
  have := hlv.2.2 _ (entA_mem (ad := ad) args 0 k v (entL_get hk))
  simpa using this
section
variable {E : EE} {own : String} {cc : ByteArray} {ret : Option FieldType} {nL D MC MS pc : Nat} {ls : zLS} {st : List AV} {V : VV} {L : LL} {N : NN} {I I0 : List Nat} {a b mc ms : Nat} {Post : PP}
theorem OK.lk (C : OK E own cc nL ret D MC MS) : (eT E).locks = false := C.2.2.2.2.2.2.2.2.2.1
theorem x_iret (C : OK E own cc nL (some .int) D MC MS) (hQ : HQ E I0 Post mc ms) {v : Int32} (d : decode cc pc = .ok (.ireturn, 1)) (h : Post (.inl (some (aI v))) V L N I) (ha : a ≤ mc) (hb : b ≤ ms) : Wx E pc ls [aI v] V L N I a b := by
  intro ad H locs lsa hP hD hS hA hl
  rw [hQ.1]; rw [hQ.2] at hA
  refine W.widen ha hb (vx_ret ?_)
  exact W.iret C.1 C.2.1 C.rt (fun t ht hW => ⟨⟨some (aI v), ad, rfl, V, L, N, I, h, ⟨hA.1, fun i hi => hA.2 i (Or.inr hi)⟩, ht ▸ hP, hD⟩, hS.F ht⟩) (fun q hq => hS.2.2 q hq) d C.lk
theorem x_zret (C : OK E own cc nL (some .boolean) D MC MS) (hQ : HQ E I0 Post mc ms) {v : Int32} (d : decode cc pc = .ok (.ireturn, 1)) (hv : v = 0 ∨ v = 1) (h : Post (.inl (some (aI v))) V L N I) (ha : a ≤ mc) (hb : b ≤ ms) : Wx E pc ls [aI v] V L N I a b := by
  intro ad H locs lsa hP hD hS hA hl
  rw [hQ.1]; rw [hQ.2] at hA
  refine W.widen ha hb (vx_ret ?_)
  exact W.zret C.1 C.2.1 C.rt (by rcases hv with rfl | rfl <;> rfl) (fun t ht hW => ⟨⟨some (aI v), ad, rfl, V, L, N, I, h, ⟨hA.1, fun i hi => hA.2 i (Or.inr hi)⟩, ht ▸ hP, hD⟩, hS.F ht⟩) (fun q hq => hS.2.2 q hq) d C.lk
theorem x_lret (C : OK E own cc nL (some .long) D MC MS) (hQ : HQ E I0 Post mc ms) {v : Int64} (d : decode cc pc = .ok (.lreturn, 1)) (h : Post (.inl (some (aL v))) V L N I) (ha : a ≤ mc) (hb : b ≤ ms) : Wx E pc ls [aL v] V L N I a b := by
  intro ad H locs lsa hP hD hS hA hl
  rw [hQ.1]; rw [hQ.2] at hA
  refine W.widen ha hb (vx_ret ?_)
  exact W.lret C.1 C.2.1 C.rt (fun t ht hW => ⟨⟨some (aL v), ad, rfl, V, L, N, I, h, ⟨hA.1, fun i hi => hA.2 i (Or.inr hi)⟩, ht ▸ hP, hD⟩, hS.F ht⟩) (fun q hq => hS.2.2 q hq) d C.lk
theorem x_dret (C : OK E own cc nL (some .double) D MC MS) (hQ : HQ E I0 Post mc ms) {v : UInt64} (d : decode cc pc = .ok (.dreturn, 1)) (h : Post (.inl (some (aD v))) V L N I) (ha : a ≤ mc) (hb : b ≤ ms) : Wx E pc ls [aD v] V L N I a b := by
  intro ad H locs lsa hP hD hS hA hl
  rw [hQ.1]; rw [hQ.2] at hA
  refine W.widen ha hb (vx_ret ?_)
  exact W.dret C.1 C.2.1 C.rt (fun t ht hW => ⟨⟨some (aD v), ad, rfl, V, L, N, I, h, ⟨hA.1, fun i hi => hA.2 i (Or.inr hi)⟩, ht ▸ hP, hD⟩, hS.F ht⟩) (fun q hq => hS.2.2 q hq) d C.lk
theorem x_vret (C : OK E own cc nL none D MC MS) (hQ : HQ E I0 Post mc ms) (d : decode cc pc = .ok (.return_, 1)) (h : Post (.inl none) V L N I) (ha : a ≤ mc) (hb : b ≤ ms) : Wx E pc ls [] V L N I a b := by
  intro ad H locs lsa hP hD hS hA hl
  rw [hQ.1]; rw [hQ.2] at hA
  refine W.widen ha hb (vx_ret ?_)
  exact W.vret C.1 C.2.1 C.rt (fun t ht hW => ⟨⟨none, ad, rfl, V, L, N, I, h, ⟨hA.1, fun i hi => hA.2 i (Or.inr hi)⟩, ht ▸ hP, hD⟩, hS.F ht⟩) (fun q hq => hS.2.2 q hq) d C.lk
end
end

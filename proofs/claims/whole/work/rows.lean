section
-- ===== PART A: goes FIRST, ahead of the names: the tables' words, and 'selects' of the private methods out of them =====
/-- a private method of a class that the tables say can be made, by its rows of tables_1 -/
def lw_okq (q : MethodName × Nat) : Prop := (q.1.cls ≠ "java/lang/invoke/MethodHandle" ∧ q.1.cls ≠ "java/lang/invoke/VarHandle") ∧ Cond.instantiable q.1.cls q.2 ∈ tables_1 ∧ Cond.privateMethod q.1 ∈ tables_1 ∧ Cond.instanceMethod q.1 ∈ tables_1
theorem lw_p0 : lw_okq (⟨"FiveStars", "isThing", "(I)Z"⟩, 10) := ⟨⟨by decide +kernel, by decide +kernel⟩, List.mem_of_getElem? (i := 22) (by decide +kernel), List.mem_of_getElem? (i := 283) (by decide +kernel), List.mem_of_getElem? (i := 284) (by decide +kernel)⟩
theorem lw_p1 : lw_okq (⟨"FiveStars$Room", "lawOf", "(I)LFiveStars$Text;"⟩, 12) := ⟨⟨by decide +kernel, by decide +kernel⟩, List.mem_of_getElem? (i := 30) (by decide +kernel), List.mem_of_getElem? (i := 295) (by decide +kernel), List.mem_of_getElem? (i := 296) (by decide +kernel)⟩
theorem lw_p2 : lw_okq (⟨"FiveStars$Words", "allStarsOf", "(I)I"⟩, 6) := ⟨⟨by decide +kernel, by decide +kernel⟩, List.mem_of_getElem? (i := 36) (by decide +kernel), List.mem_of_getElem? (i := 309) (by decide +kernel), List.mem_of_getElem? (i := 310) (by decide +kernel)⟩
theorem lw_p3 : lw_okq (⟨"FiveStars", "isPair", "(I)Z"⟩, 10) := ⟨⟨by decide +kernel, by decide +kernel⟩, List.mem_of_getElem? (i := 22) (by decide +kernel), List.mem_of_getElem? (i := 389) (by decide +kernel), List.mem_of_getElem? (i := 390) (by decide +kernel)⟩
theorem lw_p4 : lw_okq (⟨"FiveStars", "isWord", "(I)Z"⟩, 10) := ⟨⟨by decide +kernel, by decide +kernel⟩, List.mem_of_getElem? (i := 22) (by decide +kernel), List.mem_of_getElem? (i := 408) (by decide +kernel), List.mem_of_getElem? (i := 409) (by decide +kernel)⟩
theorem lw_p5 : lw_okq (⟨"FiveStars$Words", "move", "(II)V"⟩, 6) := ⟨⟨by decide +kernel, by decide +kernel⟩, List.mem_of_getElem? (i := 36) (by decide +kernel), List.mem_of_getElem? (i := 449) (by decide +kernel), List.mem_of_getElem? (i := 450) (by decide +kernel)⟩
theorem lw_p6 : lw_okq (⟨"FiveStars$Words", "areAlike", "(III)Z"⟩, 6) := ⟨⟨by decide +kernel, by decide +kernel⟩, List.mem_of_getElem? (i := 36) (by decide +kernel), List.mem_of_getElem? (i := 486) (by decide +kernel), List.mem_of_getElem? (i := 487) (by decide +kernel)⟩
theorem lw_p7 : lw_okq (⟨"FiveStars$Groups", "fillNear", "(LFiveStars$Room;II)V"⟩, 1) := ⟨⟨by decide +kernel, by decide +kernel⟩, List.mem_of_getElem? (i := 125) (by decide +kernel), List.mem_of_getElem? (i := 507) (by decide +kernel), List.mem_of_getElem? (i := 508) (by decide +kernel)⟩
theorem lw_p8 : lw_okq (⟨"FiveStars$Groups", "isGroup", "(II)Z"⟩, 1) := ⟨⟨by decide +kernel, by decide +kernel⟩, List.mem_of_getElem? (i := 125) (by decide +kernel), List.mem_of_getElem? (i := 513) (by decide +kernel), List.mem_of_getElem? (i := 514) (by decide +kernel)⟩
theorem lw_p9 : lw_okq (⟨"FiveStars$Room", "draw", "()I"⟩, 12) := ⟨⟨by decide +kernel, by decide +kernel⟩, List.mem_of_getElem? (i := 30) (by decide +kernel), List.mem_of_getElem? (i := 592) (by decide +kernel), List.mem_of_getElem? (i := 593) (by decide +kernel)⟩
theorem lw_p10 : lw_okq (⟨"FiveStars$Reader", "step", "()V"⟩, 9) := ⟨⟨by decide +kernel, by decide +kernel⟩, List.mem_of_getElem? (i := 152) (by decide +kernel), List.mem_of_getElem? (i := 636) (by decide +kernel), List.mem_of_getElem? (i := 637) (by decide +kernel)⟩
theorem lw_p11 : lw_okq (⟨"FiveStars$Reader", "sortAt", "(I)I"⟩, 9) := ⟨⟨by decide +kernel, by decide +kernel⟩, List.mem_of_getElem? (i := 152) (by decide +kernel), List.mem_of_getElem? (i := 640) (by decide +kernel), List.mem_of_getElem? (i := 641) (by decide +kernel)⟩
theorem lw_p12 : lw_okq (⟨"FiveStars$Reader", "keyword", "()I"⟩, 9) := ⟨⟨by decide +kernel, by decide +kernel⟩, List.mem_of_getElem? (i := 152) (by decide +kernel), List.mem_of_getElem? (i := 644) (by decide +kernel), List.mem_of_getElem? (i := 645) (by decide +kernel)⟩
theorem lw_p13 : lw_okq (⟨"FiveStars$Reader", "isNext", "(Ljava/lang/String;)Z"⟩, 9) := ⟨⟨by decide +kernel, by decide +kernel⟩, List.mem_of_getElem? (i := 152) (by decide +kernel), List.mem_of_getElem? (i := 654) (by decide +kernel), List.mem_of_getElem? (i := 655) (by decide +kernel)⟩
theorem lw_p14 : lw_okq (⟨"FiveStars$Reader", "level", "(III)V"⟩, 9) := ⟨⟨by decide +kernel, by decide +kernel⟩, List.mem_of_getElem? (i := 152) (by decide +kernel), List.mem_of_getElem? (i := 706) (by decide +kernel), List.mem_of_getElem? (i := 707) (by decide +kernel)⟩
theorem lw_p15 : lw_okq (⟨"FiveStars$Reader", "piece", "(II)V"⟩, 9) := ⟨⟨by decide +kernel, by decide +kernel⟩, List.mem_of_getElem? (i := 152) (by decide +kernel), List.mem_of_getElem? (i := 710) (by decide +kernel), List.mem_of_getElem? (i := 711) (by decide +kernel)⟩
def lw_privs_1 : List (MethodName × Nat) := [(⟨"FiveStars", "isThing", "(I)Z"⟩, 10), (⟨"FiveStars$Room", "lawOf", "(I)LFiveStars$Text;"⟩, 12), (⟨"FiveStars$Words", "allStarsOf", "(I)I"⟩, 6), (⟨"FiveStars", "isPair", "(I)Z"⟩, 10), (⟨"FiveStars", "isWord", "(I)Z"⟩, 10), (⟨"FiveStars$Words", "move", "(II)V"⟩, 6), (⟨"FiveStars$Words", "areAlike", "(III)Z"⟩, 6), (⟨"FiveStars$Groups", "fillNear", "(LFiveStars$Room;II)V"⟩, 1), (⟨"FiveStars$Groups", "isGroup", "(II)Z"⟩, 1), (⟨"FiveStars$Room", "draw", "()I"⟩, 12), (⟨"FiveStars$Reader", "step", "()V"⟩, 9), (⟨"FiveStars$Reader", "sortAt", "(I)I"⟩, 9), (⟨"FiveStars$Reader", "keyword", "()I"⟩, 9), (⟨"FiveStars$Reader", "isNext", "(Ljava/lang/String;)Z"⟩, 9), (⟨"FiveStars$Reader", "level", "(III)V"⟩, 9), (⟨"FiveStars$Reader", "piece", "(II)V"⟩, 9)]
theorem lw_r1 : ∀ q ∈ lw_privs_1, lw_okq q := List.forall_mem_cons.mpr ⟨lw_p0, List.forall_mem_cons.mpr ⟨lw_p1, List.forall_mem_cons.mpr ⟨lw_p2, List.forall_mem_cons.mpr ⟨lw_p3, List.forall_mem_cons.mpr ⟨lw_p4, List.forall_mem_cons.mpr ⟨lw_p5, List.forall_mem_cons.mpr ⟨lw_p6, List.forall_mem_cons.mpr ⟨lw_p7, List.forall_mem_cons.mpr ⟨lw_p8, List.forall_mem_cons.mpr ⟨lw_p9, List.forall_mem_cons.mpr ⟨lw_p10, List.forall_mem_cons.mpr ⟨lw_p11, List.forall_mem_cons.mpr ⟨lw_p12, List.forall_mem_cons.mpr ⟨lw_p13, List.forall_mem_cons.mpr ⟨lw_p14, List.forall_mem_cons.mpr ⟨lw_p15, fun _ h => absurd h List.not_mem_nil⟩⟩⟩⟩⟩⟩⟩⟩⟩⟩⟩⟩⟩⟩⟩⟩
theorem lw_p16 : lw_okq (⟨"FiveStars$Reader", "number", "()I"⟩, 9) := ⟨⟨by decide +kernel, by decide +kernel⟩, List.mem_of_getElem? (i := 152) (by decide +kernel), List.mem_of_getElem? (i := 714) (by decide +kernel), List.mem_of_getElem? (i := 715) (by decide +kernel)⟩
theorem lw_p17 : lw_okq (⟨"FiveStars$Reader", "leaf", "(I)V"⟩, 9) := ⟨⟨by decide +kernel, by decide +kernel⟩, List.mem_of_getElem? (i := 152) (by decide +kernel), List.mem_of_getElem? (i := 718) (by decide +kernel), List.mem_of_getElem? (i := 719) (by decide +kernel)⟩
theorem lw_p18 : lw_okq (⟨"FiveStars$Reader", "put", "(I)V"⟩, 9) := ⟨⟨by decide +kernel, by decide +kernel⟩, List.mem_of_getElem? (i := 152) (by decide +kernel), List.mem_of_getElem? (i := 722) (by decide +kernel), List.mem_of_getElem? (i := 723) (by decide +kernel)⟩
theorem lw_p19 : lw_okq (⟨"FiveStars$Reader", "nameOfNext", "()I"⟩, 9) := ⟨⟨by decide +kernel, by decide +kernel⟩, List.mem_of_getElem? (i := 152) (by decide +kernel), List.mem_of_getElem? (i := 726) (by decide +kernel), List.mem_of_getElem? (i := 727) (by decide +kernel)⟩
theorem lw_p20 : lw_okq (⟨"FiveStars$Reader", "isMark", "(C)Z"⟩, 9) := ⟨⟨by decide +kernel, by decide +kernel⟩, List.mem_of_getElem? (i := 152) (by decide +kernel), List.mem_of_getElem? (i := 791) (by decide +kernel), List.mem_of_getElem? (i := 792) (by decide +kernel)⟩
theorem lw_p21 : lw_okq (⟨"FiveStars$Reader", "close", "()V"⟩, 9) := ⟨⟨by decide +kernel, by decide +kernel⟩, List.mem_of_getElem? (i := 152) (by decide +kernel), List.mem_of_getElem? (i := 795) (by decide +kernel), List.mem_of_getElem? (i := 796) (by decide +kernel)⟩
theorem lw_p22 : lw_okq (⟨"FiveStars$Reader", "levelOfNext", "()I"⟩, 9) := ⟨⟨by decide +kernel, by decide +kernel⟩, List.mem_of_getElem? (i := 152) (by decide +kernel), List.mem_of_getElem? (i := 799) (by decide +kernel), List.mem_of_getElem? (i := 800) (by decide +kernel)⟩
theorem lw_p23 : lw_okq (⟨"FiveStarsModel", "isThing", "(I)Z"⟩, 43) := ⟨⟨by decide +kernel, by decide +kernel⟩, List.mem_of_getElem? (i := 970) (by decide +kernel), List.mem_of_getElem? (i := 1120) (by decide +kernel), List.mem_of_getElem? (i := 1121) (by decide +kernel)⟩
theorem lw_p24 : lw_okq (⟨"FiveStarsModel", "wordsOf", "(II)I"⟩, 43) := ⟨⟨by decide +kernel, by decide +kernel⟩, List.mem_of_getElem? (i := 970) (by decide +kernel), List.mem_of_getElem? (i := 1124) (by decide +kernel), List.mem_of_getElem? (i := 1125) (by decide +kernel)⟩
theorem lw_p25 : lw_okq (⟨"FiveStarsModel", "of", "(II)I"⟩, 43) := ⟨⟨by decide +kernel, by decide +kernel⟩, List.mem_of_getElem? (i := 970) (by decide +kernel), List.mem_of_getElem? (i := 1128) (by decide +kernel), List.mem_of_getElem? (i := 1129) (by decide +kernel)⟩
theorem lw_p26 : lw_okq (⟨"FiveStarsModel", "placeOf", "(I)I"⟩, 43) := ⟨⟨by decide +kernel, by decide +kernel⟩, List.mem_of_getElem? (i := 970) (by decide +kernel), List.mem_of_getElem? (i := 1132) (by decide +kernel), List.mem_of_getElem? (i := 1133) (by decide +kernel)⟩
theorem lw_p27 : lw_okq (⟨"FiveStarsModel", "shows", "()V"⟩, 43) := ⟨⟨by decide +kernel, by decide +kernel⟩, List.mem_of_getElem? (i := 970) (by decide +kernel), List.mem_of_getElem? (i := 1136) (by decide +kernel), List.mem_of_getElem? (i := 1137) (by decide +kernel)⟩
theorem lw_p28 : lw_okq (⟨"FiveStarsModel", "latest", "(I)I"⟩, 43) := ⟨⟨by decide +kernel, by decide +kernel⟩, List.mem_of_getElem? (i := 970) (by decide +kernel), List.mem_of_getElem? (i := 1140) (by decide +kernel), List.mem_of_getElem? (i := 1141) (by decide +kernel)⟩
theorem lw_p29 : lw_okq (⟨"FiveStarsModel", "showOf", "(II)I"⟩, 43) := ⟨⟨by decide +kernel, by decide +kernel⟩, List.mem_of_getElem? (i := 970) (by decide +kernel), List.mem_of_getElem? (i := 1144) (by decide +kernel), List.mem_of_getElem? (i := 1145) (by decide +kernel)⟩
theorem lw_p30 : lw_okq (⟨"FiveStarsModel", "meanOf", "(I)I"⟩, 43) := ⟨⟨by decide +kernel, by decide +kernel⟩, List.mem_of_getElem? (i := 970) (by decide +kernel), List.mem_of_getElem? (i := 1148) (by decide +kernel), List.mem_of_getElem? (i := 1149) (by decide +kernel)⟩
theorem lw_p31 : lw_okq (⟨"FiveStarsModel", "starsOf", "(I)I"⟩, 43) := ⟨⟨by decide +kernel, by decide +kernel⟩, List.mem_of_getElem? (i := 970) (by decide +kernel), List.mem_of_getElem? (i := 1153) (by decide +kernel), List.mem_of_getElem? (i := 1154) (by decide +kernel)⟩
def lw_privs_2 : List (MethodName × Nat) := [(⟨"FiveStars$Reader", "number", "()I"⟩, 9), (⟨"FiveStars$Reader", "leaf", "(I)V"⟩, 9), (⟨"FiveStars$Reader", "put", "(I)V"⟩, 9), (⟨"FiveStars$Reader", "nameOfNext", "()I"⟩, 9), (⟨"FiveStars$Reader", "isMark", "(C)Z"⟩, 9), (⟨"FiveStars$Reader", "close", "()V"⟩, 9), (⟨"FiveStars$Reader", "levelOfNext", "()I"⟩, 9), (⟨"FiveStarsModel", "isThing", "(I)Z"⟩, 43), (⟨"FiveStarsModel", "wordsOf", "(II)I"⟩, 43), (⟨"FiveStarsModel", "of", "(II)I"⟩, 43), (⟨"FiveStarsModel", "placeOf", "(I)I"⟩, 43), (⟨"FiveStarsModel", "shows", "()V"⟩, 43), (⟨"FiveStarsModel", "latest", "(I)I"⟩, 43), (⟨"FiveStarsModel", "showOf", "(II)I"⟩, 43), (⟨"FiveStarsModel", "meanOf", "(I)I"⟩, 43), (⟨"FiveStarsModel", "starsOf", "(I)I"⟩, 43)]
theorem lw_r2 : ∀ q ∈ lw_privs_2, lw_okq q := List.forall_mem_cons.mpr ⟨lw_p16, List.forall_mem_cons.mpr ⟨lw_p17, List.forall_mem_cons.mpr ⟨lw_p18, List.forall_mem_cons.mpr ⟨lw_p19, List.forall_mem_cons.mpr ⟨lw_p20, List.forall_mem_cons.mpr ⟨lw_p21, List.forall_mem_cons.mpr ⟨lw_p22, List.forall_mem_cons.mpr ⟨lw_p23, List.forall_mem_cons.mpr ⟨lw_p24, List.forall_mem_cons.mpr ⟨lw_p25, List.forall_mem_cons.mpr ⟨lw_p26, List.forall_mem_cons.mpr ⟨lw_p27, List.forall_mem_cons.mpr ⟨lw_p28, List.forall_mem_cons.mpr ⟨lw_p29, List.forall_mem_cons.mpr ⟨lw_p30, List.forall_mem_cons.mpr ⟨lw_p31, fun _ h => absurd h List.not_mem_nil⟩⟩⟩⟩⟩⟩⟩⟩⟩⟩⟩⟩⟩⟩⟩⟩
theorem lw_p32 : lw_okq (⟨"FiveStarsModel", "sums", "(I)V"⟩, 43) := ⟨⟨by decide +kernel, by decide +kernel⟩, List.mem_of_getElem? (i := 970) (by decide +kernel), List.mem_of_getElem? (i := 1157) (by decide +kernel), List.mem_of_getElem? (i := 1158) (by decide +kernel)⟩
theorem lw_p33 : lw_okq (⟨"FiveStarsModel", "weight", "(I)I"⟩, 43) := ⟨⟨by decide +kernel, by decide +kernel⟩, List.mem_of_getElem? (i := 970) (by decide +kernel), List.mem_of_getElem? (i := 1161) (by decide +kernel), List.mem_of_getElem? (i := 1162) (by decide +kernel)⟩
theorem lw_p34 : lw_okq (⟨"FiveStarsModel", "plainWeight", "(I)I"⟩, 43) := ⟨⟨by decide +kernel, by decide +kernel⟩, List.mem_of_getElem? (i := 970) (by decide +kernel), List.mem_of_getElem? (i := 1165) (by decide +kernel), List.mem_of_getElem? (i := 1166) (by decide +kernel)⟩
theorem lw_p35 : lw_okq (⟨"FiveStarsModel", "factsOf", "(I)V"⟩, 43) := ⟨⟨by decide +kernel, by decide +kernel⟩, List.mem_of_getElem? (i := 970) (by decide +kernel), List.mem_of_getElem? (i := 1169) (by decide +kernel), List.mem_of_getElem? (i := 1170) (by decide +kernel)⟩
theorem lw_p36 : lw_okq (⟨"FiveStarsModel", "worth", "(I)I"⟩, 43) := ⟨⟨by decide +kernel, by decide +kernel⟩, List.mem_of_getElem? (i := 970) (by decide +kernel), List.mem_of_getElem? (i := 1173) (by decide +kernel), List.mem_of_getElem? (i := 1174) (by decide +kernel)⟩
theorem lw_p37 : lw_okq (⟨"FiveStarsModel", "aheadOf", "(I)I"⟩, 43) := ⟨⟨by decide +kernel, by decide +kernel⟩, List.mem_of_getElem? (i := 970) (by decide +kernel), List.mem_of_getElem? (i := 1186) (by decide +kernel), List.mem_of_getElem? (i := 1187) (by decide +kernel)⟩
theorem lw_p38 : lw_okq (⟨"FiveStarsModel", "isName", "(I)Z"⟩, 43) := ⟨⟨by decide +kernel, by decide +kernel⟩, List.mem_of_getElem? (i := 970) (by decide +kernel), List.mem_of_getElem? (i := 1202) (by decide +kernel), List.mem_of_getElem? (i := 1203) (by decide +kernel)⟩
theorem lw_p39 : lw_okq (⟨"FiveStarsModel", "isOf", "(I)Z"⟩, 43) := ⟨⟨by decide +kernel, by decide +kernel⟩, List.mem_of_getElem? (i := 970) (by decide +kernel), List.mem_of_getElem? (i := 1210) (by decide +kernel), List.mem_of_getElem? (i := 1211) (by decide +kernel)⟩
theorem lw_p40 : lw_okq (⟨"FiveStarsModel", "adds", "(IIIII)V"⟩, 43) := ⟨⟨by decide +kernel, by decide +kernel⟩, List.mem_of_getElem? (i := 970) (by decide +kernel), List.mem_of_getElem? (i := 1217) (by decide +kernel), List.mem_of_getElem? (i := 1218) (by decide +kernel)⟩
theorem lw_p41 : lw_okq (⟨"FiveStarsModel", "isWord", "(I)Z"⟩, 43) := ⟨⟨by decide +kernel, by decide +kernel⟩, List.mem_of_getElem? (i := 970) (by decide +kernel), List.mem_of_getElem? (i := 1225) (by decide +kernel), List.mem_of_getElem? (i := 1226) (by decide +kernel)⟩
theorem lw_p42 : lw_okq (⟨"FiveStarsModel", "sign", "(I)I"⟩, 43) := ⟨⟨by decide +kernel, by decide +kernel⟩, List.mem_of_getElem? (i := 970) (by decide +kernel), List.mem_of_getElem? (i := 1229) (by decide +kernel), List.mem_of_getElem? (i := 1230) (by decide +kernel)⟩
theorem lw_p43 : lw_okq (⟨"FiveStarsModel", "becomes", "(III)I"⟩, 43) := ⟨⟨by decide +kernel, by decide +kernel⟩, List.mem_of_getElem? (i := 970) (by decide +kernel), List.mem_of_getElem? (i := 1251) (by decide +kernel), List.mem_of_getElem? (i := 1252) (by decide +kernel)⟩
theorem lw_p44 : lw_okq (⟨"FiveStarsModel", "goes", "(I)V"⟩, 43) := ⟨⟨by decide +kernel, by decide +kernel⟩, List.mem_of_getElem? (i := 970) (by decide +kernel), List.mem_of_getElem? (i := 1263) (by decide +kernel), List.mem_of_getElem? (i := 1264) (by decide +kernel)⟩
theorem lw_p45 : lw_okq (⟨"FiveStarsModel", "spanOf", "(IZ)I"⟩, 43) := ⟨⟨by decide +kernel, by decide +kernel⟩, List.mem_of_getElem? (i := 970) (by decide +kernel), List.mem_of_getElem? (i := 1271) (by decide +kernel), List.mem_of_getElem? (i := 1272) (by decide +kernel)⟩
theorem lw_p46 : lw_okq (⟨"FiveStarsModel", "starWorth", "(I)I"⟩, 43) := ⟨⟨by decide +kernel, by decide +kernel⟩, List.mem_of_getElem? (i := 970) (by decide +kernel), List.mem_of_getElem? (i := 1275) (by decide +kernel), List.mem_of_getElem? (i := 1276) (by decide +kernel)⟩
theorem lw_p47 : lw_okq (⟨"FiveStarsModel", "shelfAt", "(I)I"⟩, 43) := ⟨⟨by decide +kernel, by decide +kernel⟩, List.mem_of_getElem? (i := 970) (by decide +kernel), List.mem_of_getElem? (i := 1283) (by decide +kernel), List.mem_of_getElem? (i := 1284) (by decide +kernel)⟩
def lw_privs_3 : List (MethodName × Nat) := [(⟨"FiveStarsModel", "sums", "(I)V"⟩, 43), (⟨"FiveStarsModel", "weight", "(I)I"⟩, 43), (⟨"FiveStarsModel", "plainWeight", "(I)I"⟩, 43), (⟨"FiveStarsModel", "factsOf", "(I)V"⟩, 43), (⟨"FiveStarsModel", "worth", "(I)I"⟩, 43), (⟨"FiveStarsModel", "aheadOf", "(I)I"⟩, 43), (⟨"FiveStarsModel", "isName", "(I)Z"⟩, 43), (⟨"FiveStarsModel", "isOf", "(I)Z"⟩, 43), (⟨"FiveStarsModel", "adds", "(IIIII)V"⟩, 43), (⟨"FiveStarsModel", "isWord", "(I)Z"⟩, 43), (⟨"FiveStarsModel", "sign", "(I)I"⟩, 43), (⟨"FiveStarsModel", "becomes", "(III)I"⟩, 43), (⟨"FiveStarsModel", "goes", "(I)V"⟩, 43), (⟨"FiveStarsModel", "spanOf", "(IZ)I"⟩, 43), (⟨"FiveStarsModel", "starWorth", "(I)I"⟩, 43), (⟨"FiveStarsModel", "shelfAt", "(I)I"⟩, 43)]
theorem lw_r3 : ∀ q ∈ lw_privs_3, lw_okq q := List.forall_mem_cons.mpr ⟨lw_p32, List.forall_mem_cons.mpr ⟨lw_p33, List.forall_mem_cons.mpr ⟨lw_p34, List.forall_mem_cons.mpr ⟨lw_p35, List.forall_mem_cons.mpr ⟨lw_p36, List.forall_mem_cons.mpr ⟨lw_p37, List.forall_mem_cons.mpr ⟨lw_p38, List.forall_mem_cons.mpr ⟨lw_p39, List.forall_mem_cons.mpr ⟨lw_p40, List.forall_mem_cons.mpr ⟨lw_p41, List.forall_mem_cons.mpr ⟨lw_p42, List.forall_mem_cons.mpr ⟨lw_p43, List.forall_mem_cons.mpr ⟨lw_p44, List.forall_mem_cons.mpr ⟨lw_p45, List.forall_mem_cons.mpr ⟨lw_p46, List.forall_mem_cons.mpr ⟨lw_p47, fun _ h => absurd h List.not_mem_nil⟩⟩⟩⟩⟩⟩⟩⟩⟩⟩⟩⟩⟩⟩⟩⟩
theorem lw_p48 : lw_okq (⟨"FiveStarsModel", "alikes", "(III)I"⟩, 43) := ⟨⟨by decide +kernel, by decide +kernel⟩, List.mem_of_getElem? (i := 970) (by decide +kernel), List.mem_of_getElem? (i := 1291) (by decide +kernel), List.mem_of_getElem? (i := 1292) (by decide +kernel)⟩
theorem lw_p49 : lw_okq (⟨"FiveStarsModel", "isAlikeOf", "(IIII)Z"⟩, 43) := ⟨⟨by decide +kernel, by decide +kernel⟩, List.mem_of_getElem? (i := 970) (by decide +kernel), List.mem_of_getElem? (i := 1295) (by decide +kernel), List.mem_of_getElem? (i := 1296) (by decide +kernel)⟩
theorem lw_p50 : lw_okq (⟨"FiveStarsModel", "within", "(II)I"⟩, 43) := ⟨⟨by decide +kernel, by decide +kernel⟩, List.mem_of_getElem? (i := 970) (by decide +kernel), List.mem_of_getElem? (i := 1313) (by decide +kernel), List.mem_of_getElem? (i := 1314) (by decide +kernel)⟩
theorem lw_p51 : lw_okq (⟨"FiveStarsModel", "differ", "(II)I"⟩, 43) := ⟨⟨by decide +kernel, by decide +kernel⟩, List.mem_of_getElem? (i := 970) (by decide +kernel), List.mem_of_getElem? (i := 1321) (by decide +kernel), List.mem_of_getElem? (i := 1322) (by decide +kernel)⟩
theorem lw_p52 : lw_okq (⟨"FiveStarsModel", "counted", "(IZ)I"⟩, 43) := ⟨⟨by decide +kernel, by decide +kernel⟩, List.mem_of_getElem? (i := 970) (by decide +kernel), List.mem_of_getElem? (i := 1329) (by decide +kernel), List.mem_of_getElem? (i := 1330) (by decide +kernel)⟩
theorem lw_p53 : lw_okq (⟨"FiveStarsModel", "buys", "(I)V"⟩, 43) := ⟨⟨by decide +kernel, by decide +kernel⟩, List.mem_of_getElem? (i := 970) (by decide +kernel), List.mem_of_getElem? (i := 1346) (by decide +kernel), List.mem_of_getElem? (i := 1347) (by decide +kernel)⟩
theorem lw_p54 : lw_okq (⟨"FiveStarsModel", "draw", "()I"⟩, 43) := ⟨⟨by decide +kernel, by decide +kernel⟩, List.mem_of_getElem? (i := 970) (by decide +kernel), List.mem_of_getElem? (i := 1350) (by decide +kernel), List.mem_of_getElem? (i := 1351) (by decide +kernel)⟩
theorem lw_p55 : lw_okq (⟨"FiveStarsModel", "reads", "()V"⟩, 43) := ⟨⟨by decide +kernel, by decide +kernel⟩, List.mem_of_getElem? (i := 970) (by decide +kernel), List.mem_of_getElem? (i := 1375) (by decide +kernel), List.mem_of_getElem? (i := 1376) (by decide +kernel)⟩
theorem lw_p56 : lw_okq (⟨"FiveStarsModel", "next", "()V"⟩, 43) := ⟨⟨by decide +kernel, by decide +kernel⟩, List.mem_of_getElem? (i := 970) (by decide +kernel), List.mem_of_getElem? (i := 1379) (by decide +kernel), List.mem_of_getElem? (i := 1380) (by decide +kernel)⟩
theorem lw_p57 : lw_okq (⟨"FiveStarsModel", "byteAt", "(I)I"⟩, 43) := ⟨⟨by decide +kernel, by decide +kernel⟩, List.mem_of_getElem? (i := 970) (by decide +kernel), List.mem_of_getElem? (i := 1383) (by decide +kernel), List.mem_of_getElem? (i := 1384) (by decide +kernel)⟩
theorem lw_p58 : lw_okq (⟨"FiveStarsModel", "isKey", "(Ljava/lang/String;)Z"⟩, 43) := ⟨⟨by decide +kernel, by decide +kernel⟩, List.mem_of_getElem? (i := 970) (by decide +kernel), List.mem_of_getElem? (i := 1394) (by decide +kernel), List.mem_of_getElem? (i := 1395) (by decide +kernel)⟩
theorem lw_p59 : lw_okq (⟨"FiveStarsModel", "fails", "()V"⟩, 43) := ⟨⟨by decide +kernel, by decide +kernel⟩, List.mem_of_getElem? (i := 970) (by decide +kernel), List.mem_of_getElem? (i := 1402) (by decide +kernel), List.mem_of_getElem? (i := 1403) (by decide +kernel)⟩
theorem lw_p60 : lw_okq (⟨"FiveStarsModel", "either", "()V"⟩, 43) := ⟨⟨by decide +kernel, by decide +kernel⟩, List.mem_of_getElem? (i := 970) (by decide +kernel), List.mem_of_getElem? (i := 1406) (by decide +kernel), List.mem_of_getElem? (i := 1407) (by decide +kernel)⟩
theorem lw_p61 : lw_okq (⟨"FiveStarsModel", "both", "()V"⟩, 43) := ⟨⟨by decide +kernel, by decide +kernel⟩, List.mem_of_getElem? (i := 970) (by decide +kernel), List.mem_of_getElem? (i := 1410) (by decide +kernel), List.mem_of_getElem? (i := 1411) (by decide +kernel)⟩
theorem lw_p62 : lw_okq (⟨"FiveStarsModel", "test", "()V"⟩, 43) := ⟨⟨by decide +kernel, by decide +kernel⟩, List.mem_of_getElem? (i := 970) (by decide +kernel), List.mem_of_getElem? (i := 1414) (by decide +kernel), List.mem_of_getElem? (i := 1415) (by decide +kernel)⟩
theorem lw_p63 : lw_okq (⟨"FiveStarsModel", "sum", "()V"⟩, 43) := ⟨⟨by decide +kernel, by decide +kernel⟩, List.mem_of_getElem? (i := 970) (by decide +kernel), List.mem_of_getElem? (i := 1418) (by decide +kernel), List.mem_of_getElem? (i := 1419) (by decide +kernel)⟩
def lw_privs_4 : List (MethodName × Nat) := [(⟨"FiveStarsModel", "alikes", "(III)I"⟩, 43), (⟨"FiveStarsModel", "isAlikeOf", "(IIII)Z"⟩, 43), (⟨"FiveStarsModel", "within", "(II)I"⟩, 43), (⟨"FiveStarsModel", "differ", "(II)I"⟩, 43), (⟨"FiveStarsModel", "counted", "(IZ)I"⟩, 43), (⟨"FiveStarsModel", "buys", "(I)V"⟩, 43), (⟨"FiveStarsModel", "draw", "()I"⟩, 43), (⟨"FiveStarsModel", "reads", "()V"⟩, 43), (⟨"FiveStarsModel", "next", "()V"⟩, 43), (⟨"FiveStarsModel", "byteAt", "(I)I"⟩, 43), (⟨"FiveStarsModel", "isKey", "(Ljava/lang/String;)Z"⟩, 43), (⟨"FiveStarsModel", "fails", "()V"⟩, 43), (⟨"FiveStarsModel", "either", "()V"⟩, 43), (⟨"FiveStarsModel", "both", "()V"⟩, 43), (⟨"FiveStarsModel", "test", "()V"⟩, 43), (⟨"FiveStarsModel", "sum", "()V"⟩, 43)]
theorem lw_r4 : ∀ q ∈ lw_privs_4, lw_okq q := List.forall_mem_cons.mpr ⟨lw_p48, List.forall_mem_cons.mpr ⟨lw_p49, List.forall_mem_cons.mpr ⟨lw_p50, List.forall_mem_cons.mpr ⟨lw_p51, List.forall_mem_cons.mpr ⟨lw_p52, List.forall_mem_cons.mpr ⟨lw_p53, List.forall_mem_cons.mpr ⟨lw_p54, List.forall_mem_cons.mpr ⟨lw_p55, List.forall_mem_cons.mpr ⟨lw_p56, List.forall_mem_cons.mpr ⟨lw_p57, List.forall_mem_cons.mpr ⟨lw_p58, List.forall_mem_cons.mpr ⟨lw_p59, List.forall_mem_cons.mpr ⟨lw_p60, List.forall_mem_cons.mpr ⟨lw_p61, List.forall_mem_cons.mpr ⟨lw_p62, List.forall_mem_cons.mpr ⟨lw_p63, fun _ h => absurd h List.not_mem_nil⟩⟩⟩⟩⟩⟩⟩⟩⟩⟩⟩⟩⟩⟩⟩⟩
theorem lw_p64 : lw_okq (⟨"FiveStarsModel", "term", "()V"⟩, 43) := ⟨⟨by decide +kernel, by decide +kernel⟩, List.mem_of_getElem? (i := 970) (by decide +kernel), List.mem_of_getElem? (i := 1422) (by decide +kernel), List.mem_of_getElem? (i := 1423) (by decide +kernel)⟩
theorem lw_p65 : lw_okq (⟨"FiveStarsModel", "piece", "()V"⟩, 43) := ⟨⟨by decide +kernel, by decide +kernel⟩, List.mem_of_getElem? (i := 970) (by decide +kernel), List.mem_of_getElem? (i := 1426) (by decide +kernel), List.mem_of_getElem? (i := 1427) (by decide +kernel)⟩
theorem lw_p66 : lw_okq (⟨"FiveStarsModel", "isMark", "(I)Z"⟩, 43) := ⟨⟨by decide +kernel, by decide +kernel⟩, List.mem_of_getElem? (i := 970) (by decide +kernel), List.mem_of_getElem? (i := 1430) (by decide +kernel), List.mem_of_getElem? (i := 1431) (by decide +kernel)⟩
theorem lw_p67 : lw_okq (⟨"FiveStarsModel", "emit", "(I)V"⟩, 43) := ⟨⟨by decide +kernel, by decide +kernel⟩, List.mem_of_getElem? (i := 970) (by decide +kernel), List.mem_of_getElem? (i := 1434) (by decide +kernel), List.mem_of_getElem? (i := 1435) (by decide +kernel)⟩
theorem lw_p68 : lw_okq (⟨"FiveStarsModel", "isSignHere", "()Z"⟩, 43) := ⟨⟨by decide +kernel, by decide +kernel⟩, List.mem_of_getElem? (i := 970) (by decide +kernel), List.mem_of_getElem? (i := 1438) (by decide +kernel), List.mem_of_getElem? (i := 1439) (by decide +kernel)⟩
theorem lw_p69 : lw_okq (⟨"FiveStarsModel", "told", "(I)I"⟩, 43) := ⟨⟨by decide +kernel, by decide +kernel⟩, List.mem_of_getElem? (i := 970) (by decide +kernel), List.mem_of_getElem? (i := 1470) (by decide +kernel), List.mem_of_getElem? (i := 1471) (by decide +kernel)⟩
theorem lw_p70 : lw_okq (⟨"FiveStarsModel", "notHeld", "(II)I"⟩, 43) := ⟨⟨by decide +kernel, by decide +kernel⟩, List.mem_of_getElem? (i := 970) (by decide +kernel), List.mem_of_getElem? (i := 1493) (by decide +kernel), List.mem_of_getElem? (i := 1494) (by decide +kernel)⟩
theorem lw_p71 : lw_okq (⟨"FiveStarsModel", "rightOnes", "(III)I"⟩, 43) := ⟨⟨by decide +kernel, by decide +kernel⟩, List.mem_of_getElem? (i := 970) (by decide +kernel), List.mem_of_getElem? (i := 1516) (by decide +kernel), List.mem_of_getElem? (i := 1517) (by decide +kernel)⟩
def lw_privs_5 : List (MethodName × Nat) := [(⟨"FiveStarsModel", "term", "()V"⟩, 43), (⟨"FiveStarsModel", "piece", "()V"⟩, 43), (⟨"FiveStarsModel", "isMark", "(I)Z"⟩, 43), (⟨"FiveStarsModel", "emit", "(I)V"⟩, 43), (⟨"FiveStarsModel", "isSignHere", "()Z"⟩, 43), (⟨"FiveStarsModel", "told", "(I)I"⟩, 43), (⟨"FiveStarsModel", "notHeld", "(II)I"⟩, 43), (⟨"FiveStarsModel", "rightOnes", "(III)I"⟩, 43)]
theorem lw_r5 : ∀ q ∈ lw_privs_5, lw_okq q := List.forall_mem_cons.mpr ⟨lw_p64, List.forall_mem_cons.mpr ⟨lw_p65, List.forall_mem_cons.mpr ⟨lw_p66, List.forall_mem_cons.mpr ⟨lw_p67, List.forall_mem_cons.mpr ⟨lw_p68, List.forall_mem_cons.mpr ⟨lw_p69, List.forall_mem_cons.mpr ⟨lw_p70, List.forall_mem_cons.mpr ⟨lw_p71, fun _ h => absurd h List.not_mem_nil⟩⟩⟩⟩⟩⟩⟩⟩
def lw_privs : List (MethodName × Nat) := lw_privs_1 ++ (lw_privs_2 ++ (lw_privs_3 ++ (lw_privs_4 ++ (lw_privs_5))))
def lw_tbl : List Cond := k2_sels lw_privs ++ tables_1
theorem lw_privs_ok : ∀ q ∈ lw_privs, lw_okq q := by
  show ∀ q ∈ lw_privs_1 ++ (lw_privs_2 ++ (lw_privs_3 ++ (lw_privs_4 ++ (lw_privs_5)))), lw_okq q
  exact List.forall_mem_append.mpr ⟨lw_r1, List.forall_mem_append.mpr ⟨lw_r2, List.forall_mem_append.mpr ⟨lw_r3, List.forall_mem_append.mpr ⟨lw_r4, lw_r5⟩⟩⟩⟩
end
section
def RX0 : String := "FiveStars$Groups"
def TX0 : u_T := fun k => match k with
  | _ => ("FiveStars$Groups", "near", "[I", true)
def tyX0 : Nat → FieldType := fun k => match k with
  | _ => .array .int
abbrev wsX00 : List Cond := u_ws RX0 TX0 1
theorem nmX0 : ∀ a, a < 1 → ∀ b, b < 1 → a ≠ b → (TX0 a).2.1 ≠ (TX0 b).2.1 := by decide +kernel
theorem tyX0_ok : ∀ k, k < 1 → parseFieldDescriptor (TX0 k).2.2.1 = some (tyX0 k) := by decide +kernel
abbrev cX0_init : ByteArray := prog_2_method_1_code
def yX0_init : MethodName := ⟨RX0, "<init>", "()V"⟩
abbrev cX0_greatest : ByteArray := prog_2_method_2_code
def yX0_greatest : MethodName := ⟨RX0, "greatest", "(LFiveStars$Room;II)I"⟩
abbrev cX0_fillNear : ByteArray := prog_2_method_3_code
def yX0_fillNear : MethodName := ⟨RX0, "fillNear", "(LFiveStars$Room;II)V"⟩
abbrev cX0_isGroup : ByteArray := prog_2_method_4_code
def yX0_isGroup : MethodName := ⟨RX0, "isGroup", "(II)Z"⟩
def RX1 : String := "FiveStars$Kinds"
def TX1 : u_T := fun k => match k with
  | _ => ("", "", "", false)
def tyX1 : Nat → FieldType := fun k => match k with
  | _ => .int
abbrev wsX10 : List Cond := u_ws RX1 TX1 0
theorem nmX1 : ∀ a, a < 0 → ∀ b, b < 0 → a ≠ b → (TX1 a).2.1 ≠ (TX1 b).2.1 := by decide +kernel
theorem tyX1_ok : ∀ k, k < 0 → parseFieldDescriptor (TX1 k).2.2.1 = some (tyX1 k) := by decide +kernel
abbrev cX1_isUnder : ByteArray := prog_3_method_2_code
def yX1_isUnder : MethodName := ⟨RX1, "isUnder", "(II)Z"⟩
abbrev cX1_isTrue : ByteArray := prog_3_method_3_code
def yX1_isTrue : MethodName := ⟨RX1, "isTrue", "(I)Z"⟩
abbrev cX1_says : ByteArray := prog_3_method_4_code
def yX1_says : MethodName := ⟨RX1, "says", "(II)I"⟩
abbrev cX1_weight : ByteArray := prog_3_method_5_code
def yX1_weight : MethodName := ⟨RX1, "weight", "(III)I"⟩
def RX2 : String := "FiveStars$Reader"
def TX2 : u_T := fun k => match k with
  | 0 => ("FiveStars$Reader", "tape", "LFiveStars$Tape;", true)
  | 1 => ("FiveStars$Reader", "code", "[I", true)
  | 2 => ("FiveStars$Reader", "coded", "I", false)
  | 3 => ("FiveStars$Reader", "leaves", "I", false)
  | 4 => ("FiveStars$Reader", "key", "I", false)
  | 5 => ("FiveStars$Reader", "fault", "I", false)
  | 6 => ("FiveStars$Reader", "next", "I", false)
  | 7 => ("FiveStars$Reader", "start", "I", false)
  | _ => ("FiveStars$Reader", "end", "I", false)
def tyX2 : Nat → FieldType := fun k => match k with
  | 0 => .object "FiveStars$Tape"
  | 1 => .array .int
  | 2 => .int
  | 3 => .int
  | 4 => .int
  | 5 => .int
  | 6 => .int
  | 7 => .int
  | _ => .int
abbrev wsX20 : List Cond := u_ws RX2 TX2 9
theorem nmX2 : ∀ a, a < 9 → ∀ b, b < 9 → a ≠ b → (TX2 a).2.1 ≠ (TX2 b).2.1 := by decide +kernel
theorem tyX2_ok : ∀ k, k < 9 → parseFieldDescriptor (TX2 k).2.2.1 = some (tyX2 k) := by decide +kernel
abbrev cX2_init : ByteArray := prog_4_method_1_code
def yX2_init : MethodName := ⟨RX2, "<init>", "(LFiveStars$Tape;)V"⟩
abbrev cX2_read : ByteArray := prog_4_method_2_code
def yX2_read : MethodName := ⟨RX2, "read", "()LFiveStars$Text;"⟩
abbrev cX2_step : ByteArray := prog_4_method_3_code
def yX2_step : MethodName := ⟨RX2, "step", "()V"⟩
abbrev cX2_sortAt : ByteArray := prog_4_method_4_code
def yX2_sortAt : MethodName := ⟨RX2, "sortAt", "(I)I"⟩
abbrev cX2_keyword : ByteArray := prog_4_method_5_code
def yX2_keyword : MethodName := ⟨RX2, "keyword", "()I"⟩
abbrev cX2_isNext : ByteArray := prog_4_method_6_code
def yX2_isNext : MethodName := ⟨RX2, "isNext", "(Ljava/lang/String;)Z"⟩
abbrev cX2_level : ByteArray := prog_4_method_7_code
def yX2_level : MethodName := ⟨RX2, "level", "(III)V"⟩
abbrev cX2_levelOfNext : ByteArray := prog_4_method_8_code
def yX2_levelOfNext : MethodName := ⟨RX2, "levelOfNext", "()I"⟩
abbrev cX2_piece : ByteArray := prog_4_method_9_code
def yX2_piece : MethodName := ⟨RX2, "piece", "(II)V"⟩
abbrev cX2_close : ByteArray := prog_4_method_10_code
def yX2_close : MethodName := ⟨RX2, "close", "()V"⟩
abbrev cX2_isMark : ByteArray := prog_4_method_11_code
def yX2_isMark : MethodName := ⟨RX2, "isMark", "(C)Z"⟩
abbrev cX2_number : ByteArray := prog_4_method_12_code
def yX2_number : MethodName := ⟨RX2, "number", "()I"⟩
abbrev cX2_nameOfNext : ByteArray := prog_4_method_13_code
def yX2_nameOfNext : MethodName := ⟨RX2, "nameOfNext", "()I"⟩
abbrev cX2_leaf : ByteArray := prog_4_method_14_code
def yX2_leaf : MethodName := ⟨RX2, "leaf", "(I)V"⟩
abbrev cX2_put : ByteArray := prog_4_method_15_code
def yX2_put : MethodName := ⟨RX2, "put", "(I)V"⟩
def RX3 : String := "FiveStars$Room"
def TX3 : u_T := fun k => match k with
  | 0 => ("FiveStars$Room", "things", "I", false)
  | 1 => ("FiveStars$Room", "worth", "[I", true)
  | 2 => ("FiveStars$Room", "buyers", "[I", true)
  | 3 => ("FiveStars$Room", "names", "I", false)
  | 4 => ("FiveStars$Room", "born", "[I", true)
  | 5 => ("FiveStars$Room", "words", "LFiveStars$Words;", true)
  | 6 => ("FiveStars$Room", "texts", "I", false)
  | 7 => ("FiveStars$Room", "laws", "[LFiveStars$Text;", true)
  | 8 => ("FiveStars$Room", "counting", "[I", true)
  | 9 => ("FiveStars$Room", "z", "I", false)
  | 10 => ("FiveStars$Room", "shown", "[I", true)
  | _ => ("FiveStars$Room", "signs", "[I", true)
def tyX3 : Nat → FieldType := fun k => match k with
  | 0 => .int
  | 1 => .array .int
  | 2 => .array .int
  | 3 => .int
  | 4 => .array .int
  | 5 => .object "FiveStars$Words"
  | 6 => .int
  | 7 => .array (.object "FiveStars$Text")
  | 8 => .array .int
  | 9 => .int
  | 10 => .array .int
  | _ => .array .int
abbrev wsX30 : List Cond := u_ws RX3 TX3 12
theorem nmX3 : ∀ a, a < 12 → ∀ b, b < 12 → a ≠ b → (TX3 a).2.1 ≠ (TX3 b).2.1 := by decide +kernel
theorem tyX3_ok : ∀ k, k < 12 → parseFieldDescriptor (TX3 k).2.2.1 = some (tyX3 k) := by decide +kernel
abbrev cX3_init : ByteArray := prog_5_method_1_code
def yX3_init : MethodName := ⟨RX3, "<init>", "()V"⟩
abbrev cX3_become : ByteArray := prog_5_method_2_code
def yX3_become : MethodName := ⟨RX3, "become", "(LFiveStars$Room;)V"⟩
abbrev cX3_addThing : ByteArray := prog_5_method_3_code
def yX3_addThing : MethodName := ⟨RX3, "addThing", "(I)I"⟩
abbrev cX3_addName : ByteArray := prog_5_method_4_code
def yX3_addName : MethodName := ⟨RX3, "addName", "(I)I"⟩
abbrev cX3_addText : ByteArray := prog_5_method_5_code
def yX3_addText : MethodName := ⟨RX3, "addText", "(LFiveStars$Text;)I"⟩
abbrev cX3_lawOf : ByteArray := prog_5_method_6_code
def yX3_lawOf : MethodName := ⟨RX3, "lawOf", "(I)LFiveStars$Text;"⟩
abbrev cX3_held : ByteArray := prog_5_method_7_code
def yX3_held : MethodName := ⟨RX3, "held", "(I)I"⟩
abbrev cX3_weightOf : ByteArray := prog_5_method_8_code
def yX3_weightOf : MethodName := ⟨RX3, "weightOf", "(I)I"⟩
abbrev cX3_signOf : ByteArray := prog_5_method_9_code
def yX3_signOf : MethodName := ⟨RX3, "signOf", "(I)I"⟩
abbrev cX3_weighedOf : ByteArray := prog_5_method_10_code
def yX3_weighedOf : MethodName := ⟨RX3, "weighedOf", "(IZ)I"⟩
abbrev cX3_spanOf : ByteArray := prog_5_method_11_code
def yX3_spanOf : MethodName := ⟨RX3, "spanOf", "(IZ)I"⟩
abbrev cX3_rank : ByteArray := prog_5_method_12_code
def yX3_rank : MethodName := ⟨RX3, "rank", "()V"⟩
abbrev cX3_placeOf : ByteArray := prog_5_method_13_code
def yX3_placeOf : MethodName := ⟨RX3, "placeOf", "(I)I"⟩
abbrev cX3_atPlace : ByteArray := prog_5_method_14_code
def yX3_atPlace : MethodName := ⟨RX3, "atPlace", "(I)I"⟩
abbrev cX3_fillSigns : ByteArray := prog_5_method_15_code
def yX3_fillSigns : MethodName := ⟨RX3, "fillSigns", "()V"⟩
abbrev cX3_takenOff : ByteArray := prog_5_method_16_code
def yX3_takenOff : MethodName := ⟨RX3, "takenOff", "(IZ)I"⟩
abbrev cX3_gainOf : ByteArray := prog_5_method_17_code
def yX3_gainOf : MethodName := ⟨RX3, "gainOf", "(I)I"⟩
abbrev cX3_bestBound : ByteArray := prog_5_method_18_code
def yX3_bestBound : MethodName := ⟨RX3, "bestBound", "()I"⟩
abbrev cX3_takeOff : ByteArray := prog_5_method_19_code
def yX3_takeOff : MethodName := ⟨RX3, "takeOff", "(I)I"⟩
abbrev cX3_draw : ByteArray := prog_5_method_20_code
def yX3_draw : MethodName := ⟨RX3, "draw", "()I"⟩
abbrev cX3_buyerComes : ByteArray := prog_5_method_21_code
def yX3_buyerComes : MethodName := ⟨RX3, "buyerComes", "(I)I"⟩
def RX4 : String := "FiveStars$Sheet"
def TX4 : u_T := fun k => match k with
  | 0 => ("FiveStars$Sheet", "sort", "I", false)
  | 1 => ("FiveStars$Sheet", "size", "I", false)
  | _ => ("FiveStars$Sheet", "places", "[I", true)
def tyX4 : Nat → FieldType := fun k => match k with
  | 0 => .int
  | 1 => .int
  | _ => .array .int
abbrev wsX40 : List Cond := u_ws RX4 TX4 3
theorem nmX4 : ∀ a, a < 3 → ∀ b, b < 3 → a ≠ b → (TX4 a).2.1 ≠ (TX4 b).2.1 := by decide +kernel
theorem tyX4_ok : ∀ k, k < 3 → parseFieldDescriptor (TX4 k).2.2.1 = some (tyX4 k) := by decide +kernel
abbrev cX4_init : ByteArray := prog_6_method_1_code
def yX4_init : MethodName := ⟨RX4, "<init>", "()V"⟩
abbrev cX4_isMissing : ByteArray := prog_6_method_2_code
def yX4_isMissing : MethodName := ⟨RX4, "isMissing", "()Z"⟩
abbrev cX4_become : ByteArray := prog_6_method_3_code
def yX4_become : MethodName := ⟨RX4, "become", "(II)V"⟩
abbrev cX4_becomeLike : ByteArray := prog_6_method_4_code
def yX4_becomeLike : MethodName := ⟨RX4, "becomeLike", "(LFiveStars$Sheet;)V"⟩
abbrev cX4_has : ByteArray := prog_6_method_5_code
def yX4_has : MethodName := ⟨RX4, "has", "(I)Z"⟩
abbrev cX4_hasRun : ByteArray := prog_6_method_6_code
def yX4_hasRun : MethodName := ⟨RX4, "hasRun", "(II)Z"⟩
def RX5 : String := "FiveStars$Slot"
def TX5 : u_T := fun k => match k with
  | 0 => ("FiveStars$Slot", "holds", "I", false)
  | 1 => ("FiveStars$Slot", "kind", "I", false)
  | 2 => ("FiveStars$Slot", "says", "I", false)
  | 3 => ("FiveStars$Slot", "number", "I", false)
  | _ => ("FiveStars$Slot", "sheet", "LFiveStars$Sheet;", false)
def tyX5 : Nat → FieldType := fun k => match k with
  | 0 => .int
  | 1 => .int
  | 2 => .int
  | 3 => .int
  | _ => .object "FiveStars$Sheet"
abbrev wsX50 : List Cond := u_ws RX5 TX5 5
theorem nmX5 : ∀ a, a < 5 → ∀ b, b < 5 → a ≠ b → (TX5 a).2.1 ≠ (TX5 b).2.1 := by decide +kernel
theorem tyX5_ok : ∀ k, k < 5 → parseFieldDescriptor (TX5 k).2.2.1 = some (tyX5 k) := by decide +kernel
abbrev cX5_init : ByteArray := prog_7_method_1_code
def yX5_init : MethodName := ⟨RX5, "<init>", "()V"⟩
abbrev cX5_takeSheet : ByteArray := prog_7_method_2_code
def yX5_takeSheet : MethodName := ⟨RX5, "takeSheet", "(LFiveStars$Sheet;)V"⟩
def RX6 : String := "FiveStars$Tape"
def TX6 : u_T := fun k => match k with
  | 0 => ("FiveStars$Tape", "bytes", "[B", true)
  | _ => ("FiveStars$Tape", "size", "I", false)
def tyX6 : Nat → FieldType := fun k => match k with
  | 0 => .array .byte
  | _ => .int
abbrev wsX60 : List Cond := u_ws RX6 TX6 2
theorem nmX6 : ∀ a, a < 2 → ∀ b, b < 2 → a ≠ b → (TX6 a).2.1 ≠ (TX6 b).2.1 := by decide +kernel
theorem tyX6_ok : ∀ k, k < 2 → parseFieldDescriptor (TX6 k).2.2.1 = some (tyX6 k) := by decide +kernel
abbrev cX6_init : ByteArray := prog_8_method_1_code
def yX6_init : MethodName := ⟨RX6, "<init>", "()V"⟩
abbrev cX6_take : ByteArray := prog_8_method_2_code
def yX6_take : MethodName := ⟨RX6, "take", "(I)V"⟩
def RX7 : String := "FiveStars$Text"
def TX7 : u_T := fun k => match k with
  | 0 => ("FiveStars$Text", "key", "I", true)
  | 1 => ("FiveStars$Text", "leaves", "I", true)
  | 2 => ("FiveStars$Text", "code", "[I", true)
  | _ => ("FiveStars$Text", "stack", "[I", true)
def tyX7 : Nat → FieldType := fun k => match k with
  | 0 => .int
  | 1 => .int
  | 2 => .array .int
  | _ => .array .int
abbrev wsX70 : List Cond := u_ws RX7 TX7 4
theorem nmX7 : ∀ a, a < 4 → ∀ b, b < 4 → a ≠ b → (TX7 a).2.1 ≠ (TX7 b).2.1 := by decide +kernel
theorem tyX7_ok : ∀ k, k < 4 → parseFieldDescriptor (TX7 k).2.2.1 = some (tyX7 k) := by decide +kernel
abbrev cX7_init : ByteArray := prog_9_method_1_code
def yX7_init : MethodName := ⟨RX7, "<init>", "(II[I)V"⟩
abbrev cX7_wordOf : ByteArray := prog_9_method_2_code
def yX7_wordOf : MethodName := ⟨RX7, "wordOf", "(I)Ljava/lang/String;"⟩
abbrev cX7_namesOf : ByteArray := prog_9_method_3_code
def yX7_namesOf : MethodName := ⟨RX7, "namesOf", "(I)Ljava/lang/String;"⟩
abbrev cX7_gives : ByteArray := prog_9_method_4_code
def yX7_gives : MethodName := ⟨RX7, "gives", "(IIII)I"⟩
abbrev cX7_worked : ByteArray := prog_9_method_5_code
def yX7_worked : MethodName := ⟨RX7, "worked", "(III)I"⟩
def RX8 : String := "FiveStars$Words"
def TX8 : u_T := fun k => match k with
  | 0 => ("FiveStars$Words", "size", "I", false)
  | 1 => ("FiveStars$Words", "kind", "[I", true)
  | 2 => ("FiveStars$Words", "of", "[I", true)
  | 3 => ("FiveStars$Words", "by", "[I", true)
  | 4 => ("FiveStars$Words", "hour", "[I", true)
  | _ => ("FiveStars$Words", "stars", "[I", true)
def tyX8 : Nat → FieldType := fun k => match k with
  | 0 => .int
  | 1 => .array .int
  | 2 => .array .int
  | 3 => .array .int
  | 4 => .array .int
  | _ => .array .int
abbrev wsX80 : List Cond := u_ws RX8 TX8 6
theorem nmX8 : ∀ a, a < 6 → ∀ b, b < 6 → a ≠ b → (TX8 a).2.1 ≠ (TX8 b).2.1 := by decide +kernel
theorem tyX8_ok : ∀ k, k < 6 → parseFieldDescriptor (TX8 k).2.2.1 = some (tyX8 k) := by decide +kernel
abbrev cX8_init : ByteArray := prog_10_method_1_code
def yX8_init : MethodName := ⟨RX8, "<init>", "()V"⟩
abbrev cX8_room : ByteArray := prog_10_method_2_code
def yX8_room : MethodName := ⟨RX8, "room", "()I"⟩
abbrev cX8_write : ByteArray := prog_10_method_3_code
def yX8_write : MethodName := ⟨RX8, "write", "(IIIII)I"⟩
abbrev cX8_move : ByteArray := prog_10_method_4_code
def yX8_move : MethodName := ⟨RX8, "move", "(II)V"⟩
abbrev cX8_remove : ByteArray := prog_10_method_5_code
def yX8_remove : MethodName := ⟨RX8, "remove", "(I)V"⟩
abbrev cX8_keepBelow : ByteArray := prog_10_method_6_code
def yX8_keepBelow : MethodName := ⟨RX8, "keepBelow", "(I[I)V"⟩
abbrev cX8_become : ByteArray := prog_10_method_7_code
def yX8_become : MethodName := ⟨RX8, "become", "(LFiveStars$Words;)V"⟩
abbrev cX8_saysOf : ByteArray := prog_10_method_8_code
def yX8_saysOf : MethodName := ⟨RX8, "saysOf", "(I)I"⟩
abbrev cX8_countOf : ByteArray := prog_10_method_9_code
def yX8_countOf : MethodName := ⟨RX8, "countOf", "(I)I"⟩
abbrev cX8_countBy : ByteArray := prog_10_method_10_code
def yX8_countBy : MethodName := ⟨RX8, "countBy", "(I)I"⟩
abbrev cX8_countTrue : ByteArray := prog_10_method_11_code
def yX8_countTrue : MethodName := ⟨RX8, "countTrue", "()I"⟩
abbrev cX8_firstHourBy : ByteArray := prog_10_method_12_code
def yX8_firstHourBy : MethodName := ⟨RX8, "firstHourBy", "(I)I"⟩
abbrev cX8_allStarsOf : ByteArray := prog_10_method_13_code
def yX8_allStarsOf : MethodName := ⟨RX8, "allStarsOf", "(I)I"⟩
abbrev cX8_meanOf : ByteArray := prog_10_method_14_code
def yX8_meanOf : MethodName := ⟨RX8, "meanOf", "(I)I"⟩
abbrev cX8_meanOrZero : ByteArray := prog_10_method_15_code
def yX8_meanOrZero : MethodName := ⟨RX8, "meanOrZero", "(I)I"⟩
abbrev cX8_starWorthOf : ByteArray := prog_10_method_16_code
def yX8_starWorthOf : MethodName := ⟨RX8, "starWorthOf", "(I)I"⟩
abbrev cX8_timesAlike : ByteArray := prog_10_method_17_code
def yX8_timesAlike : MethodName := ⟨RX8, "timesAlike", "(III)I"⟩
abbrev cX8_areAlike : ByteArray := prog_10_method_18_code
def yX8_areAlike : MethodName := ⟨RX8, "areAlike", "(III)Z"⟩
abbrev cX8_countWithin : ByteArray := prog_10_method_19_code
def yX8_countWithin : MethodName := ⟨RX8, "countWithin", "(II)I"⟩
abbrev cX8_waveFrom : ByteArray := prog_10_method_20_code
def yX8_waveFrom : MethodName := ⟨RX8, "waveFrom", "(I)I"⟩
abbrev cX8_changeOf : ByteArray := prog_10_method_21_code
def yX8_changeOf : MethodName := ⟨RX8, "changeOf", "(I)I"⟩
abbrev cX8_changeBy : ByteArray := prog_10_method_22_code
def yX8_changeBy : MethodName := ⟨RX8, "changeBy", "(II)I"⟩
def RX9 : String := "FiveStars"
def TX9 : u_T := fun k => match k with
  | 0 => ("FiveStars", "room", "LFiveStars$Room;", true)
  | 1 => ("FiveStars", "groups", "LFiveStars$Groups;", true)
  | 2 => ("FiveStars", "tape", "LFiveStars$Tape;", true)
  | 3 => ("FiveStars", "reader", "LFiveStars$Reader;", true)
  | 4 => ("FiveStars", "sheets", "[LFiveStars$Sheet;", true)
  | 5 => ("FiveStars", "slots", "[LFiveStars$Slot;", true)
  | 6 => ("FiveStars", "waiting", "[I", true)
  | 7 => ("FiveStars", "waits", "I", false)
  | 8 => ("FiveStars", "image", "LFiveStars$Room;", false)
  | _ => ("FiveStars", "trial", "LFiveStars$Room;", false)
def tyX9 : Nat → FieldType := fun k => match k with
  | 0 => .object "FiveStars$Room"
  | 1 => .object "FiveStars$Groups"
  | 2 => .object "FiveStars$Tape"
  | 3 => .object "FiveStars$Reader"
  | 4 => .array (.object "FiveStars$Sheet")
  | 5 => .array (.object "FiveStars$Slot")
  | 6 => .array .int
  | 7 => .int
  | 8 => .object "FiveStars$Room"
  | _ => .object "FiveStars$Room"
abbrev wsX90 : List Cond := u_ws RX9 TX9 10
theorem nmX9 : ∀ a, a < 10 → ∀ b, b < 10 → a ≠ b → (TX9 a).2.1 ≠ (TX9 b).2.1 := by decide +kernel
theorem tyX9_ok : ∀ k, k < 10 → parseFieldDescriptor (TX9 k).2.2.1 = some (tyX9 k) := by decide +kernel
abbrev cX9_init : ByteArray := prog_1_method_1_code
def yX9_init : MethodName := ⟨RX9, "<init>", "()V"⟩
abbrev cX9_thing : ByteArray := prog_1_method_2_code
def yX9_thing : MethodName := ⟨RX9, "thing", "(I)I"⟩
abbrev cX9_thingTold : ByteArray := prog_1_method_3_code
def yX9_thingTold : MethodName := ⟨RX9, "thingTold", "(II)I"⟩
abbrev cX9_set : ByteArray := prog_1_method_4_code
def yX9_set : MethodName := ⟨RX9, "set", "(III)I"⟩
abbrev cX9_name : ByteArray := prog_1_method_5_code
def yX9_name : MethodName := ⟨RX9, "name", "(I)I"⟩
abbrev cX9_nameTold : ByteArray := prog_1_method_6_code
def yX9_nameTold : MethodName := ⟨RX9, "nameTold", "(II)I"⟩
abbrev cX9_word : ByteArray := prog_1_method_7_code
def yX9_word : MethodName := ⟨RX9, "word", "(III)I"⟩
abbrev cX9_told : ByteArray := prog_1_method_8_code
def yX9_told : MethodName := ⟨RX9, "told", "(II)I"⟩
abbrev cX9_as : ByteArray := prog_1_method_9_code
def yX9_as : MethodName := ⟨RX9, "as", "(II)I"⟩
abbrev cX9_turns : ByteArray := prog_1_method_10_code
def yX9_turns : MethodName := ⟨RX9, "turns", "(II)I"⟩
abbrev cX9_star : ByteArray := prog_1_method_11_code
def yX9_star : MethodName := ⟨RX9, "star", "(II)I"⟩
abbrev cX9_drop : ByteArray := prog_1_method_12_code
def yX9_drop : MethodName := ⟨RX9, "drop", "(I)I"⟩
abbrev cX9_mean : ByteArray := prog_1_method_13_code
def yX9_mean : MethodName := ⟨RX9, "mean", "(II)I"⟩
abbrev cX9_shelf : ByteArray := prog_1_method_14_code
def yX9_shelf : MethodName := ⟨RX9, "shelf", "(I)I"⟩
abbrev cX9_alike : ByteArray := prog_1_method_15_code
def yX9_alike : MethodName := ⟨RX9, "alike", "(III)I"⟩
abbrev cX9_group : ByteArray := prog_1_method_16_code
def yX9_group : MethodName := ⟨RX9, "group", "(II)I"⟩
abbrev cX9_wave : ByteArray := prog_1_method_17_code
def yX9_wave : MethodName := ⟨RX9, "wave", "(II)I"⟩
abbrev cX9_changed : ByteArray := prog_1_method_18_code
def yX9_changed : MethodName := ⟨RX9, "changed", "(II)I"⟩
abbrev cX9_off : ByteArray := prog_1_method_19_code
def yX9_off : MethodName := ⟨RX9, "off", "(II)I"⟩
abbrev cX9_bound : ByteArray := prog_1_method_20_code
def yX9_bound : MethodName := ⟨RX9, "bound", "(I)I"⟩
abbrev cX9_clean : ByteArray := prog_1_method_21_code
def yX9_clean : MethodName := ⟨RX9, "clean", "(I)I"⟩
abbrev cX9_buy : ByteArray := prog_1_method_22_code
def yX9_buy : MethodName := ⟨RX9, "buy", "(II)I"⟩
abbrev cX9_job : ByteArray := prog_1_method_23_code
def yX9_job : MethodName := ⟨RX9, "job", "(IIII)I"⟩
abbrev cX9_seed : ByteArray := prog_1_method_24_code
def yX9_seed : MethodName := ⟨RX9, "seed", "(I)I"⟩
abbrev cX9_feed : ByteArray := prog_1_method_25_code
def yX9_feed : MethodName := ⟨RX9, "feed", "(III)I"⟩
abbrev cX9_trim : ByteArray := prog_1_method_26_code
def yX9_trim : MethodName := ⟨RX9, "trim", "(I)I"⟩
abbrev cX9_text : ByteArray := prog_1_method_27_code
def yX9_text : MethodName := ⟨RX9, "text", "()I"⟩
abbrev cX9_textTold : ByteArray := prog_1_method_28_code
def yX9_textTold : MethodName := ⟨RX9, "textTold", "(II)I"⟩
abbrev cX9_why : ByteArray := prog_1_method_29_code
def yX9_why : MethodName := ⟨RX9, "why", "(I)I"⟩
abbrev cX9_sheet : ByteArray := prog_1_method_30_code
def yX9_sheet : MethodName := ⟨RX9, "sheet", "(III)I"⟩
abbrev cX9_mark : ByteArray := prog_1_method_31_code
def yX9_mark : MethodName := ⟨RX9, "mark", "(III)I"⟩
abbrev cX9_pour : ByteArray := prog_1_method_32_code
def yX9_pour : MethodName := ⟨RX9, "pour", "(II)I"⟩
abbrev cX9_reads : ByteArray := prog_1_method_33_code
def yX9_reads : MethodName := ⟨RX9, "reads", "(I)I"⟩
abbrev cX9_copy : ByteArray := prog_1_method_34_code
def yX9_copy : MethodName := ⟨RX9, "copy", "(IIIII)I"⟩
abbrev cX9_lay : ByteArray := prog_1_method_35_code
def yX9_lay : MethodName := ⟨RX9, "lay", "(III)I"⟩
abbrev cX9_ask : ByteArray := prog_1_method_36_code
def yX9_ask : MethodName := ⟨RX9, "ask", "(II)I"⟩
abbrev cX9_item : ByteArray := prog_1_method_37_code
def yX9_item : MethodName := ⟨RX9, "item", "(II)I"⟩
abbrev cX9_rest : ByteArray := prog_1_method_38_code
def yX9_rest : MethodName := ⟨RX9, "rest", "(II)I"⟩
abbrev cX9_tell : ByteArray := prog_1_method_39_code
def yX9_tell : MethodName := ⟨RX9, "tell", "(I)I"⟩
abbrev cX9_check : ByteArray := prog_1_method_40_code
def yX9_check : MethodName := ⟨RX9, "check", "(II)I"⟩
abbrev cX9_keep : ByteArray := prog_1_method_41_code
def yX9_keep : MethodName := ⟨RX9, "keep", "()I"⟩
abbrev cX9_back : ByteArray := prog_1_method_42_code
def yX9_back : MethodName := ⟨RX9, "back", "()I"⟩
abbrev cX9_count : ByteArray := prog_1_method_43_code
def yX9_count : MethodName := ⟨RX9, "count", "(I)I"⟩
abbrev cX9_within : ByteArray := prog_1_method_44_code
def yX9_within : MethodName := ⟨RX9, "within", "(III)Z"⟩
abbrev cX9_isHour : ByteArray := prog_1_method_45_code
def yX9_isHour : MethodName := ⟨RX9, "isHour", "(I)Z"⟩
abbrev cX9_isStars : ByteArray := prog_1_method_46_code
def yX9_isStars : MethodName := ⟨RX9, "isStars", "(I)Z"⟩
abbrev cX9_isKind : ByteArray := prog_1_method_47_code
def yX9_isKind : MethodName := ⟨RX9, "isKind", "(I)Z"⟩
abbrev cX9_isSheet : ByteArray := prog_1_method_48_code
def yX9_isSheet : MethodName := ⟨RX9, "isSheet", "(I)Z"⟩
abbrev cX9_isSlot : ByteArray := prog_1_method_49_code
def yX9_isSlot : MethodName := ⟨RX9, "isSlot", "(I)Z"⟩
abbrev cX9_isThing : ByteArray := prog_1_method_50_code
def yX9_isThing : MethodName := ⟨RX9, "isThing", "(I)Z"⟩
abbrev cX9_isWord : ByteArray := prog_1_method_51_code
def yX9_isWord : MethodName := ⟨RX9, "isWord", "(I)Z"⟩
abbrev cX9_isPair : ByteArray := prog_1_method_52_code
def yX9_isPair : MethodName := ⟨RX9, "isPair", "(I)Z"⟩
abbrev cX9_isMoment : ByteArray := prog_1_method_53_code
def yX9_isMoment : MethodName := ⟨RX9, "isMoment", "(I)Z"⟩
abbrev cX9_momentsOn : ByteArray := prog_1_method_54_code
def yX9_momentsOn : MethodName := ⟨RX9, "momentsOn", "(LFiveStars$Sheet;)I"⟩
def RX10 : String := "FiveStarsModel"
def TX10 : u_T := fun k => match k with
  | 0 => ("FiveStarsModel", "s", "[I", true)
  | 1 => ("FiveStarsModel", "kept", "[I", true)
  | 2 => ("FiveStarsModel", "aside", "[I", true)
  | 3 => ("FiveStarsModel", "isKept", "Z", false)
  | 4 => ("FiveStarsModel", "tape", "[I", true)
  | 5 => ("FiveStarsModel", "taped", "I", false)
  | 6 => ("FiveStarsModel", "waits", "[I", true)
  | 7 => ("FiveStarsModel", "waiting", "I", false)
  | 8 => ("FiveStarsModel", "many", "I", false)
  | 9 => ("FiveStarsModel", "stars", "I", false)
  | 10 => ("FiveStarsModel", "weights", "I", false)
  | 11 => ("FiveStarsModel", "weighed", "I", false)
  | 12 => ("FiveStarsModel", "good", "I", false)
  | 13 => ("FiveStarsModel", "said", "I", false)
  | 14 => ("FiveStarsModel", "shown", "[I", true)
  | 15 => ("FiveStarsModel", "friends", "[I", true)
  | 16 => ("FiveStarsModel", "isTaken", "[Z", true)
  | 17 => ("FiveStarsModel", "bought", "I", false)
  | 18 => ("FiveStarsModel", "wrote", "I", false)
  | 19 => ("FiveStarsModel", "fact", "[I", true)
  | 20 => ("FiveStarsModel", "at", "I", false)
  | 21 => ("FiveStarsModel", "begin", "I", false)
  | 22 => ("FiveStarsModel", "token", "I", false)
  | 23 => ("FiveStarsModel", "size", "I", false)
  | 24 => ("FiveStarsModel", "value", "I", false)
  | 25 => ("FiveStarsModel", "wasWord", "Z", false)
  | 26 => ("FiveStarsModel", "bad", "Z", false)
  | 27 => ("FiveStarsModel", "fault", "I", false)
  | 28 => ("FiveStarsModel", "open", "I", false)
  | 29 => ("FiveStarsModel", "bangs", "I", false)
  | 30 => ("FiveStarsModel", "key", "I", false)
  | 31 => ("FiveStarsModel", "coded", "I", false)
  | 32 => ("FiveStarsModel", "named", "I", false)
  | 33 => ("FiveStarsModel", "code", "[I", true)
  | 34 => ("FiveStarsModel", "pile", "[I", true)
  | 35 => ("FiveStarsModel", "sorts", "[I", true)
  | 36 => ("FiveStarsModel", "sizes", "[I", true)
  | 37 => ("FiveStarsModel", "cells", "[I", true)
  | 38 => ("FiveStarsModel", "between", "[I", true)
  | 39 => ("FiveStarsModel", "things", "[I", true)
  | 40 => ("FiveStarsModel", "first", "[I", true)
  | 41 => ("FiveStarsModel", "second", "[I", true)
  | _ => ("FiveStarsModel", "rows", "[I", true)
def tyX10 : Nat → FieldType := fun k => match k with
  | 0 => .array .int
  | 1 => .array .int
  | 2 => .array .int
  | 3 => .boolean
  | 4 => .array .int
  | 5 => .int
  | 6 => .array .int
  | 7 => .int
  | 8 => .int
  | 9 => .int
  | 10 => .int
  | 11 => .int
  | 12 => .int
  | 13 => .int
  | 14 => .array .int
  | 15 => .array .int
  | 16 => .array .boolean
  | 17 => .int
  | 18 => .int
  | 19 => .array .int
  | 20 => .int
  | 21 => .int
  | 22 => .int
  | 23 => .int
  | 24 => .int
  | 25 => .boolean
  | 26 => .boolean
  | 27 => .int
  | 28 => .int
  | 29 => .int
  | 30 => .int
  | 31 => .int
  | 32 => .int
  | 33 => .array .int
  | 34 => .array .int
  | 35 => .array .int
  | 36 => .array .int
  | 37 => .array .int
  | 38 => .array .int
  | 39 => .array .int
  | 40 => .array .int
  | 41 => .array .int
  | _ => .array .int
abbrev wsX100 : List Cond := u_ws RX10 TX10 43
theorem nmX10 : ∀ a, a < 43 → ∀ b, b < 43 → a ≠ b → (TX10 a).2.1 ≠ (TX10 b).2.1 := by decide +kernel
theorem tyX10_ok : ∀ k, k < 43 → parseFieldDescriptor (TX10 k).2.2.1 = some (tyX10 k) := by decide +kernel
abbrev cX10_init : ByteArray := prog_12_method_1_code
def yX10_init : MethodName := ⟨RX10, "<init>", "()V"⟩
abbrev cX10_in : ByteArray := prog_12_method_2_code
def yX10_in : MethodName := ⟨RX10, "in", "(III)Z"⟩
abbrev cX10_held : ByteArray := prog_12_method_3_code
def yX10_held : MethodName := ⟨RX10, "held", "(II)I"⟩
abbrev cX10_apart : ByteArray := prog_12_method_4_code
def yX10_apart : MethodName := ⟨RX10, "apart", "(II)I"⟩
abbrev cX10_ones : ByteArray := prog_12_method_5_code
def yX10_ones : MethodName := ⟨RX10, "ones", "(I)I"⟩
abbrev cX10_lay : ByteArray := prog_12_method_6_code
def yX10_lay : MethodName := ⟨RX10, "lay", "([I[I)V"⟩
abbrev cX10_isThing : ByteArray := prog_12_method_7_code
def yX10_isThing : MethodName := ⟨RX10, "isThing", "(I)Z"⟩
abbrev cX10_isName : ByteArray := prog_12_method_8_code
def yX10_isName : MethodName := ⟨RX10, "isName", "(I)Z"⟩
abbrev cX10_isWord : ByteArray := prog_12_method_9_code
def yX10_isWord : MethodName := ⟨RX10, "isWord", "(I)Z"⟩
abbrev cX10_of : ByteArray := prog_12_method_10_code
def yX10_of : MethodName := ⟨RX10, "of", "(II)I"⟩
abbrev cX10_thing : ByteArray := prog_12_method_11_code
def yX10_thing : MethodName := ⟨RX10, "thing", "(I)I"⟩
abbrev cX10_wordsOf : ByteArray := prog_12_method_12_code
def yX10_wordsOf : MethodName := ⟨RX10, "wordsOf", "(II)I"⟩
abbrev cX10_thingTold : ByteArray := prog_12_method_13_code
def yX10_thingTold : MethodName := ⟨RX10, "thingTold", "(II)I"⟩
abbrev cX10_set : ByteArray := prog_12_method_14_code
def yX10_set : MethodName := ⟨RX10, "set", "(III)I"⟩
abbrev cX10_name : ByteArray := prog_12_method_15_code
def yX10_name : MethodName := ⟨RX10, "name", "(I)I"⟩
abbrev cX10_nameTold : ByteArray := prog_12_method_16_code
def yX10_nameTold : MethodName := ⟨RX10, "nameTold", "(II)I"⟩
abbrev cX10_isAt : ByteArray := prog_12_method_17_code
def yX10_isAt : MethodName := ⟨RX10, "isAt", "(I)Z"⟩
abbrev cX10_isOf : ByteArray := prog_12_method_18_code
def yX10_isOf : MethodName := ⟨RX10, "isOf", "(I)Z"⟩
abbrev cX10_adds : ByteArray := prog_12_method_19_code
def yX10_adds : MethodName := ⟨RX10, "adds", "(IIIII)V"⟩
abbrev cX10_word : ByteArray := prog_12_method_20_code
def yX10_word : MethodName := ⟨RX10, "word", "(III)I"⟩
abbrev cX10_above : ByteArray := prog_12_method_21_code
def yX10_above : MethodName := ⟨RX10, "above", "(I)I"⟩
abbrev cX10_isUnder : ByteArray := prog_12_method_22_code
def yX10_isUnder : MethodName := ⟨RX10, "isUnder", "(II)Z"⟩
abbrev cX10_isTrue : ByteArray := prog_12_method_23_code
def yX10_isTrue : MethodName := ⟨RX10, "isTrue", "(I)Z"⟩
abbrev cX10_says : ByteArray := prog_12_method_24_code
def yX10_says : MethodName := ⟨RX10, "says", "(II)I"⟩
abbrev cX10_plainWeight : ByteArray := prog_12_method_25_code
def yX10_plainWeight : MethodName := ⟨RX10, "plainWeight", "(I)I"⟩
abbrev cX10_weight : ByteArray := prog_12_method_26_code
def yX10_weight : MethodName := ⟨RX10, "weight", "(I)I"⟩
abbrev cX10_sign : ByteArray := prog_12_method_27_code
def yX10_sign : MethodName := ⟨RX10, "sign", "(I)I"⟩
abbrev cX10_told : ByteArray := prog_12_method_28_code
def yX10_told : MethodName := ⟨RX10, "told", "(II)I"⟩
abbrev cX10_as : ByteArray := prog_12_method_29_code
def yX10_as : MethodName := ⟨RX10, "as", "(II)I"⟩
abbrev cX10_becomes : ByteArray := prog_12_method_30_code
def yX10_becomes : MethodName := ⟨RX10, "becomes", "(III)I"⟩
abbrev cX10_turns : ByteArray := prog_12_method_31_code
def yX10_turns : MethodName := ⟨RX10, "turns", "(II)I"⟩
abbrev cX10_star : ByteArray := prog_12_method_32_code
def yX10_star : MethodName := ⟨RX10, "star", "(II)I"⟩
abbrev cX10_goes : ByteArray := prog_12_method_33_code
def yX10_goes : MethodName := ⟨RX10, "goes", "(I)V"⟩
abbrev cX10_drop : ByteArray := prog_12_method_34_code
def yX10_drop : MethodName := ⟨RX10, "drop", "(I)I"⟩
abbrev cX10_sums : ByteArray := prog_12_method_35_code
def yX10_sums : MethodName := ⟨RX10, "sums", "(I)V"⟩
abbrev cX10_starsOf : ByteArray := prog_12_method_36_code
def yX10_starsOf : MethodName := ⟨RX10, "starsOf", "(I)I"⟩
abbrev cX10_meanOf : ByteArray := prog_12_method_37_code
def yX10_meanOf : MethodName := ⟨RX10, "meanOf", "(I)I"⟩
abbrev cX10_spanOf : ByteArray := prog_12_method_38_code
def yX10_spanOf : MethodName := ⟨RX10, "spanOf", "(IZ)I"⟩
abbrev cX10_starWorth : ByteArray := prog_12_method_39_code
def yX10_starWorth : MethodName := ⟨RX10, "starWorth", "(I)I"⟩
abbrev cX10_mean : ByteArray := prog_12_method_40_code
def yX10_mean : MethodName := ⟨RX10, "mean", "(II)I"⟩
abbrev cX10_shows : ByteArray := prog_12_method_41_code
def yX10_shows : MethodName := ⟨RX10, "shows", "()V"⟩
abbrev cX10_showOf : ByteArray := prog_12_method_42_code
def yX10_showOf : MethodName := ⟨RX10, "showOf", "(II)I"⟩
abbrev cX10_aheadOf : ByteArray := prog_12_method_43_code
def yX10_aheadOf : MethodName := ⟨RX10, "aheadOf", "(I)I"⟩
abbrev cX10_placeOf : ByteArray := prog_12_method_44_code
def yX10_placeOf : MethodName := ⟨RX10, "placeOf", "(I)I"⟩
abbrev cX10_shelfAt : ByteArray := prog_12_method_45_code
def yX10_shelfAt : MethodName := ⟨RX10, "shelfAt", "(I)I"⟩
abbrev cX10_shelf : ByteArray := prog_12_method_46_code
def yX10_shelf : MethodName := ⟨RX10, "shelf", "(I)I"⟩
abbrev cX10_isAlikeOf : ByteArray := prog_12_method_47_code
def yX10_isAlikeOf : MethodName := ⟨RX10, "isAlikeOf", "(IIII)Z"⟩
abbrev cX10_alikes : ByteArray := prog_12_method_48_code
def yX10_alikes : MethodName := ⟨RX10, "alikes", "(III)I"⟩
abbrev cX10_alike : ByteArray := prog_12_method_49_code
def yX10_alike : MethodName := ⟨RX10, "alike", "(III)I"⟩
abbrev cX10_group : ByteArray := prog_12_method_50_code
def yX10_group : MethodName := ⟨RX10, "group", "(II)I"⟩
abbrev cX10_within : ByteArray := prog_12_method_51_code
def yX10_within : MethodName := ⟨RX10, "within", "(II)I"⟩
abbrev cX10_wave : ByteArray := prog_12_method_52_code
def yX10_wave : MethodName := ⟨RX10, "wave", "(II)I"⟩
abbrev cX10_differ : ByteArray := prog_12_method_53_code
def yX10_differ : MethodName := ⟨RX10, "differ", "(II)I"⟩
abbrev cX10_changed : ByteArray := prog_12_method_54_code
def yX10_changed : MethodName := ⟨RX10, "changed", "(II)I"⟩
abbrev cX10_counted : ByteArray := prog_12_method_55_code
def yX10_counted : MethodName := ⟨RX10, "counted", "(IZ)I"⟩
abbrev cX10_off : ByteArray := prog_12_method_56_code
def yX10_off : MethodName := ⟨RX10, "off", "(II)I"⟩
abbrev cX10_bound : ByteArray := prog_12_method_57_code
def yX10_bound : MethodName := ⟨RX10, "bound", "(I)I"⟩
abbrev cX10_clean : ByteArray := prog_12_method_58_code
def yX10_clean : MethodName := ⟨RX10, "clean", "(I)I"⟩
abbrev cX10_draw : ByteArray := prog_12_method_59_code
def yX10_draw : MethodName := ⟨RX10, "draw", "()I"⟩
abbrev cX10_buys : ByteArray := prog_12_method_60_code
def yX10_buys : MethodName := ⟨RX10, "buys", "(I)V"⟩
abbrev cX10_buy : ByteArray := prog_12_method_61_code
def yX10_buy : MethodName := ⟨RX10, "buy", "(II)I"⟩
abbrev cX10_job : ByteArray := prog_12_method_62_code
def yX10_job : MethodName := ⟨RX10, "job", "(IIII)I"⟩
abbrev cX10_seed : ByteArray := prog_12_method_63_code
def yX10_seed : MethodName := ⟨RX10, "seed", "(I)I"⟩
abbrev cX10_factsOf : ByteArray := prog_12_method_64_code
def yX10_factsOf : MethodName := ⟨RX10, "factsOf", "(I)V"⟩
abbrev cX10_byteAt : ByteArray := prog_12_method_65_code
def yX10_byteAt : MethodName := ⟨RX10, "byteAt", "(I)I"⟩
abbrev cX10_isLetter : ByteArray := prog_12_method_66_code
def yX10_isLetter : MethodName := ⟨RX10, "isLetter", "(I)Z"⟩
abbrev cX10_isDigit : ByteArray := prog_12_method_67_code
def yX10_isDigit : MethodName := ⟨RX10, "isDigit", "(I)Z"⟩
abbrev cX10_next : ByteArray := prog_12_method_68_code
def yX10_next : MethodName := ⟨RX10, "next", "()V"⟩
abbrev cX10_fails : ByteArray := prog_12_method_69_code
def yX10_fails : MethodName := ⟨RX10, "fails", "()V"⟩
abbrev cX10_isMark : ByteArray := prog_12_method_70_code
def yX10_isMark : MethodName := ⟨RX10, "isMark", "(I)Z"⟩
abbrev cX10_emit : ByteArray := prog_12_method_71_code
def yX10_emit : MethodName := ⟨RX10, "emit", "(I)V"⟩
abbrev cX10_isKey : ByteArray := prog_12_method_72_code
def yX10_isKey : MethodName := ⟨RX10, "isKey", "(Ljava/lang/String;)Z"⟩
abbrev cX10_isSignHere : ByteArray := prog_12_method_73_code
def yX10_isSignHere : MethodName := ⟨RX10, "isSignHere", "()Z"⟩
abbrev cX10_piece : ByteArray := prog_12_method_74_code
def yX10_piece : MethodName := ⟨RX10, "piece", "()V"⟩
abbrev cX10_term : ByteArray := prog_12_method_75_code
def yX10_term : MethodName := ⟨RX10, "term", "()V"⟩
abbrev cX10_sum : ByteArray := prog_12_method_76_code
def yX10_sum : MethodName := ⟨RX10, "sum", "()V"⟩
abbrev cX10_test : ByteArray := prog_12_method_77_code
def yX10_test : MethodName := ⟨RX10, "test", "()V"⟩
abbrev cX10_both : ByteArray := prog_12_method_78_code
def yX10_both : MethodName := ⟨RX10, "both", "()V"⟩
abbrev cX10_either : ByteArray := prog_12_method_79_code
def yX10_either : MethodName := ⟨RX10, "either", "()V"⟩
abbrev cX10_reads : ByteArray := prog_12_method_80_code
def yX10_reads : MethodName := ⟨RX10, "reads", "()V"⟩
abbrev cX10_feed : ByteArray := prog_12_method_81_code
def yX10_feed : MethodName := ⟨RX10, "feed", "(III)I"⟩
abbrev cX10_trim : ByteArray := prog_12_method_82_code
def yX10_trim : MethodName := ⟨RX10, "trim", "(I)I"⟩
abbrev cX10_text : ByteArray := prog_12_method_83_code
def yX10_text : MethodName := ⟨RX10, "text", "()I"⟩
abbrev cX10_textTold : ByteArray := prog_12_method_84_code
def yX10_textTold : MethodName := ⟨RX10, "textTold", "(II)I"⟩
abbrev cX10_latest : ByteArray := prog_12_method_85_code
def yX10_latest : MethodName := ⟨RX10, "latest", "(I)I"⟩
abbrev cX10_why : ByteArray := prog_12_method_86_code
def yX10_why : MethodName := ⟨RX10, "why", "(I)I"⟩
abbrev cX10_done : ByteArray := prog_12_method_87_code
def yX10_done : MethodName := ⟨RX10, "done", "(III)I"⟩
abbrev cX10_worth : ByteArray := prog_12_method_88_code
def yX10_worth : MethodName := ⟨RX10, "worth", "(I)I"⟩
abbrev cX10_isSheet : ByteArray := prog_12_method_89_code
def yX10_isSheet : MethodName := ⟨RX10, "isSheet", "(I)Z"⟩
abbrev cX10_sheet : ByteArray := prog_12_method_90_code
def yX10_sheet : MethodName := ⟨RX10, "sheet", "(III)I"⟩
abbrev cX10_mark : ByteArray := prog_12_method_91_code
def yX10_mark : MethodName := ⟨RX10, "mark", "(III)I"⟩
abbrev cX10_told_ : ByteArray := prog_12_method_92_code
def yX10_told_ : MethodName := ⟨RX10, "told", "(I)I"⟩
abbrev cX10_pour : ByteArray := prog_12_method_93_code
def yX10_pour : MethodName := ⟨RX10, "pour", "(II)I"⟩
abbrev cX10_reads_ : ByteArray := prog_12_method_94_code
def yX10_reads_ : MethodName := ⟨RX10, "reads", "(I)I"⟩
abbrev cX10_copy : ByteArray := prog_12_method_95_code
def yX10_copy : MethodName := ⟨RX10, "copy", "(IIIII)I"⟩
abbrev cX10_isSlot : ByteArray := prog_12_method_96_code
def yX10_isSlot : MethodName := ⟨RX10, "isSlot", "(I)Z"⟩
abbrev cX10_lay_ : ByteArray := prog_12_method_97_code
def yX10_lay_ : MethodName := ⟨RX10, "lay", "(III)I"⟩
abbrev cX10_notHeld : ByteArray := prog_12_method_98_code
def yX10_notHeld : MethodName := ⟨RX10, "notHeld", "(II)I"⟩
abbrev cX10_ask : ByteArray := prog_12_method_99_code
def yX10_ask : MethodName := ⟨RX10, "ask", "(II)I"⟩
abbrev cX10_item : ByteArray := prog_12_method_100_code
def yX10_item : MethodName := ⟨RX10, "item", "(II)I"⟩
abbrev cX10_rest : ByteArray := prog_12_method_101_code
def yX10_rest : MethodName := ⟨RX10, "rest", "(II)I"⟩
abbrev cX10_tell : ByteArray := prog_12_method_102_code
def yX10_tell : MethodName := ⟨RX10, "tell", "(I)I"⟩
abbrev cX10_rightOnes : ByteArray := prog_12_method_103_code
def yX10_rightOnes : MethodName := ⟨RX10, "rightOnes", "(III)I"⟩
abbrev cX10_check : ByteArray := prog_12_method_104_code
def yX10_check : MethodName := ⟨RX10, "check", "(II)I"⟩
abbrev cX10_keep : ByteArray := prog_12_method_105_code
def yX10_keep : MethodName := ⟨RX10, "keep", "()I"⟩
abbrev cX10_back : ByteArray := prog_12_method_106_code
def yX10_back : MethodName := ⟨RX10, "back", "()I"⟩
abbrev cX10_count : ByteArray := prog_12_method_107_code
def yX10_count : MethodName := ⟨RX10, "count", "(I)I"⟩
def RJx145de : String := "java/io/Serializable"
def TJx145de : u_T := fun k => match k with
  | _ => ("", "", "", false)
def tyJx145de : Nat → FieldType := fun k => match k with
  | _ => .int
theorem nmJx145de : ∀ a, a < 0 → ∀ b, b < 0 → a ≠ b → (TJx145de a).2.1 ≠ (TJx145de b).2.1 := by decide +kernel
theorem tyJx145de_ok : ∀ k, k < 0 → parseFieldDescriptor (TJx145de k).2.2.1 = some (tyJx145de k) := by decide +kernel
def RJx9f9b0 : String := "java/lang/CharSequence"
def TJx9f9b0 : u_T := fun k => match k with
  | _ => ("", "", "", false)
def tyJx9f9b0 : Nat → FieldType := fun k => match k with
  | _ => .int
theorem nmJx9f9b0 : ∀ a, a < 0 → ∀ b, b < 0 → a ≠ b → (TJx9f9b0 a).2.1 ≠ (TJx9f9b0 b).2.1 := by decide +kernel
theorem tyJx9f9b0_ok : ∀ k, k < 0 → parseFieldDescriptor (TJx9f9b0 k).2.2.1 = some (tyJx9f9b0 k) := by decide +kernel
def RJ11 : String := "java/lang/Character"
def TJ11 : u_T := fun k => match k with
  | _ => ("", "", "", false)
def tyJ11 : Nat → FieldType := fun k => match k with
  | _ => .int
theorem nmJ11 : ∀ a, a < 0 → ∀ b, b < 0 → a ≠ b → (TJ11 a).2.1 ≠ (TJ11 b).2.1 := by decide +kernel
theorem tyJ11_ok : ∀ k, k < 0 → parseFieldDescriptor (TJ11 k).2.2.1 = some (tyJ11 k) := by decide +kernel
abbrev cJ11_isValidCodePoint_9a6ad : ByteArray := prog_13_method_11_code
def yJ11_isValidCodePoint_9a6ad : MethodName := ⟨RJ11, "isValidCodePoint", "(I)Z"⟩
abbrev cJ11_highSurrogate_5068e : ByteArray := prog_13_method_28_code
def yJ11_highSurrogate_5068e : MethodName := ⟨RJ11, "highSurrogate", "(I)C"⟩
abbrev cJ11_lowSurrogate_5068e : ByteArray := prog_13_method_29_code
def yJ11_lowSurrogate_5068e : MethodName := ⟨RJ11, "lowSurrogate", "(I)C"⟩
def RJx8e188 : String := "java/lang/Cloneable"
def TJx8e188 : u_T := fun k => match k with
  | _ => ("", "", "", false)
def tyJx8e188 : Nat → FieldType := fun k => match k with
  | _ => .int
theorem nmJx8e188 : ∀ a, a < 0 → ∀ b, b < 0 → a ≠ b → (TJx8e188 a).2.1 ≠ (TJx8e188 b).2.1 := by decide +kernel
theorem tyJx8e188_ok : ∀ k, k < 0 → parseFieldDescriptor (TJx8e188 k).2.2.1 = some (tyJx8e188 k) := by decide +kernel
def RJxb160c : String := "java/lang/Comparable"
def TJxb160c : u_T := fun k => match k with
  | _ => ("", "", "", false)
def tyJxb160c : Nat → FieldType := fun k => match k with
  | _ => .int
theorem nmJxb160c : ∀ a, a < 0 → ∀ b, b < 0 → a ≠ b → (TJxb160c a).2.1 ≠ (TJxb160c b).2.1 := by decide +kernel
theorem tyJxb160c_ok : ∀ k, k < 0 → parseFieldDescriptor (TJxb160c k).2.2.1 = some (tyJxb160c k) := by decide +kernel
def RJ6 : String := "java/lang/Integer"
def TJ6 : u_T := fun k => match k with
  | _ => ("", "", "", false)
def tyJ6 : Nat → FieldType := fun k => match k with
  | _ => .int
theorem nmJ6 : ∀ a, a < 0 → ∀ b, b < 0 → a ≠ b → (TJ6 a).2.1 ≠ (TJ6 b).2.1 := by decide +kernel
theorem tyJ6_ok : ∀ k, k < 0 → parseFieldDescriptor (TJ6 k).2.2.1 = some (tyJ6 k) := by decide +kernel
abbrev cJ6_bitCount_0f7a4 : ByteArray := prog_15_method_49_code
def yJ6_bitCount_0f7a4 : MethodName := ⟨RJ6, "bitCount", "(I)I"⟩
def RJ9 : String := "java/lang/Math"
def TJ9 : u_T := fun k => match k with
  | _ => ("", "", "", false)
def tyJ9 : Nat → FieldType := fun k => match k with
  | _ => .int
theorem nmJ9 : ∀ a, a < 0 → ∀ b, b < 0 → a ≠ b → (TJ9 a).2.1 ≠ (TJ9 b).2.1 := by decide +kernel
theorem tyJ9_ok : ∀ k, k < 0 → parseFieldDescriptor (TJ9 k).2.2.1 = some (tyJ9 k) := by decide +kernel
abbrev cJ9_abs_0f7a4 : ByteArray := prog_16_method_59_code
def yJ9_abs_0f7a4 : MethodName := ⟨RJ9, "abs", "(I)I"⟩
abbrev cJ9_max_7cf53 : ByteArray := prog_16_method_65_code
def yJ9_max_7cf53 : MethodName := ⟨RJ9, "max", "(II)I"⟩
abbrev cJ9_min_7cf53 : ByteArray := prog_16_method_69_code
def yJ9_min_7cf53 : MethodName := ⟨RJ9, "min", "(II)I"⟩
def RJ0 : String := "java/lang/String"
def TJ0 : u_T := fun k => match k with
  | _ => ("", "", "", false)
def tyJ0 : Nat → FieldType := fun k => match k with
  | _ => .int
theorem nmJ0 : ∀ a, a < 0 → ∀ b, b < 0 → a ≠ b → (TJ0 a).2.1 ≠ (TJ0 b).2.1 := by decide +kernel
theorem tyJ0_ok : ∀ k, k < 0 → parseFieldDescriptor (TJ0 k).2.2.1 = some (tyJ0 k) := by decide +kernel
abbrev cJ0_length_8abf5 : ByteArray := prog_17_method_54_code
def yJ0_length_8abf5 : MethodName := ⟨RJ0, "length", "()I"⟩
abbrev cJ0_charAt_5068e : ByteArray := prog_17_method_56_code
def yJ0_charAt_5068e : MethodName := ⟨RJ0, "charAt", "(I)C"⟩
abbrev cJ0_indexOf_0f7a4 : ByteArray := prog_17_method_79_code
def yJ0_indexOf_0f7a4 : MethodName := ⟨RJ0, "indexOf", "(I)I"⟩
abbrev cJ0_indexOf_7cf53 : ByteArray := prog_17_method_80_code
def yJ0_indexOf_7cf53 : MethodName := ⟨RJ0, "indexOf", "(II)I"⟩
abbrev cJ0_coder_7d493 : ByteArray := prog_17_method_152_code
def yJ0_coder_7d493 : MethodName := ⟨RJ0, "coder", "()B"⟩
abbrev cJ0_isLatin1_aae02 : ByteArray := prog_17_method_154_code
def yJ0_isLatin1_aae02 : MethodName := ⟨RJ0, "isLatin1", "()Z"⟩
abbrev cJ0_checkIndex_df160 : ByteArray := prog_17_method_155_code
def yJ0_checkIndex_df160 : MethodName := ⟨RJ0, "checkIndex", "(II)V"⟩
abbrev cJ0_checkBoundsBeginEnd_23922 : ByteArray := prog_17_method_158_code
def yJ0_checkBoundsBeginEnd_23922 : MethodName := ⟨RJ0, "checkBoundsBeginEnd", "(III)V"⟩
def RJ1 : String := "java/lang/StringLatin1"
def TJ1 : u_T := fun k => match k with
  | _ => ("", "", "", false)
def tyJ1 : Nat → FieldType := fun k => match k with
  | _ => .int
theorem nmJ1 : ∀ a, a < 0 → ∀ b, b < 0 → a ≠ b → (TJ1 a).2.1 ≠ (TJ1 b).2.1 := by decide +kernel
theorem tyJ1_ok : ∀ k, k < 0 → parseFieldDescriptor (TJ1 k).2.2.1 = some (tyJ1 k) := by decide +kernel
abbrev cJ1_charAt_3b067 : ByteArray := prog_18_method_2_code
def yJ1_charAt_3b067 : MethodName := ⟨RJ1, "charAt", "([BI)C"⟩
abbrev cJ1_canEncode_9a6ad : ByteArray := prog_18_method_4_code
def yJ1_canEncode_9a6ad : MethodName := ⟨RJ1, "canEncode", "(I)Z"⟩
abbrev cJ1_indexOf_4cfef : ByteArray := prog_18_method_22_code
def yJ1_indexOf_4cfef : MethodName := ⟨RJ1, "indexOf", "([BIII)I"⟩
abbrev cJ1_indexOfChar_4cfef : ByteArray := prog_18_method_23_code
def yJ1_indexOfChar_4cfef : MethodName := ⟨RJ1, "indexOfChar", "([BIII)I"⟩
def RJ2 : String := "java/lang/StringUTF16"
def TJ2 : u_T := fun k => match k with
  | _ => ("", "", "", false)
def tyJ2 : Nat → FieldType := fun k => match k with
  | _ => .int
theorem nmJ2 : ∀ a, a < 0 → ∀ b, b < 0 → a ≠ b → (TJ2 a).2.1 ≠ (TJ2 b).2.1 := by decide +kernel
theorem tyJ2_ok : ∀ k, k < 0 → parseFieldDescriptor (TJ2 k).2.2.1 = some (tyJ2 k) := by decide +kernel
abbrev cJ2_getChar_3b067 : ByteArray := prog_19_method_5_code
def yJ2_getChar_3b067 : MethodName := ⟨RJ2, "getChar", "([BI)C"⟩
abbrev cJ2_length_9d52b : ByteArray := prog_19_method_6_code
def yJ2_length_9d52b : MethodName := ⟨RJ2, "length", "([B)I"⟩
abbrev cJ2_indexOf_4cfef : ByteArray := prog_19_method_40_code
def yJ2_indexOf_4cfef : MethodName := ⟨RJ2, "indexOf", "([BIII)I"⟩
abbrev cJ2_indexOfChar_4cfef : ByteArray := prog_19_method_47_code
def yJ2_indexOfChar_4cfef : MethodName := ⟨RJ2, "indexOfChar", "([BIII)I"⟩
abbrev cJ2_indexOfCharUnsafe_4cfef : ByteArray := prog_19_method_48_code
def yJ2_indexOfCharUnsafe_4cfef : MethodName := ⟨RJ2, "indexOfCharUnsafe", "([BIII)I"⟩
abbrev cJ2_indexOfSupplementary_4cfef : ByteArray := prog_19_method_49_code
def yJ2_indexOfSupplementary_4cfef : MethodName := ⟨RJ2, "indexOfSupplementary", "([BIII)I"⟩
abbrev cJ2_charAt_3b067 : ByteArray := prog_19_method_83_code
def yJ2_charAt_3b067 : MethodName := ⟨RJ2, "charAt", "([BI)C"⟩
abbrev cJ2_checkIndex_2214a : ByteArray := prog_19_method_91_code
def yJ2_checkIndex_2214a : MethodName := ⟨RJ2, "checkIndex", "(I[B)V"⟩
abbrev cJ2_checkBoundsBeginEnd_d044e : ByteArray := prog_19_method_93_code
def yJ2_checkBoundsBeginEnd_d044e : MethodName := ⟨RJ2, "checkBoundsBeginEnd", "(II[B)V"⟩
def RJ10 : String := "java/lang/System"
def TJ10 : u_T := fun k => match k with
  | _ => ("", "", "", false)
def tyJ10 : Nat → FieldType := fun k => match k with
  | _ => .int
theorem nmJ10 : ∀ a, a < 0 → ∀ b, b < 0 → a ≠ b → (TJ10 a).2.1 ≠ (TJ10 b).2.1 := by decide +kernel
theorem tyJ10_ok : ∀ k, k < 0 → parseFieldDescriptor (TJ10 k).2.2.1 = some (tyJ10 k) := by decide +kernel
def RJxfd54e : String := "java/lang/constant/Constable"
def TJxfd54e : u_T := fun k => match k with
  | _ => ("", "", "", false)
def tyJxfd54e : Nat → FieldType := fun k => match k with
  | _ => .int
theorem nmJxfd54e : ∀ a, a < 0 → ∀ b, b < 0 → a ≠ b → (TJxfd54e a).2.1 ≠ (TJxfd54e b).2.1 := by decide +kernel
theorem tyJxfd54e_ok : ∀ k, k < 0 → parseFieldDescriptor (TJxfd54e k).2.2.1 = some (tyJxfd54e k) := by decide +kernel
def RJx3cf43 : String := "java/lang/constant/ConstantDesc"
def TJx3cf43 : u_T := fun k => match k with
  | _ => ("", "", "", false)
def tyJx3cf43 : Nat → FieldType := fun k => match k with
  | _ => .int
theorem nmJx3cf43 : ∀ a, a < 0 → ∀ b, b < 0 → a ≠ b → (TJx3cf43 a).2.1 ≠ (TJx3cf43 b).2.1 := by decide +kernel
theorem tyJx3cf43_ok : ∀ k, k < 0 → parseFieldDescriptor (TJx3cf43 k).2.2.1 = some (tyJx3cf43 k) := by decide +kernel
def RJ7 : String := "java/util/Arrays"
def TJ7 : u_T := fun k => match k with
  | _ => ("", "", "", false)
def tyJ7 : Nat → FieldType := fun k => match k with
  | _ => .int
theorem nmJ7 : ∀ a, a < 0 → ∀ b, b < 0 → a ≠ b → (TJ7 a).2.1 ≠ (TJ7 b).2.1 := by decide +kernel
theorem tyJ7_ok : ∀ k, k < 0 → parseFieldDescriptor (TJ7 k).2.2.1 = some (tyJ7 k) := by decide +kernel
abbrev cJ7_fill_53178 : ByteArray := prog_21_method_103_code
def yJ7_fill_53178 : MethodName := ⟨RJ7, "fill", "([II)V"⟩
abbrev cJ7_copyOf_59c91 : ByteArray := prog_21_method_123_code
def yJ7_copyOf_59c91 : MethodName := ⟨RJ7, "copyOf", "([II)[I"⟩
def RJ3 : String := "jdk/internal/util/Preconditions"
def TJ3 : u_T := fun k => match k with
  | _ => ("", "", "", false)
def tyJ3 : Nat → FieldType := fun k => match k with
  | _ => .int
theorem nmJ3 : ∀ a, a < 0 → ∀ b, b < 0 → a ≠ b → (TJ3 a).2.1 ≠ (TJ3 b).2.1 := by decide +kernel
theorem tyJ3_ok : ∀ k, k < 0 → parseFieldDescriptor (TJ3 k).2.2.1 = some (tyJ3 k) := by decide +kernel
abbrev cJ3_checkIndex_8e157 : ByteArray := prog_22_method_11_code
def yJ3_checkIndex_8e157 : MethodName := ⟨RJ3, "checkIndex", "(IILjava/util/function/BiFunction;)I"⟩
abbrev cJ3_checkFromToIndex_8c36e : ByteArray := prog_22_method_12_code
def yJ3_checkFromToIndex_8c36e : MethodName := ⟨RJ3, "checkFromToIndex", "(IIILjava/util/function/BiFunction;)I"⟩
def RL : String := "FiveStarsLaw"
abbrev cL_law : ByteArray := code
def yL_law : MethodName := ⟨RL, "law", "([I)Z"⟩
end
section
/-! ===== the memory: cells by numbers, their places as ints; a layout: address, kind and length, targets of references ===== -/
abbrev Me : Type := Nat → Nat → Int32
abbrev La : Type := (Nat → Nat) × (Nat → Option (Nat × Nat)) × (Nat → Nat → Option Nat)
abbrev Ds : Type := (Nat → ClassId) × (Nat → Nat → Nat) × (Nat → ClassId) × Heap × (State → Prop)
abbrev Cx : Type := Program × Launch × Env × Room × State × MethodId × Array Value × List Frame × Method × Code × Ds × (Nat → Prop) × (State → Prop) × Nat
abbrev xp (X : Cx) : Program := X.1
abbrev xl (X : Cx) : Launch := X.2.1
abbrev xe (X : Cx) : Env := X.2.2.1
abbrev xR (X : Cx) : Room := X.2.2.2.1
abbrev xs (X : Cx) : State := X.2.2.2.2.1
abbrev xm (X : Cx) : MethodId := X.2.2.2.2.2.1
abbrev xa (X : Cx) : Array Value := X.2.2.2.2.2.2.1
abbrev xb (X : Cx) : List Frame := X.2.2.2.2.2.2.2.1
abbrev xme (X : Cx) : Method := X.2.2.2.2.2.2.2.2.1
abbrev xc (X : Cx) : Code := X.2.2.2.2.2.2.2.2.2.1
abbrev xD (X : Cx) : Ds := X.2.2.2.2.2.2.2.2.2.2.1
abbrev xA (X : Cx) : Nat → Prop := X.2.2.2.2.2.2.2.2.2.2.2.1
abbrev xQ (X : Cx) : State → Prop := X.2.2.2.2.2.2.2.2.2.2.2.2.1
abbrev xn (X : Cx) : Nat := X.2.2.2.2.2.2.2.2.2.2.2.2.2
abbrev vwCl : List vw_C := [(RX0, TX0, 1), (RX2, TX2, 9), (RX3, TX3, 12), (RX4, TX4, 3), (RX5, TX5, 5), (RX6, TX6, 2), (RX7, TX7, 4), (RX8, TX8, 6), (RX9, TX9, 10), (RX10, TX10, 43)]
def cq (k : Nat) : vw_C := vwCl.getD k (RX1, TX1, 0)
def nf (k : Nat) : Nat := (cq k).2.2
def fT (k j : Nat) : String × String × String × Bool := (cq k).2.1 j
def tyk (k j : Nat) : FieldType := match k with
  | 0 => tyX0 j | 1 => tyX2 j | 2 => tyX3 j | 3 => tyX4 j | 4 => tyX5 j | 5 => tyX6 j | 6 => tyX7 j | 7 => tyX8 j | 8 => tyX9 j | _ => tyX10 j
def isI (t : FieldType) : Bool := match t with
  | .int => true | .boolean => true | _ => false
def rk (k j : Nat) : Bool := !(isI (tyk k j))
def aty (k : Nat) : FieldType := match k with
  | 10 => .int | 11 => .byte | 12 => .boolean | 13 => .object "FiveStars$Sheet" | 14 => .object "FiveStars$Slot" | _ => .object "FiveStars$Text"
def Vf (k : Nat) (f : Nat → Int32) (g : Nat → Option Nat) (j : Nat) : Value := if rk k j = true then va_rf (g j) else .int (f j)
def Ce (D : Ds) (L : La) (σ : Me) (id k n : Nat) (H : Heap) : Prop :=
  if k < 10 then t_OB (L.1 id) (D.1 k) (nf k) (D.2.1 k) H (Vf k (σ id) (fun j => (L.2.2 id j).map L.1))
  else if k < 13 then H[L.1 id]? = some (arrV (D.2.2.1 k) n (fun j => .int (σ id j)))
  else H[L.1 id]? = some (arrV (D.2.2.1 k) n (fun j => va_rf ((L.2.2 id j).map L.1)))
def Hp (D : Ds) (L : La) (σ : Me) (H : Heap) : Prop :=
  (∀ id k n, L.2.1 id = some (k, n) → Ce D L σ id k n H) ∧ (∀ id x, L.2.1 id = some x → D.2.2.2.1.size ≤ L.1 id) ∧ D.2.2.2.1.size ≤ H.size ∧ ∀ b, b < D.2.2.2.1.size → H[b]? = D.2.2.2.1[b]?
def Ap (A : Nat → Prop) (L : La) : Prop :=
  (∀ i j x y, L.2.1 i = some x → L.2.1 j = some y → L.1 i = L.1 j → i = j) ∧ ∀ i x, L.2.1 i = some x → A (L.1 i)
def TT : List Cond := lw_tbl.filter goodWord
def Kd (D : Ds) (s : State) : Prop :=
  (∀ k, k < 10 → u_Kn s (cq k).1 (cq k).2.1 (nf k) (D.1 k) (D.2.1 k)) ∧ (∀ k, 10 ≤ k → k < 16 → ArrOfT s (D.2.2.1 k) (aty k) ∧ va_RA s (D.2.2.1 k) (aty k)) ∧ D.2.2.2.2 s ∧ (∀ s U : State, s.WarmedH U.vm → D.2.2.2.2 s → D.2.2.2.2 U) ∧ (∀ s U : State, s.vm = U.vm → D.2.2.2.2 s → D.2.2.2.2 U)
theorem Kd.warm {D : Ds} {s U : State} (hW : s.WarmedH U.vm) (h : Kd D s) : Kd D U :=
  ⟨fun k hk => u_Kn_moved hW.alike (h.1 k hk), fun k h1 h2 => ⟨arrOfT_moved hW.alike (h.2.1 k h1 h2).1, (h.2.1 k h1 h2).2.moved hW.alike⟩, h.2.2.2.1 s U hW h.2.2.1, h.2.2.2.1, h.2.2.2.2⟩
theorem Kd.same {D : Ds} {s U : State} (hv : s.vm = U.vm) (h : Kd D s) : Kd D U :=
  have hW : s.vm.Alike U.vm := by rw [hv]; exact Vm.Alike.refl _
  ⟨fun k hk => u_Kn_moved hW (h.1 k hk), fun k h1 h2 => ⟨arrOfT_moved hW (h.2.1 k h1 h2).1, (h.2.1 k h1 h2).2.moved hW⟩, h.2.2.2.2 s U hv h.2.2.1, h.2.2.2.1, h.2.2.2.2⟩
/-! ===== where the machine is ===== -/
def At (X : Cx) (L : La) (σ : Me) (mc ms : Nat) (ls : List (Nat × Value)) (pc : Nat) (st : List Value) : Prop :=
  ∀ (H : Heap) (locs : List Loc) (la : Array Slot), Hp (xD X) L σ H → Ap (xA X) L → va_S (xA X) (xs X).heap H locs → lv_has la (xn X) ls → W (xp X) (xl X) (xe X) (xR X) (xs X) (xm X) (xa X) (xb X) (xme X) (xc X) H locs mc ms (xQ X) (F0 (xm X) pc la st)
def Ok (X : Cx) (cc : ByteArray) (own nm : String) (rm : Room) (ret : Option FieldType) : Prop :=
  (xp X).tables.exec = Jvm.exec ∧ (xc X).code = cc ∧ (xc X).maxLocals = xn X ∧ (xs X).vm.findClass own = some (xm X).cls ∧ (∀ w ∈ TT, w.before (xa X) (xs X) = true) ∧ Kd (xD X) (xs X) ∧ (∀ q, (xs X).heap.size ≤ q → xA X q) ∧ (xme X).locks = false ∧ xR X = rm ∧ (xme X).sig.returnType = ret ∧ (xme X).name = nm
abbrev Dc (cc : ByteArray) (pc : Nat) (i : Instr) (len nx : Nat) : Prop := decode cc pc = .ok (i, len) ∧ pc + len = nx
abbrev Dj (cc : ByteArray) (pc : Nat) (i : Instr) (off : Int) (nx tgt : Nat) : Prop := decode cc pc = .ok (i, 3) ∧ pc + 3 = nx ∧ (pc : Int) + off = (tgt : Int)
/-! ===== locals ===== -/
def lk : List (Nat × Value) → Nat → Option Value
  | [], _ => none
  | q :: r, i => bif Nat.beq q.1 i then some q.2 else lk r i
theorem lk_mem {ls : List (Nat × Value)} {i : Nat} {v : Value} (h : lk ls i = some v) : (i, v) ∈ ls := by
  induction ls with
  | nil => cases h
  | cons q r ih =>
    unfold lk at h
    cases hb : Nat.beq q.1 i with
    | true =>
      rw [hb] at h
      have e := Nat.eq_of_beq_eq_true hb
      cases h
      exact List.mem_cons.mpr (Or.inl (by rw [← e]))
    | false =>
      rw [hb] at h
      exact List.mem_cons_of_mem _ (ih h)
def kp (i : Nat) (q : Nat × Value) : Bool := !(q.1 == i) && !(q.1 + 1 == i && q.2.category == 2)
def sl (i : Nat) (v : Value) : List (Nat × Value) → List (Nat × Value)
  | [] => [(i, v)]
  | q :: r => bif Nat.beq q.1 i then (i, v) :: r.filter (kp i) else bif kp i q then q :: sl i v r else sl i v r
theorem sl_sub {i : Nat} {v : Value} {ls : List (Nat × Value)} : ∀ q ∈ sl i v ls, q ∈ (i, v) :: ls.filter (kp i) := by
  induction ls with
  | nil => intro q hq; exact hq
  | cons a r ih =>
    intro q hq
    unfold sl at hq
    cases hb : Nat.beq a.1 i with
    | true =>
      rw [hb] at hq
      rcases List.mem_cons.mp hq with h | h
      · exact List.mem_cons.mpr (Or.inl h)
      · refine List.mem_cons_of_mem _ ?_
        rw [List.mem_filter] at h ⊢
        exact ⟨List.mem_cons_of_mem _ h.1, h.2⟩
    | false =>
      rw [hb] at hq
      cases hk : kp i a with
      | true =>
        rw [hk] at hq
        rcases List.mem_cons.mp hq with h | h
        · refine List.mem_cons_of_mem _ (List.mem_filter.mpr ⟨?_, ?_⟩)
          · rw [h]; exact List.mem_cons_self
          · rw [h]; exact hk
        · rcases List.mem_cons.mp (ih q h) with h | h
          · exact List.mem_cons.mpr (Or.inl h)
          · refine List.mem_cons_of_mem _ ?_
            rw [List.mem_filter] at h ⊢
            exact ⟨List.mem_cons_of_mem _ h.1, h.2⟩
      | false =>
        rw [hk] at hq
        rcases List.mem_cons.mp (ih q hq) with h | h
        · exact List.mem_cons.mpr (Or.inl h)
        · refine List.mem_cons_of_mem _ ?_
          rw [List.mem_filter] at h ⊢
          exact ⟨List.mem_cons_of_mem _ h.1, h.2⟩
theorem lv_lk {la : Array Slot} {n : Nat} {ls : List (Nat × Value)} {i : Nat} {v : Value} (h : lv_has la n ls) (hl : lk ls i = some v) : la[i]? = some (.val v) := h.2.2 (i, v) (lk_mem hl)
theorem lv_less {la : Array Slot} {n : Nat} {ls ls' : List (Nat × Value)} (h : lv_has la n ls) (hl : ∀ q ∈ ls', q ∈ ls) : lv_has la n ls' := ⟨h.1, h.2.1, fun q hq => h.2.2 q (hl q hq)⟩
/-! ===== rows: one instruction each ===== -/
section
variable {X : Cx} {cc : ByteArray} {own nm : String} {rm : Room} {ret : Option FieldType} {L : La} {σ : Me} {mc ms : Nat} {ls : List (Nat × Value)} {pc nx tgt : Nat} {st : List Value} {off : Int}
theorem At.less {ls' : List (Nat × Value)} (h : At X L σ mc ms ls' pc st) (hl : ∀ q ∈ ls', q ∈ ls) : At X L σ mc ms ls pc st := fun H locs la h1 h2 h3 h4 => h H locs la h1 h2 h3 (lv_less h4 hl)
theorem r_iconst (hX : Ok X cc own nm rm ret) {n : Int} (v : Int32) (hd : Dc cc pc (.iconst n) 1 nx) (hv : Int32.ofInt n = v) (k : At X L σ mc ms ls nx (.int v :: st)) : At X L σ mc ms ls pc st := by
  obtain ⟨hd, rfl⟩ := hd
  exact fun H locs la h1 h2 h3 h4 => lv_iconst hX.1 hX.2.1 hd hv (k H locs la h1 h2 h3 h4)
theorem r_bipush (hX : Ok X cc own nm rm ret) {n : Int} (v : Int32) (hd : Dc cc pc (.bipush n) 2 nx) (hv : (Int8.ofInt n).toInt32 = v) (k : At X L σ mc ms ls nx (.int v :: st)) : At X L σ mc ms ls pc st := by
  obtain ⟨hd, rfl⟩ := hd
  exact fun H locs la h1 h2 h3 h4 => lv_bipush hX.1 hX.2.1 hd hv (k H locs la h1 h2 h3 h4)
theorem r_sipush (hX : Ok X cc own nm rm ret) {n : Int} (v : Int32) (hd : Dc cc pc (.sipush n) 3 nx) (hv : (Int16.ofInt n).toInt32 = v) (k : At X L σ mc ms ls nx (.int v :: st)) : At X L σ mc ms ls pc st := by
  obtain ⟨hd, rfl⟩ := hd
  exact fun H locs la h1 h2 h3 h4 => lv_sipush hX.1 hX.2.1 hd hv (k H locs la h1 h2 h3 h4)
theorem r_ldc (hX : Ok X cc own nm rm ret) {i : Nat} {v : Int32} (hd : Dc cc pc (.ldc i) 2 nx) (hw : Cond.constant own i v ∈ TT) (k : At X L σ mc ms ls nx (.int v :: st)) : At X L σ mc ms ls pc st := by
  obtain ⟨hd, rfl⟩ := hd
  exact fun H locs la h1 h2 h3 h4 => lv_ldc hX.1 hX.2.1 hX.2.2.2.1 (hX.2.2.2.2.1 _ hw) hd (k H locs la h1 h2 h3 h4)
theorem r_ldcw (hX : Ok X cc own nm rm ret) {i : Nat} {v : Int32} (hd : Dc cc pc (.ldc_w i) 3 nx) (hw : Cond.constant own i v ∈ TT) (k : At X L σ mc ms ls nx (.int v :: st)) : At X L σ mc ms ls pc st := by
  obtain ⟨hd, rfl⟩ := hd
  exact fun H locs la h1 h2 h3 h4 => lv_ldcw hX.1 hX.2.1 hX.2.2.2.1 (hX.2.2.2.2.1 _ hw) hd (k H locs la h1 h2 h3 h4)
theorem r_iload_n (hX : Ok X cc own nm rm ret) {i : Fin 4} {x : Int32} (hd : Dc cc pc (.iload_n i) 1 nx) (hl : lk ls i.val = some (.int x)) (k : At X L σ mc ms ls nx (.int x :: st)) : At X L σ mc ms ls pc st := by
  obtain ⟨hd, rfl⟩ := hd
  exact fun H locs la h1 h2 h3 h4 => lv_iload_n hX.1 hX.2.1 hd rfl (lv_lk h4 hl) (k H locs la h1 h2 h3 h4)
theorem r_iload (hX : Ok X cc own nm rm ret) {i : Nat} {x : Int32} (hd : Dc cc pc (.iload i) 2 nx) (hl : lk ls i = some (.int x)) (k : At X L σ mc ms ls nx (.int x :: st)) : At X L σ mc ms ls pc st := by
  obtain ⟨hd, rfl⟩ := hd
  exact fun H locs la h1 h2 h3 h4 => lv_iload hX.1 hX.2.1 hd (lv_lk h4 hl) (k H locs la h1 h2 h3 h4)
theorem r_aload_n (hX : Ok X cc own nm rm ret) {i : Fin 4} {x : Nat} (hd : Dc cc pc (.aload_n i) 1 nx) (hl : lk ls i.val = some (.ref x)) (k : At X L σ mc ms ls nx (.ref x :: st)) : At X L σ mc ms ls pc st := by
  obtain ⟨hd, rfl⟩ := hd
  exact fun H locs la h1 h2 h3 h4 => lv_aload_n hX.1 hX.2.1 hd rfl (lv_lk h4 hl) (k H locs la h1 h2 h3 h4)
theorem r_aload (hX : Ok X cc own nm rm ret) {i : Nat} {x : Nat} (hd : Dc cc pc (.aload i) 2 nx) (hl : lk ls i = some (.ref x)) (k : At X L σ mc ms ls nx (.ref x :: st)) : At X L σ mc ms ls pc st := by
  obtain ⟨hd, rfl⟩ := hd
  exact fun H locs la h1 h2 h3 h4 => lv_aload hX.1 hX.2.1 hd (lv_lk h4 hl) (k H locs la h1 h2 h3 h4)
theorem r_aload_nN (hX : Ok X cc own nm rm ret) {i : Fin 4} (hd : Dc cc pc (.aload_n i) 1 nx) (hl : lk ls i.val = some .null) (k : At X L σ mc ms ls nx (.null :: st)) : At X L σ mc ms ls pc st := by
  obtain ⟨hd, rfl⟩ := hd
  exact fun H locs la h1 h2 h3 h4 => lv_aload_nN hX.1 hX.2.1 hd rfl (lv_lk h4 hl) (k H locs la h1 h2 h3 h4)
theorem r_aloadN (hX : Ok X cc own nm rm ret) {i : Nat} (hd : Dc cc pc (.aload i) 2 nx) (hl : lk ls i = some .null) (k : At X L σ mc ms ls nx (.null :: st)) : At X L σ mc ms ls pc st := by
  obtain ⟨hd, rfl⟩ := hd
  exact fun H locs la h1 h2 h3 h4 => lv_aloadN hX.1 hX.2.1 hd (lv_lk h4 hl) (k H locs la h1 h2 h3 h4)
theorem r_istore_n (hX : Ok X cc own nm rm ret) {i : Fin 4} {x : Int32} (ls' : List (Nat × Value)) (hd : Dc cc pc (.istore_n i) 1 nx) (hn : i.val < xn X) (hl : sl i.val (.int x) ls = ls') (k : At X L σ mc ms ls' nx st) : At X L σ mc ms ls pc (.int x :: st) := by
  obtain ⟨hd, rfl⟩ := hd
  subst hl
  exact fun H locs la h1 h2 h3 h4 => lv_istore_n hX.1 hX.2.1 hd rfl h4 hn rfl (fun la' h5 => k H locs la' h1 h2 h3 (lv_less h5 sl_sub))
theorem r_istore (hX : Ok X cc own nm rm ret) {i : Nat} {x : Int32} (ls' : List (Nat × Value)) (hd : Dc cc pc (.istore i) 2 nx) (hn : i < xn X) (hl : sl i (.int x) ls = ls') (k : At X L σ mc ms ls' nx st) : At X L σ mc ms ls pc (.int x :: st) := by
  obtain ⟨hd, rfl⟩ := hd
  subst hl
  exact fun H locs la h1 h2 h3 h4 => lv_istore hX.1 hX.2.1 hd h4 hn rfl (fun la' h5 => k H locs la' h1 h2 h3 (lv_less h5 sl_sub))
theorem r_astore_n (hX : Ok X cc own nm rm ret) {i : Fin 4} {x : Nat} (ls' : List (Nat × Value)) (hd : Dc cc pc (.astore_n i) 1 nx) (hn : i.val < xn X) (hl : sl i.val (.ref x) ls = ls') (k : At X L σ mc ms ls' nx st) : At X L σ mc ms ls pc (.ref x :: st) := by
  obtain ⟨hd, rfl⟩ := hd
  subst hl
  exact fun H locs la h1 h2 h3 h4 => lv_astore_n hX.1 hX.2.1 hd rfl h4 hn rfl (fun la' h5 => k H locs la' h1 h2 h3 (lv_less h5 sl_sub))
theorem r_astore (hX : Ok X cc own nm rm ret) {i : Nat} {x : Nat} (ls' : List (Nat × Value)) (hd : Dc cc pc (.astore i) 2 nx) (hn : i < xn X) (hl : sl i (.ref x) ls = ls') (k : At X L σ mc ms ls' nx st) : At X L σ mc ms ls pc (.ref x :: st) := by
  obtain ⟨hd, rfl⟩ := hd
  subst hl
  exact fun H locs la h1 h2 h3 h4 => lv_astore hX.1 hX.2.1 hd h4 hn rfl (fun la' h5 => k H locs la' h1 h2 h3 (lv_less h5 sl_sub))
theorem r_astore_nN (hX : Ok X cc own nm rm ret) {i : Fin 4} (ls' : List (Nat × Value)) (hd : Dc cc pc (.astore_n i) 1 nx) (hn : i.val < xn X) (hl : sl i.val .null ls = ls') (k : At X L σ mc ms ls' nx st) : At X L σ mc ms ls pc (.null :: st) := by
  obtain ⟨hd, rfl⟩ := hd
  subst hl
  exact fun H locs la h1 h2 h3 h4 => lv_astore_nN hX.1 hX.2.1 hd rfl h4 hn rfl (fun la' h5 => k H locs la' h1 h2 h3 (lv_less h5 sl_sub))
theorem r_iinc (hX : Ok X cc own nm rm ret) {i : Nat} {n : Int} {x : Int32} (v : Int32) (ls' : List (Nat × Value)) (hd : Dc cc pc (.iinc i n) 3 nx) (hk : lk ls i = some (.int x)) (hv : x + Int32.ofInt n = v) (hn : i < xn X) (hl : sl i (.int v) ls = ls') (k : At X L σ mc ms ls' nx st) : At X L σ mc ms ls pc st := by
  obtain ⟨hd, rfl⟩ := hd
  subst hl
  intro H locs la h1 h2 h3 h4
  obtain ⟨j, hj⟩ := List.getElem?_of_mem (lk_mem hk)
  exact lv_iinc hX.1 hX.2.1 hd h4 hj hv hn rfl (fun la' h5 => k H locs la' h1 h2 h3 (lv_less h5 sl_sub))
theorem r_iadd (hX : Ok X cc own nm rm ret) {x y : Int32} (hd : Dc cc pc .iadd 1 nx) (k : At X L σ mc ms ls nx (.int (x + y) :: st)) : At X L σ mc ms ls pc (.int y :: .int x :: st) := by
  obtain ⟨hd, rfl⟩ := hd
  exact fun H locs la h1 h2 h3 h4 => lv_iadd hX.1 hX.2.1 hd (k H locs la h1 h2 h3 h4)
theorem r_isub (hX : Ok X cc own nm rm ret) {x y : Int32} (hd : Dc cc pc .isub 1 nx) (k : At X L σ mc ms ls nx (.int (x - y) :: st)) : At X L σ mc ms ls pc (.int y :: .int x :: st) := by
  obtain ⟨hd, rfl⟩ := hd
  exact fun H locs la h1 h2 h3 h4 => lv_isub hX.1 hX.2.1 hd (k H locs la h1 h2 h3 h4)
theorem r_imul (hX : Ok X cc own nm rm ret) {x y : Int32} (hd : Dc cc pc .imul 1 nx) (k : At X L σ mc ms ls nx (.int (x * y) :: st)) : At X L σ mc ms ls pc (.int y :: .int x :: st) := by
  obtain ⟨hd, rfl⟩ := hd
  exact fun H locs la h1 h2 h3 h4 => lv_imul hX.1 hX.2.1 hd (k H locs la h1 h2 h3 h4)
theorem r_iand (hX : Ok X cc own nm rm ret) {x y : Int32} (hd : Dc cc pc .iand 1 nx) (k : At X L σ mc ms ls nx (.int (x &&& y) :: st)) : At X L σ mc ms ls pc (.int y :: .int x :: st) := by
  obtain ⟨hd, rfl⟩ := hd
  exact fun H locs la h1 h2 h3 h4 => lv_iand hX.1 hX.2.1 hd (k H locs la h1 h2 h3 h4)
theorem r_ior (hX : Ok X cc own nm rm ret) {x y : Int32} (hd : Dc cc pc .ior 1 nx) (k : At X L σ mc ms ls nx (.int (x ||| y) :: st)) : At X L σ mc ms ls pc (.int y :: .int x :: st) := by
  obtain ⟨hd, rfl⟩ := hd
  exact fun H locs la h1 h2 h3 h4 => lv_ior hX.1 hX.2.1 hd (k H locs la h1 h2 h3 h4)
theorem r_ixor (hX : Ok X cc own nm rm ret) {x y : Int32} (hd : Dc cc pc .ixor 1 nx) (k : At X L σ mc ms ls nx (.int (x ^^^ y) :: st)) : At X L σ mc ms ls pc (.int y :: .int x :: st) := by
  obtain ⟨hd, rfl⟩ := hd
  exact fun H locs la h1 h2 h3 h4 => lv_ixor hX.1 hX.2.1 hd (k H locs la h1 h2 h3 h4)
theorem r_ishl (hX : Ok X cc own nm rm ret) {x y : Int32} (hd : Dc cc pc .ishl 1 nx) (k : At X L σ mc ms ls nx (.int (x <<< (y &&& 31)) :: st)) : At X L σ mc ms ls pc (.int y :: .int x :: st) := by
  obtain ⟨hd, rfl⟩ := hd
  exact fun H locs la h1 h2 h3 h4 => lv_ishl hX.1 hX.2.1 hd (k H locs la h1 h2 h3 h4)
theorem r_ishr (hX : Ok X cc own nm rm ret) {x y : Int32} (hd : Dc cc pc .ishr 1 nx) (k : At X L σ mc ms ls nx (.int (x >>> (y &&& 31)) :: st)) : At X L σ mc ms ls pc (.int y :: .int x :: st) := by
  obtain ⟨hd, rfl⟩ := hd
  exact fun H locs la h1 h2 h3 h4 => lv_ishr hX.1 hX.2.1 hd (k H locs la h1 h2 h3 h4)
def ushr (x y : Int32) : Int32 := (x.toUInt32 >>> (y.toUInt32 &&& Int32.toUInt32 31)).toInt32
theorem r_iushr (hX : Ok X cc own nm rm ret) {x y : Int32} (hd : Dc cc pc .iushr 1 nx) (k : At X L σ mc ms ls nx (.int (ushr x y) :: st)) : At X L σ mc ms ls pc (.int y :: .int x :: st) := by
  obtain ⟨hd, rfl⟩ := hd
  exact fun H locs la h1 h2 h3 h4 => lv_iushr hX.1 hX.2.1 hd rfl (k H locs la h1 h2 h3 h4)
theorem r_ineg (hX : Ok X cc own nm rm ret) {x : Int32} (hd : Dc cc pc .ineg 1 nx) (k : At X L σ mc ms ls nx (.int (-x) :: st)) : At X L σ mc ms ls pc (.int x :: st) := by
  obtain ⟨hd, rfl⟩ := hd
  exact fun H locs la h1 h2 h3 h4 => lv_ineg hX.1 hX.2.1 hd (k H locs la h1 h2 h3 h4)
theorem r_i2b (hX : Ok X cc own nm rm ret) {x : Int32} (hd : Dc cc pc .i2b 1 nx) (k : At X L σ mc ms ls nx (.int x.toInt8.toInt32 :: st)) : At X L σ mc ms ls pc (.int x :: st) := by
  obtain ⟨hd, rfl⟩ := hd
  exact fun H locs la h1 h2 h3 h4 => lv_i2b hX.1 hX.2.1 hd rfl (k H locs la h1 h2 h3 h4)
theorem r_i2s (hX : Ok X cc own nm rm ret) {x : Int32} (hd : Dc cc pc .i2s 1 nx) (k : At X L σ mc ms ls nx (.int x.toInt16.toInt32 :: st)) : At X L σ mc ms ls pc (.int x :: st) := by
  obtain ⟨hd, rfl⟩ := hd
  exact fun H locs la h1 h2 h3 h4 => lv_i2s hX.1 hX.2.1 hd rfl (k H locs la h1 h2 h3 h4)
theorem r_i2c (hX : Ok X cc own nm rm ret) {x : Int32} (hd : Dc cc pc .i2c 1 nx) (k : At X L σ mc ms ls nx (.int (x.toUInt32 % 65536).toInt32 :: st)) : At X L σ mc ms ls pc (.int x :: st) := by
  obtain ⟨hd, rfl⟩ := hd
  exact fun H locs la h1 h2 h3 h4 => lv_i2c hX.1 hX.2.1 hd rfl (k H locs la h1 h2 h3 h4)
/-- the rest as the machine works it out -/
abbrev rem (x y : Int32) : Int32 := x - x / y * y
theorem r_idiv (hX : Ok X cc own nm rm ret) {x y : Int32} (hd : Dc cc pc .idiv 1 nx) (hy : ¬ y = 0) (k : At X L σ mc ms ls nx (.int (x / y) :: st)) : At X L σ mc ms ls pc (.int y :: .int x :: st) := by
  obtain ⟨hd, rfl⟩ := hd
  exact fun H locs la h1 h2 h3 h4 => lv_idiv hX.1 hX.2.1 hd hy (k H locs la h1 h2 h3 h4)
theorem r_irem (hX : Ok X cc own nm rm ret) {x y : Int32} (hd : Dc cc pc .irem 1 nx) (hy : ¬ y = 0) (k : At X L σ mc ms ls nx (.int (rem x y) :: st)) : At X L σ mc ms ls pc (.int y :: .int x :: st) := by
  obtain ⟨hd, rfl⟩ := hd
  exact fun H locs la h1 h2 h3 h4 => lv_irem hX.1 hX.2.1 hd hy (k H locs la h1 h2 h3 h4)
theorem r_dup (hX : Ok X cc own nm rm ret) {v : Value} (hd : Dc cc pc .dup 1 nx) (hv : v.category = 1) (k : At X L σ mc ms ls nx (v :: v :: st)) : At X L σ mc ms ls pc (v :: st) := by
  obtain ⟨hd, rfl⟩ := hd
  exact fun H locs la h1 h2 h3 h4 => lv_dup hX.1 hX.2.1 hd hv (k H locs la h1 h2 h3 h4)
theorem r_dup2 (hX : Ok X cc own nm rm ret) {v w : Value} (hd : Dc cc pc .dup2 1 nx) (hv : v.category = 1) (hw : w.category = 1) (k : At X L σ mc ms ls nx (v :: w :: v :: w :: st)) : At X L σ mc ms ls pc (v :: w :: st) := by
  obtain ⟨hd, rfl⟩ := hd
  exact fun H locs la h1 h2 h3 h4 => lv_dup2_11 hX.1 hX.2.1 hd hv hw (k H locs la h1 h2 h3 h4)
theorem r_pop (hX : Ok X cc own nm rm ret) {v : Value} (hd : Dc cc pc .pop 1 nx) (hv : v.category = 1) (k : At X L σ mc ms ls nx st) : At X L σ mc ms ls pc (v :: st) := by
  obtain ⟨hd, rfl⟩ := hd
  exact fun H locs la h1 h2 h3 h4 => lv_pop hX.1 hX.2.1 hd hv (k H locs la h1 h2 h3 h4)
theorem r_null (hX : Ok X cc own nm rm ret) (hd : Dc cc pc .aconst_null 1 nx) (k : At X L σ mc ms ls nx (.null :: st)) : At X L σ mc ms ls pc st := by
  obtain ⟨hd, rfl⟩ := hd
  exact fun H locs la h1 h2 h3 h4 => lv_null hX.1 hX.2.1 hd (k H locs la h1 h2 h3 h4)
theorem r_goto (hX : Ok X cc own nm rm ret) (hd : Dj cc pc (.goto off) off nx tgt) (k : At X L σ mc ms ls tgt st) : At X L σ mc ms ls pc st := by
  obtain ⟨hd, rfl, ht⟩ := hd
  exact fun H locs la h1 h2 h3 h4 => lv_goto hX.1 hX.2.1 hd ht (k H locs la h1 h2 h3 h4)
theorem r_if_eq (hX : Ok X cc own nm rm ret) {x : Int32} (hd : Dj cc pc (.ifCond .eq off) off nx tgt) (kt : x = 0 → At X L σ mc ms ls tgt st) (kf : ¬ x = 0 → At X L σ mc ms ls nx st) : At X L σ mc ms ls pc (.int x :: st) := by
  obtain ⟨hd, rfl, ht⟩ := hd
  exact fun H locs la h1 h2 h3 h4 => lv_if_eq hX.1 hX.2.1 hd ht (fun c => kt c H locs la h1 h2 h3 h4) (fun c => kf c H locs la h1 h2 h3 h4)
theorem r_if_ne (hX : Ok X cc own nm rm ret) {x : Int32} (hd : Dj cc pc (.ifCond .ne off) off nx tgt) (kt : ¬ x = 0 → At X L σ mc ms ls tgt st) (kf : x = 0 → At X L σ mc ms ls nx st) : At X L σ mc ms ls pc (.int x :: st) := by
  obtain ⟨hd, rfl, ht⟩ := hd
  exact fun H locs la h1 h2 h3 h4 => lv_if_ne hX.1 hX.2.1 hd ht (fun c => kt c H locs la h1 h2 h3 h4) (fun c => kf c H locs la h1 h2 h3 h4)
theorem r_if_lt (hX : Ok X cc own nm rm ret) {x : Int32} (hd : Dj cc pc (.ifCond .lt off) off nx tgt) (kt : x < 0 → At X L σ mc ms ls tgt st) (kf : ¬ x < 0 → At X L σ mc ms ls nx st) : At X L σ mc ms ls pc (.int x :: st) := by
  obtain ⟨hd, rfl, ht⟩ := hd
  exact fun H locs la h1 h2 h3 h4 => lv_if_lt hX.1 hX.2.1 hd ht (fun c => kt c H locs la h1 h2 h3 h4) (fun c => kf c H locs la h1 h2 h3 h4)
theorem r_if_ge (hX : Ok X cc own nm rm ret) {x : Int32} (hd : Dj cc pc (.ifCond .ge off) off nx tgt) (kt : 0 ≤ x → At X L σ mc ms ls tgt st) (kf : ¬ 0 ≤ x → At X L σ mc ms ls nx st) : At X L σ mc ms ls pc (.int x :: st) := by
  obtain ⟨hd, rfl, ht⟩ := hd
  exact fun H locs la h1 h2 h3 h4 => lv_if_ge hX.1 hX.2.1 hd ht (fun c => kt c H locs la h1 h2 h3 h4) (fun c => kf c H locs la h1 h2 h3 h4)
theorem r_if_gt (hX : Ok X cc own nm rm ret) {x : Int32} (hd : Dj cc pc (.ifCond .gt off) off nx tgt) (kt : 0 < x → At X L σ mc ms ls tgt st) (kf : ¬ 0 < x → At X L σ mc ms ls nx st) : At X L σ mc ms ls pc (.int x :: st) := by
  obtain ⟨hd, rfl, ht⟩ := hd
  exact fun H locs la h1 h2 h3 h4 => lv_if_gt hX.1 hX.2.1 hd ht (fun c => kt c H locs la h1 h2 h3 h4) (fun c => kf c H locs la h1 h2 h3 h4)
theorem r_if_le (hX : Ok X cc own nm rm ret) {x : Int32} (hd : Dj cc pc (.ifCond .le off) off nx tgt) (kt : x ≤ 0 → At X L σ mc ms ls tgt st) (kf : ¬ x ≤ 0 → At X L σ mc ms ls nx st) : At X L σ mc ms ls pc (.int x :: st) := by
  obtain ⟨hd, rfl, ht⟩ := hd
  exact fun H locs la h1 h2 h3 h4 => lv_if_le hX.1 hX.2.1 hd ht (fun c => kt c H locs la h1 h2 h3 h4) (fun c => kf c H locs la h1 h2 h3 h4)
theorem r_icmp_eq (hX : Ok X cc own nm rm ret) {x y : Int32} (hd : Dj cc pc (.if_icmp .eq off) off nx tgt) (kt : x = y → At X L σ mc ms ls tgt st) (kf : ¬ x = y → At X L σ mc ms ls nx st) : At X L σ mc ms ls pc (.int y :: .int x :: st) := by
  obtain ⟨hd, rfl, ht⟩ := hd
  exact fun H locs la h1 h2 h3 h4 => lv_icmp_eq hX.1 hX.2.1 hd ht (fun c => kt c H locs la h1 h2 h3 h4) (fun c => kf c H locs la h1 h2 h3 h4)
theorem r_icmp_ne (hX : Ok X cc own nm rm ret) {x y : Int32} (hd : Dj cc pc (.if_icmp .ne off) off nx tgt) (kt : ¬ x = y → At X L σ mc ms ls tgt st) (kf : x = y → At X L σ mc ms ls nx st) : At X L σ mc ms ls pc (.int y :: .int x :: st) := by
  obtain ⟨hd, rfl, ht⟩ := hd
  exact fun H locs la h1 h2 h3 h4 => lv_icmp_ne hX.1 hX.2.1 hd ht (fun c => kt c H locs la h1 h2 h3 h4) (fun c => kf c H locs la h1 h2 h3 h4)
theorem r_icmp_lt (hX : Ok X cc own nm rm ret) {x y : Int32} (hd : Dj cc pc (.if_icmp .lt off) off nx tgt) (kt : x < y → At X L σ mc ms ls tgt st) (kf : ¬ x < y → At X L σ mc ms ls nx st) : At X L σ mc ms ls pc (.int y :: .int x :: st) := by
  obtain ⟨hd, rfl, ht⟩ := hd
  exact fun H locs la h1 h2 h3 h4 => lv_icmp_lt hX.1 hX.2.1 hd ht (fun c => kt c H locs la h1 h2 h3 h4) (fun c => kf c H locs la h1 h2 h3 h4)
theorem r_icmp_ge (hX : Ok X cc own nm rm ret) {x y : Int32} (hd : Dj cc pc (.if_icmp .ge off) off nx tgt) (kt : y ≤ x → At X L σ mc ms ls tgt st) (kf : ¬ y ≤ x → At X L σ mc ms ls nx st) : At X L σ mc ms ls pc (.int y :: .int x :: st) := by
  obtain ⟨hd, rfl, ht⟩ := hd
  exact fun H locs la h1 h2 h3 h4 => lv_icmp_ge hX.1 hX.2.1 hd ht (fun c => kt c H locs la h1 h2 h3 h4) (fun c => kf c H locs la h1 h2 h3 h4)
theorem r_icmp_gt (hX : Ok X cc own nm rm ret) {x y : Int32} (hd : Dj cc pc (.if_icmp .gt off) off nx tgt) (kt : y < x → At X L σ mc ms ls tgt st) (kf : ¬ y < x → At X L σ mc ms ls nx st) : At X L σ mc ms ls pc (.int y :: .int x :: st) := by
  obtain ⟨hd, rfl, ht⟩ := hd
  exact fun H locs la h1 h2 h3 h4 => lv_icmp_gt hX.1 hX.2.1 hd ht (fun c => kt c H locs la h1 h2 h3 h4) (fun c => kf c H locs la h1 h2 h3 h4)
theorem r_icmp_le (hX : Ok X cc own nm rm ret) {x y : Int32} (hd : Dj cc pc (.if_icmp .le off) off nx tgt) (kt : x ≤ y → At X L σ mc ms ls tgt st) (kf : ¬ x ≤ y → At X L σ mc ms ls nx st) : At X L σ mc ms ls pc (.int y :: .int x :: st) := by
  obtain ⟨hd, rfl, ht⟩ := hd
  exact fun H locs la h1 h2 h3 h4 => lv_icmp_le hX.1 hX.2.1 hd ht (fun c => kt c H locs la h1 h2 h3 h4) (fun c => kf c H locs la h1 h2 h3 h4)
theorem r_ifnull (hX : Ok X cc own nm rm ret) {x : Nat} (hd : Dj cc pc (.ifnull off) off nx tgt) (k : At X L σ mc ms ls nx st) : At X L σ mc ms ls pc (.ref x :: st) := by
  obtain ⟨hd, rfl, ht⟩ := hd
  exact fun H locs la h1 h2 h3 h4 => lv_ifnull hX.1 hX.2.1 hd (k H locs la h1 h2 h3 h4)
theorem r_ifnullN (hX : Ok X cc own nm rm ret) (hd : Dj cc pc (.ifnull off) off nx tgt) (k : At X L σ mc ms ls tgt st) : At X L σ mc ms ls pc (.null :: st) := by
  obtain ⟨hd, rfl, ht⟩ := hd
  exact fun H locs la h1 h2 h3 h4 => lv_ifnullN hX.1 hX.2.1 hd ht (k H locs la h1 h2 h3 h4)
theorem r_ifnonnull (hX : Ok X cc own nm rm ret) {x : Nat} (hd : Dj cc pc (.ifnonnull off) off nx tgt) (k : At X L σ mc ms ls tgt st) : At X L σ mc ms ls pc (.ref x :: st) := by
  obtain ⟨hd, rfl, ht⟩ := hd
  exact fun H locs la h1 h2 h3 h4 => lv_ifnonnull hX.1 hX.2.1 hd ht (k H locs la h1 h2 h3 h4)
theorem r_ifnonnullN (hX : Ok X cc own nm rm ret) (hd : Dj cc pc (.ifnonnull off) off nx tgt) (k : At X L σ mc ms ls nx st) : At X L σ mc ms ls pc (.null :: st) := by
  obtain ⟨hd, rfl, ht⟩ := hd
  exact fun H locs la h1 h2 h3 h4 => lv_ifnonnullN hX.1 hX.2.1 hd (k H locs la h1 h2 h3 h4)
theorem r_tabIn (hX : Ok X cc own nm rm ret) {x : Int32} {dflt lo hi : Int} {offs : Array Int} {len : Nat} (tgt : Nat) (hd : Dc cc pc (.tableswitch dflt lo hi offs) len nx) (v : Int) (hx : x.toInt = v) (h1 : ¬ v < lo) (h2 : ¬ hi < v) (off : Int) (ho : offs[(v - lo).toNat]? = some off) (ht : (pc : Int) + off = (tgt : Int)) (k : At X L σ mc ms ls tgt st) : At X L σ mc ms ls pc (.int x :: st) := by
  obtain ⟨hd, rfl⟩ := hd
  subst hx
  exact fun H locs la e1 e2 e3 e4 => lv_tableIn hX.1 hX.2.1 hd h1 h2 ho ht (k H locs la e1 e2 e3 e4)
theorem r_tabOut (hX : Ok X cc own nm rm ret) {x : Int32} {dflt lo hi : Int} {offs : Array Int} {len : Nat} (tgt : Nat) (hd : Dc cc pc (.tableswitch dflt lo hi offs) len nx) (h : x.toInt < lo ∨ hi < x.toInt) (ht : (pc : Int) + dflt = (tgt : Int)) (k : At X L σ mc ms ls tgt st) : At X L σ mc ms ls pc (.int x :: st) := by
  obtain ⟨hd, rfl⟩ := hd
  exact fun H locs la e1 e2 e3 e4 => lv_tableOut hX.1 hX.2.1 hd h ht (k H locs la e1 e2 e3 e4)
theorem r_lookup (hX : Ok X cc own nm rm ret) {x : Int32} {dflt : Int} {ps : Array (Int × Int)} {len : Nat} (tgt : Nat) (hd : Dc cc pc (.lookupswitch dflt ps) len nx) (hp : (ps.toList.zip (ps.toList.drop 1)).all (fun (a, next) => a.1 < next.1) = true) (off : Int) (ho : Op.lookupswitch.offset ps.toList dflt x.toInt = off) (ht : (pc : Int) + off = (tgt : Int)) (k : At X L σ mc ms ls tgt st) : At X L σ mc ms ls pc (.int x :: st) := by
  obtain ⟨hd, rfl⟩ := hd
  exact fun H locs la e1 e2 e3 e4 => lv_lookup hX.1 hX.2.1 hd hp ho ht (k H locs la e1 e2 e3 e4)
end
end
section
/-! ===== static facts of the classes ===== -/
theorem cq_words : ∀ k, k < 10 → ∀ w ∈ u_ws (cq k).1 (cq k).2.1 (nf k), w ∈ TT := by decide +kernel
theorem cq_ty : ∀ k, k < 10 → ∀ j, j < nf k → parseFieldDescriptor (fT k j).2.2.1 = some (tyk k j) := by decide +kernel
theorem cq_nm : ∀ k, k < 10 → ∀ a, a < nf k → ∀ b, b < nf k → a ≠ b → (fT k a).2.1 ≠ (fT k b).2.1 := by decide +kernel
/-- a field's link: index idx of own's pool names field j of kind k -/
def FL (own : String) (idx k j : Nat) : Prop := k < 10 ∧ j < nf k ∧ Cond.fieldLink own idx (fT k j).1 (fT k j).2.1 (fT k j).2.2.1 ∈ TT
def up (σ : Me) (c i : Nat) (v : Int32) : Me := fun d j => if d = c then (if j = i then v else σ d j) else σ d j
theorem up_s {σ : Me} {c i : Nat} {v : Int32} : up σ c i v c i = v := by simp [up]
theorem up_n {σ : Me} {c i d j : Nat} {v : Int32} (h : d ≠ c ∨ j ≠ i) : up σ c i v d j = σ d j := by
  unfold up
  by_cases h1 : d = c
  · rcases h with h | h
    · exact absurd h1 h
    · simp [h1, h]
  · simp [h1]
def ut (L : La) (c i : Nat) (v : Option Nat) : La := (L.1, L.2.1, fun d j => if d = c then (if j = i then v else L.2.2 d j) else L.2.2 d j)
theorem obj_apart {D : Ds} {s : State} {a : Array Value} (hts : ∀ w ∈ TT, w.before a s = true) (hK : Kd D s) {k : Nat} (hk : k < 10) : ∀ x y, x < nf k → y < nf k → x ≠ y → D.2.1 k x ≠ D.2.1 k y := by
  intro x y hx hy hne
  obtain ⟨hS, -⟩ := hK.1 k hk
  obtain ⟨_, _, _, fa, hia, ea⟩ := hS x hx
  obtain ⟨_, _, _, fb, hib, eb⟩ := hS y hy
  rw [← ea, ← eb]
  refine u_apart (u_lays hts (cq_words k hk) hx) (u_lays hts (cq_words k hk) hy) hia hib ?_
  rw [(State.fieldFound?_type hia (cq_ty k hk x hx)).1, (State.fieldFound?_type hib (cq_ty k hk y hy)).1]
  exact cq_nm k hk x hx y hy hne
theorem Ce.kept {D : Ds} {L : La} {σ : Me} {id k n : Nat} {H H1 : Heap} (h : Ce D L σ id k n H) (e : H1[L.1 id]? = H[L.1 id]?) : Ce D L σ id k n H1 := by
  unfold Ce at h ⊢
  split
  · rename_i h1; rw [if_pos h1] at h; exact h.kept e
  · rename_i h1
    rw [if_neg h1] at h
    split
    · rename_i h2; rw [if_pos h2] at h; rw [e]; exact h
    · rename_i h2; rw [if_neg h2] at h; rw [e]; exact h
theorem Ce.lt {D : Ds} {L : La} {σ : Me} {id k n : Nat} {H : Heap} (h : Ce D L σ id k n H) : L.1 id < H.size := by
  unfold Ce at h
  split at h
  · obtain ⟨cell, h2, -⟩ := h
    exact (Array.getElem?_eq_some_iff.mp h2).1
  · split at h
    · exact (Array.getElem?_eq_some_iff.mp h).1
    · exact (Array.getElem?_eq_some_iff.mp h).1
theorem Ce.cong {D : Ds} {L L' : La} {σ σ' : Me} {id k n : Nat} {H : Heap} (h : Ce D L σ id k n H) (ha : L'.1 id = L.1 id) (hs : ∀ j, σ' id j = σ id j) (ht : ∀ j, (L'.2.2 id j).map L'.1 = (L.2.2 id j).map L.1) : Ce D L' σ' id k n H := by
  unfold Ce at h ⊢
  have e1 : σ' id = σ id := funext hs
  have e2 : (fun j => (L'.2.2 id j).map L'.1) = (fun j => (L.2.2 id j).map L.1) := funext ht
  rw [ha, e1, e2]
  have e3 : (fun j => va_rf ((L'.2.2 id j).map L'.1)) = (fun j => va_rf ((L.2.2 id j).map L.1)) := funext fun j => by rw [ht j]
  rw [e3]
  exact h
/-- one int of an object, or of an array, is written: the rest of the heap is as it was -/
theorem Hp.put {D : Ds} {L : La} {σ : Me} {A : Nat → Prop} {H H1 : Heap} {id k n i : Nat} {v : Int32} (h : Hp D L σ H) (hA : Ap A L) (hs : L.2.1 id = some (k, n)) (z : H1.size = H.size) (oq : ∀ q, q ≠ L.1 id → H1[q]? = H[q]?) (hc : Ce D L (up σ id i v) id k n H1) : Hp D L (up σ id i v) H1 := by
  refine ⟨fun d kd nd hd => ?_, h.2.1, by rw [z]; exact h.2.2.1, fun b hb => ?_⟩
  · by_cases e : d = id
    · subst e
      cases hd.symm.trans hs
      exact hc
    · have hne : L.1 d ≠ L.1 id := fun q => e (hA.1 _ _ _ _ hd hs q)
      exact ((h.1 d kd nd hd).kept (oq _ hne)).cong rfl (fun j => up_n (Or.inl e)) (fun _ => rfl)
  · rw [oq b (fun e => by have := h.2.1 id _ hs; omega)]
    exact h.2.2.2 b hb
/-- one reference is written -/
theorem Hp.putR {D : Ds} {L : La} {σ : Me} {A : Nat → Prop} {H H1 : Heap} {id k n i : Nat} {v : Option Nat} (h : Hp D L σ H) (hA : Ap A L) (hs : L.2.1 id = some (k, n)) (z : H1.size = H.size) (oq : ∀ q, q ≠ L.1 id → H1[q]? = H[q]?) (hc : Ce D (ut L id i v) σ id k n H1) : Hp D (ut L id i v) σ H1 := by
  refine ⟨fun d kd nd hd => ?_, h.2.1, by rw [z]; exact h.2.2.1, fun b hb => ?_⟩
  · by_cases e : d = id
    · subst e
      cases hd.symm.trans hs
      exact hc
    · have hne : L.1 d ≠ L.1 id := fun q => e (hA.1 _ _ _ _ hd hs q)
      exact ((h.1 d kd nd hd).kept (oq _ hne)).cong rfl (fun _ => rfl) (fun j => by simp [ut, e])
  · rw [oq b (fun e => by have := h.2.1 id _ hs; omega)]
    exact h.2.2.2 b hb
section
variable {X : Cx} {cc : ByteArray} {own nm : String} {rm : Room} {ret : Option FieldType} {L : La} {σ : Me} {mc ms : Nat} {ls : List (Nat × Value)} {pc nx tgt : Nat} {st : List Value} {off : Int}
theorem r_get (hX : Ok X cc own nm rm ret) {idx id k j n : Nat} (hd : Dc cc pc (.getfield idx) 3 nx) (hf : FL own idx k j) (hs : L.2.1 id = some (k, n)) (v : Value) (hv : Vf k (σ id) (fun j => (L.2.2 id j).map L.1) j = v) (kk : At X L σ mc ms ls nx (v :: st)) : At X L σ mc ms ls pc (.ref (L.1 id) :: st) := by
  obtain ⟨hd, rfl⟩ := hd
  obtain ⟨hk, hj, hw⟩ := hf
  obtain ⟨hx, hb, -, hown, hts, hK, -⟩ := hX
  intro H locs la h1 h2 h3 h4
  have hc := h1.1 id k n hs
  unfold Ce at hc
  rw [if_pos hk] at hc
  obtain ⟨cell, q1, q2, q3, q4⟩ := hc
  obtain ⟨hS, hfc, kC, hkC, hkind⟩ := hK.1 k hk
  obtain ⟨cf, kf, fi, f, hi, hsl⟩ := hS j hj
  refine W.getf hx hb hown (hts _ hw) hi (u_facts hfc hkC (u_lays hts (cq_words k hk) hj) hi).1 q1 (by rw [q3]; exact fun h => by cases h) (v := v) ?_ rfl rfl hd (kk H locs la h1 h2 h3 h4)
  rw [hsl, q4 j hj, hv]
theorem r_getI (hX : Ok X cc own nm rm ret) {idx id k j n : Nat} (hd : Dc cc pc (.getfield idx) 3 nx) (hf : FL own idx k j) (hs : L.2.1 id = some (k, n)) (hr : rk k j = false) (kk : At X L σ mc ms ls nx (.int (σ id j) :: st)) : At X L σ mc ms ls pc (.ref (L.1 id) :: st) :=
  r_get hX hd hf hs _ (by unfold Vf; rw [hr]; rfl) kk
theorem r_getR (hX : Ok X cc own nm rm ret) {idx id id' k j n : Nat} (hd : Dc cc pc (.getfield idx) 3 nx) (hf : FL own idx k j) (hs : L.2.1 id = some (k, n)) (hr : rk k j = true) (ht : L.2.2 id j = some id') (kk : At X L σ mc ms ls nx (.ref (L.1 id') :: st)) : At X L σ mc ms ls pc (.ref (L.1 id) :: st) :=
  r_get hX hd hf hs _ (by unfold Vf; rw [if_pos hr]; show va_rf ((L.2.2 id j).map L.1) = _; rw [ht]; rfl) kk
theorem r_getN (hX : Ok X cc own nm rm ret) {idx id k j n : Nat} (hd : Dc cc pc (.getfield idx) 3 nx) (hf : FL own idx k j) (hs : L.2.1 id = some (k, n)) (hr : rk k j = true) (ht : L.2.2 id j = none) (kk : At X L σ mc ms ls nx (.null :: st)) : At X L σ mc ms ls pc (.ref (L.1 id) :: st) :=
  r_get hX hd hf hs _ (by unfold Vf; rw [if_pos hr]; show va_rf ((L.2.2 id j).map L.1) = _; rw [ht]; rfl) kk
theorem r_putI (hX : Ok X cc own nm rm ret) {idx id k j n : Nat} {v : Int32} (hd : Dc cc pc (.putfield idx) 3 nx) (hf : FL own idx k j) (hs : L.2.1 id = some (k, n)) (hr : rk k j = false) (hfin : (fT k j).2.2.2 = false) (hn : narrow (tyk k j) (.int v) = .int v) (hfit : fits (tyk k j) (.int v) = true) (kk : At X L (up σ id j v) mc ms ls nx st) : At X L σ mc ms ls pc (.int v :: .ref (L.1 id) :: st) := by
  obtain ⟨hd, rfl⟩ := hd
  obtain ⟨hk, hj, hw⟩ := hf
  obtain ⟨hx, hb, -, hown, hts, hK, -⟩ := hX
  intro H locs la h1 h2 h3 h4
  have hc := h1.1 id k n hs
  unfold Ce at hc
  rw [if_pos hk] at hc
  have hap := obj_apart hts hK hk
  obtain ⟨cell, q1, q2, q3, q4⟩ := hc
  obtain ⟨hS, hfc, kC, hkC, hkind⟩ := hK.1 k hk
  obtain ⟨cf, kf, fi, f, hi, hsl⟩ := hS j hj
  have hlay := hts _ (cq_words k hk _ (u_in_lay hj))
  unfold u_lay at hlay
  rw [if_neg (by show ¬ (fT k j).2.2.2 = true; rw [hfin]; decide)] at hlay
  have hst := (u_facts hfc hkC (u_lays hts (cq_words k hk) hj) hi).1
  have h6 := u_store hfc hkC hkind hlay hi (cq_ty k hk j hj) hn hfit
  refine W.putK hx hb (f := f) ⟨hown, hts _ hw, ⟨_, _, _, hi⟩, hst⟩ (by rw [q2]; exact h6) q1 q3 (by rw [hsl]; exact k2_hasslot (q4 j hj)) rfl rfl hd fun H' e1 e2 e3 => ?_
  rw [hsl] at e1 ⊢
  refine kk H' _ la (h1.put h2 hs e2 e3 ?_) h2 (h3.put e2 e3 (h2.2 _ _ hs)) h4
  unfold Ce
  rw [if_pos hk]
  refine t_OB.to (V := updV (Vf k (σ id) (fun j => (L.2.2 id j).map L.1)) j (.int v)) ⟨_, e1, q2, q3, t_set q4 hap hj _⟩ (fun i _ => ?_)
  by_cases e : i = j
  · subst e
    simp [updV, Vf, hr, up_s]
  · simp [updV, Vf, e, up_n (Or.inr e)]
theorem r_ald (hX : Ok X cc own nm rm ret) {id n : Nat} {i : Int32} (hd : Dc cc pc .iaload 1 nx) (hs : L.2.1 id = some (10, n)) (hin : vp_in i n) (kk : At X L σ mc ms ls nx (.int (σ id i.toNatClampNeg) :: st)) : At X L σ mc ms ls pc (.int i :: .ref (L.1 id) :: st) := by
  obtain ⟨hd, rfl⟩ := hd
  intro H locs la h1 h2 h3 h4
  have hc : H[L.1 id]? = some (arrV ((xD X).2.2.1 10) n (fun j => .int (σ id j))) := h1.1 id 10 n hs
  have hlt : i.toNatClampNeg < n := Nat.not_le.mp fun q => hin (Or.inr q)
  exact W.iald (v := .int (σ id i.toNatClampNeg)) hX.1 hX.2.1 hc ((hX.2.2.2.2.2.1.2.1 10 (by decide) (by decide)).1 n _) (fun q => by cases q) (by rw [arrV_size]; exact hin) (by rw [arrV_read _ _ hlt]) rfl rfl hd (kk H locs la h1 h2 h3 h4)
theorem r_bald (hX : Ok X cc own nm rm ret) {id n : Nat} {i : Int32} (hd : Dc cc pc .baload 1 nx) (hs : L.2.1 id = some (11, n)) (hin : vp_in i n) (kk : At X L σ mc ms ls nx (.int (σ id i.toNatClampNeg) :: st)) : At X L σ mc ms ls pc (.int i :: .ref (L.1 id) :: st) := by
  obtain ⟨hd, rfl⟩ := hd
  intro H locs la h1 h2 h3 h4
  have hc : H[L.1 id]? = some (arrV ((xD X).2.2.1 11) n (fun j => .int (σ id j))) := h1.1 id 11 n hs
  have hlt : i.toNatClampNeg < n := Nat.not_le.mp fun q => hin (Or.inr q)
  exact W.bald (v := .int (σ id i.toNatClampNeg)) hX.1 hX.2.1 hc ((hX.2.2.2.2.2.1.2.1 11 (by decide) (by decide)).1 n _) (fun q => by cases q) (by rw [arrV_size]; exact hin) (by rw [arrV_read _ _ hlt]) rfl rfl hd (kk H locs la h1 h2 h3 h4)
theorem r_zald (hX : Ok X cc own nm rm ret) {id n : Nat} {i : Int32} (hd : Dc cc pc .baload 1 nx) (hs : L.2.1 id = some (12, n)) (hin : vp_in i n) (kk : At X L σ mc ms ls nx (.int (σ id i.toNatClampNeg) :: st)) : At X L σ mc ms ls pc (.int i :: .ref (L.1 id) :: st) := by
  obtain ⟨hd, rfl⟩ := hd
  intro H locs la h1 h2 h3 h4
  have hc : H[L.1 id]? = some (arrV ((xD X).2.2.1 12) n (fun j => .int (σ id j))) := h1.1 id 12 n hs
  have hlt : i.toNatClampNeg < n := Nat.not_le.mp fun q => hin (Or.inr q)
  exact W.zald (v := .int (σ id i.toNatClampNeg)) hX.1 hX.2.1 hc ((hX.2.2.2.2.2.1.2.1 12 (by decide) (by decide)).1 n _) (fun q => by cases q) (by rw [arrV_size]; exact hin) (by rw [arrV_read _ _ hlt]) rfl rfl hd (kk H locs la h1 h2 h3 h4)
theorem arr_up {cA : ClassId} {n i : Nat} {σ : Me} {id : Nat} {x : Int32} : (arrV cA n (fun j => .int (σ id j))).setSlot i (.int x) = arrV cA n (fun j => .int (up σ id i x id j)) := by
  rw [arrV_store]
  congr 1
  funext q
  by_cases hq : q = i
  · subst hq
    simp [updV, up_s]
  · simp [updV, hq, up_n (Or.inr hq)]
theorem r_ast (hX : Ok X cc own nm rm ret) {id n : Nat} {i x : Int32} (hd : Dc cc pc .iastore 1 nx) (hs : L.2.1 id = some (10, n)) (hin : vp_in i n) (kk : At X L (up σ id i.toNatClampNeg x) mc ms ls nx st) : At X L σ mc ms ls pc (.int x :: .int i :: .ref (L.1 id) :: st) := by
  obtain ⟨hd, rfl⟩ := hd
  intro H locs la h1 h2 h3 h4
  have hc : H[L.1 id]? = some (arrV ((xD X).2.2.1 10) n (fun j => .int (σ id j))) := h1.1 id 10 n hs
  refine W.iast hX.1 hX.2.1 hc ((hX.2.2.2.2.2.1.2.1 10 (by decide) (by decide)).1 n _) (fun q => by cases q) (by rw [arrV_size]; exact hin) rfl rfl hd fun H1 e z oq => ?_
  refine kk H1 _ la (h1.put h2 hs z oq ?_) h2 (h3.put z oq (h2.2 _ _ hs)) h4
  show H1[L.1 id]? = some _
  rw [e, arr_up]
theorem r_bast (hX : Ok X cc own nm rm ret) {id n : Nat} {i x : Int32} (hd : Dc cc pc .bastore 1 nx) (hs : L.2.1 id = some (11, n)) (hin : vp_in i n) (kk : At X L (up σ id i.toNatClampNeg x.toInt8.toInt32) mc ms ls nx st) : At X L σ mc ms ls pc (.int x :: .int i :: .ref (L.1 id) :: st) := by
  obtain ⟨hd, rfl⟩ := hd
  intro H locs la h1 h2 h3 h4
  have hc : H[L.1 id]? = some (arrV ((xD X).2.2.1 11) n (fun j => .int (σ id j))) := h1.1 id 11 n hs
  refine W.bast hX.1 hX.2.1 hc ((hX.2.2.2.2.2.1.2.1 11 (by decide) (by decide)).1 n _) (fun q => by cases q) (by rw [arrV_size]; exact hin) rfl rfl hd fun H1 e z oq => ?_
  refine kk H1 _ la (h1.put h2 hs z oq ?_) h2 (h3.put z oq (h2.2 _ _ hs)) h4
  show H1[L.1 id]? = some _
  rw [e]
  exact congrArg some arr_up
theorem r_zast (hX : Ok X cc own nm rm ret) {id n : Nat} {i x : Int32} (hd : Dc cc pc .bastore 1 nx) (hs : L.2.1 id = some (12, n)) (hin : vp_in i n) (kk : At X L (up σ id i.toNatClampNeg (vp_nar .boolean x)) mc ms ls nx st) : At X L σ mc ms ls pc (.int x :: .int i :: .ref (L.1 id) :: st) := by
  obtain ⟨hd, rfl⟩ := hd
  intro H locs la h1 h2 h3 h4
  have hc : H[L.1 id]? = some (arrV ((xD X).2.2.1 12) n (fun j => .int (σ id j))) := h1.1 id 12 n hs
  refine W.zast hX.1 hX.2.1 hc ((hX.2.2.2.2.2.1.2.1 12 (by decide) (by decide)).1 n _) (fun q => by cases q) (by rw [arrV_size]; exact hin) rfl rfl hd fun H1 e z oq => ?_
  refine kk H1 _ la (h1.put h2 hs z oq ?_) h2 (h3.put z oq (h2.2 _ _ hs)) h4
  show H1[L.1 id]? = some _
  rw [e]
  exact congrArg some arr_up
end
end
section
/-! ===== contracts ===== -/
/-- what a method may write: the cells of the layout, and all that is new -/
def fr (L : La) (sz : Nat) : Nat → Prop := fun q => (∃ id x, L.2.1 id = some x ∧ L.1 id = q) ∨ sz ≤ q
abbrev Po : Type := Option Value → La → Me → Prop
def Pr (D : Ds) (L : La) (σ : Me) (sz : Nat) (As : List Value) : Array Value → State → Prop := va_Pc As (fun U => U.heap.size = sz ∧ Hp D L σ U.heap ∧ Kd D U ∧ Ap (fun _ => True) L)
def Qr (D : Ds) (L : La) (sz : Nat) (post : Po) : Array Value → State → Outcome → State → Prop := fun _ s oc t => (∃ v L' σ', oc = .returned v ∧ post v L' σ' ∧ Hp D L' σ' t.heap ∧ Ap (fr L sz) L') ∧ va_F (fr L sz) s t
def Ct (l : Launch) (y : MethodName) (cc : ByteArray) (nl : Nat) (ret : Option FieldType) (rm : Room) (D : Ds) (L : La) (σ : Me) (As : List Value) (post : Po) : Prop :=
  ∀ sz : Nat, Met l y (.code y cc nl ret :: TT) rm (Pr D L σ sz As) (Qr D L sz post) rm.cells rm.slots (fr L sz)
def Rq (X : Cx) (L : La) (rm : Room) (post : Po) : Prop := xQ X = MQ (xb X) (Qr (xD X) L (xs X).heap.size post) (xa X) (xs X) rm.cells rm.slots (fr L (xs X).heap.size) ∧ xA X = fr L (xs X).heap.size
theorem Ap.fr {A : Nat → Prop} {L : La} {sz : Nat} (h : Ap A L) : Ap (fr L sz) L := ⟨h.1, fun i x hi => Or.inl ⟨i, x, hi, rfl⟩⟩
theorem Ap.wk {A B : Nat → Prop} {L : La} (h : Ap A L) (hAB : ∀ q, A q → B q) : Ap B L := ⟨h.1, fun i x hi => hAB _ (h.2 i x hi)⟩
/-- a contract out of a walk of the body -/
theorem Ct.of {l : Launch} {y : MethodName} {cc : ByteArray} {nl : Nat} {ret : Option FieldType} {rm : Room} {D : Ds} {L : La} {σ : Me} {As : List Value} {post : Po} (hy : plainName y.cls = true) (hl : (lg_sl As).length ≤ nl)
    (body : ∀ X : Cx, xl X = l → xD X = D → xn X = nl → Ok X cc y.cls y.name rm ret → Rq X L rm post → At X L σ 0 0 (lv_args 0 As) 0 []) : Ct l y cc nl ret rm D L σ As post := by
  intro sz
  refine Met.ofW (cc := cc) (maxL := nl) (ret := ret) hy rfl ?_
  intro p e s m args below meth c s₁ B hml hv
  obtain ⟨rfl, hsz, hP, hK, hA⟩ := hv
  subst hsz
  have hts := atoms_spec (ws := .code y cc nl ret :: TT) B.pre
  have key := body (p, l, e, rm, s, m, As.toArray, below, meth, c, D, fr L s.heap.size, MQ below (Qr D L s.heap.size post) As.toArray s rm.cells rm.slots (fr L s.heap.size), nl) rfl rfl rfl ⟨B.exec, B.bytes, hml, findClass_of_methodNamed B.named, fun w hw => hts w (List.mem_cons_of_mem _ hw), hK, fun q h => Or.inr h, B.notSynchronized, rfl, B.returns, (name_of_methodNamed B.named B.method).1⟩ ⟨rfl, rfl⟩
  have hla := lv_entry As (n := nl) hl
  rw [lg_entry_eq]
  exact key s.heap [] _ hP hA.fr va_S.rf hla
section
variable {X : Cx} {cc : ByteArray} {own nm : String} {rm : Room} {ret : Option FieldType} {L : La} {σ : Me} {mc ms : Nat} {ls : List (Nat × Value)} {pc nx tgt : Nat} {st : List Value} {off : Int}
theorem At.widen (hc : mc ≤ rm.cells) {mc' ms' : Nat} (h1 : mc ≤ mc') (h2 : ms ≤ ms') (k : At X L σ mc' ms' ls pc st) : At X L σ mc ms ls pc st :=
  fun H locs la e1 e2 e3 e4 => W.widen h1 h2 (k H locs la e1 e2 e3 e4)
theorem r_ireturn (hX : Ok X cc own nm rm (some .int)) {L0 : La} {post : Po} (hQ : Rq X L0 rm post) {r : Int32} (hd : Dc cc pc .ireturn 1 nx) (hc : mc ≤ rm.cells ∧ ms ≤ rm.slots) (hp : post (some (.int r)) L σ) : At X L σ mc ms ls pc [.int r] := by
  obtain ⟨hd, rfl⟩ := hd
  intro H locs la h1 h2 h3 h4
  obtain ⟨hq, hA⟩ := hQ
  rw [hA] at h2 h3
  refine W.widen hc.1 hc.2 ?_
  rw [hq]
  exact W.iret hX.1 hX.2.1 hX.2.2.2.2.2.2.2.2.2.1 (fun t ht hW => ⟨⟨_, L, σ, rfl, hp, by rw [ht]; exact h1, h2⟩, h3.F ht⟩) h3.2.2 hd hX.2.2.2.2.2.2.2.1
theorem r_zreturn (hX : Ok X cc own nm rm (some .boolean)) {L0 : La} {post : Po} (hQ : Rq X L0 rm post) {r : Int32} (hd : Dc cc pc .ireturn 1 nx) (hc : mc ≤ rm.cells ∧ ms ≤ rm.slots) (hn : narrow .boolean (.int r) = .int r) (hp : post (some (.int r)) L σ) : At X L σ mc ms ls pc [.int r] := by
  obtain ⟨hd, rfl⟩ := hd
  intro H locs la h1 h2 h3 h4
  obtain ⟨hq, hA⟩ := hQ
  rw [hA] at h2 h3
  refine W.widen hc.1 hc.2 ?_
  rw [hq]
  exact W.zret hX.1 hX.2.1 hX.2.2.2.2.2.2.2.2.2.1 hn (fun t ht hW => ⟨⟨_, L, σ, rfl, hp, by rw [ht]; exact h1, h2⟩, h3.F ht⟩) h3.2.2 hd hX.2.2.2.2.2.2.2.1
theorem r_treturn {ty : FieldType} (hX : Ok X cc own nm rm (some ty)) {L0 : La} {post : Po} (hQ : Rq X L0 rm post) {r : Int32} (hd : Dc cc pc .ireturn 1 nx) (hc : mc ≤ rm.cells ∧ ms ≤ rm.slots) (hn : narrow ty (.int r) = .int r) (hp : post (some (.int r)) L σ) : At X L σ mc ms ls pc [.int r] := by
  obtain ⟨hd, rfl⟩ := hd
  intro H locs la h1 h2 h3 h4
  obtain ⟨hq, hA⟩ := hQ
  rw [hA] at h2 h3
  refine W.widen hc.1 hc.2 ?_
  rw [hq]
  exact W.zret hX.1 hX.2.1 hX.2.2.2.2.2.2.2.2.2.1 hn (fun t ht hW => ⟨⟨_, L, σ, rfl, hp, by rw [ht]; exact h1, h2⟩, h3.F ht⟩) h3.2.2 hd hX.2.2.2.2.2.2.2.1
theorem r_return (hX : Ok X cc own nm rm none) {L0 : La} {post : Po} (hQ : Rq X L0 rm post) (hd : Dc cc pc .return_ 1 nx) (hc : mc ≤ rm.cells ∧ ms ≤ rm.slots) (hp : post none L σ) : At X L σ mc ms ls pc [] := by
  obtain ⟨hd, rfl⟩ := hd
  intro H locs la h1 h2 h3 h4
  obtain ⟨hq, hA⟩ := hQ
  rw [hA] at h2 h3
  refine W.widen hc.1 hc.2 ?_
  rw [hq]
  exact W.vret hX.1 hX.2.1 hX.2.2.2.2.2.2.2.2.2.1 (fun t ht hW => ⟨⟨_, L, σ, rfl, hp, by rw [ht]; exact h1, h2⟩, h3.F ht⟩) h3.2.2 hd hX.2.2.2.2.2.2.2.1
theorem r_areturn {rt : FieldType} (hX : Ok X cc own nm rm (some rt)) {L0 : La} {post : Po} (hQ : Rq X L0 rm post) {v : Value} (hd : Dc cc pc .areturn 1 nx) (hc : mc ≤ rm.cells ∧ ms ≤ rm.slots) (hrt : (∃ n, rt = .object n) ∨ ∃ t, rt = .array t) (hv : v = .null ∨ ∃ a, v = .ref a) (hp : post (some v) L σ) : At X L σ mc ms ls pc [v] := by
  obtain ⟨hd, rfl⟩ := hd
  intro H locs la h1 h2 h3 h4
  obtain ⟨hq, hA⟩ := hQ
  rw [hA] at h2 h3
  refine W.widen hc.1 hc.2 ?_
  rw [hq]
  exact W.aret hX.1 hX.2.1 hX.2.2.2.2.2.2.2.2.2.1 hrt hv (fun t ht hW => ⟨⟨_, L, σ, rfl, hp, by rw [ht]; exact h1, h2⟩, h3.F ht⟩) h3.2.2 hd hX.2.2.2.2.2.2.2.1
/-! ===== calls ===== -/
/-- the words of a call of y by index idx of own's pool -/
def CB (own : String) (idx : Nat) (y : MethodName) (cy : ByteArray) (ny : Nat) (ry : Option FieldType) (np : Nat) : Prop :=
  Cond.methodLink own idx y ∈ TT ∧ Cond.initialized y.cls ∈ TT ∧ Cond.code y cy ny ry ∈ TT ∧ y.cls ≠ "java/lang/invoke/MethodHandle" ∧ y.cls ≠ "java/lang/invoke/VarHandle" ∧ (parseMethodDescriptor y.desc).map (fun d => d.parameters.length) = some np
theorem TT_good {y : MethodName} {cy : ByteArray} {ny : Nat} {ry : Option FieldType} (h : Cond.code y cy ny ry ∈ TT) : GoodIn TT (.code y cy ny ry :: TT) := by
  intro w hw
  rcases List.mem_cons.mp hw with e | e
  · subst e
    exact ⟨h, good_of_word (List.mem_filter.mp h).2⟩
  · exact ⟨e, good_of_word (List.mem_filter.mp e).2⟩
theorem CB.of (hX : Ok X cc own nm rm ret) {idx : Nat} {y : MethodName} {cy : ByteArray} {ny np : Nat} {ry : Option FieldType} {rmy : Room} (h : CB own idx y cy ny ry np) (hR : rmy.frames + 1 ≤ rm.frames ∧ 8 + (ny + 11) + rmy.locals ≤ rm.locals) : CallB (xR X) (xs X) (xa X) own idx y cy ny ry (.code y cy ny ry :: TT) rmy rmy.cells rmy.slots np := by
  obtain ⟨h1, h2, h3, h4, h5, h6⟩ := h
  have hts := hX.2.2.2.2.1
  refine ⟨rfl, rfl, ?_, ?_, pay_in hts (TT_good h3), List.mem_cons_self, hts _ h3, hts _ h2, ⟨h4, h5⟩, fun sig h => ?_, hts _ h1⟩
  · rw [hX.2.2.2.2.2.2.2.2.1]; exact hR.1
  · rw [hX.2.2.2.2.2.2.2.2.1]; exact hR.2
  · rw [h] at h6
    exact (Option.some.inj h6).symm
theorem Pr.blind {D : Ds} {L : La} {σ : Me} {sz : Nat} {As : List Value} : FrameBlind (Pr D L σ sz As) := by
  intro a U g mk h
  obtain ⟨e, h1, h2, h3, h4⟩ := h
  exact ⟨e, h1, h2, Kd.same (s := U) (U := U.calling g mk a) rfl h3, h4⟩
theorem fr_in (hX : Ok X cc own nm rm ret) {H : Heap} {locs : List Loc} (h2 : Ap (xA X) L) (h3 : va_S (xA X) (xs X).heap H locs) : ∀ q, fr L H.size q → xA X q := by
  intro q hq
  rcases hq with ⟨id, x, h, e⟩ | h
  · rw [← e]; exact h2.2 id x h
  · exact hX.2.2.2.2.2.2.1 q (Nat.le_trans h3.1 h)
/-- behind a call -/
theorem back_call (hX : Ok X cc own nm rm ret) {H : Heap} {locs : List Loc} {la : Array Slot} {post : Po} {rmy : Room} {rest st0 : List Value} {al : List Value} (h2 : Ap (xA X) L) (h3 : va_S (xA X) (xs X).heap H locs) (h4 : lv_has la (xn X) ls)
    (hr : va_Run (xp X) (xl X) (xe X) (xR X) (xs X) (xm X) (xa X) (xb X) (xme X) (xc X) H locs mc ms rmy.cells rmy.slots (F0 (xm X) pc la st0) rest (Qr (xD X) L H.size post al.toArray) (fr L H.size))
    (kk : ∀ v L' σ', post v L' σ' → At X L' σ' (mc + rmy.cells) (ms + rmy.slots) ls (pc + 3) (v.toList ++ rest)) : W (xp X) (xl X) (xe X) (xR X) (xs X) (xm X) (xa X) (xb X) (xme X) (xc X) H locs mc ms (xQ X) (F0 (xm X) pc la st0) := by
  intro T hT Y
  obtain ⟨v, s0, t, T', Lc, h0, Y', hL, e1, e2, ⟨⟨v', L', σ', hv, hp, hH, hA'⟩, hz, hk⟩, hst⟩ := hr T hT Y
  cases hv
  rw [h0] at hz hk
  have hin := fr_in hX h2 h3
  obtain ⟨t2, a1, b1⟩ := kk v L' σ' hp T'.heap (locs ++ Lc) la (by rw [e1]; exact hH) (hA'.wk hin)
    ⟨Nat.le_trans h3.1 (by rw [e1]; exact hz), fun q q1 q2 => by rw [e1, hk q (Nat.lt_of_lt_of_le q1 h3.1) (fun z => q2 (hin q z))]; exact h3.2.1 q q1 q2, fun q hq => by
      rcases List.mem_append.mp hq with h | h
      · exact h3.2.2 q h
      · exact hin _ (hL q h)⟩ h4 T' rfl Y'
  exact ⟨t2, hst t2 a1, b1⟩
theorem fix_of (hX : Ok X cc own nm rm ret) : CallFix (xp X) (xm X) (xc X) cc (xn X) (xs X) (xa X) TT own := ⟨hX.1, hX.2.1, hX.2.2.1, hX.2.2.2.1, hX.2.2.2.2.1⟩
theorem r_callS (hX : Ok X cc own nm rm ret) {idx : Nat} {y : MethodName} {cy : ByteArray} {ny np : Nat} {ry : Option FieldType} {rmy : Room} {post : Po} {As rest st0 : List Value} (hM : Ct (xl X) y cy ny ry rmy (xD X) L σ As post) (hd : Dc cc pc (.invokestatic idx) 3 nx) (hw : CB own idx y cy ny ry np) (hs : Cond.static y ∈ TT) (hn : As.length = np) (hst : st0 = As.reverse ++ rest)
    (hR : rmy.frames + 1 ≤ rm.frames ∧ 8 + (ny + 11) + rmy.locals ≤ rm.locals) (hC : mc + rmy.cells ≤ rm.cells ∧ ms + rmy.slots ≤ rm.slots) (hcat : (rest.map fun v => v.category).sum ≤ 8)
    (kk : ∀ v L' σ', post v L' σ' → At X L' σ' (mc + rmy.cells) (ms + rmy.slots) ls nx (v.toList ++ rest)) : At X L σ mc ms ls pc st0 := by
  obtain ⟨hd, rfl⟩ := hd
  intro H locs la h1 h2 h3 h4
  refine back_call hX (al := As) h2 h3 h4 (va_runS (As := As) (rest := rest) (fix_of hX) (hM H.size) ⟨CB.of hX hw hR, hX.2.2.2.2.1 _ hs⟩ ⟨Pr.blind, fun U hU hW => ⟨rfl, by rw [hU], by rw [hU]; exact h1, hX.2.2.2.2.2.1.warm hW, h2.wk (fun _ _ => trivial)⟩⟩ rfl hn h4.1 hst (lv_room hcat) hd (by rw [hX.2.2.2.2.2.2.2.2.1]; exact hC)) kk
theorem recv_at (hX : Ok X cc own nm rm ret) {H : Heap} {id k n : Nat} (h1 : Hp (xD X) L σ H) (hs : L.2.1 id = some (k, n)) (hk : k < 10) : ∃ cell : Cell, H[L.1 id]? = some cell ∧ cell.vm.isStatics = false ∧ (xs X).vm.findClass (cq k).1 = some cell.cls := by
  have hc := h1.1 id k n hs
  unfold Ce at hc
  rw [if_pos hk] at hc
  obtain ⟨cell, q1, q2, q3, q4⟩ := hc
  exact ⟨cell, q1, by rw [q3]; rfl, by rw [q2]; exact (hX.2.2.2.2.2.1.1 k hk).2.1⟩
theorem r_callV (hX : Ok X cc own nm rm ret) {idx id k n : Nat} {y : MethodName} {cy : ByteArray} {ny np : Nat} {ry : Option FieldType} {rmy : Room} {post : Po} {As rest st0 : List Value} (hM : Ct (xl X) y cy ny ry rmy (xD X) L σ (.ref (L.1 id) :: As) post) (hd : Dc cc pc (.invokevirtual idx) 3 nx) (hw : CB own idx y cy ny ry np) (hs : Cond.instanceMethod y ∈ TT ∧ Cond.selects (cq k).1 y y ∈ TT) (hid : L.2.1 id = some (k, n)) (hk : k < 10) (hn : As.length = np) (hst : st0 = As.reverse ++ .ref (L.1 id) :: rest)
    (hR : rmy.frames + 1 ≤ rm.frames ∧ 8 + (ny + 11) + rmy.locals ≤ rm.locals) (hC : mc + rmy.cells ≤ rm.cells ∧ ms + rmy.slots ≤ rm.slots) (hcat : (rest.map fun v => v.category).sum ≤ 8)
    (kk : ∀ v L' σ', post v L' σ' → At X L' σ' (mc + rmy.cells) (ms + rmy.slots) ls nx (v.toList ++ rest)) : At X L σ mc ms ls pc st0 := by
  obtain ⟨hd, rfl⟩ := hd
  intro H locs la h1 h2 h3 h4
  refine back_call hX (al := .ref (L.1 id) :: As) h2 h3 h4 (va_runV (As := As) (rest := rest) (fix_of hX) (hM H.size) ⟨CB.of hX hw hR, hX.2.2.2.2.1 _ hs.1, hX.2.2.2.2.1 _ hs.2⟩ ⟨Pr.blind, recv_at hX h1 hid hk, fun U hU hW => ⟨rfl, by rw [hU], by rw [hU]; exact h1, hX.2.2.2.2.2.1.warm hW, h2.wk (fun _ _ => trivial)⟩⟩ rfl hn h4.1 hst (lv_room hcat) hd (by rw [hX.2.2.2.2.2.2.2.2.1]; exact hC)) kk
theorem r_callI (hX : Ok X cc own nm rm ret) {idx b : Nat} {y : MethodName} {cy : ByteArray} {ny np : Nat} {rmy : Room} {post : Po} {As rest st0 : List Value} (hM : Ct (xl X) y cy ny none rmy (xD X) L σ (.ref b :: As) post) (hd : Dc cc pc (.invokespecial idx) 3 nx) (hw : CB own idx y cy ny none np) (hs : y.name = "<init>" ∧ Cond.instanceMethod y ∈ TT) (hn : As.length = np) (hst : st0 = As.reverse ++ .ref b :: rest)
    (hR : rmy.frames + 1 ≤ rm.frames ∧ 8 + (ny + 11) + rmy.locals ≤ rm.locals) (hC : mc + rmy.cells ≤ rm.cells ∧ ms + rmy.slots ≤ rm.slots) (hcat : (rest.map fun v => v.category).sum ≤ 8)
    (kk : ∀ v L' σ', post v L' σ' → At X L' σ' (mc + rmy.cells) (ms + rmy.slots) ls nx (v.toList ++ rest)) : At X L σ mc ms ls pc st0 := by
  obtain ⟨hd, rfl⟩ := hd
  intro H locs la h1 h2 h3 h4
  refine back_call hX (al := .ref b :: As) h2 h3 h4 (va_runI (As := As) (rest := rest) (fix_of hX) (hM H.size) ⟨CB.of hX hw hR, hs.1, hX.2.2.2.2.1 _ hs.2⟩ ⟨Pr.blind, fun U hU hW => ⟨rfl, by rw [hU], by rw [hU]; exact h1, hX.2.2.2.2.2.1.warm hW, h2.wk (fun _ _ => trivial)⟩⟩ rfl hn h4.1 hst (lv_room hcat) hd (by rw [hX.2.2.2.2.2.2.2.2.1]; exact hC)) kk
end
def PF (L : La) (σ : Me) (r : Int32) : Po := fun v L' σ' => v = some (.int r) ∧ L' = L ∧ σ' = σ
def PI (L : La) (p : Int32 → Me → Prop) : Po := fun v L' σ' => ∃ r, v = some (.int r) ∧ L' = L ∧ p r σ'
def PV (L : La) (p : Me → Prop) : Po := fun v L' σ' => v = none ∧ L' = L ∧ p σ'
section
variable {X : Cx} {cc : ByteArray} {own nm : String} {rm : Room} {ret : Option FieldType} {L : La} {σ : Me} {mc ms : Nat} {ls : List (Nat × Value)} {pc nx tgt : Nat} {st : List Value} {off : Int} {idx : Nat} {y : MethodName} {cy : ByteArray} {ny np : Nat} {ry : Option FieldType} {fr0 lo0 : Nat} {As rest st0 : List Value}
theorem r_callSF (hX : Ok X cc own nm rm ret) {r : Int32} (hM : Ct (xl X) y cy ny ry { frames := fr0, cells := 0, slots := 0, locals := lo0 } (xD X) L σ As (PF L σ r)) (hd : Dc cc pc (.invokestatic idx) 3 nx) (hw : CB own idx y cy ny ry np ∧ Cond.static y ∈ TT) (hn : As.length = np) (hst : st0 = As.reverse ++ rest)
    (hR : fr0 + 1 ≤ rm.frames ∧ 8 + (ny + 11) + lo0 ≤ rm.locals) (hC : mc ≤ rm.cells ∧ ms ≤ rm.slots) (hcat : (rest.map fun v => v.category).sum ≤ 8) (kk : At X L σ mc ms ls nx (.int r :: rest)) : At X L σ mc ms ls pc st0 := by
  refine r_callS hX hM hd hw.1 hw.2 hn hst hR hC hcat ?_
  rintro v L' σ' ⟨rfl, rfl, rfl⟩
  exact kk
theorem r_callSI (hX : Ok X cc own nm rm ret) {q : Int32 → Me → Prop} (hM : Ct (xl X) y cy ny ry { frames := fr0, cells := 0, slots := 0, locals := lo0 } (xD X) L σ As (PI L q)) (hd : Dc cc pc (.invokestatic idx) 3 nx) (hw : CB own idx y cy ny ry np ∧ Cond.static y ∈ TT) (hn : As.length = np) (hst : st0 = As.reverse ++ rest)
    (hR : fr0 + 1 ≤ rm.frames ∧ 8 + (ny + 11) + lo0 ≤ rm.locals) (hC : mc ≤ rm.cells ∧ ms ≤ rm.slots) (hcat : (rest.map fun v => v.category).sum ≤ 8) (kk : ∀ r σ', q r σ' → At X L σ' mc ms ls nx (.int r :: rest)) : At X L σ mc ms ls pc st0 := by
  refine r_callS hX hM hd hw.1 hw.2 hn hst hR hC hcat ?_
  rintro v L' σ' ⟨r, rfl, rfl, h⟩
  exact kk r σ' h
theorem r_callSV (hX : Ok X cc own nm rm ret) {q : Me → Prop} (hM : Ct (xl X) y cy ny ry { frames := fr0, cells := 0, slots := 0, locals := lo0 } (xD X) L σ As (PV L q)) (hd : Dc cc pc (.invokestatic idx) 3 nx) (hw : CB own idx y cy ny ry np ∧ Cond.static y ∈ TT) (hn : As.length = np) (hst : st0 = As.reverse ++ rest)
    (hR : fr0 + 1 ≤ rm.frames ∧ 8 + (ny + 11) + lo0 ≤ rm.locals) (hC : mc ≤ rm.cells ∧ ms ≤ rm.slots) (hcat : (rest.map fun v => v.category).sum ≤ 8) (kk : ∀ σ', q σ' → At X L σ' mc ms ls nx rest) : At X L σ mc ms ls pc st0 := by
  refine r_callS hX hM hd hw.1 hw.2 hn hst hR hC hcat ?_
  rintro v L' σ' ⟨rfl, rfl, h⟩
  exact kk σ' h
theorem r_callVF (hX : Ok X cc own nm rm ret) {id k n : Nat} {r : Int32} (hM : Ct (xl X) y cy ny ry { frames := fr0, cells := 0, slots := 0, locals := lo0 } (xD X) L σ (.ref (L.1 id) :: As) (PF L σ r)) (hd : Dc cc pc (.invokevirtual idx) 3 nx) (hw : CB own idx y cy ny ry np ∧ Cond.instanceMethod y ∈ TT ∧ Cond.selects (cq k).1 y y ∈ TT ∧ k < 10) (hid : L.2.1 id = some (k, n)) (hn : As.length = np) (hst : st0 = As.reverse ++ .ref (L.1 id) :: rest)
    (hR : fr0 + 1 ≤ rm.frames ∧ 8 + (ny + 11) + lo0 ≤ rm.locals) (hC : mc ≤ rm.cells ∧ ms ≤ rm.slots) (hcat : (rest.map fun v => v.category).sum ≤ 8) (kk : At X L σ mc ms ls nx (.int r :: rest)) : At X L σ mc ms ls pc st0 := by
  refine r_callV hX hM hd hw.1 ⟨hw.2.1, hw.2.2.1⟩ hid hw.2.2.2 hn hst hR hC hcat ?_
  rintro v L' σ' ⟨rfl, rfl, rfl⟩
  exact kk
theorem r_callVI (hX : Ok X cc own nm rm ret) {id k n : Nat} {q : Int32 → Me → Prop} (hM : Ct (xl X) y cy ny ry { frames := fr0, cells := 0, slots := 0, locals := lo0 } (xD X) L σ (.ref (L.1 id) :: As) (PI L q)) (hd : Dc cc pc (.invokevirtual idx) 3 nx) (hw : CB own idx y cy ny ry np ∧ Cond.instanceMethod y ∈ TT ∧ Cond.selects (cq k).1 y y ∈ TT ∧ k < 10) (hid : L.2.1 id = some (k, n)) (hn : As.length = np) (hst : st0 = As.reverse ++ .ref (L.1 id) :: rest)
    (hR : fr0 + 1 ≤ rm.frames ∧ 8 + (ny + 11) + lo0 ≤ rm.locals) (hC : mc ≤ rm.cells ∧ ms ≤ rm.slots) (hcat : (rest.map fun v => v.category).sum ≤ 8) (kk : ∀ r σ', q r σ' → At X L σ' mc ms ls nx (.int r :: rest)) : At X L σ mc ms ls pc st0 := by
  refine r_callV hX hM hd hw.1 ⟨hw.2.1, hw.2.2.1⟩ hid hw.2.2.2 hn hst hR hC hcat ?_
  rintro v L' σ' ⟨r, rfl, rfl, h⟩
  exact kk r σ' h
theorem r_callVV (hX : Ok X cc own nm rm ret) {id k n : Nat} {q : Me → Prop} (hM : Ct (xl X) y cy ny ry { frames := fr0, cells := 0, slots := 0, locals := lo0 } (xD X) L σ (.ref (L.1 id) :: As) (PV L q)) (hd : Dc cc pc (.invokevirtual idx) 3 nx) (hw : CB own idx y cy ny ry np ∧ Cond.instanceMethod y ∈ TT ∧ Cond.selects (cq k).1 y y ∈ TT ∧ k < 10) (hid : L.2.1 id = some (k, n)) (hn : As.length = np) (hst : st0 = As.reverse ++ .ref (L.1 id) :: rest)
    (hR : fr0 + 1 ≤ rm.frames ∧ 8 + (ny + 11) + lo0 ≤ rm.locals) (hC : mc ≤ rm.cells ∧ ms ≤ rm.slots) (hcat : (rest.map fun v => v.category).sum ≤ 8) (kk : ∀ σ', q σ' → At X L σ' mc ms ls nx rest) : At X L σ mc ms ls pc st0 := by
  refine r_callV hX hM hd hw.1 ⟨hw.2.1, hw.2.2.1⟩ hid hw.2.2.2 hn hst hR hC hcat ?_
  rintro v L' σ' ⟨rfl, rfl, h⟩
  exact kk σ' h
end
end
section
theorem inT_1 {w : Cond} (h : w ∈ tables_1_1) (g : goodWord w = true) : w ∈ TT := List.mem_filter.mpr ⟨List.mem_append_right _ (List.mem_append_left _ h), g⟩
theorem inT_2 {w : Cond} (h : w ∈ tables_1_2) (g : goodWord w = true) : w ∈ TT := List.mem_filter.mpr ⟨List.mem_append_right _ (List.mem_append_right _ (List.mem_append_left _ h)), g⟩
theorem inT_3 {w : Cond} (h : w ∈ tables_1_3) (g : goodWord w = true) : w ∈ TT := List.mem_filter.mpr ⟨List.mem_append_right _ (List.mem_append_right _ (List.mem_append_right _ (List.mem_append_left _ h))), g⟩
theorem inT_4 {w : Cond} (h : w ∈ tables_1_4) (g : goodWord w = true) : w ∈ TT := List.mem_filter.mpr ⟨List.mem_append_right _ (List.mem_append_right _ (List.mem_append_right _ (List.mem_append_right _ (List.mem_append_left _ h)))), g⟩
theorem inT_5 {w : Cond} (h : w ∈ tables_1_5) (g : goodWord w = true) : w ∈ TT := List.mem_filter.mpr ⟨List.mem_append_right _ (List.mem_append_right _ (List.mem_append_right _ (List.mem_append_right _ (List.mem_append_right _ (List.mem_append_left _ h))))), g⟩
theorem inT_6 {w : Cond} (h : w ∈ tables_1_6) (g : goodWord w = true) : w ∈ TT := List.mem_filter.mpr ⟨List.mem_append_right _ (List.mem_append_right _ (List.mem_append_right _ (List.mem_append_right _ (List.mem_append_right _ (List.mem_append_right _ (List.mem_append_left _ h)))))), g⟩
theorem inT_7 {w : Cond} (h : w ∈ tables_1_7) (g : goodWord w = true) : w ∈ TT := List.mem_filter.mpr ⟨List.mem_append_right _ (List.mem_append_right _ (List.mem_append_right _ (List.mem_append_right _ (List.mem_append_right _ (List.mem_append_right _ (List.mem_append_right _ h)))))), g⟩
theorem inS_1 {q : MethodName × Nat} (h : q ∈ lw_privs_1) : Cond.selects q.1.cls q.1 q.1 ∈ TT := List.mem_filter.mpr ⟨List.mem_append_left _ (List.mem_map.mpr ⟨q, (List.mem_append_left _ h), rfl⟩), rfl⟩
theorem inS_2 {q : MethodName × Nat} (h : q ∈ lw_privs_2) : Cond.selects q.1.cls q.1 q.1 ∈ TT := List.mem_filter.mpr ⟨List.mem_append_left _ (List.mem_map.mpr ⟨q, (List.mem_append_right _ (List.mem_append_left _ h)), rfl⟩), rfl⟩
theorem inS_3 {q : MethodName × Nat} (h : q ∈ lw_privs_3) : Cond.selects q.1.cls q.1 q.1 ∈ TT := List.mem_filter.mpr ⟨List.mem_append_left _ (List.mem_map.mpr ⟨q, (List.mem_append_right _ (List.mem_append_right _ (List.mem_append_left _ h))), rfl⟩), rfl⟩
theorem inS_4 {q : MethodName × Nat} (h : q ∈ lw_privs_4) : Cond.selects q.1.cls q.1 q.1 ∈ TT := List.mem_filter.mpr ⟨List.mem_append_left _ (List.mem_map.mpr ⟨q, (List.mem_append_right _ (List.mem_append_right _ (List.mem_append_right _ (List.mem_append_left _ h)))), rfl⟩), rfl⟩
theorem inS_5 {q : MethodName × Nat} (h : q ∈ lw_privs_5) : Cond.selects q.1.cls q.1 q.1 ∈ TT := List.mem_filter.mpr ⟨List.mem_append_left _ (List.mem_map.mpr ⟨q, (List.mem_append_right _ (List.mem_append_right _ (List.mem_append_right _ (List.mem_append_right _ h)))), rfl⟩), rfl⟩
theorem cb_L_9 : CB RL 9 yX9_init cX9_init 2 none 0 ∧ yX9_init.name = "<init>" ∧ Cond.instanceMethod yX9_init ∈ TT := ⟨⟨(inT_1 (List.mem_of_getElem? (i := 23) rfl) rfl), (inT_1 (List.mem_of_getElem? (i := 1) rfl) rfl), (inT_1 (List.mem_of_getElem? (i := 25) rfl) rfl), by decide, by decide, by decide +kernel⟩, rfl, (inT_1 (List.mem_of_getElem? (i := 24) rfl) rfl)⟩
theorem fl_X8_9 : FL RX8 9 7 0 := ⟨by decide, by decide, (inT_1 (List.mem_of_getElem? (i := 41) rfl) rfl)⟩
theorem fl_X3_112 : FL RX3 112 7 0 := ⟨by decide, by decide, (inT_1 (List.mem_of_getElem? (i := 42) rfl) rfl)⟩
theorem fl_X9_176 : FL RX9 176 7 0 := ⟨by decide, by decide, (inT_1 (List.mem_of_getElem? (i := 43) rfl) rfl)⟩
theorem fl_X8_15 : FL RX8 15 7 1 := ⟨by decide, by decide, (inT_1 (List.mem_of_getElem? (i := 44) rfl) rfl)⟩
theorem fl_X3_100 : FL RX3 100 7 1 := ⟨by decide, by decide, (inT_1 (List.mem_of_getElem? (i := 45) rfl) rfl)⟩
theorem fl_X9_135 : FL RX9 135 7 1 := ⟨by decide, by decide, (inT_1 (List.mem_of_getElem? (i := 46) rfl) rfl)⟩
theorem fl_X8_19 : FL RX8 19 7 2 := ⟨by decide, by decide, (inT_1 (List.mem_of_getElem? (i := 47) rfl) rfl)⟩
theorem fl_X9_138 : FL RX9 138 7 2 := ⟨by decide, by decide, (inT_1 (List.mem_of_getElem? (i := 48) rfl) rfl)⟩
theorem fl_X3_115 : FL RX3 115 7 2 := ⟨by decide, by decide, (inT_1 (List.mem_of_getElem? (i := 49) rfl) rfl)⟩
theorem fl_X8_22 : FL RX8 22 7 3 := ⟨by decide, by decide, (inT_1 (List.mem_of_getElem? (i := 50) rfl) rfl)⟩
theorem fl_X3_89 : FL RX3 89 7 3 := ⟨by decide, by decide, (inT_1 (List.mem_of_getElem? (i := 51) rfl) rfl)⟩
theorem fl_X9_141 : FL RX9 141 7 3 := ⟨by decide, by decide, (inT_1 (List.mem_of_getElem? (i := 52) rfl) rfl)⟩
theorem fl_X8_25 : FL RX8 25 7 4 := ⟨by decide, by decide, (inT_1 (List.mem_of_getElem? (i := 53) rfl) rfl)⟩
theorem fl_X3_83 : FL RX3 83 7 4 := ⟨by decide, by decide, (inT_1 (List.mem_of_getElem? (i := 54) rfl) rfl)⟩
theorem fl_X9_144 : FL RX9 144 7 4 := ⟨by decide, by decide, (inT_1 (List.mem_of_getElem? (i := 55) rfl) rfl)⟩
theorem fl_X8_28 : FL RX8 28 7 5 := ⟨by decide, by decide, (inT_1 (List.mem_of_getElem? (i := 56) rfl) rfl)⟩
theorem fl_X3_86 : FL RX3 86 7 5 := ⟨by decide, by decide, (inT_1 (List.mem_of_getElem? (i := 57) rfl) rfl)⟩
theorem fl_X9_147 : FL RX9 147 7 5 := ⟨by decide, by decide, (inT_1 (List.mem_of_getElem? (i := 58) rfl) rfl)⟩
theorem fl_X3_9 : FL RX3 9 2 0 := ⟨by decide, by decide, (inT_1 (List.mem_of_getElem? (i := 75) rfl) rfl)⟩
theorem fl_X9_192 : FL RX9 192 2 0 := ⟨by decide, by decide, (inT_1 (List.mem_of_getElem? (i := 76) rfl) rfl)⟩
theorem fl_X3_15 : FL RX3 15 2 1 := ⟨by decide, by decide, (inT_1 (List.mem_of_getElem? (i := 77) rfl) rfl)⟩
theorem fl_X9_80 : FL RX9 80 2 1 := ⟨by decide, by decide, (inT_1 (List.mem_of_getElem? (i := 78) rfl) rfl)⟩
theorem fl_X3_19 : FL RX3 19 2 2 := ⟨by decide, by decide, (inT_1 (List.mem_of_getElem? (i := 79) rfl) rfl)⟩
theorem fl_X9_83 : FL RX9 83 2 2 := ⟨by decide, by decide, (inT_1 (List.mem_of_getElem? (i := 80) rfl) rfl)⟩
theorem fl_X3_22 : FL RX3 22 2 3 := ⟨by decide, by decide, (inT_1 (List.mem_of_getElem? (i := 81) rfl) rfl)⟩
theorem fl_X0_19 : FL RX0 19 2 3 := ⟨by decide, by decide, (inT_1 (List.mem_of_getElem? (i := 82) rfl) rfl)⟩
theorem fl_X9_107 : FL RX9 107 2 3 := ⟨by decide, by decide, (inT_1 (List.mem_of_getElem? (i := 83) rfl) rfl)⟩
theorem fl_X3_25 : FL RX3 25 2 4 := ⟨by decide, by decide, (inT_1 (List.mem_of_getElem? (i := 84) rfl) rfl)⟩
theorem fl_X9_110 : FL RX9 110 2 4 := ⟨by decide, by decide, (inT_1 (List.mem_of_getElem? (i := 85) rfl) rfl)⟩
theorem fl_X3_31 : FL RX3 31 2 5 := ⟨by decide, by decide, (inT_1 (List.mem_of_getElem? (i := 86) rfl) rfl)⟩
theorem fl_X0_35 : FL RX0 35 2 5 := ⟨by decide, by decide, (inT_1 (List.mem_of_getElem? (i := 87) rfl) rfl)⟩
theorem fl_X9_86 : FL RX9 86 2 5 := ⟨by decide, by decide, (inT_1 (List.mem_of_getElem? (i := 88) rfl) rfl)⟩
theorem fl_X3_35 : FL RX3 35 2 6 := ⟨by decide, by decide, (inT_1 (List.mem_of_getElem? (i := 89) rfl) rfl)⟩
theorem fl_X9_261 : FL RX9 261 2 6 := ⟨by decide, by decide, (inT_1 (List.mem_of_getElem? (i := 90) rfl) rfl)⟩
theorem fl_X3_40 : FL RX3 40 2 7 := ⟨by decide, by decide, (inT_1 (List.mem_of_getElem? (i := 91) rfl) rfl)⟩
theorem fl_X9_264 : FL RX9 264 2 7 := ⟨by decide, by decide, (inT_1 (List.mem_of_getElem? (i := 92) rfl) rfl)⟩
theorem fl_X3_44 : FL RX3 44 2 8 := ⟨by decide, by decide, (inT_1 (List.mem_of_getElem? (i := 93) rfl) rfl)⟩
theorem fl_X9_276 : FL RX9 276 2 8 := ⟨by decide, by decide, (inT_1 (List.mem_of_getElem? (i := 94) rfl) rfl)⟩
theorem fl_X3_47 : FL RX3 47 2 9 := ⟨by decide, by decide, (inT_1 (List.mem_of_getElem? (i := 95) rfl) rfl)⟩
theorem fl_X9_243 : FL RX9 243 2 9 := ⟨by decide, by decide, (inT_1 (List.mem_of_getElem? (i := 96) rfl) rfl)⟩
theorem fl_X3_50 : FL RX3 50 2 10 := ⟨by decide, by decide, (inT_1 (List.mem_of_getElem? (i := 97) rfl) rfl)⟩
theorem fl_X3_53 : FL RX3 53 2 11 := ⟨by decide, by decide, (inT_1 (List.mem_of_getElem? (i := 98) rfl) rfl)⟩
theorem fl_X0_9 : FL RX0 9 0 0 := ⟨by decide, by decide, (inT_1 (List.mem_of_getElem? (i := 130) rfl) rfl)⟩
theorem fl_X6_9 : FL RX6 9 5 0 := ⟨by decide, by decide, (inT_1 (List.mem_of_getElem? (i := 140) rfl) rfl)⟩
theorem fl_X2_68 : FL RX2 68 5 0 := ⟨by decide, by decide, (inT_1 (List.mem_of_getElem? (i := 141) rfl) rfl)⟩
theorem fl_X6_15 : FL RX6 15 5 1 := ⟨by decide, by decide, (inT_1 (List.mem_of_getElem? (i := 142) rfl) rfl)⟩
theorem fl_X2_63 : FL RX2 63 5 1 := ⟨by decide, by decide, (inT_1 (List.mem_of_getElem? (i := 143) rfl) rfl)⟩
theorem fl_X9_246 : FL RX9 246 5 1 := ⟨by decide, by decide, (inT_1 (List.mem_of_getElem? (i := 144) rfl) rfl)⟩
theorem cb_X9_32 : CB RX9 32 yX2_init cX2_init 2 none 1 ∧ yX2_init.name = "<init>" ∧ Cond.instanceMethod yX2_init ∈ TT := ⟨⟨(inT_1 (List.mem_of_getElem? (i := 153) rfl) rfl), (inT_1 (List.mem_of_getElem? (i := 6) rfl) rfl), (inT_1 (List.mem_of_getElem? (i := 155) rfl) rfl), by decide, by decide, by decide +kernel⟩, rfl, (inT_1 (List.mem_of_getElem? (i := 154) rfl) rfl)⟩
theorem fl_X2_37 : FL RX2 37 1 0 := ⟨by decide, by decide, (inT_1 (List.mem_of_getElem? (i := 157) rfl) rfl)⟩
theorem fl_X2_9 : FL RX2 9 1 1 := ⟨by decide, by decide, (inT_1 (List.mem_of_getElem? (i := 158) rfl) rfl)⟩
theorem fl_X2_15 : FL RX2 15 1 2 := ⟨by decide, by decide, (inT_1 (List.mem_of_getElem? (i := 159) rfl) rfl)⟩
theorem fl_X2_19 : FL RX2 19 1 3 := ⟨by decide, by decide, (inT_1 (List.mem_of_getElem? (i := 160) rfl) rfl)⟩
theorem fl_X2_22 : FL RX2 22 1 4 := ⟨by decide, by decide, (inT_1 (List.mem_of_getElem? (i := 161) rfl) rfl)⟩
theorem fl_X2_25 : FL RX2 25 1 5 := ⟨by decide, by decide, (inT_1 (List.mem_of_getElem? (i := 162) rfl) rfl)⟩
theorem fl_X9_254 : FL RX9 254 1 5 := ⟨by decide, by decide, (inT_1 (List.mem_of_getElem? (i := 163) rfl) rfl)⟩
theorem fl_X2_28 : FL RX2 28 1 6 := ⟨by decide, by decide, (inT_1 (List.mem_of_getElem? (i := 164) rfl) rfl)⟩
theorem fl_X2_31 : FL RX2 31 1 7 := ⟨by decide, by decide, (inT_1 (List.mem_of_getElem? (i := 165) rfl) rfl)⟩
theorem fl_X2_34 : FL RX2 34 1 8 := ⟨by decide, by decide, (inT_1 (List.mem_of_getElem? (i := 166) rfl) rfl)⟩
theorem fl_X4_11 : FL RX4 11 3 0 := ⟨by decide, by decide, (inT_1 (List.mem_of_getElem? (i := 195) rfl) rfl)⟩
theorem fl_X9_296 : FL RX9 296 3 0 := ⟨by decide, by decide, (inT_1 (List.mem_of_getElem? (i := 196) rfl) rfl)⟩
theorem fl_X4_15 : FL RX4 15 3 1 := ⟨by decide, by decide, (inT_1 (List.mem_of_getElem? (i := 197) rfl) rfl)⟩
theorem fl_X9_308 : FL RX9 308 3 1 := ⟨by decide, by decide, (inT_1 (List.mem_of_getElem? (i := 198) rfl) rfl)⟩
theorem fl_X4_18 : FL RX4 18 3 2 := ⟨by decide, by decide, (inT_1 (List.mem_of_getElem? (i := 199) rfl) rfl)⟩
theorem fl_X9_299 : FL RX9 299 3 2 := ⟨by decide, by decide, (inT_1 (List.mem_of_getElem? (i := 200) rfl) rfl)⟩
theorem fl_X5_9 : FL RX5 9 4 0 := ⟨by decide, by decide, (inT_1 (List.mem_of_getElem? (i := 213) rfl) rfl)⟩
theorem fl_X9_324 : FL RX9 324 4 0 := ⟨by decide, by decide, (inT_1 (List.mem_of_getElem? (i := 214) rfl) rfl)⟩
theorem fl_X5_15 : FL RX5 15 4 1 := ⟨by decide, by decide, (inT_1 (List.mem_of_getElem? (i := 215) rfl) rfl)⟩
theorem fl_X9_327 : FL RX9 327 4 1 := ⟨by decide, by decide, (inT_1 (List.mem_of_getElem? (i := 216) rfl) rfl)⟩
theorem fl_X5_18 : FL RX5 18 4 2 := ⟨by decide, by decide, (inT_1 (List.mem_of_getElem? (i := 217) rfl) rfl)⟩
theorem fl_X9_329 : FL RX9 329 4 2 := ⟨by decide, by decide, (inT_1 (List.mem_of_getElem? (i := 218) rfl) rfl)⟩
theorem fl_X5_21 : FL RX5 21 4 3 := ⟨by decide, by decide, (inT_1 (List.mem_of_getElem? (i := 219) rfl) rfl)⟩
theorem fl_X9_336 : FL RX9 336 4 3 := ⟨by decide, by decide, (inT_1 (List.mem_of_getElem? (i := 220) rfl) rfl)⟩
theorem fl_X5_24 : FL RX5 24 4 4 := ⟨by decide, by decide, (inT_1 (List.mem_of_getElem? (i := 221) rfl) rfl)⟩
theorem fl_X9_339 : FL RX9 339 4 4 := ⟨by decide, by decide, (inT_1 (List.mem_of_getElem? (i := 222) rfl) rfl)⟩
theorem fl_X9_10 : FL RX9 10 8 0 := ⟨by decide, by decide, (inT_1 (List.mem_of_getElem? (i := 234) rfl) rfl)⟩
theorem fl_X9_19 : FL RX9 19 8 1 := ⟨by decide, by decide, (inT_1 (List.mem_of_getElem? (i := 235) rfl) rfl)⟩
theorem fl_X9_26 : FL RX9 26 8 2 := ⟨by decide, by decide, (inT_1 (List.mem_of_getElem? (i := 236) rfl) rfl)⟩
theorem fl_X9_35 : FL RX9 35 8 3 := ⟨by decide, by decide, (inT_1 (List.mem_of_getElem? (i := 237) rfl) rfl)⟩
theorem fl_X9_41 : FL RX9 41 8 4 := ⟨by decide, by decide, (inT_1 (List.mem_of_getElem? (i := 238) rfl) rfl)⟩
theorem fl_X9_47 : FL RX9 47 8 5 := ⟨by decide, by decide, (inT_1 (List.mem_of_getElem? (i := 239) rfl) rfl)⟩
theorem fl_X9_51 : FL RX9 51 8 6 := ⟨by decide, by decide, (inT_2 (List.mem_of_getElem? (i := 0) rfl) rfl)⟩
theorem fl_X9_55 : FL RX9 55 8 7 := ⟨by decide, by decide, (inT_2 (List.mem_of_getElem? (i := 1) rfl) rfl)⟩
theorem fl_X9_59 : FL RX9 59 8 8 := ⟨by decide, by decide, (inT_2 (List.mem_of_getElem? (i := 2) rfl) rfl)⟩
theorem fl_X9_62 : FL RX9 62 8 9 := ⟨by decide, by decide, (inT_2 (List.mem_of_getElem? (i := 3) rfl) rfl)⟩
theorem cb_L_13 : CB RL 13 yX9_thing cX9_thing 2 (some .int) 1 ∧ Cond.instanceMethod yX9_thing ∈ TT ∧ Cond.selects (cq 8).1 yX9_thing yX9_thing ∈ TT ∧ 8 < 10 := ⟨⟨(inT_2 (List.mem_of_getElem? (i := 25) rfl) rfl), (inT_1 (List.mem_of_getElem? (i := 1) rfl) rfl), (inT_2 (List.mem_of_getElem? (i := 28) rfl) rfl), by decide, by decide, by decide +kernel⟩, (inT_2 (List.mem_of_getElem? (i := 26) rfl) rfl), (inT_2 (List.mem_of_getElem? (i := 27) rfl) rfl), by decide⟩
theorem cb_X9_67 : CB RX9 67 yX9_within cX9_within 3 (some .boolean) 3 ∧ Cond.static yX9_within ∈ TT := ⟨⟨(inT_2 (List.mem_of_getElem? (i := 29) rfl) rfl), (inT_1 (List.mem_of_getElem? (i := 1) rfl) rfl), (inT_2 (List.mem_of_getElem? (i := 31) rfl) rfl), by decide, by decide, by decide +kernel⟩, (inT_2 (List.mem_of_getElem? (i := 30) rfl) rfl)⟩
theorem cb_X9_71 : CB RX9 71 yX3_addThing cX3_addThing 3 (some .int) 1 ∧ Cond.instanceMethod yX3_addThing ∈ TT ∧ Cond.selects (cq 2).1 yX3_addThing yX3_addThing ∈ TT ∧ 2 < 10 := ⟨⟨(inT_2 (List.mem_of_getElem? (i := 32) rfl) rfl), (inT_1 (List.mem_of_getElem? (i := 2) rfl) rfl), (inT_2 (List.mem_of_getElem? (i := 35) rfl) rfl), by decide, by decide, by decide +kernel⟩, (inT_2 (List.mem_of_getElem? (i := 33) rfl) rfl), (inT_2 (List.mem_of_getElem? (i := 34) rfl) rfl), by decide⟩
theorem ko_X3_66 : Cond.constant RX3 66 (-1000000003) ∈ TT := (inT_2 (List.mem_of_getElem? (i := 36) rfl) rfl)
theorem ko_X9_75 : Cond.constant RX9 75 (-1000000001) ∈ TT := (inT_2 (List.mem_of_getElem? (i := 37) rfl) rfl)
theorem cb_L_18 : CB RL 18 yX9_thingTold cX9_thingTold 3 (some .int) 2 ∧ Cond.instanceMethod yX9_thingTold ∈ TT ∧ Cond.selects (cq 8).1 yX9_thingTold yX9_thingTold ∈ TT ∧ 8 < 10 := ⟨⟨(inT_2 (List.mem_of_getElem? (i := 38) rfl) rfl), (inT_1 (List.mem_of_getElem? (i := 1) rfl) rfl), (inT_2 (List.mem_of_getElem? (i := 41) rfl) rfl), by decide, by decide, by decide +kernel⟩, (inT_2 (List.mem_of_getElem? (i := 39) rfl) rfl), (inT_2 (List.mem_of_getElem? (i := 40) rfl) rfl), by decide⟩
theorem cb_X9_76 : CB RX9 76 yX9_isThing cX9_isThing 2 (some .boolean) 1 ∧ Cond.instanceMethod yX9_isThing ∈ TT ∧ Cond.selects (cq 8).1 yX9_isThing yX9_isThing ∈ TT ∧ 8 < 10 := ⟨⟨(inT_2 (List.mem_of_getElem? (i := 42) rfl) rfl), (inT_1 (List.mem_of_getElem? (i := 1) rfl) rfl), (inT_2 (List.mem_of_getElem? (i := 45) rfl) rfl), by decide, by decide, by decide +kernel⟩, (inT_2 (List.mem_of_getElem? (i := 44) rfl) rfl), (inS_1 (List.mem_of_getElem? (i := 0) rfl)), by decide⟩
theorem cb_X9_90 : CB RX9 90 yX8_countOf cX8_countOf 4 (some .int) 1 ∧ Cond.instanceMethod yX8_countOf ∈ TT ∧ Cond.selects (cq 7).1 yX8_countOf yX8_countOf ∈ TT ∧ 7 < 10 := ⟨⟨(inT_2 (List.mem_of_getElem? (i := 46) rfl) rfl), (inT_1 (List.mem_of_getElem? (i := 3) rfl) rfl), (inT_2 (List.mem_of_getElem? (i := 49) rfl) rfl), by decide, by decide, by decide +kernel⟩, (inT_2 (List.mem_of_getElem? (i := 47) rfl) rfl), (inT_2 (List.mem_of_getElem? (i := 48) rfl) rfl), by decide⟩
theorem cb_X9_95 : CB RX9 95 yX3_rank cX3_rank 4 none 0 ∧ Cond.instanceMethod yX3_rank ∈ TT ∧ Cond.selects (cq 2).1 yX3_rank yX3_rank ∈ TT ∧ 2 < 10 := ⟨⟨(inT_2 (List.mem_of_getElem? (i := 50) rfl) rfl), (inT_1 (List.mem_of_getElem? (i := 2) rfl) rfl), (inT_2 (List.mem_of_getElem? (i := 53) rfl) rfl), by decide, by decide, by decide +kernel⟩, (inT_2 (List.mem_of_getElem? (i := 51) rfl) rfl), (inT_2 (List.mem_of_getElem? (i := 52) rfl) rfl), by decide⟩
theorem cb_X3_79 : CB RX3 79 yX3_lawOf cX3_lawOf 3 (some (.object "FiveStars$Text")) 1 ∧ Cond.instanceMethod yX3_lawOf ∈ TT ∧ Cond.selects (cq 2).1 yX3_lawOf yX3_lawOf ∈ TT ∧ 2 < 10 := ⟨⟨(inT_2 (List.mem_of_getElem? (i := 54) rfl) rfl), (inT_1 (List.mem_of_getElem? (i := 2) rfl) rfl), (inT_2 (List.mem_of_getElem? (i := 57) rfl) rfl), by decide, by decide, by decide +kernel⟩, (inT_2 (List.mem_of_getElem? (i := 56) rfl) rfl), (inS_1 (List.mem_of_getElem? (i := 1) rfl)), by decide⟩
theorem cb_X3_128 : CB RX3 128 yX8_meanOrZero cX8_meanOrZero 2 (some .int) 1 ∧ Cond.instanceMethod yX8_meanOrZero ∈ TT ∧ Cond.selects (cq 7).1 yX8_meanOrZero yX8_meanOrZero ∈ TT ∧ 7 < 10 := ⟨⟨(inT_2 (List.mem_of_getElem? (i := 58) rfl) rfl), (inT_1 (List.mem_of_getElem? (i := 3) rfl) rfl), (inT_2 (List.mem_of_getElem? (i := 61) rfl) rfl), by decide, by decide, by decide +kernel⟩, (inT_2 (List.mem_of_getElem? (i := 59) rfl) rfl), (inT_2 (List.mem_of_getElem? (i := 60) rfl) rfl), by decide⟩
theorem cb_X8_60 : CB RX8 60 yX8_meanOf cX8_meanOf 3 (some .int) 1 ∧ Cond.instanceMethod yX8_meanOf ∈ TT ∧ Cond.selects (cq 7).1 yX8_meanOf yX8_meanOf ∈ TT ∧ 7 < 10 := ⟨⟨(inT_2 (List.mem_of_getElem? (i := 62) rfl) rfl), (inT_1 (List.mem_of_getElem? (i := 3) rfl) rfl), (inT_2 (List.mem_of_getElem? (i := 65) rfl) rfl), by decide, by decide, by decide +kernel⟩, (inT_2 (List.mem_of_getElem? (i := 63) rfl) rfl), (inT_2 (List.mem_of_getElem? (i := 64) rfl) rfl), by decide⟩
theorem cb_X8_53 : CB RX8 53 yX8_countOf cX8_countOf 4 (some .int) 1 ∧ Cond.instanceMethod yX8_countOf ∈ TT ∧ Cond.selects (cq 7).1 yX8_countOf yX8_countOf ∈ TT ∧ 7 < 10 := ⟨⟨(inT_2 (List.mem_of_getElem? (i := 66) rfl) rfl), (inT_1 (List.mem_of_getElem? (i := 3) rfl) rfl), (inT_2 (List.mem_of_getElem? (i := 49) rfl) rfl), by decide, by decide, by decide +kernel⟩, (inT_2 (List.mem_of_getElem? (i := 47) rfl) rfl), (inT_2 (List.mem_of_getElem? (i := 48) rfl) rfl), by decide⟩
theorem ko_X8_52 : Cond.constant RX8 52 (-1000000005) ∈ TT := (inT_2 (List.mem_of_getElem? (i := 67) rfl) rfl)
theorem cb_X8_57 : CB RX8 57 yX8_allStarsOf cX8_allStarsOf 4 (some .int) 1 ∧ Cond.instanceMethod yX8_allStarsOf ∈ TT ∧ Cond.selects (cq 7).1 yX8_allStarsOf yX8_allStarsOf ∈ TT ∧ 7 < 10 := ⟨⟨(inT_2 (List.mem_of_getElem? (i := 68) rfl) rfl), (inT_1 (List.mem_of_getElem? (i := 3) rfl) rfl), (inT_2 (List.mem_of_getElem? (i := 71) rfl) rfl), by decide, by decide, by decide +kernel⟩, (inT_2 (List.mem_of_getElem? (i := 70) rfl) rfl), (inS_1 (List.mem_of_getElem? (i := 2) rfl)), by decide⟩
theorem cb_X8_63 : CB RX8 63 yJ9_max_7cf53 cJ9_max_7cf53 2 (some .int) 2 ∧ Cond.static yJ9_max_7cf53 ∈ TT := ⟨⟨(inT_2 (List.mem_of_getElem? (i := 72) rfl) rfl), (inT_1 (List.mem_of_getElem? (i := 10) rfl) rfl), (inT_2 (List.mem_of_getElem? (i := 74) rfl) rfl), by decide, by decide, by decide +kernel⟩, (inT_2 (List.mem_of_getElem? (i := 73) rfl) rfl)⟩
theorem cb_X3_131 : CB RX3 131 yX3_weighedOf cX3_weighedOf 7 (some .int) 2 ∧ Cond.instanceMethod yX3_weighedOf ∈ TT ∧ Cond.selects (cq 2).1 yX3_weighedOf yX3_weighedOf ∈ TT ∧ 2 < 10 := ⟨⟨(inT_2 (List.mem_of_getElem? (i := 75) rfl) rfl), (inT_1 (List.mem_of_getElem? (i := 2) rfl) rfl), (inT_2 (List.mem_of_getElem? (i := 78) rfl) rfl), by decide, by decide, by decide +kernel⟩, (inT_2 (List.mem_of_getElem? (i := 76) rfl) rfl), (inT_2 (List.mem_of_getElem? (i := 77) rfl) rfl), by decide⟩
theorem cb_X3_118 : CB RX3 118 yX3_weightOf cX3_weightOf 5 (some .int) 1 ∧ Cond.instanceMethod yX3_weightOf ∈ TT ∧ Cond.selects (cq 2).1 yX3_weightOf yX3_weightOf ∈ TT ∧ 2 < 10 := ⟨⟨(inT_2 (List.mem_of_getElem? (i := 79) rfl) rfl), (inT_1 (List.mem_of_getElem? (i := 2) rfl) rfl), (inT_2 (List.mem_of_getElem? (i := 82) rfl) rfl), by decide, by decide, by decide +kernel⟩, (inT_2 (List.mem_of_getElem? (i := 80) rfl) rfl), (inT_2 (List.mem_of_getElem? (i := 81) rfl) rfl), by decide⟩
theorem cb_X3_92 : CB RX3 92 yX7_gives cX7_gives 9 (some .int) 4 ∧ Cond.instanceMethod yX7_gives ∈ TT ∧ Cond.selects (cq 6).1 yX7_gives yX7_gives ∈ TT ∧ 6 < 10 := ⟨⟨(inT_2 (List.mem_of_getElem? (i := 83) rfl) rfl), (inT_1 (List.mem_of_getElem? (i := 11) rfl) rfl), (inT_2 (List.mem_of_getElem? (i := 86) rfl) rfl), by decide, by decide, by decide +kernel⟩, (inT_2 (List.mem_of_getElem? (i := 84) rfl) rfl), (inT_2 (List.mem_of_getElem? (i := 85) rfl) rfl), by decide⟩
theorem cb_X7_43 : CB RX7 43 yX7_worked cX7_worked 3 (some .int) 3 ∧ Cond.static yX7_worked ∈ TT := ⟨⟨(inT_2 (List.mem_of_getElem? (i := 87) rfl) rfl), (inT_1 (List.mem_of_getElem? (i := 11) rfl) rfl), (inT_2 (List.mem_of_getElem? (i := 89) rfl) rfl), by decide, by decide, by decide +kernel⟩, (inT_2 (List.mem_of_getElem? (i := 88) rfl) rfl)⟩
theorem cb_X3_96 : CB RX3 96 yX3_held cX3_held 1 (some .int) 1 ∧ Cond.static yX3_held ∈ TT := ⟨⟨(inT_2 (List.mem_of_getElem? (i := 90) rfl) rfl), (inT_1 (List.mem_of_getElem? (i := 2) rfl) rfl), (inT_2 (List.mem_of_getElem? (i := 92) rfl) rfl), by decide, by decide, by decide +kernel⟩, (inT_2 (List.mem_of_getElem? (i := 91) rfl) rfl)⟩
theorem cb_X3_70 : CB RX3 70 yJ9_min_7cf53 cJ9_min_7cf53 2 (some .int) 2 ∧ Cond.static yJ9_min_7cf53 ∈ TT := ⟨⟨(inT_2 (List.mem_of_getElem? (i := 93) rfl) rfl), (inT_1 (List.mem_of_getElem? (i := 10) rfl) rfl), (inT_2 (List.mem_of_getElem? (i := 95) rfl) rfl), by decide, by decide, by decide +kernel⟩, (inT_2 (List.mem_of_getElem? (i := 94) rfl) rfl)⟩
theorem cb_X3_76 : CB RX3 76 yJ9_max_7cf53 cJ9_max_7cf53 2 (some .int) 2 ∧ Cond.static yJ9_max_7cf53 ∈ TT := ⟨⟨(inT_2 (List.mem_of_getElem? (i := 96) rfl) rfl), (inT_1 (List.mem_of_getElem? (i := 10) rfl) rfl), (inT_2 (List.mem_of_getElem? (i := 74) rfl) rfl), by decide, by decide, by decide +kernel⟩, (inT_2 (List.mem_of_getElem? (i := 73) rfl) rfl)⟩
theorem cb_X3_103 : CB RX3 103 yX1_weight cX1_weight 4 (some .int) 3 ∧ Cond.static yX1_weight ∈ TT := ⟨⟨(inT_2 (List.mem_of_getElem? (i := 97) rfl) rfl), (inT_1 (List.mem_of_getElem? (i := 12) rfl) rfl), (inT_2 (List.mem_of_getElem? (i := 99) rfl) rfl), by decide, by decide, by decide +kernel⟩, (inT_2 (List.mem_of_getElem? (i := 98) rfl) rfl)⟩
theorem cb_X1_17 : CB RX1 17 yJ9_max_7cf53 cJ9_max_7cf53 2 (some .int) 2 ∧ Cond.static yJ9_max_7cf53 ∈ TT := ⟨⟨(inT_2 (List.mem_of_getElem? (i := 100) rfl) rfl), (inT_1 (List.mem_of_getElem? (i := 10) rfl) rfl), (inT_2 (List.mem_of_getElem? (i := 74) rfl) rfl), by decide, by decide, by decide +kernel⟩, (inT_2 (List.mem_of_getElem? (i := 73) rfl) rfl)⟩
theorem cb_X3_121 : CB RX3 121 yX8_saysOf cX8_saysOf 2 (some .int) 1 ∧ Cond.instanceMethod yX8_saysOf ∈ TT ∧ Cond.selects (cq 7).1 yX8_saysOf yX8_saysOf ∈ TT ∧ 7 < 10 := ⟨⟨(inT_2 (List.mem_of_getElem? (i := 101) rfl) rfl), (inT_1 (List.mem_of_getElem? (i := 3) rfl) rfl), (inT_2 (List.mem_of_getElem? (i := 104) rfl) rfl), by decide, by decide, by decide +kernel⟩, (inT_2 (List.mem_of_getElem? (i := 102) rfl) rfl), (inT_2 (List.mem_of_getElem? (i := 103) rfl) rfl), by decide⟩
theorem cb_X8_42 : CB RX8 42 yX1_says cX1_says 3 (some .int) 2 ∧ Cond.static yX1_says ∈ TT := ⟨⟨(inT_2 (List.mem_of_getElem? (i := 105) rfl) rfl), (inT_1 (List.mem_of_getElem? (i := 12) rfl) rfl), (inT_2 (List.mem_of_getElem? (i := 107) rfl) rfl), by decide, by decide, by decide +kernel⟩, (inT_2 (List.mem_of_getElem? (i := 106) rfl) rfl)⟩
theorem ko_X3_124 : Cond.constant RX3 124 (-1000000005) ∈ TT := (inT_2 (List.mem_of_getElem? (i := 108) rfl) rfl)
theorem cb_X3_125 : CB RX3 125 yX8_countOf cX8_countOf 4 (some .int) 1 ∧ Cond.instanceMethod yX8_countOf ∈ TT ∧ Cond.selects (cq 7).1 yX8_countOf yX8_countOf ∈ TT ∧ 7 < 10 := ⟨⟨(inT_2 (List.mem_of_getElem? (i := 109) rfl) rfl), (inT_1 (List.mem_of_getElem? (i := 3) rfl) rfl), (inT_2 (List.mem_of_getElem? (i := 49) rfl) rfl), by decide, by decide, by decide +kernel⟩, (inT_2 (List.mem_of_getElem? (i := 47) rfl) rfl), (inT_2 (List.mem_of_getElem? (i := 48) rfl) rfl), by decide⟩
theorem cb_X9_98 : CB RX9 98 yX3_placeOf cX3_placeOf 4 (some .int) 1 ∧ Cond.instanceMethod yX3_placeOf ∈ TT ∧ Cond.selects (cq 2).1 yX3_placeOf yX3_placeOf ∈ TT ∧ 2 < 10 := ⟨⟨(inT_2 (List.mem_of_getElem? (i := 110) rfl) rfl), (inT_1 (List.mem_of_getElem? (i := 2) rfl) rfl), (inT_2 (List.mem_of_getElem? (i := 113) rfl) rfl), by decide, by decide, by decide +kernel⟩, (inT_2 (List.mem_of_getElem? (i := 111) rfl) rfl), (inT_2 (List.mem_of_getElem? (i := 112) rfl) rfl), by decide⟩
theorem cb_L_23 : CB RL 23 yX9_set cX9_set 6 (some .int) 3 ∧ Cond.instanceMethod yX9_set ∈ TT ∧ Cond.selects (cq 8).1 yX9_set yX9_set ∈ TT ∧ 8 < 10 := ⟨⟨(inT_2 (List.mem_of_getElem? (i := 114) rfl) rfl), (inT_1 (List.mem_of_getElem? (i := 1) rfl) rfl), (inT_2 (List.mem_of_getElem? (i := 117) rfl) rfl), by decide, by decide, by decide +kernel⟩, (inT_2 (List.mem_of_getElem? (i := 115) rfl) rfl), (inT_2 (List.mem_of_getElem? (i := 116) rfl) rfl), by decide⟩
theorem cb_L_28 : CB RL 28 yX9_name cX9_name 2 (some .int) 1 ∧ Cond.instanceMethod yX9_name ∈ TT ∧ Cond.selects (cq 8).1 yX9_name yX9_name ∈ TT ∧ 8 < 10 := ⟨⟨(inT_2 (List.mem_of_getElem? (i := 118) rfl) rfl), (inT_1 (List.mem_of_getElem? (i := 1) rfl) rfl), (inT_2 (List.mem_of_getElem? (i := 121) rfl) rfl), by decide, by decide, by decide +kernel⟩, (inT_2 (List.mem_of_getElem? (i := 119) rfl) rfl), (inT_2 (List.mem_of_getElem? (i := 120) rfl) rfl), by decide⟩
theorem cb_X9_101 : CB RX9 101 yX9_isHour cX9_isHour 1 (some .boolean) 1 ∧ Cond.static yX9_isHour ∈ TT := ⟨⟨(inT_2 (List.mem_of_getElem? (i := 122) rfl) rfl), (inT_1 (List.mem_of_getElem? (i := 1) rfl) rfl), (inT_2 (List.mem_of_getElem? (i := 124) rfl) rfl), by decide, by decide, by decide +kernel⟩, (inT_2 (List.mem_of_getElem? (i := 123) rfl) rfl)⟩
theorem cb_X9_104 : CB RX9 104 yX3_addName cX3_addName 3 (some .int) 1 ∧ Cond.instanceMethod yX3_addName ∈ TT ∧ Cond.selects (cq 2).1 yX3_addName yX3_addName ∈ TT ∧ 2 < 10 := ⟨⟨(inT_2 (List.mem_of_getElem? (i := 125) rfl) rfl), (inT_1 (List.mem_of_getElem? (i := 2) rfl) rfl), (inT_2 (List.mem_of_getElem? (i := 128) rfl) rfl), by decide, by decide, by decide +kernel⟩, (inT_2 (List.mem_of_getElem? (i := 126) rfl) rfl), (inT_2 (List.mem_of_getElem? (i := 127) rfl) rfl), by decide⟩
theorem cb_L_32 : CB RL 32 yX9_nameTold cX9_nameTold 3 (some .int) 2 ∧ Cond.instanceMethod yX9_nameTold ∈ TT ∧ Cond.selects (cq 8).1 yX9_nameTold yX9_nameTold ∈ TT ∧ 8 < 10 := ⟨⟨(inT_2 (List.mem_of_getElem? (i := 129) rfl) rfl), (inT_1 (List.mem_of_getElem? (i := 1) rfl) rfl), (inT_2 (List.mem_of_getElem? (i := 132) rfl) rfl), by decide, by decide, by decide +kernel⟩, (inT_2 (List.mem_of_getElem? (i := 130) rfl) rfl), (inT_2 (List.mem_of_getElem? (i := 131) rfl) rfl), by decide⟩
theorem cb_X9_113 : CB RX9 113 yX8_countBy cX8_countBy 4 (some .int) 1 ∧ Cond.instanceMethod yX8_countBy ∈ TT ∧ Cond.selects (cq 7).1 yX8_countBy yX8_countBy ∈ TT ∧ 7 < 10 := ⟨⟨(inT_2 (List.mem_of_getElem? (i := 133) rfl) rfl), (inT_1 (List.mem_of_getElem? (i := 3) rfl) rfl), (inT_2 (List.mem_of_getElem? (i := 136) rfl) rfl), by decide, by decide, by decide +kernel⟩, (inT_2 (List.mem_of_getElem? (i := 134) rfl) rfl), (inT_2 (List.mem_of_getElem? (i := 135) rfl) rfl), by decide⟩
theorem cb_X9_116 : CB RX9 116 yX8_firstHourBy cX8_firstHourBy 4 (some .int) 1 ∧ Cond.instanceMethod yX8_firstHourBy ∈ TT ∧ Cond.selects (cq 7).1 yX8_firstHourBy yX8_firstHourBy ∈ TT ∧ 7 < 10 := ⟨⟨(inT_2 (List.mem_of_getElem? (i := 137) rfl) rfl), (inT_1 (List.mem_of_getElem? (i := 3) rfl) rfl), (inT_2 (List.mem_of_getElem? (i := 140) rfl) rfl), by decide, by decide, by decide +kernel⟩, (inT_2 (List.mem_of_getElem? (i := 138) rfl) rfl), (inT_2 (List.mem_of_getElem? (i := 139) rfl) rfl), by decide⟩
theorem cb_L_36 : CB RL 36 yX9_word cX9_word 4 (some .int) 3 ∧ Cond.instanceMethod yX9_word ∈ TT ∧ Cond.selects (cq 8).1 yX9_word yX9_word ∈ TT ∧ 8 < 10 := ⟨⟨(inT_2 (List.mem_of_getElem? (i := 141) rfl) rfl), (inT_1 (List.mem_of_getElem? (i := 1) rfl) rfl), (inT_2 (List.mem_of_getElem? (i := 144) rfl) rfl), by decide, by decide, by decide +kernel⟩, (inT_2 (List.mem_of_getElem? (i := 142) rfl) rfl), (inT_2 (List.mem_of_getElem? (i := 143) rfl) rfl), by decide⟩
theorem cb_X9_119 : CB RX9 119 yX9_isKind cX9_isKind 1 (some .boolean) 1 ∧ Cond.static yX9_isKind ∈ TT := ⟨⟨(inT_2 (List.mem_of_getElem? (i := 145) rfl) rfl), (inT_1 (List.mem_of_getElem? (i := 1) rfl) rfl), (inT_2 (List.mem_of_getElem? (i := 147) rfl) rfl), by decide, by decide, by decide +kernel⟩, (inT_2 (List.mem_of_getElem? (i := 146) rfl) rfl)⟩
theorem cb_X9_122 : CB RX9 122 yX9_isPair cX9_isPair 2 (some .boolean) 1 ∧ Cond.instanceMethod yX9_isPair ∈ TT ∧ Cond.selects (cq 8).1 yX9_isPair yX9_isPair ∈ TT ∧ 8 < 10 := ⟨⟨(inT_2 (List.mem_of_getElem? (i := 148) rfl) rfl), (inT_1 (List.mem_of_getElem? (i := 1) rfl) rfl), (inT_2 (List.mem_of_getElem? (i := 151) rfl) rfl), by decide, by decide, by decide +kernel⟩, (inT_2 (List.mem_of_getElem? (i := 150) rfl) rfl), (inS_1 (List.mem_of_getElem? (i := 3) rfl)), by decide⟩
theorem cb_X9_125 : CB RX9 125 yX9_isMoment cX9_isMoment 1 (some .boolean) 1 ∧ Cond.static yX9_isMoment ∈ TT := ⟨⟨(inT_2 (List.mem_of_getElem? (i := 152) rfl) rfl), (inT_1 (List.mem_of_getElem? (i := 1) rfl) rfl), (inT_2 (List.mem_of_getElem? (i := 154) rfl) rfl), by decide, by decide, by decide +kernel⟩, (inT_2 (List.mem_of_getElem? (i := 153) rfl) rfl)⟩
theorem cb_X9_169 : CB RX9 169 yX9_isStars cX9_isStars 1 (some .boolean) 1 ∧ Cond.static yX9_isStars ∈ TT := ⟨⟨(inT_2 (List.mem_of_getElem? (i := 155) rfl) rfl), (inT_1 (List.mem_of_getElem? (i := 1) rfl) rfl), (inT_2 (List.mem_of_getElem? (i := 157) rfl) rfl), by decide, by decide, by decide +kernel⟩, (inT_2 (List.mem_of_getElem? (i := 156) rfl) rfl)⟩
theorem cb_X9_128 : CB RX9 128 yX8_write cX8_write 7 (some .int) 5 ∧ Cond.instanceMethod yX8_write ∈ TT ∧ Cond.selects (cq 7).1 yX8_write yX8_write ∈ TT ∧ 7 < 10 := ⟨⟨(inT_2 (List.mem_of_getElem? (i := 158) rfl) rfl), (inT_1 (List.mem_of_getElem? (i := 3) rfl) rfl), (inT_2 (List.mem_of_getElem? (i := 161) rfl) rfl), by decide, by decide, by decide +kernel⟩, (inT_2 (List.mem_of_getElem? (i := 159) rfl) rfl), (inT_2 (List.mem_of_getElem? (i := 160) rfl) rfl), by decide⟩
theorem ko_X8_31 : Cond.constant RX8 31 (-1000000003) ∈ TT := (inT_2 (List.mem_of_getElem? (i := 162) rfl) rfl)
theorem cb_L_40 : CB RL 40 yX9_told cX9_told 4 (some .int) 2 ∧ Cond.instanceMethod yX9_told ∈ TT ∧ Cond.selects (cq 8).1 yX9_told yX9_told ∈ TT ∧ 8 < 10 := ⟨⟨(inT_2 (List.mem_of_getElem? (i := 163) rfl) rfl), (inT_1 (List.mem_of_getElem? (i := 1) rfl) rfl), (inT_2 (List.mem_of_getElem? (i := 166) rfl) rfl), by decide, by decide, by decide +kernel⟩, (inT_2 (List.mem_of_getElem? (i := 164) rfl) rfl), (inT_2 (List.mem_of_getElem? (i := 165) rfl) rfl), by decide⟩
theorem cb_X9_132 : CB RX9 132 yX9_isWord cX9_isWord 2 (some .boolean) 1 ∧ Cond.instanceMethod yX9_isWord ∈ TT ∧ Cond.selects (cq 8).1 yX9_isWord yX9_isWord ∈ TT ∧ 8 < 10 := ⟨⟨(inT_2 (List.mem_of_getElem? (i := 167) rfl) rfl), (inT_1 (List.mem_of_getElem? (i := 1) rfl) rfl), (inT_2 (List.mem_of_getElem? (i := 170) rfl) rfl), by decide, by decide, by decide +kernel⟩, (inT_2 (List.mem_of_getElem? (i := 169) rfl) rfl), (inS_1 (List.mem_of_getElem? (i := 4) rfl)), by decide⟩
theorem cb_X9_150 : CB RX9 150 yX3_weightOf cX3_weightOf 5 (some .int) 1 ∧ Cond.instanceMethod yX3_weightOf ∈ TT ∧ Cond.selects (cq 2).1 yX3_weightOf yX3_weightOf ∈ TT ∧ 2 < 10 := ⟨⟨(inT_2 (List.mem_of_getElem? (i := 171) rfl) rfl), (inT_1 (List.mem_of_getElem? (i := 2) rfl) rfl), (inT_2 (List.mem_of_getElem? (i := 82) rfl) rfl), by decide, by decide, by decide +kernel⟩, (inT_2 (List.mem_of_getElem? (i := 80) rfl) rfl), (inT_2 (List.mem_of_getElem? (i := 81) rfl) rfl), by decide⟩
theorem cb_X9_153 : CB RX9 153 yX8_saysOf cX8_saysOf 2 (some .int) 1 ∧ Cond.instanceMethod yX8_saysOf ∈ TT ∧ Cond.selects (cq 7).1 yX8_saysOf yX8_saysOf ∈ TT ∧ 7 < 10 := ⟨⟨(inT_2 (List.mem_of_getElem? (i := 172) rfl) rfl), (inT_1 (List.mem_of_getElem? (i := 3) rfl) rfl), (inT_2 (List.mem_of_getElem? (i := 104) rfl) rfl), by decide, by decide, by decide +kernel⟩, (inT_2 (List.mem_of_getElem? (i := 102) rfl) rfl), (inT_2 (List.mem_of_getElem? (i := 103) rfl) rfl), by decide⟩
theorem cb_X9_156 : CB RX9 156 yX3_signOf cX3_signOf 4 (some .int) 1 ∧ Cond.instanceMethod yX3_signOf ∈ TT ∧ Cond.selects (cq 2).1 yX3_signOf yX3_signOf ∈ TT ∧ 2 < 10 := ⟨⟨(inT_2 (List.mem_of_getElem? (i := 173) rfl) rfl), (inT_1 (List.mem_of_getElem? (i := 2) rfl) rfl), (inT_2 (List.mem_of_getElem? (i := 176) rfl) rfl), by decide, by decide, by decide +kernel⟩, (inT_2 (List.mem_of_getElem? (i := 174) rfl) rfl), (inT_2 (List.mem_of_getElem? (i := 175) rfl) rfl), by decide⟩
theorem cb_X3_109 : CB RX3 109 yX8_countBy cX8_countBy 4 (some .int) 1 ∧ Cond.instanceMethod yX8_countBy ∈ TT ∧ Cond.selects (cq 7).1 yX8_countBy yX8_countBy ∈ TT ∧ 7 < 10 := ⟨⟨(inT_2 (List.mem_of_getElem? (i := 177) rfl) rfl), (inT_1 (List.mem_of_getElem? (i := 3) rfl) rfl), (inT_2 (List.mem_of_getElem? (i := 136) rfl) rfl), by decide, by decide, by decide +kernel⟩, (inT_2 (List.mem_of_getElem? (i := 134) rfl) rfl), (inT_2 (List.mem_of_getElem? (i := 135) rfl) rfl), by decide⟩
theorem cb_X9_159 : CB RX9 159 yX1_isTrue cX1_isTrue 1 (some .boolean) 1 ∧ Cond.static yX1_isTrue ∈ TT := ⟨⟨(inT_2 (List.mem_of_getElem? (i := 178) rfl) rfl), (inT_1 (List.mem_of_getElem? (i := 12) rfl) rfl), (inT_2 (List.mem_of_getElem? (i := 180) rfl) rfl), by decide, by decide, by decide +kernel⟩, (inT_2 (List.mem_of_getElem? (i := 179) rfl) rfl)⟩
theorem cb_X1_13 : CB RX1 13 yX1_isUnder cX1_isUnder 4 (some .boolean) 2 ∧ Cond.static yX1_isUnder ∈ TT := ⟨⟨(inT_2 (List.mem_of_getElem? (i := 181) rfl) rfl), (inT_1 (List.mem_of_getElem? (i := 12) rfl) rfl), (inT_2 (List.mem_of_getElem? (i := 183) rfl) rfl), by decide, by decide, by decide +kernel⟩, (inT_2 (List.mem_of_getElem? (i := 182) rfl) rfl)⟩
theorem cb_L_44 : CB RL 44 yX9_as cX9_as 3 (some .int) 2 ∧ Cond.instanceMethod yX9_as ∈ TT ∧ Cond.selects (cq 8).1 yX9_as yX9_as ∈ TT ∧ 8 < 10 := ⟨⟨(inT_2 (List.mem_of_getElem? (i := 186) rfl) rfl), (inT_1 (List.mem_of_getElem? (i := 1) rfl) rfl), (inT_2 (List.mem_of_getElem? (i := 189) rfl) rfl), by decide, by decide, by decide +kernel⟩, (inT_2 (List.mem_of_getElem? (i := 187) rfl) rfl), (inT_2 (List.mem_of_getElem? (i := 188) rfl) rfl), by decide⟩
theorem cb_X9_164 : CB RX9 164 yX1_isUnder cX1_isUnder 4 (some .boolean) 2 ∧ Cond.static yX1_isUnder ∈ TT := ⟨⟨(inT_2 (List.mem_of_getElem? (i := 190) rfl) rfl), (inT_1 (List.mem_of_getElem? (i := 12) rfl) rfl), (inT_2 (List.mem_of_getElem? (i := 183) rfl) rfl), by decide, by decide, by decide +kernel⟩, (inT_2 (List.mem_of_getElem? (i := 182) rfl) rfl)⟩
theorem ko_X9_168 : Cond.constant RX9 168 (-1000000012) ∈ TT := (inT_2 (List.mem_of_getElem? (i := 191) rfl) rfl)
theorem cb_L_48 : CB RL 48 yX9_turns cX9_turns 4 (some .int) 2 ∧ Cond.instanceMethod yX9_turns ∈ TT ∧ Cond.selects (cq 8).1 yX9_turns yX9_turns ∈ TT ∧ 8 < 10 := ⟨⟨(inT_2 (List.mem_of_getElem? (i := 192) rfl) rfl), (inT_1 (List.mem_of_getElem? (i := 1) rfl) rfl), (inT_2 (List.mem_of_getElem? (i := 195) rfl) rfl), by decide, by decide, by decide +kernel⟩, (inT_2 (List.mem_of_getElem? (i := 193) rfl) rfl), (inT_2 (List.mem_of_getElem? (i := 194) rfl) rfl), by decide⟩
theorem cb_L_52 : CB RL 52 yX9_star cX9_star 4 (some .int) 2 ∧ Cond.instanceMethod yX9_star ∈ TT ∧ Cond.selects (cq 8).1 yX9_star yX9_star ∈ TT ∧ 8 < 10 := ⟨⟨(inT_2 (List.mem_of_getElem? (i := 196) rfl) rfl), (inT_1 (List.mem_of_getElem? (i := 1) rfl) rfl), (inT_2 (List.mem_of_getElem? (i := 199) rfl) rfl), by decide, by decide, by decide +kernel⟩, (inT_2 (List.mem_of_getElem? (i := 197) rfl) rfl), (inT_2 (List.mem_of_getElem? (i := 198) rfl) rfl), by decide⟩
theorem cb_L_56 : CB RL 56 yX9_drop cX9_drop 2 (some .int) 1 ∧ Cond.instanceMethod yX9_drop ∈ TT ∧ Cond.selects (cq 8).1 yX9_drop yX9_drop ∈ TT ∧ 8 < 10 := ⟨⟨(inT_2 (List.mem_of_getElem? (i := 200) rfl) rfl), (inT_1 (List.mem_of_getElem? (i := 1) rfl) rfl), (inT_2 (List.mem_of_getElem? (i := 203) rfl) rfl), by decide, by decide, by decide +kernel⟩, (inT_2 (List.mem_of_getElem? (i := 201) rfl) rfl), (inT_2 (List.mem_of_getElem? (i := 202) rfl) rfl), by decide⟩
theorem cb_X9_172 : CB RX9 172 yX8_remove cX8_remove 3 none 1 ∧ Cond.instanceMethod yX8_remove ∈ TT ∧ Cond.selects (cq 7).1 yX8_remove yX8_remove ∈ TT ∧ 7 < 10 := ⟨⟨(inT_2 (List.mem_of_getElem? (i := 204) rfl) rfl), (inT_1 (List.mem_of_getElem? (i := 3) rfl) rfl), (inT_2 (List.mem_of_getElem? (i := 207) rfl) rfl), by decide, by decide, by decide +kernel⟩, (inT_2 (List.mem_of_getElem? (i := 205) rfl) rfl), (inT_2 (List.mem_of_getElem? (i := 206) rfl) rfl), by decide⟩
theorem cb_X8_32 : CB RX8 32 yX8_move cX8_move 3 none 2 ∧ Cond.instanceMethod yX8_move ∈ TT ∧ Cond.selects (cq 7).1 yX8_move yX8_move ∈ TT ∧ 7 < 10 := ⟨⟨(inT_2 (List.mem_of_getElem? (i := 208) rfl) rfl), (inT_1 (List.mem_of_getElem? (i := 3) rfl) rfl), (inT_2 (List.mem_of_getElem? (i := 211) rfl) rfl), by decide, by decide, by decide +kernel⟩, (inT_2 (List.mem_of_getElem? (i := 210) rfl) rfl), (inS_1 (List.mem_of_getElem? (i := 5) rfl)), by decide⟩
theorem cb_L_60 : CB RL 60 yX9_mean cX9_mean 3 (some .int) 2 ∧ Cond.instanceMethod yX9_mean ∈ TT ∧ Cond.selects (cq 8).1 yX9_mean yX9_mean ∈ TT ∧ 8 < 10 := ⟨⟨(inT_2 (List.mem_of_getElem? (i := 212) rfl) rfl), (inT_1 (List.mem_of_getElem? (i := 1) rfl) rfl), (inT_2 (List.mem_of_getElem? (i := 215) rfl) rfl), by decide, by decide, by decide +kernel⟩, (inT_2 (List.mem_of_getElem? (i := 213) rfl) rfl), (inT_2 (List.mem_of_getElem? (i := 214) rfl) rfl), by decide⟩
theorem cb_X9_179 : CB RX9 179 yX8_meanOf cX8_meanOf 3 (some .int) 1 ∧ Cond.instanceMethod yX8_meanOf ∈ TT ∧ Cond.selects (cq 7).1 yX8_meanOf yX8_meanOf ∈ TT ∧ 7 < 10 := ⟨⟨(inT_2 (List.mem_of_getElem? (i := 216) rfl) rfl), (inT_1 (List.mem_of_getElem? (i := 3) rfl) rfl), (inT_2 (List.mem_of_getElem? (i := 65) rfl) rfl), by decide, by decide, by decide +kernel⟩, (inT_2 (List.mem_of_getElem? (i := 63) rfl) rfl), (inT_2 (List.mem_of_getElem? (i := 64) rfl) rfl), by decide⟩
theorem cb_X9_182 : CB RX9 182 yX3_weighedOf cX3_weighedOf 7 (some .int) 2 ∧ Cond.instanceMethod yX3_weighedOf ∈ TT ∧ Cond.selects (cq 2).1 yX3_weighedOf yX3_weighedOf ∈ TT ∧ 2 < 10 := ⟨⟨(inT_2 (List.mem_of_getElem? (i := 217) rfl) rfl), (inT_1 (List.mem_of_getElem? (i := 2) rfl) rfl), (inT_2 (List.mem_of_getElem? (i := 78) rfl) rfl), by decide, by decide, by decide +kernel⟩, (inT_2 (List.mem_of_getElem? (i := 76) rfl) rfl), (inT_2 (List.mem_of_getElem? (i := 77) rfl) rfl), by decide⟩
theorem cb_X9_186 : CB RX9 186 yX3_spanOf cX3_spanOf 7 (some .int) 2 ∧ Cond.instanceMethod yX3_spanOf ∈ TT ∧ Cond.selects (cq 2).1 yX3_spanOf yX3_spanOf ∈ TT ∧ 2 < 10 := ⟨⟨(inT_2 (List.mem_of_getElem? (i := 218) rfl) rfl), (inT_1 (List.mem_of_getElem? (i := 2) rfl) rfl), (inT_2 (List.mem_of_getElem? (i := 221) rfl) rfl), by decide, by decide, by decide +kernel⟩, (inT_2 (List.mem_of_getElem? (i := 219) rfl) rfl), (inT_2 (List.mem_of_getElem? (i := 220) rfl) rfl), by decide⟩
theorem cb_X9_189 : CB RX9 189 yX8_starWorthOf cX8_starWorthOf 3 (some .int) 1 ∧ Cond.instanceMethod yX8_starWorthOf ∈ TT ∧ Cond.selects (cq 7).1 yX8_starWorthOf yX8_starWorthOf ∈ TT ∧ 7 < 10 := ⟨⟨(inT_2 (List.mem_of_getElem? (i := 222) rfl) rfl), (inT_1 (List.mem_of_getElem? (i := 3) rfl) rfl), (inT_2 (List.mem_of_getElem? (i := 225) rfl) rfl), by decide, by decide, by decide +kernel⟩, (inT_2 (List.mem_of_getElem? (i := 223) rfl) rfl), (inT_2 (List.mem_of_getElem? (i := 224) rfl) rfl), by decide⟩
theorem cb_X8_68 : CB RX8 68 yX8_meanOrZero cX8_meanOrZero 2 (some .int) 1 ∧ Cond.instanceMethod yX8_meanOrZero ∈ TT ∧ Cond.selects (cq 7).1 yX8_meanOrZero yX8_meanOrZero ∈ TT ∧ 7 < 10 := ⟨⟨(inT_2 (List.mem_of_getElem? (i := 226) rfl) rfl), (inT_1 (List.mem_of_getElem? (i := 3) rfl) rfl), (inT_2 (List.mem_of_getElem? (i := 61) rfl) rfl), by decide, by decide, by decide +kernel⟩, (inT_2 (List.mem_of_getElem? (i := 59) rfl) rfl), (inT_2 (List.mem_of_getElem? (i := 60) rfl) rfl), by decide⟩
theorem cb_L_64 : CB RL 64 yX9_shelf cX9_shelf 2 (some .int) 1 ∧ Cond.instanceMethod yX9_shelf ∈ TT ∧ Cond.selects (cq 8).1 yX9_shelf yX9_shelf ∈ TT ∧ 8 < 10 := ⟨⟨(inT_2 (List.mem_of_getElem? (i := 227) rfl) rfl), (inT_1 (List.mem_of_getElem? (i := 1) rfl) rfl), (inT_2 (List.mem_of_getElem? (i := 230) rfl) rfl), by decide, by decide, by decide +kernel⟩, (inT_2 (List.mem_of_getElem? (i := 228) rfl) rfl), (inT_2 (List.mem_of_getElem? (i := 229) rfl) rfl), by decide⟩
theorem ko_X9_195 : Cond.constant RX9 195 (-1000000005) ∈ TT := (inT_2 (List.mem_of_getElem? (i := 231) rfl) rfl)
theorem cb_X9_196 : CB RX9 196 yX3_atPlace cX3_atPlace 3 (some .int) 1 ∧ Cond.instanceMethod yX3_atPlace ∈ TT ∧ Cond.selects (cq 2).1 yX3_atPlace yX3_atPlace ∈ TT ∧ 2 < 10 := ⟨⟨(inT_2 (List.mem_of_getElem? (i := 232) rfl) rfl), (inT_1 (List.mem_of_getElem? (i := 2) rfl) rfl), (inT_2 (List.mem_of_getElem? (i := 235) rfl) rfl), by decide, by decide, by decide +kernel⟩, (inT_2 (List.mem_of_getElem? (i := 233) rfl) rfl), (inT_2 (List.mem_of_getElem? (i := 234) rfl) rfl), by decide⟩
theorem cb_X3_135 : CB RX3 135 yX3_placeOf cX3_placeOf 4 (some .int) 1 ∧ Cond.instanceMethod yX3_placeOf ∈ TT ∧ Cond.selects (cq 2).1 yX3_placeOf yX3_placeOf ∈ TT ∧ 2 < 10 := ⟨⟨(inT_2 (List.mem_of_getElem? (i := 236) rfl) rfl), (inT_1 (List.mem_of_getElem? (i := 2) rfl) rfl), (inT_2 (List.mem_of_getElem? (i := 113) rfl) rfl), by decide, by decide, by decide +kernel⟩, (inT_2 (List.mem_of_getElem? (i := 111) rfl) rfl), (inT_2 (List.mem_of_getElem? (i := 112) rfl) rfl), by decide⟩
theorem cb_L_68 : CB RL 68 yX9_alike cX9_alike 5 (some .int) 3 ∧ Cond.instanceMethod yX9_alike ∈ TT ∧ Cond.selects (cq 8).1 yX9_alike yX9_alike ∈ TT ∧ 8 < 10 := ⟨⟨(inT_2 (List.mem_of_getElem? (i := 237) rfl) rfl), (inT_1 (List.mem_of_getElem? (i := 1) rfl) rfl), (inT_3 (List.mem_of_getElem? (i := 0) rfl) rfl), by decide, by decide, by decide +kernel⟩, (inT_2 (List.mem_of_getElem? (i := 238) rfl) rfl), (inT_2 (List.mem_of_getElem? (i := 239) rfl) rfl), by decide⟩
theorem cb_X9_199 : CB RX9 199 yX8_timesAlike cX8_timesAlike 7 (some .int) 3 ∧ Cond.instanceMethod yX8_timesAlike ∈ TT ∧ Cond.selects (cq 7).1 yX8_timesAlike yX8_timesAlike ∈ TT ∧ 7 < 10 := ⟨⟨(inT_3 (List.mem_of_getElem? (i := 1) rfl) rfl), (inT_1 (List.mem_of_getElem? (i := 3) rfl) rfl), (inT_3 (List.mem_of_getElem? (i := 4) rfl) rfl), by decide, by decide, by decide +kernel⟩, (inT_3 (List.mem_of_getElem? (i := 2) rfl) rfl), (inT_3 (List.mem_of_getElem? (i := 3) rfl) rfl), by decide⟩
theorem cb_X8_71 : CB RX8 71 yX8_areAlike cX8_areAlike 4 (some .boolean) 3 ∧ Cond.instanceMethod yX8_areAlike ∈ TT ∧ Cond.selects (cq 7).1 yX8_areAlike yX8_areAlike ∈ TT ∧ 7 < 10 := ⟨⟨(inT_3 (List.mem_of_getElem? (i := 5) rfl) rfl), (inT_1 (List.mem_of_getElem? (i := 3) rfl) rfl), (inT_3 (List.mem_of_getElem? (i := 8) rfl) rfl), by decide, by decide, by decide +kernel⟩, (inT_3 (List.mem_of_getElem? (i := 7) rfl) rfl), (inS_1 (List.mem_of_getElem? (i := 6) rfl)), by decide⟩
theorem cb_X8_80 : CB RX8 80 yJ9_abs_0f7a4 cJ9_abs_0f7a4 1 (some .int) 1 ∧ Cond.static yJ9_abs_0f7a4 ∈ TT := ⟨⟨(inT_3 (List.mem_of_getElem? (i := 9) rfl) rfl), (inT_1 (List.mem_of_getElem? (i := 10) rfl) rfl), (inT_3 (List.mem_of_getElem? (i := 11) rfl) rfl), by decide, by decide, by decide +kernel⟩, (inT_3 (List.mem_of_getElem? (i := 10) rfl) rfl)⟩
theorem cb_X8_75 : CB RX8 75 yJ6_bitCount_0f7a4 cJ6_bitCount_0f7a4 1 (some .int) 1 ∧ Cond.static yJ6_bitCount_0f7a4 ∈ TT := ⟨⟨(inT_3 (List.mem_of_getElem? (i := 12) rfl) rfl), (inT_1 (List.mem_of_getElem? (i := 13) rfl) rfl), (inT_3 (List.mem_of_getElem? (i := 14) rfl) rfl), by decide, by decide, by decide +kernel⟩, (inT_3 (List.mem_of_getElem? (i := 13) rfl) rfl)⟩
theorem ko_J6_265 : Cond.constant RJ6 265 1431655765 ∈ TT := (inT_3 (List.mem_of_getElem? (i := 15) rfl) rfl)
theorem ko_J6_266 : Cond.constant RJ6 266 858993459 ∈ TT := (inT_3 (List.mem_of_getElem? (i := 16) rfl) rfl)
theorem ko_J6_267 : Cond.constant RJ6 267 252645135 ∈ TT := (inT_3 (List.mem_of_getElem? (i := 17) rfl) rfl)
theorem cb_L_72 : CB RL 72 yX9_group cX9_group 3 (some .int) 2 ∧ Cond.instanceMethod yX9_group ∈ TT ∧ Cond.selects (cq 8).1 yX9_group yX9_group ∈ TT ∧ 8 < 10 := ⟨⟨(inT_3 (List.mem_of_getElem? (i := 18) rfl) rfl), (inT_1 (List.mem_of_getElem? (i := 1) rfl) rfl), (inT_3 (List.mem_of_getElem? (i := 21) rfl) rfl), by decide, by decide, by decide +kernel⟩, (inT_3 (List.mem_of_getElem? (i := 19) rfl) rfl), (inT_3 (List.mem_of_getElem? (i := 20) rfl) rfl), by decide⟩
theorem cb_X9_203 : CB RX9 203 yX0_greatest cX0_greatest 6 (some .int) 3 ∧ Cond.instanceMethod yX0_greatest ∈ TT ∧ Cond.selects (cq 0).1 yX0_greatest yX0_greatest ∈ TT ∧ 0 < 10 := ⟨⟨(inT_3 (List.mem_of_getElem? (i := 22) rfl) rfl), (inT_1 (List.mem_of_getElem? (i := 4) rfl) rfl), (inT_3 (List.mem_of_getElem? (i := 25) rfl) rfl), by decide, by decide, by decide +kernel⟩, (inT_3 (List.mem_of_getElem? (i := 23) rfl) rfl), (inT_3 (List.mem_of_getElem? (i := 24) rfl) rfl), by decide⟩
theorem cb_X0_15 : CB RX0 15 yX0_fillNear cX0_fillNear 6 none 3 ∧ Cond.instanceMethod yX0_fillNear ∈ TT ∧ Cond.selects (cq 0).1 yX0_fillNear yX0_fillNear ∈ TT ∧ 0 < 10 := ⟨⟨(inT_3 (List.mem_of_getElem? (i := 26) rfl) rfl), (inT_1 (List.mem_of_getElem? (i := 4) rfl) rfl), (inT_3 (List.mem_of_getElem? (i := 29) rfl) rfl), by decide, by decide, by decide +kernel⟩, (inT_3 (List.mem_of_getElem? (i := 28) rfl) rfl), (inS_1 (List.mem_of_getElem? (i := 7) rfl)), by decide⟩
theorem cb_X0_39 : CB RX0 39 yX8_timesAlike cX8_timesAlike 7 (some .int) 3 ∧ Cond.instanceMethod yX8_timesAlike ∈ TT ∧ Cond.selects (cq 7).1 yX8_timesAlike yX8_timesAlike ∈ TT ∧ 7 < 10 := ⟨⟨(inT_3 (List.mem_of_getElem? (i := 30) rfl) rfl), (inT_1 (List.mem_of_getElem? (i := 3) rfl) rfl), (inT_3 (List.mem_of_getElem? (i := 4) rfl) rfl), by decide, by decide, by decide +kernel⟩, (inT_3 (List.mem_of_getElem? (i := 2) rfl) rfl), (inT_3 (List.mem_of_getElem? (i := 3) rfl) rfl), by decide⟩
theorem cb_X0_25 : CB RX0 25 yJ6_bitCount_0f7a4 cJ6_bitCount_0f7a4 1 (some .int) 1 ∧ Cond.static yJ6_bitCount_0f7a4 ∈ TT := ⟨⟨(inT_3 (List.mem_of_getElem? (i := 31) rfl) rfl), (inT_1 (List.mem_of_getElem? (i := 13) rfl) rfl), (inT_3 (List.mem_of_getElem? (i := 14) rfl) rfl), by decide, by decide, by decide +kernel⟩, (inT_3 (List.mem_of_getElem? (i := 13) rfl) rfl)⟩
theorem cb_X0_31 : CB RX0 31 yX0_isGroup cX0_isGroup 4 (some .boolean) 2 ∧ Cond.instanceMethod yX0_isGroup ∈ TT ∧ Cond.selects (cq 0).1 yX0_isGroup yX0_isGroup ∈ TT ∧ 0 < 10 := ⟨⟨(inT_3 (List.mem_of_getElem? (i := 32) rfl) rfl), (inT_1 (List.mem_of_getElem? (i := 4) rfl) rfl), (inT_3 (List.mem_of_getElem? (i := 35) rfl) rfl), by decide, by decide, by decide +kernel⟩, (inT_3 (List.mem_of_getElem? (i := 34) rfl) rfl), (inS_1 (List.mem_of_getElem? (i := 8) rfl)), by decide⟩
theorem cb_L_76 : CB RL 76 yX9_wave cX9_wave 4 (some .int) 2 ∧ Cond.instanceMethod yX9_wave ∈ TT ∧ Cond.selects (cq 8).1 yX9_wave yX9_wave ∈ TT ∧ 8 < 10 := ⟨⟨(inT_3 (List.mem_of_getElem? (i := 36) rfl) rfl), (inT_1 (List.mem_of_getElem? (i := 1) rfl) rfl), (inT_3 (List.mem_of_getElem? (i := 39) rfl) rfl), by decide, by decide, by decide +kernel⟩, (inT_3 (List.mem_of_getElem? (i := 37) rfl) rfl), (inT_3 (List.mem_of_getElem? (i := 38) rfl) rfl), by decide⟩
theorem cb_X9_207 : CB RX9 207 yX8_waveFrom cX8_waveFrom 7 (some .int) 1 ∧ Cond.instanceMethod yX8_waveFrom ∈ TT ∧ Cond.selects (cq 7).1 yX8_waveFrom yX8_waveFrom ∈ TT ∧ 7 < 10 := ⟨⟨(inT_3 (List.mem_of_getElem? (i := 40) rfl) rfl), (inT_1 (List.mem_of_getElem? (i := 3) rfl) rfl), (inT_3 (List.mem_of_getElem? (i := 43) rfl) rfl), by decide, by decide, by decide +kernel⟩, (inT_3 (List.mem_of_getElem? (i := 41) rfl) rfl), (inT_3 (List.mem_of_getElem? (i := 42) rfl) rfl), by decide⟩
theorem cb_X8_83 : CB RX8 83 yX8_countWithin cX8_countWithin 5 (some .int) 2 ∧ Cond.instanceMethod yX8_countWithin ∈ TT ∧ Cond.selects (cq 7).1 yX8_countWithin yX8_countWithin ∈ TT ∧ 7 < 10 := ⟨⟨(inT_3 (List.mem_of_getElem? (i := 44) rfl) rfl), (inT_1 (List.mem_of_getElem? (i := 3) rfl) rfl), (inT_3 (List.mem_of_getElem? (i := 47) rfl) rfl), by decide, by decide, by decide +kernel⟩, (inT_3 (List.mem_of_getElem? (i := 45) rfl) rfl), (inT_3 (List.mem_of_getElem? (i := 46) rfl) rfl), by decide⟩
theorem cb_X9_210 : CB RX9 210 yX8_countWithin cX8_countWithin 5 (some .int) 2 ∧ Cond.instanceMethod yX8_countWithin ∈ TT ∧ Cond.selects (cq 7).1 yX8_countWithin yX8_countWithin ∈ TT ∧ 7 < 10 := ⟨⟨(inT_3 (List.mem_of_getElem? (i := 48) rfl) rfl), (inT_1 (List.mem_of_getElem? (i := 3) rfl) rfl), (inT_3 (List.mem_of_getElem? (i := 47) rfl) rfl), by decide, by decide, by decide +kernel⟩, (inT_3 (List.mem_of_getElem? (i := 45) rfl) rfl), (inT_3 (List.mem_of_getElem? (i := 46) rfl) rfl), by decide⟩
theorem cb_L_80 : CB RL 80 yX9_changed cX9_changed 4 (some .int) 2 ∧ Cond.instanceMethod yX9_changed ∈ TT ∧ Cond.selects (cq 8).1 yX9_changed yX9_changed ∈ TT ∧ 8 < 10 := ⟨⟨(inT_3 (List.mem_of_getElem? (i := 49) rfl) rfl), (inT_1 (List.mem_of_getElem? (i := 1) rfl) rfl), (inT_3 (List.mem_of_getElem? (i := 52) rfl) rfl), by decide, by decide, by decide +kernel⟩, (inT_3 (List.mem_of_getElem? (i := 50) rfl) rfl), (inT_3 (List.mem_of_getElem? (i := 51) rfl) rfl), by decide⟩
theorem cb_X9_214 : CB RX9 214 yX8_changeOf cX8_changeOf 6 (some .int) 1 ∧ Cond.instanceMethod yX8_changeOf ∈ TT ∧ Cond.selects (cq 7).1 yX8_changeOf yX8_changeOf ∈ TT ∧ 7 < 10 := ⟨⟨(inT_3 (List.mem_of_getElem? (i := 53) rfl) rfl), (inT_1 (List.mem_of_getElem? (i := 3) rfl) rfl), (inT_3 (List.mem_of_getElem? (i := 56) rfl) rfl), by decide, by decide, by decide +kernel⟩, (inT_3 (List.mem_of_getElem? (i := 54) rfl) rfl), (inT_3 (List.mem_of_getElem? (i := 55) rfl) rfl), by decide⟩
theorem cb_X8_86 : CB RX8 86 yX8_changeBy cX8_changeBy 8 (some .int) 2 ∧ Cond.instanceMethod yX8_changeBy ∈ TT ∧ Cond.selects (cq 7).1 yX8_changeBy yX8_changeBy ∈ TT ∧ 7 < 10 := ⟨⟨(inT_3 (List.mem_of_getElem? (i := 57) rfl) rfl), (inT_1 (List.mem_of_getElem? (i := 3) rfl) rfl), (inT_3 (List.mem_of_getElem? (i := 60) rfl) rfl), by decide, by decide, by decide +kernel⟩, (inT_3 (List.mem_of_getElem? (i := 58) rfl) rfl), (inT_3 (List.mem_of_getElem? (i := 59) rfl) rfl), by decide⟩
theorem cb_X9_217 : CB RX9 217 yX8_changeBy cX8_changeBy 8 (some .int) 2 ∧ Cond.instanceMethod yX8_changeBy ∈ TT ∧ Cond.selects (cq 7).1 yX8_changeBy yX8_changeBy ∈ TT ∧ 7 < 10 := ⟨⟨(inT_3 (List.mem_of_getElem? (i := 61) rfl) rfl), (inT_1 (List.mem_of_getElem? (i := 3) rfl) rfl), (inT_3 (List.mem_of_getElem? (i := 60) rfl) rfl), by decide, by decide, by decide +kernel⟩, (inT_3 (List.mem_of_getElem? (i := 58) rfl) rfl), (inT_3 (List.mem_of_getElem? (i := 59) rfl) rfl), by decide⟩
theorem cb_L_84 : CB RL 84 yX9_off cX9_off 3 (some .int) 2 ∧ Cond.instanceMethod yX9_off ∈ TT ∧ Cond.selects (cq 8).1 yX9_off yX9_off ∈ TT ∧ 8 < 10 := ⟨⟨(inT_3 (List.mem_of_getElem? (i := 62) rfl) rfl), (inT_1 (List.mem_of_getElem? (i := 1) rfl) rfl), (inT_3 (List.mem_of_getElem? (i := 65) rfl) rfl), by decide, by decide, by decide +kernel⟩, (inT_3 (List.mem_of_getElem? (i := 63) rfl) rfl), (inT_3 (List.mem_of_getElem? (i := 64) rfl) rfl), by decide⟩
theorem cb_X9_220 : CB RX9 220 yX3_fillSigns cX3_fillSigns 2 none 0 ∧ Cond.instanceMethod yX3_fillSigns ∈ TT ∧ Cond.selects (cq 2).1 yX3_fillSigns yX3_fillSigns ∈ TT ∧ 2 < 10 := ⟨⟨(inT_3 (List.mem_of_getElem? (i := 66) rfl) rfl), (inT_1 (List.mem_of_getElem? (i := 2) rfl) rfl), (inT_3 (List.mem_of_getElem? (i := 69) rfl) rfl), by decide, by decide, by decide +kernel⟩, (inT_3 (List.mem_of_getElem? (i := 67) rfl) rfl), (inT_3 (List.mem_of_getElem? (i := 68) rfl) rfl), by decide⟩
theorem cb_X3_138 : CB RX3 138 yX3_signOf cX3_signOf 4 (some .int) 1 ∧ Cond.instanceMethod yX3_signOf ∈ TT ∧ Cond.selects (cq 2).1 yX3_signOf yX3_signOf ∈ TT ∧ 2 < 10 := ⟨⟨(inT_3 (List.mem_of_getElem? (i := 70) rfl) rfl), (inT_1 (List.mem_of_getElem? (i := 2) rfl) rfl), (inT_2 (List.mem_of_getElem? (i := 176) rfl) rfl), by decide, by decide, by decide +kernel⟩, (inT_2 (List.mem_of_getElem? (i := 174) rfl) rfl), (inT_2 (List.mem_of_getElem? (i := 175) rfl) rfl), by decide⟩
theorem cb_X9_223 : CB RX9 223 yX3_takenOff cX3_takenOff 5 (some .int) 2 ∧ Cond.instanceMethod yX3_takenOff ∈ TT ∧ Cond.selects (cq 2).1 yX3_takenOff yX3_takenOff ∈ TT ∧ 2 < 10 := ⟨⟨(inT_3 (List.mem_of_getElem? (i := 71) rfl) rfl), (inT_1 (List.mem_of_getElem? (i := 2) rfl) rfl), (inT_3 (List.mem_of_getElem? (i := 74) rfl) rfl), by decide, by decide, by decide +kernel⟩, (inT_3 (List.mem_of_getElem? (i := 72) rfl) rfl), (inT_3 (List.mem_of_getElem? (i := 73) rfl) rfl), by decide⟩
theorem cb_X3_141 : CB RX3 141 yX1_isTrue cX1_isTrue 1 (some .boolean) 1 ∧ Cond.static yX1_isTrue ∈ TT := ⟨⟨(inT_3 (List.mem_of_getElem? (i := 75) rfl) rfl), (inT_1 (List.mem_of_getElem? (i := 12) rfl) rfl), (inT_2 (List.mem_of_getElem? (i := 180) rfl) rfl), by decide, by decide, by decide +kernel⟩, (inT_2 (List.mem_of_getElem? (i := 179) rfl) rfl)⟩
theorem cb_L_88 : CB RL 88 yX9_bound cX9_bound 3 (some .int) 1 ∧ Cond.instanceMethod yX9_bound ∈ TT ∧ Cond.selects (cq 8).1 yX9_bound yX9_bound ∈ TT ∧ 8 < 10 := ⟨⟨(inT_3 (List.mem_of_getElem? (i := 76) rfl) rfl), (inT_1 (List.mem_of_getElem? (i := 1) rfl) rfl), (inT_3 (List.mem_of_getElem? (i := 79) rfl) rfl), by decide, by decide, by decide +kernel⟩, (inT_3 (List.mem_of_getElem? (i := 77) rfl) rfl), (inT_3 (List.mem_of_getElem? (i := 78) rfl) rfl), by decide⟩
theorem cb_X9_226 : CB RX9 226 yX3_bestBound cX3_bestBound 3 (some .int) 0 ∧ Cond.instanceMethod yX3_bestBound ∈ TT ∧ Cond.selects (cq 2).1 yX3_bestBound yX3_bestBound ∈ TT ∧ 2 < 10 := ⟨⟨(inT_3 (List.mem_of_getElem? (i := 80) rfl) rfl), (inT_1 (List.mem_of_getElem? (i := 2) rfl) rfl), (inT_3 (List.mem_of_getElem? (i := 83) rfl) rfl), by decide, by decide, by decide +kernel⟩, (inT_3 (List.mem_of_getElem? (i := 81) rfl) rfl), (inT_3 (List.mem_of_getElem? (i := 82) rfl) rfl), by decide⟩
theorem cb_X3_148 : CB RX3 148 yX3_gainOf cX3_gainOf 2 (some .int) 1 ∧ Cond.instanceMethod yX3_gainOf ∈ TT ∧ Cond.selects (cq 2).1 yX3_gainOf yX3_gainOf ∈ TT ∧ 2 < 10 := ⟨⟨(inT_3 (List.mem_of_getElem? (i := 84) rfl) rfl), (inT_1 (List.mem_of_getElem? (i := 2) rfl) rfl), (inT_3 (List.mem_of_getElem? (i := 87) rfl) rfl), by decide, by decide, by decide +kernel⟩, (inT_3 (List.mem_of_getElem? (i := 85) rfl) rfl), (inT_3 (List.mem_of_getElem? (i := 86) rfl) rfl), by decide⟩
theorem cb_X3_145 : CB RX3 145 yX3_takenOff cX3_takenOff 5 (some .int) 2 ∧ Cond.instanceMethod yX3_takenOff ∈ TT ∧ Cond.selects (cq 2).1 yX3_takenOff yX3_takenOff ∈ TT ∧ 2 < 10 := ⟨⟨(inT_3 (List.mem_of_getElem? (i := 88) rfl) rfl), (inT_1 (List.mem_of_getElem? (i := 2) rfl) rfl), (inT_3 (List.mem_of_getElem? (i := 74) rfl) rfl), by decide, by decide, by decide +kernel⟩, (inT_3 (List.mem_of_getElem? (i := 72) rfl) rfl), (inT_3 (List.mem_of_getElem? (i := 73) rfl) rfl), by decide⟩
theorem cb_X9_230 : CB RX9 230 yX3_gainOf cX3_gainOf 2 (some .int) 1 ∧ Cond.instanceMethod yX3_gainOf ∈ TT ∧ Cond.selects (cq 2).1 yX3_gainOf yX3_gainOf ∈ TT ∧ 2 < 10 := ⟨⟨(inT_3 (List.mem_of_getElem? (i := 89) rfl) rfl), (inT_1 (List.mem_of_getElem? (i := 2) rfl) rfl), (inT_3 (List.mem_of_getElem? (i := 87) rfl) rfl), by decide, by decide, by decide +kernel⟩, (inT_3 (List.mem_of_getElem? (i := 85) rfl) rfl), (inT_3 (List.mem_of_getElem? (i := 86) rfl) rfl), by decide⟩
theorem cb_L_92 : CB RL 92 yX9_clean cX9_clean 2 (some .int) 1 ∧ Cond.instanceMethod yX9_clean ∈ TT ∧ Cond.selects (cq 8).1 yX9_clean yX9_clean ∈ TT ∧ 8 < 10 := ⟨⟨(inT_3 (List.mem_of_getElem? (i := 90) rfl) rfl), (inT_1 (List.mem_of_getElem? (i := 1) rfl) rfl), (inT_3 (List.mem_of_getElem? (i := 93) rfl) rfl), by decide, by decide, by decide +kernel⟩, (inT_3 (List.mem_of_getElem? (i := 91) rfl) rfl), (inT_3 (List.mem_of_getElem? (i := 92) rfl) rfl), by decide⟩
theorem cb_X9_233 : CB RX9 233 yX3_takeOff cX3_takeOff 3 (some .int) 1 ∧ Cond.instanceMethod yX3_takeOff ∈ TT ∧ Cond.selects (cq 2).1 yX3_takeOff yX3_takeOff ∈ TT ∧ 2 < 10 := ⟨⟨(inT_3 (List.mem_of_getElem? (i := 94) rfl) rfl), (inT_1 (List.mem_of_getElem? (i := 2) rfl) rfl), (inT_3 (List.mem_of_getElem? (i := 97) rfl) rfl), by decide, by decide, by decide +kernel⟩, (inT_3 (List.mem_of_getElem? (i := 95) rfl) rfl), (inT_3 (List.mem_of_getElem? (i := 96) rfl) rfl), by decide⟩
theorem cb_X3_151 : CB RX3 151 yX8_keepBelow cX8_keepBelow 5 none 2 ∧ Cond.instanceMethod yX8_keepBelow ∈ TT ∧ Cond.selects (cq 7).1 yX8_keepBelow yX8_keepBelow ∈ TT ∧ 7 < 10 := ⟨⟨(inT_3 (List.mem_of_getElem? (i := 98) rfl) rfl), (inT_1 (List.mem_of_getElem? (i := 3) rfl) rfl), (inT_3 (List.mem_of_getElem? (i := 101) rfl) rfl), by decide, by decide, by decide +kernel⟩, (inT_3 (List.mem_of_getElem? (i := 99) rfl) rfl), (inT_3 (List.mem_of_getElem? (i := 100) rfl) rfl), by decide⟩
theorem cb_L_96 : CB RL 96 yX9_buy cX9_buy 5 (some .int) 2 ∧ Cond.instanceMethod yX9_buy ∈ TT ∧ Cond.selects (cq 8).1 yX9_buy yX9_buy ∈ TT ∧ 8 < 10 := ⟨⟨(inT_3 (List.mem_of_getElem? (i := 102) rfl) rfl), (inT_1 (List.mem_of_getElem? (i := 1) rfl) rfl), (inT_3 (List.mem_of_getElem? (i := 105) rfl) rfl), by decide, by decide, by decide +kernel⟩, (inT_3 (List.mem_of_getElem? (i := 103) rfl) rfl), (inT_3 (List.mem_of_getElem? (i := 104) rfl) rfl), by decide⟩
theorem ko_X9_236 : Cond.constant RX9 236 (-1000000002) ∈ TT := (inT_3 (List.mem_of_getElem? (i := 106) rfl) rfl)
theorem cb_X9_237 : CB RX9 237 yX3_buyerComes cX3_buyerComes 7 (some .int) 1 ∧ Cond.instanceMethod yX3_buyerComes ∈ TT ∧ Cond.selects (cq 2).1 yX3_buyerComes yX3_buyerComes ∈ TT ∧ 2 < 10 := ⟨⟨(inT_3 (List.mem_of_getElem? (i := 107) rfl) rfl), (inT_1 (List.mem_of_getElem? (i := 2) rfl) rfl), (inT_3 (List.mem_of_getElem? (i := 110) rfl) rfl), by decide, by decide, by decide +kernel⟩, (inT_3 (List.mem_of_getElem? (i := 108) rfl) rfl), (inT_3 (List.mem_of_getElem? (i := 109) rfl) rfl), by decide⟩
theorem cb_X3_156 : CB RX3 156 yX3_draw cX3_draw 1 (some .int) 0 ∧ Cond.instanceMethod yX3_draw ∈ TT ∧ Cond.selects (cq 2).1 yX3_draw yX3_draw ∈ TT ∧ 2 < 10 := ⟨⟨(inT_3 (List.mem_of_getElem? (i := 111) rfl) rfl), (inT_1 (List.mem_of_getElem? (i := 2) rfl) rfl), (inT_3 (List.mem_of_getElem? (i := 114) rfl) rfl), by decide, by decide, by decide +kernel⟩, (inT_3 (List.mem_of_getElem? (i := 113) rfl) rfl), (inS_1 (List.mem_of_getElem? (i := 9) rfl)), by decide⟩
theorem ko_X3_155 : Cond.constant RX3 155 1103515245 ∈ TT := (inT_3 (List.mem_of_getElem? (i := 115) rfl) rfl)
theorem cb_X3_160 : CB RX3 160 yX3_rank cX3_rank 4 none 0 ∧ Cond.instanceMethod yX3_rank ∈ TT ∧ Cond.selects (cq 2).1 yX3_rank yX3_rank ∈ TT ∧ 2 < 10 := ⟨⟨(inT_3 (List.mem_of_getElem? (i := 116) rfl) rfl), (inT_1 (List.mem_of_getElem? (i := 2) rfl) rfl), (inT_2 (List.mem_of_getElem? (i := 53) rfl) rfl), by decide, by decide, by decide +kernel⟩, (inT_2 (List.mem_of_getElem? (i := 51) rfl) rfl), (inT_2 (List.mem_of_getElem? (i := 52) rfl) rfl), by decide⟩
theorem cb_X3_163 : CB RX3 163 yX3_atPlace cX3_atPlace 3 (some .int) 1 ∧ Cond.instanceMethod yX3_atPlace ∈ TT ∧ Cond.selects (cq 2).1 yX3_atPlace yX3_atPlace ∈ TT ∧ 2 < 10 := ⟨⟨(inT_3 (List.mem_of_getElem? (i := 117) rfl) rfl), (inT_1 (List.mem_of_getElem? (i := 2) rfl) rfl), (inT_2 (List.mem_of_getElem? (i := 235) rfl) rfl), by decide, by decide, by decide +kernel⟩, (inT_2 (List.mem_of_getElem? (i := 233) rfl) rfl), (inT_2 (List.mem_of_getElem? (i := 234) rfl) rfl), by decide⟩
theorem cb_X3_166 : CB RX3 166 yX8_meanOf cX8_meanOf 3 (some .int) 1 ∧ Cond.instanceMethod yX8_meanOf ∈ TT ∧ Cond.selects (cq 7).1 yX8_meanOf yX8_meanOf ∈ TT ∧ 7 < 10 := ⟨⟨(inT_3 (List.mem_of_getElem? (i := 118) rfl) rfl), (inT_1 (List.mem_of_getElem? (i := 3) rfl) rfl), (inT_2 (List.mem_of_getElem? (i := 65) rfl) rfl), by decide, by decide, by decide +kernel⟩, (inT_2 (List.mem_of_getElem? (i := 63) rfl) rfl), (inT_2 (List.mem_of_getElem? (i := 64) rfl) rfl), by decide⟩
theorem cb_X3_169 : CB RX3 169 yJ9_abs_0f7a4 cJ9_abs_0f7a4 1 (some .int) 1 ∧ Cond.static yJ9_abs_0f7a4 ∈ TT := ⟨⟨(inT_3 (List.mem_of_getElem? (i := 119) rfl) rfl), (inT_1 (List.mem_of_getElem? (i := 10) rfl) rfl), (inT_3 (List.mem_of_getElem? (i := 11) rfl) rfl), by decide, by decide, by decide +kernel⟩, (inT_3 (List.mem_of_getElem? (i := 10) rfl) rfl)⟩
theorem cb_X3_172 : CB RX3 172 yX8_room cX8_room 1 (some .int) 0 ∧ Cond.instanceMethod yX8_room ∈ TT ∧ Cond.selects (cq 7).1 yX8_room yX8_room ∈ TT ∧ 7 < 10 := ⟨⟨(inT_3 (List.mem_of_getElem? (i := 120) rfl) rfl), (inT_1 (List.mem_of_getElem? (i := 3) rfl) rfl), (inT_3 (List.mem_of_getElem? (i := 123) rfl) rfl), by decide, by decide, by decide +kernel⟩, (inT_3 (List.mem_of_getElem? (i := 121) rfl) rfl), (inT_3 (List.mem_of_getElem? (i := 122) rfl) rfl), by decide⟩
theorem cb_X3_175 : CB RX3 175 yX8_write cX8_write 7 (some .int) 5 ∧ Cond.instanceMethod yX8_write ∈ TT ∧ Cond.selects (cq 7).1 yX8_write yX8_write ∈ TT ∧ 7 < 10 := ⟨⟨(inT_3 (List.mem_of_getElem? (i := 124) rfl) rfl), (inT_1 (List.mem_of_getElem? (i := 3) rfl) rfl), (inT_2 (List.mem_of_getElem? (i := 161) rfl) rfl), by decide, by decide, by decide +kernel⟩, (inT_2 (List.mem_of_getElem? (i := 159) rfl) rfl), (inT_2 (List.mem_of_getElem? (i := 160) rfl) rfl), by decide⟩
theorem cb_L_100 : CB RL 100 yX9_job cX9_job 7 (some .int) 4 ∧ Cond.instanceMethod yX9_job ∈ TT ∧ Cond.selects (cq 8).1 yX9_job yX9_job ∈ TT ∧ 8 < 10 := ⟨⟨(inT_3 (List.mem_of_getElem? (i := 125) rfl) rfl), (inT_1 (List.mem_of_getElem? (i := 1) rfl) rfl), (inT_3 (List.mem_of_getElem? (i := 128) rfl) rfl), by decide, by decide, by decide +kernel⟩, (inT_3 (List.mem_of_getElem? (i := 126) rfl) rfl), (inT_3 (List.mem_of_getElem? (i := 127) rfl) rfl), by decide⟩
theorem cb_X9_240 : CB RX9 240 yX8_room cX8_room 1 (some .int) 0 ∧ Cond.instanceMethod yX8_room ∈ TT ∧ Cond.selects (cq 7).1 yX8_room yX8_room ∈ TT ∧ 7 < 10 := ⟨⟨(inT_3 (List.mem_of_getElem? (i := 129) rfl) rfl), (inT_1 (List.mem_of_getElem? (i := 3) rfl) rfl), (inT_3 (List.mem_of_getElem? (i := 123) rfl) rfl), by decide, by decide, by decide +kernel⟩, (inT_3 (List.mem_of_getElem? (i := 121) rfl) rfl), (inT_3 (List.mem_of_getElem? (i := 122) rfl) rfl), by decide⟩
theorem ko_X9_242 : Cond.constant RX9 242 (-1000000003) ∈ TT := (inT_3 (List.mem_of_getElem? (i := 130) rfl) rfl)
theorem cb_L_105 : CB RL 105 yX9_seed cX9_seed 3 (some .int) 1 ∧ Cond.instanceMethod yX9_seed ∈ TT ∧ Cond.selects (cq 8).1 yX9_seed yX9_seed ∈ TT ∧ 8 < 10 := ⟨⟨(inT_3 (List.mem_of_getElem? (i := 131) rfl) rfl), (inT_1 (List.mem_of_getElem? (i := 1) rfl) rfl), (inT_3 (List.mem_of_getElem? (i := 134) rfl) rfl), by decide, by decide, by decide +kernel⟩, (inT_3 (List.mem_of_getElem? (i := 132) rfl) rfl), (inT_3 (List.mem_of_getElem? (i := 133) rfl) rfl), by decide⟩
theorem cb_L_109 : CB RL 109 yX9_feed cX9_feed 4 (some .int) 3 ∧ Cond.instanceMethod yX9_feed ∈ TT ∧ Cond.selects (cq 8).1 yX9_feed yX9_feed ∈ TT ∧ 8 < 10 := ⟨⟨(inT_3 (List.mem_of_getElem? (i := 135) rfl) rfl), (inT_1 (List.mem_of_getElem? (i := 1) rfl) rfl), (inT_3 (List.mem_of_getElem? (i := 138) rfl) rfl), by decide, by decide, by decide +kernel⟩, (inT_3 (List.mem_of_getElem? (i := 136) rfl) rfl), (inT_3 (List.mem_of_getElem? (i := 137) rfl) rfl), by decide⟩
theorem cb_X9_247 : CB RX9 247 yX6_take cX6_take 3 none 1 ∧ Cond.instanceMethod yX6_take ∈ TT ∧ Cond.selects (cq 5).1 yX6_take yX6_take ∈ TT ∧ 5 < 10 := ⟨⟨(inT_3 (List.mem_of_getElem? (i := 139) rfl) rfl), (inT_1 (List.mem_of_getElem? (i := 5) rfl) rfl), (inT_3 (List.mem_of_getElem? (i := 142) rfl) rfl), by decide, by decide, by decide +kernel⟩, (inT_3 (List.mem_of_getElem? (i := 140) rfl) rfl), (inT_3 (List.mem_of_getElem? (i := 141) rfl) rfl), by decide⟩
theorem cb_L_113 : CB RL 113 yX9_trim cX9_trim 2 (some .int) 1 ∧ Cond.instanceMethod yX9_trim ∈ TT ∧ Cond.selects (cq 8).1 yX9_trim yX9_trim ∈ TT ∧ 8 < 10 := ⟨⟨(inT_3 (List.mem_of_getElem? (i := 143) rfl) rfl), (inT_1 (List.mem_of_getElem? (i := 1) rfl) rfl), (inT_3 (List.mem_of_getElem? (i := 146) rfl) rfl), by decide, by decide, by decide +kernel⟩, (inT_3 (List.mem_of_getElem? (i := 144) rfl) rfl), (inT_3 (List.mem_of_getElem? (i := 145) rfl) rfl), by decide⟩
theorem cb_L_117 : CB RL 117 yX9_text cX9_text 2 (some .int) 0 ∧ Cond.instanceMethod yX9_text ∈ TT ∧ Cond.selects (cq 8).1 yX9_text yX9_text ∈ TT ∧ 8 < 10 := ⟨⟨(inT_3 (List.mem_of_getElem? (i := 147) rfl) rfl), (inT_1 (List.mem_of_getElem? (i := 1) rfl) rfl), (inT_3 (List.mem_of_getElem? (i := 150) rfl) rfl), by decide, by decide, by decide +kernel⟩, (inT_3 (List.mem_of_getElem? (i := 148) rfl) rfl), (inT_3 (List.mem_of_getElem? (i := 149) rfl) rfl), by decide⟩
theorem cb_X9_250 : CB RX9 250 yX2_read cX2_read 1 (some (.object "FiveStars$Text")) 0 ∧ Cond.instanceMethod yX2_read ∈ TT ∧ Cond.selects (cq 1).1 yX2_read yX2_read ∈ TT ∧ 1 < 10 := ⟨⟨(inT_3 (List.mem_of_getElem? (i := 151) rfl) rfl), (inT_1 (List.mem_of_getElem? (i := 6) rfl) rfl), (inT_3 (List.mem_of_getElem? (i := 154) rfl) rfl), by decide, by decide, by decide +kernel⟩, (inT_3 (List.mem_of_getElem? (i := 152) rfl) rfl), (inT_3 (List.mem_of_getElem? (i := 153) rfl) rfl), by decide⟩
theorem cb_X2_41 : CB RX2 41 yX2_step cX2_step 3 none 0 ∧ Cond.instanceMethod yX2_step ∈ TT ∧ Cond.selects (cq 1).1 yX2_step yX2_step ∈ TT ∧ 1 < 10 := ⟨⟨(inT_3 (List.mem_of_getElem? (i := 155) rfl) rfl), (inT_1 (List.mem_of_getElem? (i := 6) rfl) rfl), (inT_3 (List.mem_of_getElem? (i := 158) rfl) rfl), by decide, by decide, by decide +kernel⟩, (inT_3 (List.mem_of_getElem? (i := 157) rfl) rfl), (inS_1 (List.mem_of_getElem? (i := 10) rfl)), by decide⟩
theorem cb_X2_72 : CB RX2 72 yX2_sortAt cX2_sortAt 3 (some .int) 1 ∧ Cond.instanceMethod yX2_sortAt ∈ TT ∧ Cond.selects (cq 1).1 yX2_sortAt yX2_sortAt ∈ TT ∧ 1 < 10 := ⟨⟨(inT_3 (List.mem_of_getElem? (i := 159) rfl) rfl), (inT_1 (List.mem_of_getElem? (i := 6) rfl) rfl), (inT_3 (List.mem_of_getElem? (i := 162) rfl) rfl), by decide, by decide, by decide +kernel⟩, (inT_3 (List.mem_of_getElem? (i := 161) rfl) rfl), (inS_1 (List.mem_of_getElem? (i := 11) rfl)), by decide⟩
theorem cb_X2_44 : CB RX2 44 yX2_keyword cX2_keyword 2 (some .int) 0 ∧ Cond.instanceMethod yX2_keyword ∈ TT ∧ Cond.selects (cq 1).1 yX2_keyword yX2_keyword ∈ TT ∧ 1 < 10 := ⟨⟨(inT_3 (List.mem_of_getElem? (i := 163) rfl) rfl), (inT_1 (List.mem_of_getElem? (i := 6) rfl) rfl), (inT_3 (List.mem_of_getElem? (i := 166) rfl) rfl), by decide, by decide, by decide +kernel⟩, (inT_3 (List.mem_of_getElem? (i := 165) rfl) rfl), (inS_1 (List.mem_of_getElem? (i := 12) rfl)), by decide⟩
theorem cb_X2_76 : CB RX2 76 yX7_wordOf cX7_wordOf 1 (some (.object "java/lang/String")) 1 ∧ Cond.static yX7_wordOf ∈ TT := ⟨⟨(inT_3 (List.mem_of_getElem? (i := 167) rfl) rfl), (inT_1 (List.mem_of_getElem? (i := 11) rfl) rfl), (inT_3 (List.mem_of_getElem? (i := 169) rfl) rfl), by decide, by decide, by decide +kernel⟩, (inT_3 (List.mem_of_getElem? (i := 168) rfl) rfl)⟩
theorem cb_X2_80 : CB RX2 80 yX2_isNext cX2_isNext 3 (some .boolean) 1 ∧ Cond.instanceMethod yX2_isNext ∈ TT ∧ Cond.selects (cq 1).1 yX2_isNext yX2_isNext ∈ TT ∧ 1 < 10 := ⟨⟨(inT_3 (List.mem_of_getElem? (i := 173) rfl) rfl), (inT_1 (List.mem_of_getElem? (i := 6) rfl) rfl), (inT_3 (List.mem_of_getElem? (i := 176) rfl) rfl), by decide, by decide, by decide +kernel⟩, (inT_3 (List.mem_of_getElem? (i := 175) rfl) rfl), (inS_1 (List.mem_of_getElem? (i := 13) rfl)), by decide⟩
theorem cb_X2_84 : CB RX2 84 yJ0_length_8abf5 cJ0_length_8abf5 1 (some .int) 0 ∧ Cond.instanceMethod yJ0_length_8abf5 ∈ TT ∧ Cond.selects RJ0 yJ0_length_8abf5 yJ0_length_8abf5 ∈ TT := ⟨⟨(inT_3 (List.mem_of_getElem? (i := 177) rfl) rfl), (inT_1 (List.mem_of_getElem? (i := 14) rfl) rfl), (inT_3 (List.mem_of_getElem? (i := 180) rfl) rfl), by decide, by decide, by decide +kernel⟩, (inT_3 (List.mem_of_getElem? (i := 178) rfl) rfl), (inT_3 (List.mem_of_getElem? (i := 179) rfl) rfl)⟩
theorem cb_J0_335 : CB RJ0 335 yJ0_coder_7d493 cJ0_coder_7d493 1 (some .byte) 0 ∧ Cond.instanceMethod yJ0_coder_7d493 ∈ TT ∧ Cond.selects RJ0 yJ0_coder_7d493 yJ0_coder_7d493 ∈ TT := ⟨⟨(inT_3 (List.mem_of_getElem? (i := 181) rfl) rfl), (inT_1 (List.mem_of_getElem? (i := 14) rfl) rfl), (inT_3 (List.mem_of_getElem? (i := 184) rfl) rfl), by decide, by decide, by decide +kernel⟩, (inT_3 (List.mem_of_getElem? (i := 182) rfl) rfl), (inT_3 (List.mem_of_getElem? (i := 183) rfl) rfl)⟩
theorem cb_X2_89 : CB RX2 89 yJ0_charAt_5068e cJ0_charAt_5068e 2 (some .char) 1 ∧ Cond.instanceMethod yJ0_charAt_5068e ∈ TT ∧ Cond.selects RJ0 yJ0_charAt_5068e yJ0_charAt_5068e ∈ TT := ⟨⟨(inT_3 (List.mem_of_getElem? (i := 187) rfl) rfl), (inT_1 (List.mem_of_getElem? (i := 14) rfl) rfl), (inT_3 (List.mem_of_getElem? (i := 190) rfl) rfl), by decide, by decide, by decide +kernel⟩, (inT_3 (List.mem_of_getElem? (i := 188) rfl) rfl), (inT_3 (List.mem_of_getElem? (i := 189) rfl) rfl)⟩
theorem cb_J0_492 : CB RJ0 492 yJ0_isLatin1_aae02 cJ0_isLatin1_aae02 1 (some .boolean) 0 ∧ Cond.instanceMethod yJ0_isLatin1_aae02 ∈ TT ∧ Cond.selects RJ0 yJ0_isLatin1_aae02 yJ0_isLatin1_aae02 ∈ TT := ⟨⟨(inT_3 (List.mem_of_getElem? (i := 191) rfl) rfl), (inT_1 (List.mem_of_getElem? (i := 14) rfl) rfl), (inT_3 (List.mem_of_getElem? (i := 194) rfl) rfl), by decide, by decide, by decide +kernel⟩, (inT_3 (List.mem_of_getElem? (i := 192) rfl) rfl), (inT_3 (List.mem_of_getElem? (i := 193) rfl) rfl)⟩
theorem cb_J0_495 : CB RJ0 495 yJ1_charAt_3b067 cJ1_charAt_3b067 2 (some .char) 2 ∧ Cond.static yJ1_charAt_3b067 ∈ TT := ⟨⟨(inT_3 (List.mem_of_getElem? (i := 195) rfl) rfl), (inT_1 (List.mem_of_getElem? (i := 15) rfl) rfl), (inT_3 (List.mem_of_getElem? (i := 197) rfl) rfl), by decide, by decide, by decide +kernel⟩, (inT_3 (List.mem_of_getElem? (i := 196) rfl) rfl)⟩
theorem cb_J1_9 : CB RJ1 9 yJ0_checkIndex_df160 cJ0_checkIndex_df160 2 none 2 ∧ Cond.static yJ0_checkIndex_df160 ∈ TT := ⟨⟨(inT_3 (List.mem_of_getElem? (i := 198) rfl) rfl), (inT_1 (List.mem_of_getElem? (i := 14) rfl) rfl), (inT_3 (List.mem_of_getElem? (i := 200) rfl) rfl), by decide, by decide, by decide +kernel⟩, (inT_3 (List.mem_of_getElem? (i := 199) rfl) rfl)⟩
theorem cb_J0_1059 : CB RJ0 1059 yJ3_checkIndex_8e157 cJ3_checkIndex_8e157 3 (some .int) 3 ∧ Cond.static yJ3_checkIndex_8e157 ∈ TT := ⟨⟨(inT_3 (List.mem_of_getElem? (i := 203) rfl) rfl), (inT_1 (List.mem_of_getElem? (i := 16) rfl) rfl), (inT_3 (List.mem_of_getElem? (i := 205) rfl) rfl), by decide, by decide, by decide +kernel⟩, (inT_3 (List.mem_of_getElem? (i := 204) rfl) rfl)⟩
theorem cb_J0_498 : CB RJ0 498 yJ2_charAt_3b067 cJ2_charAt_3b067 2 (some .char) 2 ∧ Cond.static yJ2_charAt_3b067 ∈ TT := ⟨⟨(inT_3 (List.mem_of_getElem? (i := 206) rfl) rfl), (inT_1 (List.mem_of_getElem? (i := 17) rfl) rfl), (inT_3 (List.mem_of_getElem? (i := 208) rfl) rfl), by decide, by decide, by decide +kernel⟩, (inT_3 (List.mem_of_getElem? (i := 207) rfl) rfl)⟩
theorem cb_J2_67 : CB RJ2 67 yJ2_checkIndex_2214a cJ2_checkIndex_2214a 2 none 2 ∧ Cond.static yJ2_checkIndex_2214a ∈ TT := ⟨⟨(inT_3 (List.mem_of_getElem? (i := 209) rfl) rfl), (inT_1 (List.mem_of_getElem? (i := 17) rfl) rfl), (inT_3 (List.mem_of_getElem? (i := 211) rfl) rfl), by decide, by decide, by decide +kernel⟩, (inT_3 (List.mem_of_getElem? (i := 210) rfl) rfl)⟩
theorem cb_J2_48 : CB RJ2 48 yJ2_length_9d52b cJ2_length_9d52b 1 (some .int) 1 ∧ Cond.static yJ2_length_9d52b ∈ TT := ⟨⟨(inT_3 (List.mem_of_getElem? (i := 212) rfl) rfl), (inT_1 (List.mem_of_getElem? (i := 17) rfl) rfl), (inT_3 (List.mem_of_getElem? (i := 214) rfl) rfl), by decide, by decide, by decide +kernel⟩, (inT_3 (List.mem_of_getElem? (i := 213) rfl) rfl)⟩
theorem cb_J2_414 : CB RJ2 414 yJ0_checkIndex_df160 cJ0_checkIndex_df160 2 none 2 ∧ Cond.static yJ0_checkIndex_df160 ∈ TT := ⟨⟨(inT_3 (List.mem_of_getElem? (i := 215) rfl) rfl), (inT_1 (List.mem_of_getElem? (i := 14) rfl) rfl), (inT_3 (List.mem_of_getElem? (i := 200) rfl) rfl), by decide, by decide, by decide +kernel⟩, (inT_3 (List.mem_of_getElem? (i := 199) rfl) rfl)⟩
theorem cb_J2_71 : CB RJ2 71 yJ2_getChar_3b067 cJ2_getChar_3b067 2 (some .char) 2 ∧ Cond.static yJ2_getChar_3b067 ∈ TT := ⟨⟨(inT_3 (List.mem_of_getElem? (i := 216) rfl) rfl), (inT_1 (List.mem_of_getElem? (i := 17) rfl) rfl), (inT_3 (List.mem_of_getElem? (i := 218) rfl) rfl), by decide, by decide, by decide +kernel⟩, (inT_3 (List.mem_of_getElem? (i := 217) rfl) rfl)⟩
theorem cb_X2_48 : CB RX2 48 yX2_level cX2_level 6 none 3 ∧ Cond.instanceMethod yX2_level ∈ TT ∧ Cond.selects (cq 1).1 yX2_level yX2_level ∈ TT ∧ 1 < 10 := ⟨⟨(inT_3 (List.mem_of_getElem? (i := 225) rfl) rfl), (inT_1 (List.mem_of_getElem? (i := 6) rfl) rfl), (inT_3 (List.mem_of_getElem? (i := 228) rfl) rfl), by decide, by decide, by decide +kernel⟩, (inT_3 (List.mem_of_getElem? (i := 227) rfl) rfl), (inS_1 (List.mem_of_getElem? (i := 14) rfl)), by decide⟩
theorem cb_X2_93 : CB RX2 93 yX2_piece cX2_piece 3 none 2 ∧ Cond.instanceMethod yX2_piece ∈ TT ∧ Cond.selects (cq 1).1 yX2_piece yX2_piece ∈ TT ∧ 1 < 10 := ⟨⟨(inT_3 (List.mem_of_getElem? (i := 229) rfl) rfl), (inT_1 (List.mem_of_getElem? (i := 6) rfl) rfl), (inT_3 (List.mem_of_getElem? (i := 232) rfl) rfl), by decide, by decide, by decide +kernel⟩, (inT_3 (List.mem_of_getElem? (i := 231) rfl) rfl), (inS_1 (List.mem_of_getElem? (i := 15) rfl)), by decide⟩
theorem cb_X2_104 : CB RX2 104 yX2_number cX2_number 3 (some .int) 0 ∧ Cond.instanceMethod yX2_number ∈ TT ∧ Cond.selects (cq 1).1 yX2_number yX2_number ∈ TT ∧ 1 < 10 := ⟨⟨(inT_3 (List.mem_of_getElem? (i := 233) rfl) rfl), (inT_1 (List.mem_of_getElem? (i := 6) rfl) rfl), (inT_3 (List.mem_of_getElem? (i := 236) rfl) rfl), by decide, by decide, by decide +kernel⟩, (inT_3 (List.mem_of_getElem? (i := 235) rfl) rfl), (inS_2 (List.mem_of_getElem? (i := 0) rfl)), by decide⟩
theorem cb_X2_107 : CB RX2 107 yX2_leaf cX2_leaf 2 none 1 ∧ Cond.instanceMethod yX2_leaf ∈ TT ∧ Cond.selects (cq 1).1 yX2_leaf yX2_leaf ∈ TT ∧ 1 < 10 := ⟨⟨(inT_3 (List.mem_of_getElem? (i := 237) rfl) rfl), (inT_1 (List.mem_of_getElem? (i := 6) rfl) rfl), (inT_4 (List.mem_of_getElem? (i := 0) rfl) rfl), by decide, by decide, by decide +kernel⟩, (inT_3 (List.mem_of_getElem? (i := 239) rfl) rfl), (inS_2 (List.mem_of_getElem? (i := 1) rfl)), by decide⟩
theorem cb_X2_100 : CB RX2 100 yX2_put cX2_put 2 none 1 ∧ Cond.instanceMethod yX2_put ∈ TT ∧ Cond.selects (cq 1).1 yX2_put yX2_put ∈ TT ∧ 1 < 10 := ⟨⟨(inT_4 (List.mem_of_getElem? (i := 1) rfl) rfl), (inT_1 (List.mem_of_getElem? (i := 6) rfl) rfl), (inT_4 (List.mem_of_getElem? (i := 4) rfl) rfl), by decide, by decide, by decide +kernel⟩, (inT_4 (List.mem_of_getElem? (i := 3) rfl) rfl), (inS_2 (List.mem_of_getElem? (i := 2) rfl)), by decide⟩
theorem cb_X2_110 : CB RX2 110 yX2_nameOfNext cX2_nameOfNext 1 (some .int) 0 ∧ Cond.instanceMethod yX2_nameOfNext ∈ TT ∧ Cond.selects (cq 1).1 yX2_nameOfNext yX2_nameOfNext ∈ TT ∧ 1 < 10 := ⟨⟨(inT_4 (List.mem_of_getElem? (i := 5) rfl) rfl), (inT_1 (List.mem_of_getElem? (i := 6) rfl) rfl), (inT_4 (List.mem_of_getElem? (i := 8) rfl) rfl), by decide, by decide, by decide +kernel⟩, (inT_4 (List.mem_of_getElem? (i := 7) rfl) rfl), (inS_2 (List.mem_of_getElem? (i := 3) rfl)), by decide⟩
theorem cb_X2_120 : CB RX2 120 yX7_namesOf cX7_namesOf 1 (some (.object "java/lang/String")) 1 ∧ Cond.static yX7_namesOf ∈ TT := ⟨⟨(inT_4 (List.mem_of_getElem? (i := 9) rfl) rfl), (inT_1 (List.mem_of_getElem? (i := 11) rfl) rfl), (inT_4 (List.mem_of_getElem? (i := 11) rfl) rfl), by decide, by decide, by decide +kernel⟩, (inT_4 (List.mem_of_getElem? (i := 10) rfl) rfl)⟩
theorem cb_X2_123 : CB RX2 123 yJ0_indexOf_0f7a4 cJ0_indexOf_0f7a4 2 (some .int) 1 ∧ Cond.instanceMethod yJ0_indexOf_0f7a4 ∈ TT ∧ Cond.selects RJ0 yJ0_indexOf_0f7a4 yJ0_indexOf_0f7a4 ∈ TT := ⟨⟨(inT_4 (List.mem_of_getElem? (i := 15) rfl) rfl), (inT_1 (List.mem_of_getElem? (i := 14) rfl) rfl), (inT_4 (List.mem_of_getElem? (i := 18) rfl) rfl), by decide, by decide, by decide +kernel⟩, (inT_4 (List.mem_of_getElem? (i := 16) rfl) rfl), (inT_4 (List.mem_of_getElem? (i := 17) rfl) rfl)⟩
theorem cb_J0_633 : CB RJ0 633 yJ0_indexOf_7cf53 cJ0_indexOf_7cf53 3 (some .int) 2 ∧ Cond.instanceMethod yJ0_indexOf_7cf53 ∈ TT ∧ Cond.selects RJ0 yJ0_indexOf_7cf53 yJ0_indexOf_7cf53 ∈ TT := ⟨⟨(inT_4 (List.mem_of_getElem? (i := 19) rfl) rfl), (inT_1 (List.mem_of_getElem? (i := 14) rfl) rfl), (inT_4 (List.mem_of_getElem? (i := 22) rfl) rfl), by decide, by decide, by decide +kernel⟩, (inT_4 (List.mem_of_getElem? (i := 20) rfl) rfl), (inT_4 (List.mem_of_getElem? (i := 21) rfl) rfl)⟩
theorem cb_J0_505 : CB RJ0 505 yJ0_length_8abf5 cJ0_length_8abf5 1 (some .int) 0 ∧ Cond.instanceMethod yJ0_length_8abf5 ∈ TT ∧ Cond.selects RJ0 yJ0_length_8abf5 yJ0_length_8abf5 ∈ TT := ⟨⟨(inT_4 (List.mem_of_getElem? (i := 23) rfl) rfl), (inT_1 (List.mem_of_getElem? (i := 14) rfl) rfl), (inT_3 (List.mem_of_getElem? (i := 180) rfl) rfl), by decide, by decide, by decide +kernel⟩, (inT_3 (List.mem_of_getElem? (i := 178) rfl) rfl), (inT_3 (List.mem_of_getElem? (i := 179) rfl) rfl)⟩
theorem cb_J0_637 : CB RJ0 637 yJ1_indexOf_4cfef cJ1_indexOf_4cfef 4 (some .int) 4 ∧ Cond.static yJ1_indexOf_4cfef ∈ TT := ⟨⟨(inT_4 (List.mem_of_getElem? (i := 24) rfl) rfl), (inT_1 (List.mem_of_getElem? (i := 15) rfl) rfl), (inT_4 (List.mem_of_getElem? (i := 26) rfl) rfl), by decide, by decide, by decide +kernel⟩, (inT_4 (List.mem_of_getElem? (i := 25) rfl) rfl)⟩
theorem cb_J1_88 : CB RJ1 88 yJ1_canEncode_9a6ad cJ1_canEncode_9a6ad 1 (some .boolean) 1 ∧ Cond.static yJ1_canEncode_9a6ad ∈ TT := ⟨⟨(inT_4 (List.mem_of_getElem? (i := 27) rfl) rfl), (inT_1 (List.mem_of_getElem? (i := 15) rfl) rfl), (inT_4 (List.mem_of_getElem? (i := 29) rfl) rfl), by decide, by decide, by decide +kernel⟩, (inT_4 (List.mem_of_getElem? (i := 28) rfl) rfl)⟩
theorem cb_J1_92 : CB RJ1 92 yJ9_max_7cf53 cJ9_max_7cf53 2 (some .int) 2 ∧ Cond.static yJ9_max_7cf53 ∈ TT := ⟨⟨(inT_4 (List.mem_of_getElem? (i := 30) rfl) rfl), (inT_1 (List.mem_of_getElem? (i := 10) rfl) rfl), (inT_2 (List.mem_of_getElem? (i := 74) rfl) rfl), by decide, by decide, by decide +kernel⟩, (inT_2 (List.mem_of_getElem? (i := 73) rfl) rfl)⟩
theorem cb_J1_38 : CB RJ1 38 yJ9_min_7cf53 cJ9_min_7cf53 2 (some .int) 2 ∧ Cond.static yJ9_min_7cf53 ∈ TT := ⟨⟨(inT_4 (List.mem_of_getElem? (i := 31) rfl) rfl), (inT_1 (List.mem_of_getElem? (i := 10) rfl) rfl), (inT_2 (List.mem_of_getElem? (i := 95) rfl) rfl), by decide, by decide, by decide +kernel⟩, (inT_2 (List.mem_of_getElem? (i := 94) rfl) rfl)⟩
theorem cb_J1_95 : CB RJ1 95 yJ1_indexOfChar_4cfef cJ1_indexOfChar_4cfef 6 (some .int) 4 ∧ Cond.static yJ1_indexOfChar_4cfef ∈ TT := ⟨⟨(inT_4 (List.mem_of_getElem? (i := 32) rfl) rfl), (inT_1 (List.mem_of_getElem? (i := 15) rfl) rfl), (inT_4 (List.mem_of_getElem? (i := 34) rfl) rfl), by decide, by decide, by decide +kernel⟩, (inT_4 (List.mem_of_getElem? (i := 33) rfl) rfl)⟩
theorem cb_J0_640 : CB RJ0 640 yJ2_indexOf_4cfef cJ2_indexOf_4cfef 4 (some .int) 4 ∧ Cond.static yJ2_indexOf_4cfef ∈ TT := ⟨⟨(inT_4 (List.mem_of_getElem? (i := 35) rfl) rfl), (inT_1 (List.mem_of_getElem? (i := 17) rfl) rfl), (inT_4 (List.mem_of_getElem? (i := 37) rfl) rfl), by decide, by decide, by decide +kernel⟩, (inT_4 (List.mem_of_getElem? (i := 36) rfl) rfl)⟩
theorem cb_J2_224 : CB RJ2 224 yJ9_max_7cf53 cJ9_max_7cf53 2 (some .int) 2 ∧ Cond.static yJ9_max_7cf53 ∈ TT := ⟨⟨(inT_4 (List.mem_of_getElem? (i := 38) rfl) rfl), (inT_1 (List.mem_of_getElem? (i := 10) rfl) rfl), (inT_2 (List.mem_of_getElem? (i := 74) rfl) rfl), by decide, by decide, by decide +kernel⟩, (inT_2 (List.mem_of_getElem? (i := 73) rfl) rfl)⟩
theorem cb_J2_183 : CB RJ2 183 yJ9_min_7cf53 cJ9_min_7cf53 2 (some .int) 2 ∧ Cond.static yJ9_min_7cf53 ∈ TT := ⟨⟨(inT_4 (List.mem_of_getElem? (i := 39) rfl) rfl), (inT_1 (List.mem_of_getElem? (i := 10) rfl) rfl), (inT_2 (List.mem_of_getElem? (i := 95) rfl) rfl), by decide, by decide, by decide +kernel⟩, (inT_2 (List.mem_of_getElem? (i := 94) rfl) rfl)⟩
theorem ko_J2_227 : Cond.constant RJ2 227 65536 ∈ TT := (inT_4 (List.mem_of_getElem? (i := 40) rfl) rfl)
theorem cb_J2_228 : CB RJ2 228 yJ2_indexOfChar_4cfef cJ2_indexOfChar_4cfef 4 (some .int) 4 ∧ Cond.static yJ2_indexOfChar_4cfef ∈ TT := ⟨⟨(inT_4 (List.mem_of_getElem? (i := 41) rfl) rfl), (inT_1 (List.mem_of_getElem? (i := 17) rfl) rfl), (inT_4 (List.mem_of_getElem? (i := 43) rfl) rfl), by decide, by decide, by decide +kernel⟩, (inT_4 (List.mem_of_getElem? (i := 42) rfl) rfl)⟩
theorem cb_J2_96 : CB RJ2 96 yJ2_checkBoundsBeginEnd_d044e cJ2_checkBoundsBeginEnd_d044e 3 none 3 ∧ Cond.static yJ2_checkBoundsBeginEnd_d044e ∈ TT := ⟨⟨(inT_4 (List.mem_of_getElem? (i := 44) rfl) rfl), (inT_1 (List.mem_of_getElem? (i := 17) rfl) rfl), (inT_4 (List.mem_of_getElem? (i := 46) rfl) rfl), by decide, by decide, by decide +kernel⟩, (inT_4 (List.mem_of_getElem? (i := 45) rfl) rfl)⟩
theorem cb_J2_241 : CB RJ2 241 yJ0_checkBoundsBeginEnd_23922 cJ0_checkBoundsBeginEnd_23922 3 none 3 ∧ Cond.static yJ0_checkBoundsBeginEnd_23922 ∈ TT := ⟨⟨(inT_4 (List.mem_of_getElem? (i := 47) rfl) rfl), (inT_1 (List.mem_of_getElem? (i := 14) rfl) rfl), (inT_4 (List.mem_of_getElem? (i := 49) rfl) rfl), by decide, by decide, by decide +kernel⟩, (inT_4 (List.mem_of_getElem? (i := 48) rfl) rfl)⟩
theorem cb_J0_1062 : CB RJ0 1062 yJ3_checkFromToIndex_8c36e cJ3_checkFromToIndex_8c36e 4 (some .int) 4 ∧ Cond.static yJ3_checkFromToIndex_8c36e ∈ TT := ⟨⟨(inT_4 (List.mem_of_getElem? (i := 50) rfl) rfl), (inT_1 (List.mem_of_getElem? (i := 16) rfl) rfl), (inT_4 (List.mem_of_getElem? (i := 52) rfl) rfl), by decide, by decide, by decide +kernel⟩, (inT_4 (List.mem_of_getElem? (i := 51) rfl) rfl)⟩
theorem cb_J2_244 : CB RJ2 244 yJ2_indexOfCharUnsafe_4cfef cJ2_indexOfCharUnsafe_4cfef 5 (some .int) 4 ∧ Cond.static yJ2_indexOfCharUnsafe_4cfef ∈ TT := ⟨⟨(inT_4 (List.mem_of_getElem? (i := 53) rfl) rfl), (inT_1 (List.mem_of_getElem? (i := 17) rfl) rfl), (inT_4 (List.mem_of_getElem? (i := 55) rfl) rfl), by decide, by decide, by decide +kernel⟩, (inT_4 (List.mem_of_getElem? (i := 54) rfl) rfl)⟩
theorem cb_J2_232 : CB RJ2 232 yJ2_indexOfSupplementary_4cfef cJ2_indexOfSupplementary_4cfef 7 (some .int) 4 ∧ Cond.static yJ2_indexOfSupplementary_4cfef ∈ TT := ⟨⟨(inT_4 (List.mem_of_getElem? (i := 56) rfl) rfl), (inT_1 (List.mem_of_getElem? (i := 17) rfl) rfl), (inT_4 (List.mem_of_getElem? (i := 58) rfl) rfl), by decide, by decide, by decide +kernel⟩, (inT_4 (List.mem_of_getElem? (i := 57) rfl) rfl)⟩
theorem cb_J2_164 : CB RJ2 164 yJ11_isValidCodePoint_9a6ad cJ11_isValidCodePoint_9a6ad 2 (some .boolean) 1 ∧ Cond.static yJ11_isValidCodePoint_9a6ad ∈ TT := ⟨⟨(inT_4 (List.mem_of_getElem? (i := 59) rfl) rfl), (inT_1 (List.mem_of_getElem? (i := 18) rfl) rfl), (inT_4 (List.mem_of_getElem? (i := 61) rfl) rfl), by decide, by decide, by decide +kernel⟩, (inT_4 (List.mem_of_getElem? (i := 60) rfl) rfl)⟩
theorem cb_J2_157 : CB RJ2 157 yJ11_highSurrogate_5068e cJ11_highSurrogate_5068e 1 (some .char) 1 ∧ Cond.static yJ11_highSurrogate_5068e ∈ TT := ⟨⟨(inT_4 (List.mem_of_getElem? (i := 62) rfl) rfl), (inT_1 (List.mem_of_getElem? (i := 18) rfl) rfl), (inT_4 (List.mem_of_getElem? (i := 64) rfl) rfl), by decide, by decide, by decide +kernel⟩, (inT_4 (List.mem_of_getElem? (i := 63) rfl) rfl)⟩
theorem ko_J11_110 : Cond.constant RJ11 110 55232 ∈ TT := (inT_4 (List.mem_of_getElem? (i := 65) rfl) rfl)
theorem cb_J2_161 : CB RJ2 161 yJ11_lowSurrogate_5068e cJ11_lowSurrogate_5068e 1 (some .char) 1 ∧ Cond.static yJ11_lowSurrogate_5068e ∈ TT := ⟨⟨(inT_4 (List.mem_of_getElem? (i := 66) rfl) rfl), (inT_1 (List.mem_of_getElem? (i := 18) rfl) rfl), (inT_4 (List.mem_of_getElem? (i := 68) rfl) rfl), by decide, by decide, by decide +kernel⟩, (inT_4 (List.mem_of_getElem? (i := 67) rfl) rfl)⟩
theorem ko_J11_76 : Cond.constant RJ11 76 56320 ∈ TT := (inT_4 (List.mem_of_getElem? (i := 69) rfl) rfl)
theorem cb_X2_113 : CB RX2 113 yX2_isMark cX2_isMark 2 (some .boolean) 1 ∧ Cond.instanceMethod yX2_isMark ∈ TT ∧ Cond.selects (cq 1).1 yX2_isMark yX2_isMark ∈ TT ∧ 1 < 10 := ⟨⟨(inT_4 (List.mem_of_getElem? (i := 70) rfl) rfl), (inT_1 (List.mem_of_getElem? (i := 6) rfl) rfl), (inT_4 (List.mem_of_getElem? (i := 73) rfl) rfl), by decide, by decide, by decide +kernel⟩, (inT_4 (List.mem_of_getElem? (i := 72) rfl) rfl), (inS_2 (List.mem_of_getElem? (i := 4) rfl)), by decide⟩
theorem cb_X2_117 : CB RX2 117 yX2_close cX2_close 1 none 0 ∧ Cond.instanceMethod yX2_close ∈ TT ∧ Cond.selects (cq 1).1 yX2_close yX2_close ∈ TT ∧ 1 < 10 := ⟨⟨(inT_4 (List.mem_of_getElem? (i := 74) rfl) rfl), (inT_1 (List.mem_of_getElem? (i := 6) rfl) rfl), (inT_4 (List.mem_of_getElem? (i := 77) rfl) rfl), by decide, by decide, by decide +kernel⟩, (inT_4 (List.mem_of_getElem? (i := 76) rfl) rfl), (inS_2 (List.mem_of_getElem? (i := 5) rfl)), by decide⟩
theorem cb_X2_97 : CB RX2 97 yX2_levelOfNext cX2_levelOfNext 1 (some .int) 0 ∧ Cond.instanceMethod yX2_levelOfNext ∈ TT ∧ Cond.selects (cq 1).1 yX2_levelOfNext yX2_levelOfNext ∈ TT ∧ 1 < 10 := ⟨⟨(inT_4 (List.mem_of_getElem? (i := 78) rfl) rfl), (inT_1 (List.mem_of_getElem? (i := 6) rfl) rfl), (inT_4 (List.mem_of_getElem? (i := 81) rfl) rfl), by decide, by decide, by decide +kernel⟩, (inT_4 (List.mem_of_getElem? (i := 80) rfl) rfl), (inS_2 (List.mem_of_getElem? (i := 6) rfl)), by decide⟩
theorem cb_X2_54 : CB RX2 54 yJ7_copyOf_59c91 cJ7_copyOf_59c91 3 (some (.array .int)) 2 ∧ Cond.static yJ7_copyOf_59c91 ∈ TT := ⟨⟨(inT_4 (List.mem_of_getElem? (i := 84) rfl) rfl), (inT_1 (List.mem_of_getElem? (i := 19) rfl) rfl), (inT_4 (List.mem_of_getElem? (i := 86) rfl) rfl), by decide, by decide, by decide +kernel⟩, (inT_4 (List.mem_of_getElem? (i := 85) rfl) rfl)⟩
theorem cb_J7_304 : CB RJ7 304 yJ9_min_7cf53 cJ9_min_7cf53 2 (some .int) 2 ∧ Cond.static yJ9_min_7cf53 ∈ TT := ⟨⟨(inT_4 (List.mem_of_getElem? (i := 94) rfl) rfl), (inT_1 (List.mem_of_getElem? (i := 10) rfl) rfl), (inT_2 (List.mem_of_getElem? (i := 95) rfl) rfl), by decide, by decide, by decide +kernel⟩, (inT_2 (List.mem_of_getElem? (i := 94) rfl) rfl)⟩
theorem cb_X2_60 : CB RX2 60 yX7_init cX7_init 4 none 3 ∧ yX7_init.name = "<init>" ∧ Cond.instanceMethod yX7_init ∈ TT := ⟨⟨(inT_4 (List.mem_of_getElem? (i := 98) rfl) rfl), (inT_1 (List.mem_of_getElem? (i := 11) rfl) rfl), (inT_4 (List.mem_of_getElem? (i := 100) rfl) rfl), by decide, by decide, by decide +kernel⟩, rfl, (inT_4 (List.mem_of_getElem? (i := 99) rfl) rfl)⟩
theorem cb_X7_22 : CB RX7 22 yJ9_max_7cf53 cJ9_max_7cf53 2 (some .int) 2 ∧ Cond.static yJ9_max_7cf53 ∈ TT := ⟨⟨(inT_4 (List.mem_of_getElem? (i := 102) rfl) rfl), (inT_1 (List.mem_of_getElem? (i := 10) rfl) rfl), (inT_2 (List.mem_of_getElem? (i := 74) rfl) rfl), by decide, by decide, by decide +kernel⟩, (inT_2 (List.mem_of_getElem? (i := 73) rfl) rfl)⟩
theorem fl_X7_9 : FL RX7 9 6 0 := ⟨by decide, by decide, (inT_4 (List.mem_of_getElem? (i := 103) rfl) rfl)⟩
theorem fl_X3_67 : FL RX3 67 6 0 := ⟨by decide, by decide, (inT_4 (List.mem_of_getElem? (i := 104) rfl) rfl)⟩
theorem fl_X9_268 : FL RX9 268 6 0 := ⟨by decide, by decide, (inT_4 (List.mem_of_getElem? (i := 105) rfl) rfl)⟩
theorem fl_X7_15 : FL RX7 15 6 1 := ⟨by decide, by decide, (inT_4 (List.mem_of_getElem? (i := 106) rfl) rfl)⟩
theorem fl_X9_273 : FL RX9 273 6 1 := ⟨by decide, by decide, (inT_4 (List.mem_of_getElem? (i := 107) rfl) rfl)⟩
theorem fl_X7_18 : FL RX7 18 6 2 := ⟨by decide, by decide, (inT_4 (List.mem_of_getElem? (i := 108) rfl) rfl)⟩
theorem fl_X7_28 : FL RX7 28 6 3 := ⟨by decide, by decide, (inT_4 (List.mem_of_getElem? (i := 109) rfl) rfl)⟩
theorem cb_X9_257 : CB RX9 257 yX3_addText cX3_addText 3 (some .int) 1 ∧ Cond.instanceMethod yX3_addText ∈ TT ∧ Cond.selects (cq 2).1 yX3_addText yX3_addText ∈ TT ∧ 2 < 10 := ⟨⟨(inT_4 (List.mem_of_getElem? (i := 119) rfl) rfl), (inT_1 (List.mem_of_getElem? (i := 2) rfl) rfl), (inT_4 (List.mem_of_getElem? (i := 122) rfl) rfl), by decide, by decide, by decide +kernel⟩, (inT_4 (List.mem_of_getElem? (i := 120) rfl) rfl), (inT_4 (List.mem_of_getElem? (i := 121) rfl) rfl), by decide⟩
theorem cb_L_122 : CB RL 122 yX9_textTold cX9_textTold 4 (some .int) 2 ∧ Cond.instanceMethod yX9_textTold ∈ TT ∧ Cond.selects (cq 8).1 yX9_textTold yX9_textTold ∈ TT ∧ 8 < 10 := ⟨⟨(inT_4 (List.mem_of_getElem? (i := 123) rfl) rfl), (inT_1 (List.mem_of_getElem? (i := 1) rfl) rfl), (inT_4 (List.mem_of_getElem? (i := 126) rfl) rfl), by decide, by decide, by decide +kernel⟩, (inT_4 (List.mem_of_getElem? (i := 124) rfl) rfl), (inT_4 (List.mem_of_getElem? (i := 125) rfl) rfl), by decide⟩
theorem cb_L_126 : CB RL 126 yX9_why cX9_why 2 (some .int) 1 ∧ Cond.instanceMethod yX9_why ∈ TT ∧ Cond.selects (cq 8).1 yX9_why yX9_why ∈ TT ∧ 8 < 10 := ⟨⟨(inT_4 (List.mem_of_getElem? (i := 127) rfl) rfl), (inT_1 (List.mem_of_getElem? (i := 1) rfl) rfl), (inT_4 (List.mem_of_getElem? (i := 130) rfl) rfl), by decide, by decide, by decide +kernel⟩, (inT_4 (List.mem_of_getElem? (i := 128) rfl) rfl), (inT_4 (List.mem_of_getElem? (i := 129) rfl) rfl), by decide⟩
theorem cb_L_130 : CB RL 130 yX9_sheet cX9_sheet 5 (some .int) 3 ∧ Cond.instanceMethod yX9_sheet ∈ TT ∧ Cond.selects (cq 8).1 yX9_sheet yX9_sheet ∈ TT ∧ 8 < 10 := ⟨⟨(inT_4 (List.mem_of_getElem? (i := 131) rfl) rfl), (inT_1 (List.mem_of_getElem? (i := 1) rfl) rfl), (inT_4 (List.mem_of_getElem? (i := 134) rfl) rfl), by decide, by decide, by decide +kernel⟩, (inT_4 (List.mem_of_getElem? (i := 132) rfl) rfl), (inT_4 (List.mem_of_getElem? (i := 133) rfl) rfl), by decide⟩
theorem cb_X9_279 : CB RX9 279 yX9_isSheet cX9_isSheet 1 (some .boolean) 1 ∧ Cond.static yX9_isSheet ∈ TT := ⟨⟨(inT_4 (List.mem_of_getElem? (i := 135) rfl) rfl), (inT_1 (List.mem_of_getElem? (i := 1) rfl) rfl), (inT_4 (List.mem_of_getElem? (i := 137) rfl) rfl), by decide, by decide, by decide +kernel⟩, (inT_4 (List.mem_of_getElem? (i := 136) rfl) rfl)⟩
theorem ko_X9_282 : Cond.constant RX9 282 (-1000000014) ∈ TT := (inT_4 (List.mem_of_getElem? (i := 138) rfl) rfl)
theorem cb_X9_283 : CB RX9 283 yX4_become cX4_become 3 none 2 ∧ Cond.instanceMethod yX4_become ∈ TT ∧ Cond.selects (cq 3).1 yX4_become yX4_become ∈ TT ∧ 3 < 10 := ⟨⟨(inT_4 (List.mem_of_getElem? (i := 139) rfl) rfl), (inT_1 (List.mem_of_getElem? (i := 7) rfl) rfl), (inT_4 (List.mem_of_getElem? (i := 142) rfl) rfl), by decide, by decide, by decide +kernel⟩, (inT_4 (List.mem_of_getElem? (i := 140) rfl) rfl), (inT_4 (List.mem_of_getElem? (i := 141) rfl) rfl), by decide⟩
theorem cb_X4_22 : CB RX4 22 yJ7_fill_53178 cJ7_fill_53178 4 none 2 ∧ Cond.static yJ7_fill_53178 ∈ TT := ⟨⟨(inT_4 (List.mem_of_getElem? (i := 143) rfl) rfl), (inT_1 (List.mem_of_getElem? (i := 19) rfl) rfl), (inT_4 (List.mem_of_getElem? (i := 145) rfl) rfl), by decide, by decide, by decide +kernel⟩, (inT_4 (List.mem_of_getElem? (i := 144) rfl) rfl)⟩
theorem cb_L_134 : CB RL 134 yX9_mark cX9_mark 5 (some .int) 3 ∧ Cond.instanceMethod yX9_mark ∈ TT ∧ Cond.selects (cq 8).1 yX9_mark yX9_mark ∈ TT ∧ 8 < 10 := ⟨⟨(inT_4 (List.mem_of_getElem? (i := 146) rfl) rfl), (inT_1 (List.mem_of_getElem? (i := 1) rfl) rfl), (inT_4 (List.mem_of_getElem? (i := 149) rfl) rfl), by decide, by decide, by decide +kernel⟩, (inT_4 (List.mem_of_getElem? (i := 147) rfl) rfl), (inT_4 (List.mem_of_getElem? (i := 148) rfl) rfl), by decide⟩
theorem cb_X9_287 : CB RX9 287 yX4_isMissing cX4_isMissing 1 (some .boolean) 0 ∧ Cond.instanceMethod yX4_isMissing ∈ TT ∧ Cond.selects (cq 3).1 yX4_isMissing yX4_isMissing ∈ TT ∧ 3 < 10 := ⟨⟨(inT_4 (List.mem_of_getElem? (i := 150) rfl) rfl), (inT_1 (List.mem_of_getElem? (i := 7) rfl) rfl), (inT_4 (List.mem_of_getElem? (i := 153) rfl) rfl), by decide, by decide, by decide +kernel⟩, (inT_4 (List.mem_of_getElem? (i := 151) rfl) rfl), (inT_4 (List.mem_of_getElem? (i := 152) rfl) rfl), by decide⟩
theorem ko_X9_291 : Cond.constant RX9 291 (-1000000011) ∈ TT := (inT_4 (List.mem_of_getElem? (i := 154) rfl) rfl)
theorem cb_X9_292 : CB RX9 292 yX4_has cX4_has 2 (some .boolean) 1 ∧ Cond.instanceMethod yX4_has ∈ TT ∧ Cond.selects (cq 3).1 yX4_has yX4_has ∈ TT ∧ 3 < 10 := ⟨⟨(inT_4 (List.mem_of_getElem? (i := 155) rfl) rfl), (inT_1 (List.mem_of_getElem? (i := 7) rfl) rfl), (inT_4 (List.mem_of_getElem? (i := 158) rfl) rfl), by decide, by decide, by decide +kernel⟩, (inT_4 (List.mem_of_getElem? (i := 156) rfl) rfl), (inT_4 (List.mem_of_getElem? (i := 157) rfl) rfl), by decide⟩
theorem ko_X9_295 : Cond.constant RX9 295 (-1000000013) ∈ TT := (inT_4 (List.mem_of_getElem? (i := 160) rfl) rfl)
theorem ko_X9_302 : Cond.constant RX9 302 (-99999) ∈ TT := (inT_4 (List.mem_of_getElem? (i := 161) rfl) rfl)
theorem ko_X9_303 : Cond.constant RX9 303 99999 ∈ TT := (inT_4 (List.mem_of_getElem? (i := 162) rfl) rfl)
theorem cb_L_138 : CB RL 138 yX9_pour cX9_pour 6 (some .int) 2 ∧ Cond.instanceMethod yX9_pour ∈ TT ∧ Cond.selects (cq 8).1 yX9_pour yX9_pour ∈ TT ∧ 8 < 10 := ⟨⟨(inT_4 (List.mem_of_getElem? (i := 163) rfl) rfl), (inT_1 (List.mem_of_getElem? (i := 1) rfl) rfl), (inT_4 (List.mem_of_getElem? (i := 166) rfl) rfl), by decide, by decide, by decide +kernel⟩, (inT_4 (List.mem_of_getElem? (i := 164) rfl) rfl), (inT_4 (List.mem_of_getElem? (i := 165) rfl) rfl), by decide⟩
theorem cb_X9_304 : CB RX9 304 yX9_momentsOn cX9_momentsOn 2 (some .int) 1 ∧ Cond.static yX9_momentsOn ∈ TT := ⟨⟨(inT_4 (List.mem_of_getElem? (i := 167) rfl) rfl), (inT_1 (List.mem_of_getElem? (i := 1) rfl) rfl), (inT_4 (List.mem_of_getElem? (i := 169) rfl) rfl), by decide, by decide, by decide +kernel⟩, (inT_4 (List.mem_of_getElem? (i := 168) rfl) rfl)⟩
theorem cb_L_142 : CB RL 142 yX9_reads cX9_reads 5 (some .int) 1 ∧ Cond.instanceMethod yX9_reads ∈ TT ∧ Cond.selects (cq 8).1 yX9_reads yX9_reads ∈ TT ∧ 8 < 10 := ⟨⟨(inT_4 (List.mem_of_getElem? (i := 170) rfl) rfl), (inT_1 (List.mem_of_getElem? (i := 1) rfl) rfl), (inT_4 (List.mem_of_getElem? (i := 173) rfl) rfl), by decide, by decide, by decide +kernel⟩, (inT_4 (List.mem_of_getElem? (i := 171) rfl) rfl), (inT_4 (List.mem_of_getElem? (i := 172) rfl) rfl), by decide⟩
theorem cb_X9_309 : CB RX9 309 yX8_meanOrZero cX8_meanOrZero 2 (some .int) 1 ∧ Cond.instanceMethod yX8_meanOrZero ∈ TT ∧ Cond.selects (cq 7).1 yX8_meanOrZero yX8_meanOrZero ∈ TT ∧ 7 < 10 := ⟨⟨(inT_4 (List.mem_of_getElem? (i := 174) rfl) rfl), (inT_1 (List.mem_of_getElem? (i := 3) rfl) rfl), (inT_2 (List.mem_of_getElem? (i := 61) rfl) rfl), by decide, by decide, by decide +kernel⟩, (inT_2 (List.mem_of_getElem? (i := 59) rfl) rfl), (inT_2 (List.mem_of_getElem? (i := 60) rfl) rfl), by decide⟩
theorem cb_L_146 : CB RL 146 yX9_copy cX9_copy 8 (some .int) 5 ∧ Cond.instanceMethod yX9_copy ∈ TT ∧ Cond.selects (cq 8).1 yX9_copy yX9_copy ∈ TT ∧ 8 < 10 := ⟨⟨(inT_4 (List.mem_of_getElem? (i := 175) rfl) rfl), (inT_1 (List.mem_of_getElem? (i := 1) rfl) rfl), (inT_4 (List.mem_of_getElem? (i := 178) rfl) rfl), by decide, by decide, by decide +kernel⟩, (inT_4 (List.mem_of_getElem? (i := 176) rfl) rfl), (inT_4 (List.mem_of_getElem? (i := 177) rfl) rfl), by decide⟩
theorem cb_X9_312 : CB RX9 312 yX4_hasRun cX4_hasRun 3 (some .boolean) 2 ∧ Cond.instanceMethod yX4_hasRun ∈ TT ∧ Cond.selects (cq 3).1 yX4_hasRun yX4_hasRun ∈ TT ∧ 3 < 10 := ⟨⟨(inT_4 (List.mem_of_getElem? (i := 179) rfl) rfl), (inT_1 (List.mem_of_getElem? (i := 7) rfl) rfl), (inT_4 (List.mem_of_getElem? (i := 182) rfl) rfl), by decide, by decide, by decide +kernel⟩, (inT_4 (List.mem_of_getElem? (i := 180) rfl) rfl), (inT_4 (List.mem_of_getElem? (i := 181) rfl) rfl), by decide⟩
theorem cb_L_151 : CB RL 151 yX9_lay cX9_lay 6 (some .int) 3 ∧ Cond.instanceMethod yX9_lay ∈ TT ∧ Cond.selects (cq 8).1 yX9_lay yX9_lay ∈ TT ∧ 8 < 10 := ⟨⟨(inT_4 (List.mem_of_getElem? (i := 184) rfl) rfl), (inT_1 (List.mem_of_getElem? (i := 1) rfl) rfl), (inT_4 (List.mem_of_getElem? (i := 187) rfl) rfl), by decide, by decide, by decide +kernel⟩, (inT_4 (List.mem_of_getElem? (i := 185) rfl) rfl), (inT_4 (List.mem_of_getElem? (i := 186) rfl) rfl), by decide⟩
theorem cb_X9_321 : CB RX9 321 yX9_isSlot cX9_isSlot 1 (some .boolean) 1 ∧ Cond.static yX9_isSlot ∈ TT := ⟨⟨(inT_4 (List.mem_of_getElem? (i := 188) rfl) rfl), (inT_1 (List.mem_of_getElem? (i := 1) rfl) rfl), (inT_4 (List.mem_of_getElem? (i := 190) rfl) rfl), by decide, by decide, by decide +kernel⟩, (inT_4 (List.mem_of_getElem? (i := 189) rfl) rfl)⟩
theorem cb_X9_332 : CB RX9 332 yX5_takeSheet cX5_takeSheet 2 none 1 ∧ Cond.instanceMethod yX5_takeSheet ∈ TT ∧ Cond.selects (cq 4).1 yX5_takeSheet yX5_takeSheet ∈ TT ∧ 4 < 10 := ⟨⟨(inT_4 (List.mem_of_getElem? (i := 191) rfl) rfl), (inT_1 (List.mem_of_getElem? (i := 8) rfl) rfl), (inT_4 (List.mem_of_getElem? (i := 194) rfl) rfl), by decide, by decide, by decide +kernel⟩, (inT_4 (List.mem_of_getElem? (i := 192) rfl) rfl), (inT_4 (List.mem_of_getElem? (i := 193) rfl) rfl), by decide⟩
theorem cb_X5_31 : CB RX5 31 yX4_becomeLike cX4_becomeLike 2 none 1 ∧ Cond.instanceMethod yX4_becomeLike ∈ TT ∧ Cond.selects (cq 3).1 yX4_becomeLike yX4_becomeLike ∈ TT ∧ 3 < 10 := ⟨⟨(inT_4 (List.mem_of_getElem? (i := 197) rfl) rfl), (inT_1 (List.mem_of_getElem? (i := 7) rfl) rfl), (inT_4 (List.mem_of_getElem? (i := 200) rfl) rfl), by decide, by decide, by decide +kernel⟩, (inT_4 (List.mem_of_getElem? (i := 198) rfl) rfl), (inT_4 (List.mem_of_getElem? (i := 199) rfl) rfl), by decide⟩
theorem cb_L_155 : CB RL 155 yX9_ask cX9_ask 4 (some .int) 2 ∧ Cond.instanceMethod yX9_ask ∈ TT ∧ Cond.selects (cq 8).1 yX9_ask yX9_ask ∈ TT ∧ 8 < 10 := ⟨⟨(inT_4 (List.mem_of_getElem? (i := 202) rfl) rfl), (inT_1 (List.mem_of_getElem? (i := 1) rfl) rfl), (inT_4 (List.mem_of_getElem? (i := 205) rfl) rfl), by decide, by decide, by decide +kernel⟩, (inT_4 (List.mem_of_getElem? (i := 203) rfl) rfl), (inT_4 (List.mem_of_getElem? (i := 204) rfl) rfl), by decide⟩
theorem cb_L_159 : CB RL 159 yX9_item cX9_item 5 (some .int) 2 ∧ Cond.instanceMethod yX9_item ∈ TT ∧ Cond.selects (cq 8).1 yX9_item yX9_item ∈ TT ∧ 8 < 10 := ⟨⟨(inT_4 (List.mem_of_getElem? (i := 206) rfl) rfl), (inT_1 (List.mem_of_getElem? (i := 1) rfl) rfl), (inT_4 (List.mem_of_getElem? (i := 209) rfl) rfl), by decide, by decide, by decide +kernel⟩, (inT_4 (List.mem_of_getElem? (i := 207) rfl) rfl), (inT_4 (List.mem_of_getElem? (i := 208) rfl) rfl), by decide⟩
theorem cb_L_163 : CB RL 163 yX9_rest cX9_rest 4 (some .int) 2 ∧ Cond.instanceMethod yX9_rest ∈ TT ∧ Cond.selects (cq 8).1 yX9_rest yX9_rest ∈ TT ∧ 8 < 10 := ⟨⟨(inT_4 (List.mem_of_getElem? (i := 210) rfl) rfl), (inT_1 (List.mem_of_getElem? (i := 1) rfl) rfl), (inT_4 (List.mem_of_getElem? (i := 213) rfl) rfl), by decide, by decide, by decide +kernel⟩, (inT_4 (List.mem_of_getElem? (i := 211) rfl) rfl), (inT_4 (List.mem_of_getElem? (i := 212) rfl) rfl), by decide⟩
theorem cb_L_167 : CB RL 167 yX9_tell cX9_tell 2 (some .int) 1 ∧ Cond.instanceMethod yX9_tell ∈ TT ∧ Cond.selects (cq 8).1 yX9_tell yX9_tell ∈ TT ∧ 8 < 10 := ⟨⟨(inT_4 (List.mem_of_getElem? (i := 214) rfl) rfl), (inT_1 (List.mem_of_getElem? (i := 1) rfl) rfl), (inT_4 (List.mem_of_getElem? (i := 217) rfl) rfl), by decide, by decide, by decide +kernel⟩, (inT_4 (List.mem_of_getElem? (i := 215) rfl) rfl), (inT_4 (List.mem_of_getElem? (i := 216) rfl) rfl), by decide⟩
theorem cb_L_171 : CB RL 171 yX9_check cX9_check 7 (some .int) 2 ∧ Cond.instanceMethod yX9_check ∈ TT ∧ Cond.selects (cq 8).1 yX9_check yX9_check ∈ TT ∧ 8 < 10 := ⟨⟨(inT_4 (List.mem_of_getElem? (i := 218) rfl) rfl), (inT_1 (List.mem_of_getElem? (i := 1) rfl) rfl), (inT_4 (List.mem_of_getElem? (i := 221) rfl) rfl), by decide, by decide, by decide +kernel⟩, (inT_4 (List.mem_of_getElem? (i := 219) rfl) rfl), (inT_4 (List.mem_of_getElem? (i := 220) rfl) rfl), by decide⟩
theorem cb_X9_343 : CB RX9 343 yX3_become cX3_become 3 none 1 ∧ Cond.instanceMethod yX3_become ∈ TT ∧ Cond.selects (cq 2).1 yX3_become yX3_become ∈ TT ∧ 2 < 10 := ⟨⟨(inT_4 (List.mem_of_getElem? (i := 222) rfl) rfl), (inT_1 (List.mem_of_getElem? (i := 2) rfl) rfl), (inT_4 (List.mem_of_getElem? (i := 225) rfl) rfl), by decide, by decide, by decide +kernel⟩, (inT_4 (List.mem_of_getElem? (i := 223) rfl) rfl), (inT_4 (List.mem_of_getElem? (i := 224) rfl) rfl), by decide⟩
theorem cb_X3_62 : CB RX3 62 yX8_become cX8_become 2 none 1 ∧ Cond.instanceMethod yX8_become ∈ TT ∧ Cond.selects (cq 7).1 yX8_become yX8_become ∈ TT ∧ 7 < 10 := ⟨⟨(inT_4 (List.mem_of_getElem? (i := 227) rfl) rfl), (inT_1 (List.mem_of_getElem? (i := 3) rfl) rfl), (inT_4 (List.mem_of_getElem? (i := 230) rfl) rfl), by decide, by decide, by decide +kernel⟩, (inT_4 (List.mem_of_getElem? (i := 228) rfl) rfl), (inT_4 (List.mem_of_getElem? (i := 229) rfl) rfl), by decide⟩
theorem cb_L_175 : CB RL 175 yX9_keep cX9_keep 1 (some .int) 0 ∧ Cond.instanceMethod yX9_keep ∈ TT ∧ Cond.selects (cq 8).1 yX9_keep yX9_keep ∈ TT ∧ 8 < 10 := ⟨⟨(inT_4 (List.mem_of_getElem? (i := 232) rfl) rfl), (inT_1 (List.mem_of_getElem? (i := 1) rfl) rfl), (inT_4 (List.mem_of_getElem? (i := 235) rfl) rfl), by decide, by decide, by decide +kernel⟩, (inT_4 (List.mem_of_getElem? (i := 233) rfl) rfl), (inT_4 (List.mem_of_getElem? (i := 234) rfl) rfl), by decide⟩
theorem cb_L_179 : CB RL 179 yX9_back cX9_back 1 (some .int) 0 ∧ Cond.instanceMethod yX9_back ∈ TT ∧ Cond.selects (cq 8).1 yX9_back yX9_back ∈ TT ∧ 8 < 10 := ⟨⟨(inT_4 (List.mem_of_getElem? (i := 236) rfl) rfl), (inT_1 (List.mem_of_getElem? (i := 1) rfl) rfl), (inT_4 (List.mem_of_getElem? (i := 239) rfl) rfl), by decide, by decide, by decide +kernel⟩, (inT_4 (List.mem_of_getElem? (i := 237) rfl) rfl), (inT_4 (List.mem_of_getElem? (i := 238) rfl) rfl), by decide⟩
theorem cb_L_183 : CB RL 183 yX9_count cX9_count 2 (some .int) 1 ∧ Cond.instanceMethod yX9_count ∈ TT ∧ Cond.selects (cq 8).1 yX9_count yX9_count ∈ TT ∧ 8 < 10 := ⟨⟨(inT_5 (List.mem_of_getElem? (i := 0) rfl) rfl), (inT_1 (List.mem_of_getElem? (i := 1) rfl) rfl), (inT_5 (List.mem_of_getElem? (i := 3) rfl) rfl), by decide, by decide, by decide +kernel⟩, (inT_5 (List.mem_of_getElem? (i := 1) rfl) rfl), (inT_5 (List.mem_of_getElem? (i := 2) rfl) rfl), by decide⟩
theorem cb_X9_346 : CB RX9 346 yX8_countTrue cX8_countTrue 3 (some .int) 0 ∧ Cond.instanceMethod yX8_countTrue ∈ TT ∧ Cond.selects (cq 7).1 yX8_countTrue yX8_countTrue ∈ TT ∧ 7 < 10 := ⟨⟨(inT_5 (List.mem_of_getElem? (i := 4) rfl) rfl), (inT_1 (List.mem_of_getElem? (i := 3) rfl) rfl), (inT_5 (List.mem_of_getElem? (i := 7) rfl) rfl), by decide, by decide, by decide +kernel⟩, (inT_5 (List.mem_of_getElem? (i := 5) rfl) rfl), (inT_5 (List.mem_of_getElem? (i := 6) rfl) rfl), by decide⟩
theorem cb_X8_48 : CB RX8 48 yX1_isTrue cX1_isTrue 1 (some .boolean) 1 ∧ Cond.static yX1_isTrue ∈ TT := ⟨⟨(inT_5 (List.mem_of_getElem? (i := 8) rfl) rfl), (inT_1 (List.mem_of_getElem? (i := 12) rfl) rfl), (inT_2 (List.mem_of_getElem? (i := 180) rfl) rfl), by decide, by decide, by decide +kernel⟩, (inT_2 (List.mem_of_getElem? (i := 179) rfl) rfl)⟩
theorem cb_L_12 : CB RL 12 yX10_init cX10_init 2 none 0 ∧ yX10_init.name = "<init>" ∧ Cond.instanceMethod yX10_init ∈ TT := ⟨⟨(inT_5 (List.mem_of_getElem? (i := 11) rfl) rfl), (inT_1 (List.mem_of_getElem? (i := 9) rfl) rfl), (inT_5 (List.mem_of_getElem? (i := 13) rfl) rfl), by decide, by decide, by decide +kernel⟩, rfl, (inT_5 (List.mem_of_getElem? (i := 12) rfl) rfl)⟩
theorem fl_X10_9 : FL RX10 9 9 0 := ⟨by decide, by decide, (inT_5 (List.mem_of_getElem? (i := 15) rfl) rfl)⟩
theorem fl_X10_13 : FL RX10 13 9 1 := ⟨by decide, by decide, (inT_5 (List.mem_of_getElem? (i := 16) rfl) rfl)⟩
theorem fl_X10_16 : FL RX10 16 9 2 := ⟨by decide, by decide, (inT_5 (List.mem_of_getElem? (i := 17) rfl) rfl)⟩
theorem fl_X10_363 : FL RX10 363 9 3 := ⟨by decide, by decide, (inT_5 (List.mem_of_getElem? (i := 18) rfl) rfl)⟩
theorem fl_X10_19 : FL RX10 19 9 4 := ⟨by decide, by decide, (inT_5 (List.mem_of_getElem? (i := 19) rfl) rfl)⟩
theorem fl_X10_233 : FL RX10 233 9 5 := ⟨by decide, by decide, (inT_5 (List.mem_of_getElem? (i := 20) rfl) rfl)⟩
theorem fl_X10_22 : FL RX10 22 9 6 := ⟨by decide, by decide, (inT_5 (List.mem_of_getElem? (i := 21) rfl) rfl)⟩
theorem fl_X10_360 : FL RX10 360 9 7 := ⟨by decide, by decide, (inT_5 (List.mem_of_getElem? (i := 22) rfl) rfl)⟩
theorem fl_X10_149 : FL RX10 149 9 8 := ⟨by decide, by decide, (inT_5 (List.mem_of_getElem? (i := 23) rfl) rfl)⟩
theorem fl_X10_153 : FL RX10 153 9 9 := ⟨by decide, by decide, (inT_5 (List.mem_of_getElem? (i := 24) rfl) rfl)⟩
theorem fl_X10_156 : FL RX10 156 9 10 := ⟨by decide, by decide, (inT_5 (List.mem_of_getElem? (i := 25) rfl) rfl)⟩
theorem fl_X10_159 : FL RX10 159 9 11 := ⟨by decide, by decide, (inT_5 (List.mem_of_getElem? (i := 26) rfl) rfl)⟩
theorem fl_X10_162 : FL RX10 162 9 12 := ⟨by decide, by decide, (inT_5 (List.mem_of_getElem? (i := 27) rfl) rfl)⟩
theorem fl_X10_165 : FL RX10 165 9 13 := ⟨by decide, by decide, (inT_5 (List.mem_of_getElem? (i := 28) rfl) rfl)⟩
theorem fl_X10_25 : FL RX10 25 9 14 := ⟨by decide, by decide, (inT_5 (List.mem_of_getElem? (i := 29) rfl) rfl)⟩
theorem fl_X10_28 : FL RX10 28 9 15 := ⟨by decide, by decide, (inT_5 (List.mem_of_getElem? (i := 30) rfl) rfl)⟩
theorem fl_X10_31 : FL RX10 31 9 16 := ⟨by decide, by decide, (inT_5 (List.mem_of_getElem? (i := 31) rfl) rfl)⟩
theorem fl_X10_223 : FL RX10 223 9 17 := ⟨by decide, by decide, (inT_5 (List.mem_of_getElem? (i := 32) rfl) rfl)⟩
theorem fl_X10_226 : FL RX10 226 9 18 := ⟨by decide, by decide, (inT_5 (List.mem_of_getElem? (i := 33) rfl) rfl)⟩
theorem fl_X10_35 : FL RX10 35 9 19 := ⟨by decide, by decide, (inT_5 (List.mem_of_getElem? (i := 34) rfl) rfl)⟩
theorem fl_X10_240 : FL RX10 240 9 20 := ⟨by decide, by decide, (inT_5 (List.mem_of_getElem? (i := 35) rfl) rfl)⟩
theorem fl_X10_246 : FL RX10 246 9 21 := ⟨by decide, by decide, (inT_5 (List.mem_of_getElem? (i := 36) rfl) rfl)⟩
theorem fl_X10_261 : FL RX10 261 9 22 := ⟨by decide, by decide, (inT_5 (List.mem_of_getElem? (i := 37) rfl) rfl)⟩
theorem fl_X10_249 : FL RX10 249 9 23 := ⟨by decide, by decide, (inT_5 (List.mem_of_getElem? (i := 38) rfl) rfl)⟩
theorem fl_X10_252 : FL RX10 252 9 24 := ⟨by decide, by decide, (inT_5 (List.mem_of_getElem? (i := 39) rfl) rfl)⟩
theorem fl_X10_236 : FL RX10 236 9 25 := ⟨by decide, by decide, (inT_5 (List.mem_of_getElem? (i := 40) rfl) rfl)⟩
theorem fl_X10_264 : FL RX10 264 9 26 := ⟨by decide, by decide, (inT_5 (List.mem_of_getElem? (i := 41) rfl) rfl)⟩
theorem fl_X10_267 : FL RX10 267 9 27 := ⟨by decide, by decide, (inT_5 (List.mem_of_getElem? (i := 42) rfl) rfl)⟩
theorem fl_X10_303 : FL RX10 303 9 28 := ⟨by decide, by decide, (inT_5 (List.mem_of_getElem? (i := 43) rfl) rfl)⟩
theorem fl_X10_288 : FL RX10 288 9 29 := ⟨by decide, by decide, (inT_5 (List.mem_of_getElem? (i := 44) rfl) rfl)⟩
theorem fl_X10_282 : FL RX10 282 9 30 := ⟨by decide, by decide, (inT_5 (List.mem_of_getElem? (i := 45) rfl) rfl)⟩
theorem fl_X10_270 : FL RX10 270 9 31 := ⟨by decide, by decide, (inT_5 (List.mem_of_getElem? (i := 46) rfl) rfl)⟩
theorem fl_X10_313 : FL RX10 313 9 32 := ⟨by decide, by decide, (inT_5 (List.mem_of_getElem? (i := 47) rfl) rfl)⟩
theorem fl_X10_38 : FL RX10 38 9 33 := ⟨by decide, by decide, (inT_5 (List.mem_of_getElem? (i := 48) rfl) rfl)⟩
theorem fl_X10_41 : FL RX10 41 9 34 := ⟨by decide, by decide, (inT_5 (List.mem_of_getElem? (i := 49) rfl) rfl)⟩
theorem fl_X10_44 : FL RX10 44 9 35 := ⟨by decide, by decide, (inT_5 (List.mem_of_getElem? (i := 50) rfl) rfl)⟩
theorem fl_X10_47 : FL RX10 47 9 36 := ⟨by decide, by decide, (inT_5 (List.mem_of_getElem? (i := 51) rfl) rfl)⟩
theorem fl_X10_50 : FL RX10 50 9 37 := ⟨by decide, by decide, (inT_5 (List.mem_of_getElem? (i := 52) rfl) rfl)⟩
theorem fl_X10_53 : FL RX10 53 9 38 := ⟨by decide, by decide, (inT_5 (List.mem_of_getElem? (i := 53) rfl) rfl)⟩
theorem fl_X10_56 : FL RX10 56 9 39 := ⟨by decide, by decide, (inT_5 (List.mem_of_getElem? (i := 54) rfl) rfl)⟩
theorem fl_X10_59 : FL RX10 59 9 40 := ⟨by decide, by decide, (inT_5 (List.mem_of_getElem? (i := 55) rfl) rfl)⟩
theorem fl_X10_62 : FL RX10 62 9 41 := ⟨by decide, by decide, (inT_5 (List.mem_of_getElem? (i := 56) rfl) rfl)⟩
theorem fl_X10_65 : FL RX10 65 9 42 := ⟨by decide, by decide, (inT_5 (List.mem_of_getElem? (i := 57) rfl) rfl)⟩
theorem cb_L_17 : CB RL 17 yX10_thing cX10_thing 3 (some .int) 1 ∧ Cond.instanceMethod yX10_thing ∈ TT ∧ Cond.selects (cq 9).1 yX10_thing yX10_thing ∈ TT ∧ 9 < 10 := ⟨⟨(inT_5 (List.mem_of_getElem? (i := 146) rfl) rfl), (inT_1 (List.mem_of_getElem? (i := 9) rfl) rfl), (inT_5 (List.mem_of_getElem? (i := 149) rfl) rfl), by decide, by decide, by decide +kernel⟩, (inT_5 (List.mem_of_getElem? (i := 147) rfl) rfl), (inT_5 (List.mem_of_getElem? (i := 148) rfl) rfl), by decide⟩
theorem cb_X10_68 : CB RX10 68 yX10_in cX10_in 3 (some .boolean) 3 ∧ Cond.static yX10_in ∈ TT := ⟨⟨(inT_5 (List.mem_of_getElem? (i := 150) rfl) rfl), (inT_1 (List.mem_of_getElem? (i := 9) rfl) rfl), (inT_5 (List.mem_of_getElem? (i := 152) rfl) rfl), by decide, by decide, by decide +kernel⟩, (inT_5 (List.mem_of_getElem? (i := 151) rfl) rfl)⟩
theorem ko_X10_72 : Cond.constant RX10 72 (-1000000001) ∈ TT := (inT_5 (List.mem_of_getElem? (i := 153) rfl) rfl)
theorem ko_X10_73 : Cond.constant RX10 73 (-1000000003) ∈ TT := (inT_5 (List.mem_of_getElem? (i := 154) rfl) rfl)
theorem cb_L_22 : CB RL 22 yX10_thingTold cX10_thingTold 3 (some .int) 2 ∧ Cond.instanceMethod yX10_thingTold ∈ TT ∧ Cond.selects (cq 9).1 yX10_thingTold yX10_thingTold ∈ TT ∧ 9 < 10 := ⟨⟨(inT_5 (List.mem_of_getElem? (i := 155) rfl) rfl), (inT_1 (List.mem_of_getElem? (i := 9) rfl) rfl), (inT_5 (List.mem_of_getElem? (i := 158) rfl) rfl), by decide, by decide, by decide +kernel⟩, (inT_5 (List.mem_of_getElem? (i := 156) rfl) rfl), (inT_5 (List.mem_of_getElem? (i := 157) rfl) rfl), by decide⟩
theorem cb_X10_78 : CB RX10 78 yX10_isThing cX10_isThing 2 (some .boolean) 1 ∧ Cond.instanceMethod yX10_isThing ∈ TT ∧ Cond.selects (cq 9).1 yX10_isThing yX10_isThing ∈ TT ∧ 9 < 10 := ⟨⟨(inT_5 (List.mem_of_getElem? (i := 159) rfl) rfl), (inT_1 (List.mem_of_getElem? (i := 9) rfl) rfl), (inT_5 (List.mem_of_getElem? (i := 162) rfl) rfl), by decide, by decide, by decide +kernel⟩, (inT_5 (List.mem_of_getElem? (i := 161) rfl) rfl), (inS_2 (List.mem_of_getElem? (i := 7) rfl)), by decide⟩
theorem cb_X10_82 : CB RX10 82 yX10_wordsOf cX10_wordsOf 5 (some .int) 2 ∧ Cond.instanceMethod yX10_wordsOf ∈ TT ∧ Cond.selects (cq 9).1 yX10_wordsOf yX10_wordsOf ∈ TT ∧ 9 < 10 := ⟨⟨(inT_5 (List.mem_of_getElem? (i := 163) rfl) rfl), (inT_1 (List.mem_of_getElem? (i := 9) rfl) rfl), (inT_5 (List.mem_of_getElem? (i := 166) rfl) rfl), by decide, by decide, by decide +kernel⟩, (inT_5 (List.mem_of_getElem? (i := 165) rfl) rfl), (inS_2 (List.mem_of_getElem? (i := 8) rfl)), by decide⟩
theorem cb_X10_74 : CB RX10 74 yX10_of cX10_of 3 (some .int) 2 ∧ Cond.instanceMethod yX10_of ∈ TT ∧ Cond.selects (cq 9).1 yX10_of yX10_of ∈ TT ∧ 9 < 10 := ⟨⟨(inT_5 (List.mem_of_getElem? (i := 167) rfl) rfl), (inT_1 (List.mem_of_getElem? (i := 9) rfl) rfl), (inT_5 (List.mem_of_getElem? (i := 170) rfl) rfl), by decide, by decide, by decide +kernel⟩, (inT_5 (List.mem_of_getElem? (i := 169) rfl) rfl), (inS_2 (List.mem_of_getElem? (i := 9) rfl)), by decide⟩
theorem cb_X10_85 : CB RX10 85 yX10_placeOf cX10_placeOf 2 (some .int) 1 ∧ Cond.instanceMethod yX10_placeOf ∈ TT ∧ Cond.selects (cq 9).1 yX10_placeOf yX10_placeOf ∈ TT ∧ 9 < 10 := ⟨⟨(inT_5 (List.mem_of_getElem? (i := 171) rfl) rfl), (inT_1 (List.mem_of_getElem? (i := 9) rfl) rfl), (inT_5 (List.mem_of_getElem? (i := 174) rfl) rfl), by decide, by decide, by decide +kernel⟩, (inT_5 (List.mem_of_getElem? (i := 173) rfl) rfl), (inS_2 (List.mem_of_getElem? (i := 10) rfl)), by decide⟩
theorem cb_X10_187 : CB RX10 187 yX10_shows cX10_shows 3 none 0 ∧ Cond.instanceMethod yX10_shows ∈ TT ∧ Cond.selects (cq 9).1 yX10_shows yX10_shows ∈ TT ∧ 9 < 10 := ⟨⟨(inT_5 (List.mem_of_getElem? (i := 175) rfl) rfl), (inT_1 (List.mem_of_getElem? (i := 9) rfl) rfl), (inT_5 (List.mem_of_getElem? (i := 178) rfl) rfl), by decide, by decide, by decide +kernel⟩, (inT_5 (List.mem_of_getElem? (i := 177) rfl) rfl), (inS_2 (List.mem_of_getElem? (i := 11) rfl)), by decide⟩
theorem cb_X10_110 : CB RX10 110 yX10_latest cX10_latest 4 (some .int) 1 ∧ Cond.instanceMethod yX10_latest ∈ TT ∧ Cond.selects (cq 9).1 yX10_latest yX10_latest ∈ TT ∧ 9 < 10 := ⟨⟨(inT_5 (List.mem_of_getElem? (i := 179) rfl) rfl), (inT_1 (List.mem_of_getElem? (i := 9) rfl) rfl), (inT_5 (List.mem_of_getElem? (i := 182) rfl) rfl), by decide, by decide, by decide +kernel⟩, (inT_5 (List.mem_of_getElem? (i := 181) rfl) rfl), (inS_2 (List.mem_of_getElem? (i := 12) rfl)), by decide⟩
theorem cb_X10_184 : CB RX10 184 yX10_showOf cX10_showOf 4 (some .int) 2 ∧ Cond.instanceMethod yX10_showOf ∈ TT ∧ Cond.selects (cq 9).1 yX10_showOf yX10_showOf ∈ TT ∧ 9 < 10 := ⟨⟨(inT_5 (List.mem_of_getElem? (i := 183) rfl) rfl), (inT_1 (List.mem_of_getElem? (i := 9) rfl) rfl), (inT_5 (List.mem_of_getElem? (i := 186) rfl) rfl), by decide, by decide, by decide +kernel⟩, (inT_5 (List.mem_of_getElem? (i := 185) rfl) rfl), (inS_2 (List.mem_of_getElem? (i := 13) rfl)), by decide⟩
theorem cb_X10_171 : CB RX10 171 yX10_meanOf cX10_meanOf 3 (some .int) 1 ∧ Cond.instanceMethod yX10_meanOf ∈ TT ∧ Cond.selects (cq 9).1 yX10_meanOf yX10_meanOf ∈ TT ∧ 9 < 10 := ⟨⟨(inT_5 (List.mem_of_getElem? (i := 187) rfl) rfl), (inT_1 (List.mem_of_getElem? (i := 9) rfl) rfl), (inT_5 (List.mem_of_getElem? (i := 190) rfl) rfl), by decide, by decide, by decide +kernel⟩, (inT_5 (List.mem_of_getElem? (i := 189) rfl) rfl), (inS_2 (List.mem_of_getElem? (i := 14) rfl)), by decide⟩
theorem ko_X10_92 : Cond.constant RX10 92 (-1000000005) ∈ TT := (inT_5 (List.mem_of_getElem? (i := 191) rfl) rfl)
theorem cb_X10_168 : CB RX10 168 yX10_starsOf cX10_starsOf 4 (some .int) 1 ∧ Cond.instanceMethod yX10_starsOf ∈ TT ∧ Cond.selects (cq 9).1 yX10_starsOf yX10_starsOf ∈ TT ∧ 9 < 10 := ⟨⟨(inT_5 (List.mem_of_getElem? (i := 192) rfl) rfl), (inT_1 (List.mem_of_getElem? (i := 9) rfl) rfl), (inT_5 (List.mem_of_getElem? (i := 195) rfl) rfl), by decide, by decide, by decide +kernel⟩, (inT_5 (List.mem_of_getElem? (i := 194) rfl) rfl), (inS_2 (List.mem_of_getElem? (i := 15) rfl)), by decide⟩
theorem cb_X10_174 : CB RX10 174 yX10_sums cX10_sums 5 none 1 ∧ Cond.instanceMethod yX10_sums ∈ TT ∧ Cond.selects (cq 9).1 yX10_sums yX10_sums ∈ TT ∧ 9 < 10 := ⟨⟨(inT_5 (List.mem_of_getElem? (i := 196) rfl) rfl), (inT_1 (List.mem_of_getElem? (i := 9) rfl) rfl), (inT_5 (List.mem_of_getElem? (i := 199) rfl) rfl), by decide, by decide, by decide +kernel⟩, (inT_5 (List.mem_of_getElem? (i := 198) rfl) rfl), (inS_3 (List.mem_of_getElem? (i := 0) rfl)), by decide⟩
theorem cb_X10_129 : CB RX10 129 yX10_weight cX10_weight 3 (some .int) 1 ∧ Cond.instanceMethod yX10_weight ∈ TT ∧ Cond.selects (cq 9).1 yX10_weight yX10_weight ∈ TT ∧ 9 < 10 := ⟨⟨(inT_5 (List.mem_of_getElem? (i := 200) rfl) rfl), (inT_1 (List.mem_of_getElem? (i := 9) rfl) rfl), (inT_5 (List.mem_of_getElem? (i := 203) rfl) rfl), by decide, by decide, by decide +kernel⟩, (inT_5 (List.mem_of_getElem? (i := 202) rfl) rfl), (inS_3 (List.mem_of_getElem? (i := 1) rfl)), by decide⟩
theorem cb_X10_123 : CB RX10 123 yX10_plainWeight cX10_plainWeight 3 (some .int) 1 ∧ Cond.instanceMethod yX10_plainWeight ∈ TT ∧ Cond.selects (cq 9).1 yX10_plainWeight yX10_plainWeight ∈ TT ∧ 9 < 10 := ⟨⟨(inT_5 (List.mem_of_getElem? (i := 204) rfl) rfl), (inT_1 (List.mem_of_getElem? (i := 9) rfl) rfl), (inT_5 (List.mem_of_getElem? (i := 207) rfl) rfl), by decide, by decide, by decide +kernel⟩, (inT_5 (List.mem_of_getElem? (i := 206) rfl) rfl), (inS_3 (List.mem_of_getElem? (i := 2) rfl)), by decide⟩
theorem cb_X10_113 : CB RX10 113 yX10_factsOf cX10_factsOf 2 none 1 ∧ Cond.instanceMethod yX10_factsOf ∈ TT ∧ Cond.selects (cq 9).1 yX10_factsOf yX10_factsOf ∈ TT ∧ 9 < 10 := ⟨⟨(inT_5 (List.mem_of_getElem? (i := 208) rfl) rfl), (inT_1 (List.mem_of_getElem? (i := 9) rfl) rfl), (inT_5 (List.mem_of_getElem? (i := 211) rfl) rfl), by decide, by decide, by decide +kernel⟩, (inT_5 (List.mem_of_getElem? (i := 210) rfl) rfl), (inS_3 (List.mem_of_getElem? (i := 3) rfl)), by decide⟩
theorem cb_X10_117 : CB RX10 117 yX10_worth cX10_worth 6 (some .int) 1 ∧ Cond.instanceMethod yX10_worth ∈ TT ∧ Cond.selects (cq 9).1 yX10_worth yX10_worth ∈ TT ∧ 9 < 10 := ⟨⟨(inT_5 (List.mem_of_getElem? (i := 212) rfl) rfl), (inT_1 (List.mem_of_getElem? (i := 9) rfl) rfl), (inT_5 (List.mem_of_getElem? (i := 215) rfl) rfl), by decide, by decide, by decide +kernel⟩, (inT_5 (List.mem_of_getElem? (i := 214) rfl) rfl), (inS_3 (List.mem_of_getElem? (i := 4) rfl)), by decide⟩
theorem cb_X10_340 : CB RX10 340 yX10_done cX10_done 3 (some .int) 3 ∧ Cond.static yX10_done ∈ TT := ⟨⟨(inT_5 (List.mem_of_getElem? (i := 216) rfl) rfl), (inT_1 (List.mem_of_getElem? (i := 9) rfl) rfl), (inT_5 (List.mem_of_getElem? (i := 218) rfl) rfl), by decide, by decide, by decide +kernel⟩, (inT_5 (List.mem_of_getElem? (i := 217) rfl) rfl)⟩
theorem cb_X10_120 : CB RX10 120 yX10_held cX10_held 2 (some .int) 2 ∧ Cond.static yX10_held ∈ TT := ⟨⟨(inT_5 (List.mem_of_getElem? (i := 219) rfl) rfl), (inT_1 (List.mem_of_getElem? (i := 9) rfl) rfl), (inT_5 (List.mem_of_getElem? (i := 221) rfl) rfl), by decide, by decide, by decide +kernel⟩, (inT_5 (List.mem_of_getElem? (i := 220) rfl) rfl)⟩
theorem cb_X10_132 : CB RX10 132 yX10_says cX10_says 2 (some .int) 2 ∧ Cond.static yX10_says ∈ TT := ⟨⟨(inT_5 (List.mem_of_getElem? (i := 222) rfl) rfl), (inT_1 (List.mem_of_getElem? (i := 9) rfl) rfl), (inT_5 (List.mem_of_getElem? (i := 224) rfl) rfl), by decide, by decide, by decide +kernel⟩, (inT_5 (List.mem_of_getElem? (i := 223) rfl) rfl)⟩
theorem cb_X10_190 : CB RX10 190 yX10_aheadOf cX10_aheadOf 4 (some .int) 1 ∧ Cond.instanceMethod yX10_aheadOf ∈ TT ∧ Cond.selects (cq 9).1 yX10_aheadOf yX10_aheadOf ∈ TT ∧ 9 < 10 := ⟨⟨(inT_5 (List.mem_of_getElem? (i := 225) rfl) rfl), (inT_1 (List.mem_of_getElem? (i := 9) rfl) rfl), (inT_5 (List.mem_of_getElem? (i := 228) rfl) rfl), by decide, by decide, by decide +kernel⟩, (inT_5 (List.mem_of_getElem? (i := 227) rfl) rfl), (inS_3 (List.mem_of_getElem? (i := 5) rfl)), by decide⟩
theorem cb_L_27 : CB RL 27 yX10_set cX10_set 5 (some .int) 3 ∧ Cond.instanceMethod yX10_set ∈ TT ∧ Cond.selects (cq 9).1 yX10_set yX10_set ∈ TT ∧ 9 < 10 := ⟨⟨(inT_5 (List.mem_of_getElem? (i := 229) rfl) rfl), (inT_1 (List.mem_of_getElem? (i := 9) rfl) rfl), (inT_5 (List.mem_of_getElem? (i := 232) rfl) rfl), by decide, by decide, by decide +kernel⟩, (inT_5 (List.mem_of_getElem? (i := 230) rfl) rfl), (inT_5 (List.mem_of_getElem? (i := 231) rfl) rfl), by decide⟩
theorem cb_L_31 : CB RL 31 yX10_name cX10_name 3 (some .int) 1 ∧ Cond.instanceMethod yX10_name ∈ TT ∧ Cond.selects (cq 9).1 yX10_name yX10_name ∈ TT ∧ 9 < 10 := ⟨⟨(inT_5 (List.mem_of_getElem? (i := 233) rfl) rfl), (inT_1 (List.mem_of_getElem? (i := 9) rfl) rfl), (inT_5 (List.mem_of_getElem? (i := 236) rfl) rfl), by decide, by decide, by decide +kernel⟩, (inT_5 (List.mem_of_getElem? (i := 234) rfl) rfl), (inT_5 (List.mem_of_getElem? (i := 235) rfl) rfl), by decide⟩
theorem cb_L_35 : CB RL 35 yX10_nameTold cX10_nameTold 6 (some .int) 2 ∧ Cond.instanceMethod yX10_nameTold ∈ TT ∧ Cond.selects (cq 9).1 yX10_nameTold yX10_nameTold ∈ TT ∧ 9 < 10 := ⟨⟨(inT_5 (List.mem_of_getElem? (i := 237) rfl) rfl), (inT_1 (List.mem_of_getElem? (i := 9) rfl) rfl), (inT_6 (List.mem_of_getElem? (i := 0) rfl) rfl), by decide, by decide, by decide +kernel⟩, (inT_5 (List.mem_of_getElem? (i := 238) rfl) rfl), (inT_5 (List.mem_of_getElem? (i := 239) rfl) rfl), by decide⟩
theorem cb_X10_89 : CB RX10 89 yX10_isName cX10_isName 2 (some .boolean) 1 ∧ Cond.instanceMethod yX10_isName ∈ TT ∧ Cond.selects (cq 9).1 yX10_isName yX10_isName ∈ TT ∧ 9 < 10 := ⟨⟨(inT_6 (List.mem_of_getElem? (i := 1) rfl) rfl), (inT_1 (List.mem_of_getElem? (i := 9) rfl) rfl), (inT_6 (List.mem_of_getElem? (i := 4) rfl) rfl), by decide, by decide, by decide +kernel⟩, (inT_6 (List.mem_of_getElem? (i := 3) rfl) rfl), (inS_3 (List.mem_of_getElem? (i := 6) rfl)), by decide⟩
theorem cb_L_39 : CB RL 39 yX10_word cX10_word 4 (some .int) 3 ∧ Cond.instanceMethod yX10_word ∈ TT ∧ Cond.selects (cq 9).1 yX10_word yX10_word ∈ TT ∧ 9 < 10 := ⟨⟨(inT_6 (List.mem_of_getElem? (i := 5) rfl) rfl), (inT_1 (List.mem_of_getElem? (i := 9) rfl) rfl), (inT_6 (List.mem_of_getElem? (i := 8) rfl) rfl), by decide, by decide, by decide +kernel⟩, (inT_6 (List.mem_of_getElem? (i := 6) rfl) rfl), (inT_6 (List.mem_of_getElem? (i := 7) rfl) rfl), by decide⟩
theorem cb_X10_93 : CB RX10 93 yX10_isOf cX10_isOf 2 (some .boolean) 1 ∧ Cond.instanceMethod yX10_isOf ∈ TT ∧ Cond.selects (cq 9).1 yX10_isOf yX10_isOf ∈ TT ∧ 9 < 10 := ⟨⟨(inT_6 (List.mem_of_getElem? (i := 9) rfl) rfl), (inT_1 (List.mem_of_getElem? (i := 9) rfl) rfl), (inT_6 (List.mem_of_getElem? (i := 12) rfl) rfl), by decide, by decide, by decide +kernel⟩, (inT_6 (List.mem_of_getElem? (i := 11) rfl) rfl), (inS_3 (List.mem_of_getElem? (i := 7) rfl)), by decide⟩
theorem cb_X10_96 : CB RX10 96 yX10_isAt cX10_isAt 1 (some .boolean) 1 ∧ Cond.static yX10_isAt ∈ TT := ⟨⟨(inT_6 (List.mem_of_getElem? (i := 13) rfl) rfl), (inT_1 (List.mem_of_getElem? (i := 9) rfl) rfl), (inT_6 (List.mem_of_getElem? (i := 15) rfl) rfl), by decide, by decide, by decide +kernel⟩, (inT_6 (List.mem_of_getElem? (i := 14) rfl) rfl)⟩
theorem cb_X10_99 : CB RX10 99 yX10_adds cX10_adds 7 none 5 ∧ Cond.instanceMethod yX10_adds ∈ TT ∧ Cond.selects (cq 9).1 yX10_adds yX10_adds ∈ TT ∧ 9 < 10 := ⟨⟨(inT_6 (List.mem_of_getElem? (i := 16) rfl) rfl), (inT_1 (List.mem_of_getElem? (i := 9) rfl) rfl), (inT_6 (List.mem_of_getElem? (i := 19) rfl) rfl), by decide, by decide, by decide +kernel⟩, (inT_6 (List.mem_of_getElem? (i := 18) rfl) rfl), (inS_3 (List.mem_of_getElem? (i := 8) rfl)), by decide⟩
theorem cb_L_43 : CB RL 43 yX10_told cX10_told 3 (some .int) 2 ∧ Cond.instanceMethod yX10_told ∈ TT ∧ Cond.selects (cq 9).1 yX10_told yX10_told ∈ TT ∧ 9 < 10 := ⟨⟨(inT_6 (List.mem_of_getElem? (i := 20) rfl) rfl), (inT_1 (List.mem_of_getElem? (i := 9) rfl) rfl), (inT_6 (List.mem_of_getElem? (i := 23) rfl) rfl), by decide, by decide, by decide +kernel⟩, (inT_6 (List.mem_of_getElem? (i := 21) rfl) rfl), (inT_6 (List.mem_of_getElem? (i := 22) rfl) rfl), by decide⟩
theorem cb_X10_126 : CB RX10 126 yX10_isWord cX10_isWord 2 (some .boolean) 1 ∧ Cond.instanceMethod yX10_isWord ∈ TT ∧ Cond.selects (cq 9).1 yX10_isWord yX10_isWord ∈ TT ∧ 9 < 10 := ⟨⟨(inT_6 (List.mem_of_getElem? (i := 24) rfl) rfl), (inT_1 (List.mem_of_getElem? (i := 9) rfl) rfl), (inT_6 (List.mem_of_getElem? (i := 27) rfl) rfl), by decide, by decide, by decide +kernel⟩, (inT_6 (List.mem_of_getElem? (i := 26) rfl) rfl), (inS_3 (List.mem_of_getElem? (i := 9) rfl)), by decide⟩
theorem cb_X10_135 : CB RX10 135 yX10_sign cX10_sign 3 (some .int) 1 ∧ Cond.instanceMethod yX10_sign ∈ TT ∧ Cond.selects (cq 9).1 yX10_sign yX10_sign ∈ TT ∧ 9 < 10 := ⟨⟨(inT_6 (List.mem_of_getElem? (i := 28) rfl) rfl), (inT_1 (List.mem_of_getElem? (i := 9) rfl) rfl), (inT_6 (List.mem_of_getElem? (i := 31) rfl) rfl), by decide, by decide, by decide +kernel⟩, (inT_6 (List.mem_of_getElem? (i := 30) rfl) rfl), (inS_3 (List.mem_of_getElem? (i := 10) rfl)), by decide⟩
theorem cb_X10_138 : CB RX10 138 yX10_isTrue cX10_isTrue 1 (some .boolean) 1 ∧ Cond.static yX10_isTrue ∈ TT := ⟨⟨(inT_6 (List.mem_of_getElem? (i := 32) rfl) rfl), (inT_1 (List.mem_of_getElem? (i := 9) rfl) rfl), (inT_6 (List.mem_of_getElem? (i := 34) rfl) rfl), by decide, by decide, by decide +kernel⟩, (inT_6 (List.mem_of_getElem? (i := 33) rfl) rfl)⟩
theorem cb_X10_106 : CB RX10 106 yX10_isUnder cX10_isUnder 3 (some .boolean) 2 ∧ Cond.static yX10_isUnder ∈ TT := ⟨⟨(inT_6 (List.mem_of_getElem? (i := 35) rfl) rfl), (inT_1 (List.mem_of_getElem? (i := 9) rfl) rfl), (inT_6 (List.mem_of_getElem? (i := 37) rfl) rfl), by decide, by decide, by decide +kernel⟩, (inT_6 (List.mem_of_getElem? (i := 36) rfl) rfl)⟩
theorem cb_X10_103 : CB RX10 103 yX10_above cX10_above 1 (some .int) 1 ∧ Cond.static yX10_above ∈ TT := ⟨⟨(inT_6 (List.mem_of_getElem? (i := 38) rfl) rfl), (inT_1 (List.mem_of_getElem? (i := 9) rfl) rfl), (inT_6 (List.mem_of_getElem? (i := 40) rfl) rfl), by decide, by decide, by decide +kernel⟩, (inT_6 (List.mem_of_getElem? (i := 39) rfl) rfl)⟩
theorem cb_L_47 : CB RL 47 yX10_as cX10_as 3 (some .int) 2 ∧ Cond.instanceMethod yX10_as ∈ TT ∧ Cond.selects (cq 9).1 yX10_as yX10_as ∈ TT ∧ 9 < 10 := ⟨⟨(inT_6 (List.mem_of_getElem? (i := 41) rfl) rfl), (inT_1 (List.mem_of_getElem? (i := 9) rfl) rfl), (inT_6 (List.mem_of_getElem? (i := 44) rfl) rfl), by decide, by decide, by decide +kernel⟩, (inT_6 (List.mem_of_getElem? (i := 42) rfl) rfl), (inT_6 (List.mem_of_getElem? (i := 43) rfl) rfl), by decide⟩
theorem ko_X10_141 : Cond.constant RX10 141 (-1000000012) ∈ TT := (inT_6 (List.mem_of_getElem? (i := 45) rfl) rfl)
theorem cb_L_51 : CB RL 51 yX10_turns cX10_turns 3 (some .int) 2 ∧ Cond.instanceMethod yX10_turns ∈ TT ∧ Cond.selects (cq 9).1 yX10_turns yX10_turns ∈ TT ∧ 9 < 10 := ⟨⟨(inT_6 (List.mem_of_getElem? (i := 46) rfl) rfl), (inT_1 (List.mem_of_getElem? (i := 9) rfl) rfl), (inT_6 (List.mem_of_getElem? (i := 49) rfl) rfl), by decide, by decide, by decide +kernel⟩, (inT_6 (List.mem_of_getElem? (i := 47) rfl) rfl), (inT_6 (List.mem_of_getElem? (i := 48) rfl) rfl), by decide⟩
theorem cb_X10_142 : CB RX10 142 yX10_becomes cX10_becomes 5 (some .int) 3 ∧ Cond.instanceMethod yX10_becomes ∈ TT ∧ Cond.selects (cq 9).1 yX10_becomes yX10_becomes ∈ TT ∧ 9 < 10 := ⟨⟨(inT_6 (List.mem_of_getElem? (i := 50) rfl) rfl), (inT_1 (List.mem_of_getElem? (i := 9) rfl) rfl), (inT_6 (List.mem_of_getElem? (i := 53) rfl) rfl), by decide, by decide, by decide +kernel⟩, (inT_6 (List.mem_of_getElem? (i := 52) rfl) rfl), (inS_3 (List.mem_of_getElem? (i := 11) rfl)), by decide⟩
theorem cb_L_55 : CB RL 55 yX10_star cX10_star 3 (some .int) 2 ∧ Cond.instanceMethod yX10_star ∈ TT ∧ Cond.selects (cq 9).1 yX10_star yX10_star ∈ TT ∧ 9 < 10 := ⟨⟨(inT_6 (List.mem_of_getElem? (i := 54) rfl) rfl), (inT_1 (List.mem_of_getElem? (i := 9) rfl) rfl), (inT_6 (List.mem_of_getElem? (i := 57) rfl) rfl), by decide, by decide, by decide +kernel⟩, (inT_6 (List.mem_of_getElem? (i := 55) rfl) rfl), (inT_6 (List.mem_of_getElem? (i := 56) rfl) rfl), by decide⟩
theorem cb_L_59 : CB RL 59 yX10_drop cX10_drop 2 (some .int) 1 ∧ Cond.instanceMethod yX10_drop ∈ TT ∧ Cond.selects (cq 9).1 yX10_drop yX10_drop ∈ TT ∧ 9 < 10 := ⟨⟨(inT_6 (List.mem_of_getElem? (i := 58) rfl) rfl), (inT_1 (List.mem_of_getElem? (i := 9) rfl) rfl), (inT_6 (List.mem_of_getElem? (i := 61) rfl) rfl), by decide, by decide, by decide +kernel⟩, (inT_6 (List.mem_of_getElem? (i := 59) rfl) rfl), (inT_6 (List.mem_of_getElem? (i := 60) rfl) rfl), by decide⟩
theorem cb_X10_146 : CB RX10 146 yX10_goes cX10_goes 3 none 1 ∧ Cond.instanceMethod yX10_goes ∈ TT ∧ Cond.selects (cq 9).1 yX10_goes yX10_goes ∈ TT ∧ 9 < 10 := ⟨⟨(inT_6 (List.mem_of_getElem? (i := 62) rfl) rfl), (inT_1 (List.mem_of_getElem? (i := 9) rfl) rfl), (inT_6 (List.mem_of_getElem? (i := 65) rfl) rfl), by decide, by decide, by decide +kernel⟩, (inT_6 (List.mem_of_getElem? (i := 64) rfl) rfl), (inS_3 (List.mem_of_getElem? (i := 12) rfl)), by decide⟩
theorem cb_L_63 : CB RL 63 yX10_mean cX10_mean 3 (some .int) 2 ∧ Cond.instanceMethod yX10_mean ∈ TT ∧ Cond.selects (cq 9).1 yX10_mean yX10_mean ∈ TT ∧ 9 < 10 := ⟨⟨(inT_6 (List.mem_of_getElem? (i := 66) rfl) rfl), (inT_1 (List.mem_of_getElem? (i := 9) rfl) rfl), (inT_6 (List.mem_of_getElem? (i := 69) rfl) rfl), by decide, by decide, by decide +kernel⟩, (inT_6 (List.mem_of_getElem? (i := 67) rfl) rfl), (inT_6 (List.mem_of_getElem? (i := 68) rfl) rfl), by decide⟩
theorem cb_X10_177 : CB RX10 177 yX10_spanOf cX10_spanOf 5 (some .int) 2 ∧ Cond.instanceMethod yX10_spanOf ∈ TT ∧ Cond.selects (cq 9).1 yX10_spanOf yX10_spanOf ∈ TT ∧ 9 < 10 := ⟨⟨(inT_6 (List.mem_of_getElem? (i := 70) rfl) rfl), (inT_1 (List.mem_of_getElem? (i := 9) rfl) rfl), (inT_6 (List.mem_of_getElem? (i := 73) rfl) rfl), by decide, by decide, by decide +kernel⟩, (inT_6 (List.mem_of_getElem? (i := 72) rfl) rfl), (inS_3 (List.mem_of_getElem? (i := 13) rfl)), by decide⟩
theorem cb_X10_181 : CB RX10 181 yX10_starWorth cX10_starWorth 3 (some .int) 1 ∧ Cond.instanceMethod yX10_starWorth ∈ TT ∧ Cond.selects (cq 9).1 yX10_starWorth yX10_starWorth ∈ TT ∧ 9 < 10 := ⟨⟨(inT_6 (List.mem_of_getElem? (i := 74) rfl) rfl), (inT_1 (List.mem_of_getElem? (i := 9) rfl) rfl), (inT_6 (List.mem_of_getElem? (i := 77) rfl) rfl), by decide, by decide, by decide +kernel⟩, (inT_6 (List.mem_of_getElem? (i := 76) rfl) rfl), (inS_3 (List.mem_of_getElem? (i := 14) rfl)), by decide⟩
theorem cb_L_67 : CB RL 67 yX10_shelf cX10_shelf 2 (some .int) 1 ∧ Cond.instanceMethod yX10_shelf ∈ TT ∧ Cond.selects (cq 9).1 yX10_shelf yX10_shelf ∈ TT ∧ 9 < 10 := ⟨⟨(inT_6 (List.mem_of_getElem? (i := 78) rfl) rfl), (inT_1 (List.mem_of_getElem? (i := 9) rfl) rfl), (inT_6 (List.mem_of_getElem? (i := 81) rfl) rfl), by decide, by decide, by decide +kernel⟩, (inT_6 (List.mem_of_getElem? (i := 79) rfl) rfl), (inT_6 (List.mem_of_getElem? (i := 80) rfl) rfl), by decide⟩
theorem cb_X10_193 : CB RX10 193 yX10_shelfAt cX10_shelfAt 4 (some .int) 1 ∧ Cond.instanceMethod yX10_shelfAt ∈ TT ∧ Cond.selects (cq 9).1 yX10_shelfAt yX10_shelfAt ∈ TT ∧ 9 < 10 := ⟨⟨(inT_6 (List.mem_of_getElem? (i := 82) rfl) rfl), (inT_1 (List.mem_of_getElem? (i := 9) rfl) rfl), (inT_6 (List.mem_of_getElem? (i := 85) rfl) rfl), by decide, by decide, by decide +kernel⟩, (inT_6 (List.mem_of_getElem? (i := 84) rfl) rfl), (inS_3 (List.mem_of_getElem? (i := 15) rfl)), by decide⟩
theorem cb_L_71 : CB RL 71 yX10_alike cX10_alike 4 (some .int) 3 ∧ Cond.instanceMethod yX10_alike ∈ TT ∧ Cond.selects (cq 9).1 yX10_alike yX10_alike ∈ TT ∧ 9 < 10 := ⟨⟨(inT_6 (List.mem_of_getElem? (i := 86) rfl) rfl), (inT_1 (List.mem_of_getElem? (i := 9) rfl) rfl), (inT_6 (List.mem_of_getElem? (i := 89) rfl) rfl), by decide, by decide, by decide +kernel⟩, (inT_6 (List.mem_of_getElem? (i := 87) rfl) rfl), (inT_6 (List.mem_of_getElem? (i := 88) rfl) rfl), by decide⟩
theorem cb_X10_203 : CB RX10 203 yX10_alikes cX10_alikes 6 (some .int) 3 ∧ Cond.instanceMethod yX10_alikes ∈ TT ∧ Cond.selects (cq 9).1 yX10_alikes yX10_alikes ∈ TT ∧ 9 < 10 := ⟨⟨(inT_6 (List.mem_of_getElem? (i := 90) rfl) rfl), (inT_1 (List.mem_of_getElem? (i := 9) rfl) rfl), (inT_6 (List.mem_of_getElem? (i := 93) rfl) rfl), by decide, by decide, by decide +kernel⟩, (inT_6 (List.mem_of_getElem? (i := 92) rfl) rfl), (inS_4 (List.mem_of_getElem? (i := 0) rfl)), by decide⟩
theorem cb_X10_199 : CB RX10 199 yX10_isAlikeOf cX10_isAlikeOf 8 (some .boolean) 4 ∧ Cond.instanceMethod yX10_isAlikeOf ∈ TT ∧ Cond.selects (cq 9).1 yX10_isAlikeOf yX10_isAlikeOf ∈ TT ∧ 9 < 10 := ⟨⟨(inT_6 (List.mem_of_getElem? (i := 94) rfl) rfl), (inT_1 (List.mem_of_getElem? (i := 9) rfl) rfl), (inT_6 (List.mem_of_getElem? (i := 97) rfl) rfl), by decide, by decide, by decide +kernel⟩, (inT_6 (List.mem_of_getElem? (i := 96) rfl) rfl), (inS_4 (List.mem_of_getElem? (i := 1) rfl)), by decide⟩
theorem cb_X10_196 : CB RX10 196 yX10_apart cX10_apart 2 (some .int) 2 ∧ Cond.static yX10_apart ∈ TT := ⟨⟨(inT_6 (List.mem_of_getElem? (i := 98) rfl) rfl), (inT_1 (List.mem_of_getElem? (i := 9) rfl) rfl), (inT_6 (List.mem_of_getElem? (i := 100) rfl) rfl), by decide, by decide, by decide +kernel⟩, (inT_6 (List.mem_of_getElem? (i := 99) rfl) rfl)⟩
theorem cb_L_75 : CB RL 75 yX10_group cX10_group 7 (some .int) 2 ∧ Cond.instanceMethod yX10_group ∈ TT ∧ Cond.selects (cq 9).1 yX10_group yX10_group ∈ TT ∧ 9 < 10 := ⟨⟨(inT_6 (List.mem_of_getElem? (i := 101) rfl) rfl), (inT_1 (List.mem_of_getElem? (i := 9) rfl) rfl), (inT_6 (List.mem_of_getElem? (i := 104) rfl) rfl), by decide, by decide, by decide +kernel⟩, (inT_6 (List.mem_of_getElem? (i := 102) rfl) rfl), (inT_6 (List.mem_of_getElem? (i := 103) rfl) rfl), by decide⟩
theorem cb_X10_206 : CB RX10 206 yX10_ones cX10_ones 3 (some .int) 1 ∧ Cond.static yX10_ones ∈ TT := ⟨⟨(inT_6 (List.mem_of_getElem? (i := 105) rfl) rfl), (inT_1 (List.mem_of_getElem? (i := 9) rfl) rfl), (inT_6 (List.mem_of_getElem? (i := 107) rfl) rfl), by decide, by decide, by decide +kernel⟩, (inT_6 (List.mem_of_getElem? (i := 106) rfl) rfl)⟩
theorem cb_L_79 : CB RL 79 yX10_wave cX10_wave 5 (some .int) 2 ∧ Cond.instanceMethod yX10_wave ∈ TT ∧ Cond.selects (cq 9).1 yX10_wave yX10_wave ∈ TT ∧ 9 < 10 := ⟨⟨(inT_6 (List.mem_of_getElem? (i := 108) rfl) rfl), (inT_1 (List.mem_of_getElem? (i := 9) rfl) rfl), (inT_6 (List.mem_of_getElem? (i := 111) rfl) rfl), by decide, by decide, by decide +kernel⟩, (inT_6 (List.mem_of_getElem? (i := 109) rfl) rfl), (inT_6 (List.mem_of_getElem? (i := 110) rfl) rfl), by decide⟩
theorem cb_X10_209 : CB RX10 209 yX10_within cX10_within 5 (some .int) 2 ∧ Cond.instanceMethod yX10_within ∈ TT ∧ Cond.selects (cq 9).1 yX10_within yX10_within ∈ TT ∧ 9 < 10 := ⟨⟨(inT_6 (List.mem_of_getElem? (i := 112) rfl) rfl), (inT_1 (List.mem_of_getElem? (i := 9) rfl) rfl), (inT_6 (List.mem_of_getElem? (i := 115) rfl) rfl), by decide, by decide, by decide +kernel⟩, (inT_6 (List.mem_of_getElem? (i := 114) rfl) rfl), (inS_4 (List.mem_of_getElem? (i := 2) rfl)), by decide⟩
theorem cb_L_83 : CB RL 83 yX10_changed cX10_changed 8 (some .int) 2 ∧ Cond.instanceMethod yX10_changed ∈ TT ∧ Cond.selects (cq 9).1 yX10_changed yX10_changed ∈ TT ∧ 9 < 10 := ⟨⟨(inT_6 (List.mem_of_getElem? (i := 116) rfl) rfl), (inT_1 (List.mem_of_getElem? (i := 9) rfl) rfl), (inT_6 (List.mem_of_getElem? (i := 119) rfl) rfl), by decide, by decide, by decide +kernel⟩, (inT_6 (List.mem_of_getElem? (i := 117) rfl) rfl), (inT_6 (List.mem_of_getElem? (i := 118) rfl) rfl), by decide⟩
theorem cb_X10_212 : CB RX10 212 yX10_differ cX10_differ 7 (some .int) 2 ∧ Cond.instanceMethod yX10_differ ∈ TT ∧ Cond.selects (cq 9).1 yX10_differ yX10_differ ∈ TT ∧ 9 < 10 := ⟨⟨(inT_6 (List.mem_of_getElem? (i := 120) rfl) rfl), (inT_1 (List.mem_of_getElem? (i := 9) rfl) rfl), (inT_6 (List.mem_of_getElem? (i := 123) rfl) rfl), by decide, by decide, by decide +kernel⟩, (inT_6 (List.mem_of_getElem? (i := 122) rfl) rfl), (inS_4 (List.mem_of_getElem? (i := 3) rfl)), by decide⟩
theorem cb_L_87 : CB RL 87 yX10_off cX10_off 3 (some .int) 2 ∧ Cond.instanceMethod yX10_off ∈ TT ∧ Cond.selects (cq 9).1 yX10_off yX10_off ∈ TT ∧ 9 < 10 := ⟨⟨(inT_6 (List.mem_of_getElem? (i := 124) rfl) rfl), (inT_1 (List.mem_of_getElem? (i := 9) rfl) rfl), (inT_6 (List.mem_of_getElem? (i := 127) rfl) rfl), by decide, by decide, by decide +kernel⟩, (inT_6 (List.mem_of_getElem? (i := 125) rfl) rfl), (inT_6 (List.mem_of_getElem? (i := 126) rfl) rfl), by decide⟩
theorem cb_X10_215 : CB RX10 215 yX10_counted cX10_counted 5 (some .int) 2 ∧ Cond.instanceMethod yX10_counted ∈ TT ∧ Cond.selects (cq 9).1 yX10_counted yX10_counted ∈ TT ∧ 9 < 10 := ⟨⟨(inT_6 (List.mem_of_getElem? (i := 128) rfl) rfl), (inT_1 (List.mem_of_getElem? (i := 9) rfl) rfl), (inT_6 (List.mem_of_getElem? (i := 131) rfl) rfl), by decide, by decide, by decide +kernel⟩, (inT_6 (List.mem_of_getElem? (i := 130) rfl) rfl), (inS_4 (List.mem_of_getElem? (i := 4) rfl)), by decide⟩
theorem cb_L_91 : CB RL 91 yX10_bound cX10_bound 6 (some .int) 1 ∧ Cond.instanceMethod yX10_bound ∈ TT ∧ Cond.selects (cq 9).1 yX10_bound yX10_bound ∈ TT ∧ 9 < 10 := ⟨⟨(inT_6 (List.mem_of_getElem? (i := 132) rfl) rfl), (inT_1 (List.mem_of_getElem? (i := 9) rfl) rfl), (inT_6 (List.mem_of_getElem? (i := 135) rfl) rfl), by decide, by decide, by decide +kernel⟩, (inT_6 (List.mem_of_getElem? (i := 133) rfl) rfl), (inT_6 (List.mem_of_getElem? (i := 134) rfl) rfl), by decide⟩
theorem cb_L_95 : CB RL 95 yX10_clean cX10_clean 4 (some .int) 1 ∧ Cond.instanceMethod yX10_clean ∈ TT ∧ Cond.selects (cq 9).1 yX10_clean yX10_clean ∈ TT ∧ 9 < 10 := ⟨⟨(inT_6 (List.mem_of_getElem? (i := 136) rfl) rfl), (inT_1 (List.mem_of_getElem? (i := 9) rfl) rfl), (inT_6 (List.mem_of_getElem? (i := 139) rfl) rfl), by decide, by decide, by decide +kernel⟩, (inT_6 (List.mem_of_getElem? (i := 137) rfl) rfl), (inT_6 (List.mem_of_getElem? (i := 138) rfl) rfl), by decide⟩
theorem cb_L_99 : CB RL 99 yX10_buy cX10_buy 5 (some .int) 2 ∧ Cond.instanceMethod yX10_buy ∈ TT ∧ Cond.selects (cq 9).1 yX10_buy yX10_buy ∈ TT ∧ 9 < 10 := ⟨⟨(inT_6 (List.mem_of_getElem? (i := 140) rfl) rfl), (inT_1 (List.mem_of_getElem? (i := 9) rfl) rfl), (inT_6 (List.mem_of_getElem? (i := 143) rfl) rfl), by decide, by decide, by decide +kernel⟩, (inT_6 (List.mem_of_getElem? (i := 141) rfl) rfl), (inT_6 (List.mem_of_getElem? (i := 142) rfl) rfl), by decide⟩
theorem ko_X10_229 : Cond.constant RX10 229 (-1000000002) ∈ TT := (inT_6 (List.mem_of_getElem? (i := 144) rfl) rfl)
theorem cb_X10_230 : CB RX10 230 yX10_buys cX10_buys 5 none 1 ∧ Cond.instanceMethod yX10_buys ∈ TT ∧ Cond.selects (cq 9).1 yX10_buys yX10_buys ∈ TT ∧ 9 < 10 := ⟨⟨(inT_6 (List.mem_of_getElem? (i := 145) rfl) rfl), (inT_1 (List.mem_of_getElem? (i := 9) rfl) rfl), (inT_6 (List.mem_of_getElem? (i := 148) rfl) rfl), by decide, by decide, by decide +kernel⟩, (inT_6 (List.mem_of_getElem? (i := 147) rfl) rfl), (inS_4 (List.mem_of_getElem? (i := 5) rfl)), by decide⟩
theorem cb_X10_219 : CB RX10 219 yX10_draw cX10_draw 1 (some .int) 0 ∧ Cond.instanceMethod yX10_draw ∈ TT ∧ Cond.selects (cq 9).1 yX10_draw yX10_draw ∈ TT ∧ 9 < 10 := ⟨⟨(inT_6 (List.mem_of_getElem? (i := 149) rfl) rfl), (inT_1 (List.mem_of_getElem? (i := 9) rfl) rfl), (inT_6 (List.mem_of_getElem? (i := 152) rfl) rfl), by decide, by decide, by decide +kernel⟩, (inT_6 (List.mem_of_getElem? (i := 151) rfl) rfl), (inS_4 (List.mem_of_getElem? (i := 6) rfl)), by decide⟩
theorem ko_X10_218 : Cond.constant RX10 218 1103515245 ∈ TT := (inT_6 (List.mem_of_getElem? (i := 153) rfl) rfl)
theorem cb_L_104 : CB RL 104 yX10_job cX10_job 7 (some .int) 4 ∧ Cond.instanceMethod yX10_job ∈ TT ∧ Cond.selects (cq 9).1 yX10_job yX10_job ∈ TT ∧ 9 < 10 := ⟨⟨(inT_6 (List.mem_of_getElem? (i := 154) rfl) rfl), (inT_1 (List.mem_of_getElem? (i := 9) rfl) rfl), (inT_6 (List.mem_of_getElem? (i := 157) rfl) rfl), by decide, by decide, by decide +kernel⟩, (inT_6 (List.mem_of_getElem? (i := 155) rfl) rfl), (inT_6 (List.mem_of_getElem? (i := 156) rfl) rfl), by decide⟩
theorem cb_L_108 : CB RL 108 yX10_seed cX10_seed 3 (some .int) 1 ∧ Cond.instanceMethod yX10_seed ∈ TT ∧ Cond.selects (cq 9).1 yX10_seed yX10_seed ∈ TT ∧ 9 < 10 := ⟨⟨(inT_6 (List.mem_of_getElem? (i := 158) rfl) rfl), (inT_1 (List.mem_of_getElem? (i := 9) rfl) rfl), (inT_6 (List.mem_of_getElem? (i := 161) rfl) rfl), by decide, by decide, by decide +kernel⟩, (inT_6 (List.mem_of_getElem? (i := 159) rfl) rfl), (inT_6 (List.mem_of_getElem? (i := 160) rfl) rfl), by decide⟩
theorem cb_L_112 : CB RL 112 yX10_feed cX10_feed 6 (some .int) 3 ∧ Cond.instanceMethod yX10_feed ∈ TT ∧ Cond.selects (cq 9).1 yX10_feed yX10_feed ∈ TT ∧ 9 < 10 := ⟨⟨(inT_6 (List.mem_of_getElem? (i := 162) rfl) rfl), (inT_1 (List.mem_of_getElem? (i := 9) rfl) rfl), (inT_6 (List.mem_of_getElem? (i := 165) rfl) rfl), by decide, by decide, by decide +kernel⟩, (inT_6 (List.mem_of_getElem? (i := 163) rfl) rfl), (inT_6 (List.mem_of_getElem? (i := 164) rfl) rfl), by decide⟩
theorem cb_L_116 : CB RL 116 yX10_trim cX10_trim 2 (some .int) 1 ∧ Cond.instanceMethod yX10_trim ∈ TT ∧ Cond.selects (cq 9).1 yX10_trim yX10_trim ∈ TT ∧ 9 < 10 := ⟨⟨(inT_6 (List.mem_of_getElem? (i := 166) rfl) rfl), (inT_1 (List.mem_of_getElem? (i := 9) rfl) rfl), (inT_6 (List.mem_of_getElem? (i := 169) rfl) rfl), by decide, by decide, by decide +kernel⟩, (inT_6 (List.mem_of_getElem? (i := 167) rfl) rfl), (inT_6 (List.mem_of_getElem? (i := 168) rfl) rfl), by decide⟩
theorem cb_L_121 : CB RL 121 yX10_text cX10_text 4 (some .int) 0 ∧ Cond.instanceMethod yX10_text ∈ TT ∧ Cond.selects (cq 9).1 yX10_text yX10_text ∈ TT ∧ 9 < 10 := ⟨⟨(inT_6 (List.mem_of_getElem? (i := 170) rfl) rfl), (inT_1 (List.mem_of_getElem? (i := 9) rfl) rfl), (inT_6 (List.mem_of_getElem? (i := 173) rfl) rfl), by decide, by decide, by decide +kernel⟩, (inT_6 (List.mem_of_getElem? (i := 171) rfl) rfl), (inT_6 (List.mem_of_getElem? (i := 172) rfl) rfl), by decide⟩
theorem cb_X10_337 : CB RX10 337 yX10_reads cX10_reads 1 none 0 ∧ Cond.instanceMethod yX10_reads ∈ TT ∧ Cond.selects (cq 9).1 yX10_reads yX10_reads ∈ TT ∧ 9 < 10 := ⟨⟨(inT_6 (List.mem_of_getElem? (i := 174) rfl) rfl), (inT_1 (List.mem_of_getElem? (i := 9) rfl) rfl), (inT_6 (List.mem_of_getElem? (i := 177) rfl) rfl), by decide, by decide, by decide +kernel⟩, (inT_6 (List.mem_of_getElem? (i := 176) rfl) rfl), (inS_4 (List.mem_of_getElem? (i := 7) rfl)), by decide⟩
theorem cb_X10_294 : CB RX10 294 yX10_next cX10_next 3 none 0 ∧ Cond.instanceMethod yX10_next ∈ TT ∧ Cond.selects (cq 9).1 yX10_next yX10_next ∈ TT ∧ 9 < 10 := ⟨⟨(inT_6 (List.mem_of_getElem? (i := 178) rfl) rfl), (inT_1 (List.mem_of_getElem? (i := 9) rfl) rfl), (inT_6 (List.mem_of_getElem? (i := 181) rfl) rfl), by decide, by decide, by decide +kernel⟩, (inT_6 (List.mem_of_getElem? (i := 180) rfl) rfl), (inS_4 (List.mem_of_getElem? (i := 8) rfl)), by decide⟩
theorem cb_X10_243 : CB RX10 243 yX10_byteAt cX10_byteAt 2 (some .int) 1 ∧ Cond.instanceMethod yX10_byteAt ∈ TT ∧ Cond.selects (cq 9).1 yX10_byteAt yX10_byteAt ∈ TT ∧ 9 < 10 := ⟨⟨(inT_6 (List.mem_of_getElem? (i := 182) rfl) rfl), (inT_1 (List.mem_of_getElem? (i := 9) rfl) rfl), (inT_6 (List.mem_of_getElem? (i := 185) rfl) rfl), by decide, by decide, by decide +kernel⟩, (inT_6 (List.mem_of_getElem? (i := 184) rfl) rfl), (inS_4 (List.mem_of_getElem? (i := 9) rfl)), by decide⟩
theorem cb_X10_255 : CB RX10 255 yX10_isLetter cX10_isLetter 1 (some .boolean) 1 ∧ Cond.static yX10_isLetter ∈ TT := ⟨⟨(inT_6 (List.mem_of_getElem? (i := 186) rfl) rfl), (inT_1 (List.mem_of_getElem? (i := 9) rfl) rfl), (inT_6 (List.mem_of_getElem? (i := 188) rfl) rfl), by decide, by decide, by decide +kernel⟩, (inT_6 (List.mem_of_getElem? (i := 187) rfl) rfl)⟩
theorem cb_X10_258 : CB RX10 258 yX10_isDigit cX10_isDigit 1 (some .boolean) 1 ∧ Cond.static yX10_isDigit ∈ TT := ⟨⟨(inT_6 (List.mem_of_getElem? (i := 189) rfl) rfl), (inT_1 (List.mem_of_getElem? (i := 9) rfl) rfl), (inT_6 (List.mem_of_getElem? (i := 191) rfl) rfl), by decide, by decide, by decide +kernel⟩, (inT_6 (List.mem_of_getElem? (i := 190) rfl) rfl)⟩
theorem cb_X10_330 : CB RX10 330 yX10_isKey cX10_isKey 4 (some .boolean) 1 ∧ Cond.instanceMethod yX10_isKey ∈ TT ∧ Cond.selects (cq 9).1 yX10_isKey yX10_isKey ∈ TT ∧ 9 < 10 := ⟨⟨(inT_6 (List.mem_of_getElem? (i := 193) rfl) rfl), (inT_1 (List.mem_of_getElem? (i := 9) rfl) rfl), (inT_6 (List.mem_of_getElem? (i := 196) rfl) rfl), by decide, by decide, by decide +kernel⟩, (inT_6 (List.mem_of_getElem? (i := 195) rfl) rfl), (inS_4 (List.mem_of_getElem? (i := 10) rfl)), by decide⟩
theorem cb_X10_273 : CB RX10 273 yJ0_length_8abf5 cJ0_length_8abf5 1 (some .int) 0 ∧ Cond.instanceMethod yJ0_length_8abf5 ∈ TT ∧ Cond.selects RJ0 yJ0_length_8abf5 yJ0_length_8abf5 ∈ TT := ⟨⟨(inT_6 (List.mem_of_getElem? (i := 197) rfl) rfl), (inT_1 (List.mem_of_getElem? (i := 14) rfl) rfl), (inT_3 (List.mem_of_getElem? (i := 180) rfl) rfl), by decide, by decide, by decide +kernel⟩, (inT_3 (List.mem_of_getElem? (i := 178) rfl) rfl), (inT_3 (List.mem_of_getElem? (i := 179) rfl) rfl)⟩
theorem cb_X10_278 : CB RX10 278 yJ0_charAt_5068e cJ0_charAt_5068e 2 (some .char) 1 ∧ Cond.instanceMethod yJ0_charAt_5068e ∈ TT ∧ Cond.selects RJ0 yJ0_charAt_5068e yJ0_charAt_5068e ∈ TT := ⟨⟨(inT_6 (List.mem_of_getElem? (i := 198) rfl) rfl), (inT_1 (List.mem_of_getElem? (i := 14) rfl) rfl), (inT_3 (List.mem_of_getElem? (i := 190) rfl) rfl), by decide, by decide, by decide +kernel⟩, (inT_3 (List.mem_of_getElem? (i := 188) rfl) rfl), (inT_3 (List.mem_of_getElem? (i := 189) rfl) rfl)⟩
theorem cb_X10_291 : CB RX10 291 yX10_fails cX10_fails 1 none 0 ∧ Cond.instanceMethod yX10_fails ∈ TT ∧ Cond.selects (cq 9).1 yX10_fails yX10_fails ∈ TT ∧ 9 < 10 := ⟨⟨(inT_6 (List.mem_of_getElem? (i := 201) rfl) rfl), (inT_1 (List.mem_of_getElem? (i := 9) rfl) rfl), (inT_6 (List.mem_of_getElem? (i := 204) rfl) rfl), by decide, by decide, by decide +kernel⟩, (inT_6 (List.mem_of_getElem? (i := 203) rfl) rfl), (inS_4 (List.mem_of_getElem? (i := 11) rfl)), by decide⟩
theorem cb_X10_306 : CB RX10 306 yX10_either cX10_either 1 none 0 ∧ Cond.instanceMethod yX10_either ∈ TT ∧ Cond.selects (cq 9).1 yX10_either yX10_either ∈ TT ∧ 9 < 10 := ⟨⟨(inT_6 (List.mem_of_getElem? (i := 205) rfl) rfl), (inT_1 (List.mem_of_getElem? (i := 9) rfl) rfl), (inT_6 (List.mem_of_getElem? (i := 208) rfl) rfl), by decide, by decide, by decide +kernel⟩, (inT_6 (List.mem_of_getElem? (i := 207) rfl) rfl), (inS_4 (List.mem_of_getElem? (i := 12) rfl)), by decide⟩
theorem cb_X10_325 : CB RX10 325 yX10_both cX10_both 1 none 0 ∧ Cond.instanceMethod yX10_both ∈ TT ∧ Cond.selects (cq 9).1 yX10_both yX10_both ∈ TT ∧ 9 < 10 := ⟨⟨(inT_6 (List.mem_of_getElem? (i := 209) rfl) rfl), (inT_1 (List.mem_of_getElem? (i := 9) rfl) rfl), (inT_6 (List.mem_of_getElem? (i := 212) rfl) rfl), by decide, by decide, by decide +kernel⟩, (inT_6 (List.mem_of_getElem? (i := 211) rfl) rfl), (inS_4 (List.mem_of_getElem? (i := 13) rfl)), by decide⟩
theorem cb_X10_322 : CB RX10 322 yX10_test cX10_test 2 none 0 ∧ Cond.instanceMethod yX10_test ∈ TT ∧ Cond.selects (cq 9).1 yX10_test yX10_test ∈ TT ∧ 9 < 10 := ⟨⟨(inT_6 (List.mem_of_getElem? (i := 213) rfl) rfl), (inT_1 (List.mem_of_getElem? (i := 9) rfl) rfl), (inT_6 (List.mem_of_getElem? (i := 216) rfl) rfl), by decide, by decide, by decide +kernel⟩, (inT_6 (List.mem_of_getElem? (i := 215) rfl) rfl), (inS_4 (List.mem_of_getElem? (i := 14) rfl)), by decide⟩
theorem cb_X10_319 : CB RX10 319 yX10_sum cX10_sum 2 none 0 ∧ Cond.instanceMethod yX10_sum ∈ TT ∧ Cond.selects (cq 9).1 yX10_sum yX10_sum ∈ TT ∧ 9 < 10 := ⟨⟨(inT_6 (List.mem_of_getElem? (i := 217) rfl) rfl), (inT_1 (List.mem_of_getElem? (i := 9) rfl) rfl), (inT_6 (List.mem_of_getElem? (i := 220) rfl) rfl), by decide, by decide, by decide +kernel⟩, (inT_6 (List.mem_of_getElem? (i := 219) rfl) rfl), (inS_4 (List.mem_of_getElem? (i := 15) rfl)), by decide⟩
theorem cb_X10_316 : CB RX10 316 yX10_term cX10_term 2 none 0 ∧ Cond.instanceMethod yX10_term ∈ TT ∧ Cond.selects (cq 9).1 yX10_term yX10_term ∈ TT ∧ 9 < 10 := ⟨⟨(inT_6 (List.mem_of_getElem? (i := 221) rfl) rfl), (inT_1 (List.mem_of_getElem? (i := 9) rfl) rfl), (inT_6 (List.mem_of_getElem? (i := 224) rfl) rfl), by decide, by decide, by decide +kernel⟩, (inT_6 (List.mem_of_getElem? (i := 223) rfl) rfl), (inS_5 (List.mem_of_getElem? (i := 0) rfl)), by decide⟩
theorem cb_X10_297 : CB RX10 297 yX10_piece cX10_piece 1 none 0 ∧ Cond.instanceMethod yX10_piece ∈ TT ∧ Cond.selects (cq 9).1 yX10_piece yX10_piece ∈ TT ∧ 9 < 10 := ⟨⟨(inT_6 (List.mem_of_getElem? (i := 225) rfl) rfl), (inT_1 (List.mem_of_getElem? (i := 9) rfl) rfl), (inT_6 (List.mem_of_getElem? (i := 228) rfl) rfl), by decide, by decide, by decide +kernel⟩, (inT_6 (List.mem_of_getElem? (i := 227) rfl) rfl), (inS_5 (List.mem_of_getElem? (i := 1) rfl)), by decide⟩
theorem cb_X10_285 : CB RX10 285 yX10_isMark cX10_isMark 2 (some .boolean) 1 ∧ Cond.instanceMethod yX10_isMark ∈ TT ∧ Cond.selects (cq 9).1 yX10_isMark yX10_isMark ∈ TT ∧ 9 < 10 := ⟨⟨(inT_6 (List.mem_of_getElem? (i := 229) rfl) rfl), (inT_1 (List.mem_of_getElem? (i := 9) rfl) rfl), (inT_6 (List.mem_of_getElem? (i := 232) rfl) rfl), by decide, by decide, by decide +kernel⟩, (inT_6 (List.mem_of_getElem? (i := 231) rfl) rfl), (inS_5 (List.mem_of_getElem? (i := 2) rfl)), by decide⟩
theorem cb_X10_300 : CB RX10 300 yX10_emit cX10_emit 2 none 1 ∧ Cond.instanceMethod yX10_emit ∈ TT ∧ Cond.selects (cq 9).1 yX10_emit yX10_emit ∈ TT ∧ 9 < 10 := ⟨⟨(inT_6 (List.mem_of_getElem? (i := 233) rfl) rfl), (inT_1 (List.mem_of_getElem? (i := 9) rfl) rfl), (inT_6 (List.mem_of_getElem? (i := 236) rfl) rfl), by decide, by decide, by decide +kernel⟩, (inT_6 (List.mem_of_getElem? (i := 235) rfl) rfl), (inS_5 (List.mem_of_getElem? (i := 3) rfl)), by decide⟩
theorem cb_X10_309 : CB RX10 309 yX10_isSignHere cX10_isSignHere 1 (some .boolean) 0 ∧ Cond.instanceMethod yX10_isSignHere ∈ TT ∧ Cond.selects (cq 9).1 yX10_isSignHere yX10_isSignHere ∈ TT ∧ 9 < 10 := ⟨⟨(inT_6 (List.mem_of_getElem? (i := 237) rfl) rfl), (inT_1 (List.mem_of_getElem? (i := 9) rfl) rfl), (inT_7 (List.mem_of_getElem? (i := 0) rfl) rfl), by decide, by decide, by decide +kernel⟩, (inT_6 (List.mem_of_getElem? (i := 239) rfl) rfl), (inS_5 (List.mem_of_getElem? (i := 4) rfl)), by decide⟩
theorem cb_L_125 : CB RL 125 yX10_textTold cX10_textTold 3 (some .int) 2 ∧ Cond.instanceMethod yX10_textTold ∈ TT ∧ Cond.selects (cq 9).1 yX10_textTold yX10_textTold ∈ TT ∧ 9 < 10 := ⟨⟨(inT_7 (List.mem_of_getElem? (i := 1) rfl) rfl), (inT_1 (List.mem_of_getElem? (i := 9) rfl) rfl), (inT_7 (List.mem_of_getElem? (i := 4) rfl) rfl), by decide, by decide, by decide +kernel⟩, (inT_7 (List.mem_of_getElem? (i := 2) rfl) rfl), (inT_7 (List.mem_of_getElem? (i := 3) rfl) rfl), by decide⟩
theorem cb_L_129 : CB RL 129 yX10_why cX10_why 3 (some .int) 1 ∧ Cond.instanceMethod yX10_why ∈ TT ∧ Cond.selects (cq 9).1 yX10_why yX10_why ∈ TT ∧ 9 < 10 := ⟨⟨(inT_7 (List.mem_of_getElem? (i := 5) rfl) rfl), (inT_1 (List.mem_of_getElem? (i := 9) rfl) rfl), (inT_7 (List.mem_of_getElem? (i := 8) rfl) rfl), by decide, by decide, by decide +kernel⟩, (inT_7 (List.mem_of_getElem? (i := 6) rfl) rfl), (inT_7 (List.mem_of_getElem? (i := 7) rfl) rfl), by decide⟩
theorem cb_L_133 : CB RL 133 yX10_sheet cX10_sheet 5 (some .int) 3 ∧ Cond.instanceMethod yX10_sheet ∈ TT ∧ Cond.selects (cq 9).1 yX10_sheet yX10_sheet ∈ TT ∧ 9 < 10 := ⟨⟨(inT_7 (List.mem_of_getElem? (i := 9) rfl) rfl), (inT_1 (List.mem_of_getElem? (i := 9) rfl) rfl), (inT_7 (List.mem_of_getElem? (i := 12) rfl) rfl), by decide, by decide, by decide +kernel⟩, (inT_7 (List.mem_of_getElem? (i := 10) rfl) rfl), (inT_7 (List.mem_of_getElem? (i := 11) rfl) rfl), by decide⟩
theorem cb_X10_343 : CB RX10 343 yX10_isSheet cX10_isSheet 1 (some .boolean) 1 ∧ Cond.static yX10_isSheet ∈ TT := ⟨⟨(inT_7 (List.mem_of_getElem? (i := 13) rfl) rfl), (inT_1 (List.mem_of_getElem? (i := 9) rfl) rfl), (inT_7 (List.mem_of_getElem? (i := 15) rfl) rfl), by decide, by decide, by decide +kernel⟩, (inT_7 (List.mem_of_getElem? (i := 14) rfl) rfl)⟩
theorem ko_X10_346 : Cond.constant RX10 346 (-1000000014) ∈ TT := (inT_7 (List.mem_of_getElem? (i := 16) rfl) rfl)
theorem cb_L_137 : CB RL 137 yX10_mark cX10_mark 4 (some .int) 3 ∧ Cond.instanceMethod yX10_mark ∈ TT ∧ Cond.selects (cq 9).1 yX10_mark yX10_mark ∈ TT ∧ 9 < 10 := ⟨⟨(inT_7 (List.mem_of_getElem? (i := 17) rfl) rfl), (inT_1 (List.mem_of_getElem? (i := 9) rfl) rfl), (inT_7 (List.mem_of_getElem? (i := 20) rfl) rfl), by decide, by decide, by decide +kernel⟩, (inT_7 (List.mem_of_getElem? (i := 18) rfl) rfl), (inT_7 (List.mem_of_getElem? (i := 19) rfl) rfl), by decide⟩
theorem ko_X10_347 : Cond.constant RX10 347 (-1000000011) ∈ TT := (inT_7 (List.mem_of_getElem? (i := 21) rfl) rfl)
theorem ko_X10_348 : Cond.constant RX10 348 (-1000000013) ∈ TT := (inT_7 (List.mem_of_getElem? (i := 22) rfl) rfl)
theorem ko_X10_349 : Cond.constant RX10 349 (-99999) ∈ TT := (inT_7 (List.mem_of_getElem? (i := 23) rfl) rfl)
theorem ko_X10_350 : Cond.constant RX10 350 99999 ∈ TT := (inT_7 (List.mem_of_getElem? (i := 24) rfl) rfl)
theorem cb_L_141 : CB RL 141 yX10_pour cX10_pour 6 (some .int) 2 ∧ Cond.instanceMethod yX10_pour ∈ TT ∧ Cond.selects (cq 9).1 yX10_pour yX10_pour ∈ TT ∧ 9 < 10 := ⟨⟨(inT_7 (List.mem_of_getElem? (i := 25) rfl) rfl), (inT_1 (List.mem_of_getElem? (i := 9) rfl) rfl), (inT_7 (List.mem_of_getElem? (i := 28) rfl) rfl), by decide, by decide, by decide +kernel⟩, (inT_7 (List.mem_of_getElem? (i := 26) rfl) rfl), (inT_7 (List.mem_of_getElem? (i := 27) rfl) rfl), by decide⟩
theorem cb_X10_351 : CB RX10 351 yX10_told_ cX10_told_ 3 (some .int) 1 ∧ Cond.instanceMethod yX10_told_ ∈ TT ∧ Cond.selects (cq 9).1 yX10_told_ yX10_told_ ∈ TT ∧ 9 < 10 := ⟨⟨(inT_7 (List.mem_of_getElem? (i := 29) rfl) rfl), (inT_1 (List.mem_of_getElem? (i := 9) rfl) rfl), (inT_7 (List.mem_of_getElem? (i := 32) rfl) rfl), by decide, by decide, by decide +kernel⟩, (inT_7 (List.mem_of_getElem? (i := 31) rfl) rfl), (inS_5 (List.mem_of_getElem? (i := 5) rfl)), by decide⟩
theorem cb_L_145 : CB RL 145 yX10_reads_ cX10_reads_ 6 (some .int) 1 ∧ Cond.instanceMethod yX10_reads_ ∈ TT ∧ Cond.selects (cq 9).1 yX10_reads_ yX10_reads_ ∈ TT ∧ 9 < 10 := ⟨⟨(inT_7 (List.mem_of_getElem? (i := 33) rfl) rfl), (inT_1 (List.mem_of_getElem? (i := 9) rfl) rfl), (inT_7 (List.mem_of_getElem? (i := 36) rfl) rfl), by decide, by decide, by decide +kernel⟩, (inT_7 (List.mem_of_getElem? (i := 34) rfl) rfl), (inT_7 (List.mem_of_getElem? (i := 35) rfl) rfl), by decide⟩
theorem cb_L_150 : CB RL 150 yX10_copy cX10_copy 7 (some .int) 5 ∧ Cond.instanceMethod yX10_copy ∈ TT ∧ Cond.selects (cq 9).1 yX10_copy yX10_copy ∈ TT ∧ 9 < 10 := ⟨⟨(inT_7 (List.mem_of_getElem? (i := 37) rfl) rfl), (inT_1 (List.mem_of_getElem? (i := 9) rfl) rfl), (inT_7 (List.mem_of_getElem? (i := 40) rfl) rfl), by decide, by decide, by decide +kernel⟩, (inT_7 (List.mem_of_getElem? (i := 38) rfl) rfl), (inT_7 (List.mem_of_getElem? (i := 39) rfl) rfl), by decide⟩
theorem cb_L_154 : CB RL 154 yX10_lay_ cX10_lay_ 6 (some .int) 3 ∧ Cond.instanceMethod yX10_lay_ ∈ TT ∧ Cond.selects (cq 9).1 yX10_lay_ yX10_lay_ ∈ TT ∧ 9 < 10 := ⟨⟨(inT_7 (List.mem_of_getElem? (i := 41) rfl) rfl), (inT_1 (List.mem_of_getElem? (i := 9) rfl) rfl), (inT_7 (List.mem_of_getElem? (i := 44) rfl) rfl), by decide, by decide, by decide +kernel⟩, (inT_7 (List.mem_of_getElem? (i := 42) rfl) rfl), (inT_7 (List.mem_of_getElem? (i := 43) rfl) rfl), by decide⟩
theorem cb_X10_354 : CB RX10 354 yX10_isSlot cX10_isSlot 1 (some .boolean) 1 ∧ Cond.static yX10_isSlot ∈ TT := ⟨⟨(inT_7 (List.mem_of_getElem? (i := 45) rfl) rfl), (inT_1 (List.mem_of_getElem? (i := 9) rfl) rfl), (inT_7 (List.mem_of_getElem? (i := 47) rfl) rfl), by decide, by decide, by decide +kernel⟩, (inT_7 (List.mem_of_getElem? (i := 46) rfl) rfl)⟩
theorem cb_L_158 : CB RL 158 yX10_ask cX10_ask 4 (some .int) 2 ∧ Cond.instanceMethod yX10_ask ∈ TT ∧ Cond.selects (cq 9).1 yX10_ask yX10_ask ∈ TT ∧ 9 < 10 := ⟨⟨(inT_7 (List.mem_of_getElem? (i := 48) rfl) rfl), (inT_1 (List.mem_of_getElem? (i := 9) rfl) rfl), (inT_7 (List.mem_of_getElem? (i := 51) rfl) rfl), by decide, by decide, by decide +kernel⟩, (inT_7 (List.mem_of_getElem? (i := 49) rfl) rfl), (inT_7 (List.mem_of_getElem? (i := 50) rfl) rfl), by decide⟩
theorem cb_X10_357 : CB RX10 357 yX10_notHeld cX10_notHeld 3 (some .int) 2 ∧ Cond.instanceMethod yX10_notHeld ∈ TT ∧ Cond.selects (cq 9).1 yX10_notHeld yX10_notHeld ∈ TT ∧ 9 < 10 := ⟨⟨(inT_7 (List.mem_of_getElem? (i := 52) rfl) rfl), (inT_1 (List.mem_of_getElem? (i := 9) rfl) rfl), (inT_7 (List.mem_of_getElem? (i := 55) rfl) rfl), by decide, by decide, by decide +kernel⟩, (inT_7 (List.mem_of_getElem? (i := 54) rfl) rfl), (inS_5 (List.mem_of_getElem? (i := 6) rfl)), by decide⟩
theorem cb_L_162 : CB RL 162 yX10_item cX10_item 5 (some .int) 2 ∧ Cond.instanceMethod yX10_item ∈ TT ∧ Cond.selects (cq 9).1 yX10_item yX10_item ∈ TT ∧ 9 < 10 := ⟨⟨(inT_7 (List.mem_of_getElem? (i := 56) rfl) rfl), (inT_1 (List.mem_of_getElem? (i := 9) rfl) rfl), (inT_7 (List.mem_of_getElem? (i := 59) rfl) rfl), by decide, by decide, by decide +kernel⟩, (inT_7 (List.mem_of_getElem? (i := 57) rfl) rfl), (inT_7 (List.mem_of_getElem? (i := 58) rfl) rfl), by decide⟩
theorem cb_L_166 : CB RL 166 yX10_rest cX10_rest 4 (some .int) 2 ∧ Cond.instanceMethod yX10_rest ∈ TT ∧ Cond.selects (cq 9).1 yX10_rest yX10_rest ∈ TT ∧ 9 < 10 := ⟨⟨(inT_7 (List.mem_of_getElem? (i := 60) rfl) rfl), (inT_1 (List.mem_of_getElem? (i := 9) rfl) rfl), (inT_7 (List.mem_of_getElem? (i := 63) rfl) rfl), by decide, by decide, by decide +kernel⟩, (inT_7 (List.mem_of_getElem? (i := 61) rfl) rfl), (inT_7 (List.mem_of_getElem? (i := 62) rfl) rfl), by decide⟩
theorem cb_L_170 : CB RL 170 yX10_tell cX10_tell 2 (some .int) 1 ∧ Cond.instanceMethod yX10_tell ∈ TT ∧ Cond.selects (cq 9).1 yX10_tell yX10_tell ∈ TT ∧ 9 < 10 := ⟨⟨(inT_7 (List.mem_of_getElem? (i := 64) rfl) rfl), (inT_1 (List.mem_of_getElem? (i := 9) rfl) rfl), (inT_7 (List.mem_of_getElem? (i := 67) rfl) rfl), by decide, by decide, by decide +kernel⟩, (inT_7 (List.mem_of_getElem? (i := 65) rfl) rfl), (inT_7 (List.mem_of_getElem? (i := 66) rfl) rfl), by decide⟩
theorem cb_L_174 : CB RL 174 yX10_check cX10_check 5 (some .int) 2 ∧ Cond.instanceMethod yX10_check ∈ TT ∧ Cond.selects (cq 9).1 yX10_check yX10_check ∈ TT ∧ 9 < 10 := ⟨⟨(inT_7 (List.mem_of_getElem? (i := 68) rfl) rfl), (inT_1 (List.mem_of_getElem? (i := 9) rfl) rfl), (inT_7 (List.mem_of_getElem? (i := 71) rfl) rfl), by decide, by decide, by decide +kernel⟩, (inT_7 (List.mem_of_getElem? (i := 69) rfl) rfl), (inT_7 (List.mem_of_getElem? (i := 70) rfl) rfl), by decide⟩
theorem cb_X10_366 : CB RX10 366 yX10_lay cX10_lay 3 none 2 ∧ Cond.static yX10_lay ∈ TT := ⟨⟨(inT_7 (List.mem_of_getElem? (i := 72) rfl) rfl), (inT_1 (List.mem_of_getElem? (i := 9) rfl) rfl), (inT_7 (List.mem_of_getElem? (i := 74) rfl) rfl), by decide, by decide, by decide +kernel⟩, (inT_7 (List.mem_of_getElem? (i := 73) rfl) rfl)⟩
theorem cb_X10_370 : CB RX10 370 yX10_rightOnes cX10_rightOnes 7 (some .int) 3 ∧ Cond.instanceMethod yX10_rightOnes ∈ TT ∧ Cond.selects (cq 9).1 yX10_rightOnes yX10_rightOnes ∈ TT ∧ 9 < 10 := ⟨⟨(inT_7 (List.mem_of_getElem? (i := 75) rfl) rfl), (inT_1 (List.mem_of_getElem? (i := 9) rfl) rfl), (inT_7 (List.mem_of_getElem? (i := 78) rfl) rfl), by decide, by decide, by decide +kernel⟩, (inT_7 (List.mem_of_getElem? (i := 77) rfl) rfl), (inS_5 (List.mem_of_getElem? (i := 7) rfl)), by decide⟩
theorem cb_L_178 : CB RL 178 yX10_keep cX10_keep 1 (some .int) 0 ∧ Cond.instanceMethod yX10_keep ∈ TT ∧ Cond.selects (cq 9).1 yX10_keep yX10_keep ∈ TT ∧ 9 < 10 := ⟨⟨(inT_7 (List.mem_of_getElem? (i := 79) rfl) rfl), (inT_1 (List.mem_of_getElem? (i := 9) rfl) rfl), (inT_7 (List.mem_of_getElem? (i := 82) rfl) rfl), by decide, by decide, by decide +kernel⟩, (inT_7 (List.mem_of_getElem? (i := 80) rfl) rfl), (inT_7 (List.mem_of_getElem? (i := 81) rfl) rfl), by decide⟩
theorem cb_L_182 : CB RL 182 yX10_back cX10_back 1 (some .int) 0 ∧ Cond.instanceMethod yX10_back ∈ TT ∧ Cond.selects (cq 9).1 yX10_back yX10_back ∈ TT ∧ 9 < 10 := ⟨⟨(inT_7 (List.mem_of_getElem? (i := 83) rfl) rfl), (inT_1 (List.mem_of_getElem? (i := 9) rfl) rfl), (inT_7 (List.mem_of_getElem? (i := 86) rfl) rfl), by decide, by decide, by decide +kernel⟩, (inT_7 (List.mem_of_getElem? (i := 84) rfl) rfl), (inT_7 (List.mem_of_getElem? (i := 85) rfl) rfl), by decide⟩
theorem cb_L_186 : CB RL 186 yX10_count cX10_count 4 (some .int) 1 ∧ Cond.instanceMethod yX10_count ∈ TT ∧ Cond.selects (cq 9).1 yX10_count yX10_count ∈ TT ∧ 9 < 10 := ⟨⟨(inT_7 (List.mem_of_getElem? (i := 87) rfl) rfl), (inT_1 (List.mem_of_getElem? (i := 9) rfl) rfl), (inT_7 (List.mem_of_getElem? (i := 90) rfl) rfl), by decide, by decide, by decide +kernel⟩, (inT_7 (List.mem_of_getElem? (i := 88) rfl) rfl), (inT_7 (List.mem_of_getElem? (i := 89) rfl) rfl), by decide⟩
end

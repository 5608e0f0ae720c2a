section
-- ===== PART A: goes FIRST, ahead of the names: the tables' words, and 'selects' of the private methods out of them =====
/-- a private method of a class that the tables say can be made, by its rows of tables_1 -/
def lw_okq (q : MethodName × Nat) : Prop := (q.1.cls ≠ "java/lang/invoke/MethodHandle" ∧ q.1.cls ≠ "java/lang/invoke/VarHandle") ∧ Cond.instantiable q.1.cls q.2 ∈ tables_1 ∧ Cond.privateMethod q.1 ∈ tables_1 ∧ Cond.instanceMethod q.1 ∈ tables_1
theorem lw_p0 : lw_okq (⟨"BeesSting", "join", "(III)I"⟩, 15) := ⟨⟨by decide +kernel, by decide +kernel⟩, List.mem_of_getElem? (i := 19) (by decide +kernel), List.mem_of_getElem? (i := 417) (by decide +kernel), List.mem_of_getElem? (i := 418) (by decide +kernel)⟩
theorem lw_p1 : lw_okq (⟨"BeesSting$Parish", "lookAround", "()V"⟩, 7) := ⟨⟨by decide +kernel, by decide +kernel⟩, List.mem_of_getElem? (i := 103) (by decide +kernel), List.mem_of_getElem? (i := 425) (by decide +kernel), List.mem_of_getElem? (i := 426) (by decide +kernel)⟩
theorem lw_p2 : lw_okq (⟨"BeesSting", "comes", "(IJ)Z"⟩, 15) := ⟨⟨by decide +kernel, by decide +kernel⟩, List.mem_of_getElem? (i := 19) (by decide +kernel), List.mem_of_getElem? (i := 458) (by decide +kernel), List.mem_of_getElem? (i := 459) (by decide +kernel)⟩
theorem lw_p3 : lw_okq (⟨"BeesSting$Shelves", "isRow", "(I)Z"⟩, 3) := ⟨⟨by decide +kernel, by decide +kernel⟩, List.mem_of_getElem? (i := 59) (by decide +kernel), List.mem_of_getElem? (i := 467) (by decide +kernel), List.mem_of_getElem? (i := 468) (by decide +kernel)⟩
theorem lw_p4 : lw_okq (⟨"BeesSting", "isTold", "(II)Z"⟩, 15) := ⟨⟨by decide +kernel, by decide +kernel⟩, List.mem_of_getElem? (i := 19) (by decide +kernel), List.mem_of_getElem? (i := 481) (by decide +kernel), List.mem_of_getElem? (i := 482) (by decide +kernel)⟩
theorem lw_p5 : lw_okq (⟨"BeesSting", "told", "(II)I"⟩, 15) := ⟨⟨by decide +kernel, by decide +kernel⟩, List.mem_of_getElem? (i := 19) (by decide +kernel), List.mem_of_getElem? (i := 491) (by decide +kernel), List.mem_of_getElem? (i := 492) (by decide +kernel)⟩
theorem lw_p6 : lw_okq (⟨"BeesSting", "tell", "(III)V"⟩, 15) := ⟨⟨by decide +kernel, by decide +kernel⟩, List.mem_of_getElem? (i := 19) (by decide +kernel), List.mem_of_getElem? (i := 505) (by decide +kernel), List.mem_of_getElem? (i := 506) (by decide +kernel)⟩
theorem lw_p7 : lw_okq (⟨"BeesSting$LawReader", "readLine", "()Z"⟩, 5) := ⟨⟨by decide +kernel, by decide +kernel⟩, List.mem_of_getElem? (i := 149) (by decide +kernel), List.mem_of_getElem? (i := 544) (by decide +kernel), List.mem_of_getElem? (i := 545) (by decide +kernel)⟩
theorem lw_p8 : lw_okq (⟨"BeesSting$LawReader", "readEither", "(I)Z"⟩, 5) := ⟨⟨by decide +kernel, by decide +kernel⟩, List.mem_of_getElem? (i := 149) (by decide +kernel), List.mem_of_getElem? (i := 548) (by decide +kernel), List.mem_of_getElem? (i := 549) (by decide +kernel)⟩
theorem lw_p9 : lw_okq (⟨"BeesSting$LawReader", "readBoth", "(I)Z"⟩, 5) := ⟨⟨by decide +kernel, by decide +kernel⟩, List.mem_of_getElem? (i := 149) (by decide +kernel), List.mem_of_getElem? (i := 552) (by decide +kernel), List.mem_of_getElem? (i := 553) (by decide +kernel)⟩
theorem lw_p10 : lw_okq (⟨"BeesSting$LawReader", "readCompared", "(I)Z"⟩, 5) := ⟨⟨by decide +kernel, by decide +kernel⟩, List.mem_of_getElem? (i := 149) (by decide +kernel), List.mem_of_getElem? (i := 556) (by decide +kernel), List.mem_of_getElem? (i := 557) (by decide +kernel)⟩
theorem lw_p11 : lw_okq (⟨"BeesSting$LawReader", "readSum", "(I)Z"⟩, 5) := ⟨⟨by decide +kernel, by decide +kernel⟩, List.mem_of_getElem? (i := 149) (by decide +kernel), List.mem_of_getElem? (i := 560) (by decide +kernel), List.mem_of_getElem? (i := 561) (by decide +kernel)⟩
theorem lw_p12 : lw_okq (⟨"BeesSting$LawReader", "readProduct", "(I)Z"⟩, 5) := ⟨⟨by decide +kernel, by decide +kernel⟩, List.mem_of_getElem? (i := 149) (by decide +kernel), List.mem_of_getElem? (i := 564) (by decide +kernel), List.mem_of_getElem? (i := 565) (by decide +kernel)⟩
theorem lw_p13 : lw_okq (⟨"BeesSting$LawReader", "readOne", "(I)Z"⟩, 5) := ⟨⟨by decide +kernel, by decide +kernel⟩, List.mem_of_getElem? (i := 149) (by decide +kernel), List.mem_of_getElem? (i := 568) (by decide +kernel), List.mem_of_getElem? (i := 569) (by decide +kernel)⟩
theorem lw_p14 : lw_okq (⟨"BeesSting$LawReader", "sign", "()I"⟩, 5) := ⟨⟨by decide +kernel, by decide +kernel⟩, List.mem_of_getElem? (i := 149) (by decide +kernel), List.mem_of_getElem? (i := 572) (by decide +kernel), List.mem_of_getElem? (i := 573) (by decide +kernel)⟩
theorem lw_p15 : lw_okq (⟨"BeesSting$LawReader", "readNumber", "()Z"⟩, 5) := ⟨⟨by decide +kernel, by decide +kernel⟩, List.mem_of_getElem? (i := 149) (by decide +kernel), List.mem_of_getElem? (i := 579) (by decide +kernel), List.mem_of_getElem? (i := 580) (by decide +kernel)⟩
def lw_privs_1 : List (MethodName × Nat) := [(⟨"BeesSting", "join", "(III)I"⟩, 15), (⟨"BeesSting$Parish", "lookAround", "()V"⟩, 7), (⟨"BeesSting", "comes", "(IJ)Z"⟩, 15), (⟨"BeesSting$Shelves", "isRow", "(I)Z"⟩, 3), (⟨"BeesSting", "isTold", "(II)Z"⟩, 15), (⟨"BeesSting", "told", "(II)I"⟩, 15), (⟨"BeesSting", "tell", "(III)V"⟩, 15), (⟨"BeesSting$LawReader", "readLine", "()Z"⟩, 5), (⟨"BeesSting$LawReader", "readEither", "(I)Z"⟩, 5), (⟨"BeesSting$LawReader", "readBoth", "(I)Z"⟩, 5), (⟨"BeesSting$LawReader", "readCompared", "(I)Z"⟩, 5), (⟨"BeesSting$LawReader", "readSum", "(I)Z"⟩, 5), (⟨"BeesSting$LawReader", "readProduct", "(I)Z"⟩, 5), (⟨"BeesSting$LawReader", "readOne", "(I)Z"⟩, 5), (⟨"BeesSting$LawReader", "sign", "()I"⟩, 5), (⟨"BeesSting$LawReader", "readNumber", "()Z"⟩, 5)]
theorem lw_r1 : ∀ q ∈ lw_privs_1, lw_okq q := List.forall_mem_cons.mpr ⟨lw_p0, List.forall_mem_cons.mpr ⟨lw_p1, List.forall_mem_cons.mpr ⟨lw_p2, List.forall_mem_cons.mpr ⟨lw_p3, List.forall_mem_cons.mpr ⟨lw_p4, List.forall_mem_cons.mpr ⟨lw_p5, List.forall_mem_cons.mpr ⟨lw_p6, List.forall_mem_cons.mpr ⟨lw_p7, List.forall_mem_cons.mpr ⟨lw_p8, List.forall_mem_cons.mpr ⟨lw_p9, List.forall_mem_cons.mpr ⟨lw_p10, List.forall_mem_cons.mpr ⟨lw_p11, List.forall_mem_cons.mpr ⟨lw_p12, List.forall_mem_cons.mpr ⟨lw_p13, List.forall_mem_cons.mpr ⟨lw_p14, List.forall_mem_cons.mpr ⟨lw_p15, fun _ h => absurd h List.not_mem_nil⟩⟩⟩⟩⟩⟩⟩⟩⟩⟩⟩⟩⟩⟩⟩⟩
theorem lw_p16 : lw_okq (⟨"BeesSting$LawReader", "write", "(I)Z"⟩, 5) := ⟨⟨by decide +kernel, by decide +kernel⟩, List.mem_of_getElem? (i := 149) (by decide +kernel), List.mem_of_getElem? (i := 583) (by decide +kernel), List.mem_of_getElem? (i := 584) (by decide +kernel)⟩
theorem lw_p17 : lw_okq (⟨"BeesSting$LawReader", "passes", "(I)Z"⟩, 5) := ⟨⟨by decide +kernel, by decide +kernel⟩, List.mem_of_getElem? (i := 149) (by decide +kernel), List.mem_of_getElem? (i := 590) (by decide +kernel), List.mem_of_getElem? (i := 591) (by decide +kernel)⟩
theorem lw_p18 : lw_okq (⟨"BeesSting$Law", "worth", "()I"⟩, 8) := ⟨⟨by decide +kernel, by decide +kernel⟩, List.mem_of_getElem? (i := 143) (by decide +kernel), List.mem_of_getElem? (i := 613) (by decide +kernel), List.mem_of_getElem? (i := 614) (by decide +kernel)⟩
theorem lw_p19 : lw_okq (⟨"BeesSting", "openDay", "(I)I"⟩, 15) := ⟨⟨by decide +kernel, by decide +kernel⟩, List.mem_of_getElem? (i := 19) (by decide +kernel), List.mem_of_getElem? (i := 628) (by decide +kernel), List.mem_of_getElem? (i := 629) (by decide +kernel)⟩
theorem lw_p20 : lw_okq (⟨"BeesSting", "think", "(I)I"⟩, 15) := ⟨⟨by decide +kernel, by decide +kernel⟩, List.mem_of_getElem? (i := 19) (by decide +kernel), List.mem_of_getElem? (i := 645) (by decide +kernel), List.mem_of_getElem? (i := 646) (by decide +kernel)⟩
theorem lw_p21 : lw_okq (⟨"BeesSting$Orders", "take", "(I)V"⟩, 6) := ⟨⟨by decide +kernel, by decide +kernel⟩, List.mem_of_getElem? (i := 272) (by decide +kernel), List.mem_of_getElem? (i := 707) (by decide +kernel), List.mem_of_getElem? (i := 708) (by decide +kernel)⟩
theorem lw_p22 : lw_okq (⟨"BeesSting", "isSpared", "(I)Z"⟩, 15) := ⟨⟨by decide +kernel, by decide +kernel⟩, List.mem_of_getElem? (i := 19) (by decide +kernel), List.mem_of_getElem? (i := 724) (by decide +kernel), List.mem_of_getElem? (i := 725) (by decide +kernel)⟩
theorem lw_p23 : lw_okq (⟨"BeesSting$LastWord", "stillness", "(LBeesSting$Flight;)I"⟩, 6) := ⟨⟨by decide +kernel, by decide +kernel⟩, List.mem_of_getElem? (i := 299) (by decide +kernel), List.mem_of_getElem? (i := 742) (by decide +kernel), List.mem_of_getElem? (i := 743) (by decide +kernel)⟩
theorem lw_p24 : lw_okq (⟨"BeesSting$LastWord", "bit", "(I)I"⟩, 6) := ⟨⟨by decide +kernel, by decide +kernel⟩, List.mem_of_getElem? (i := 299) (by decide +kernel), List.mem_of_getElem? (i := 747) (by decide +kernel), List.mem_of_getElem? (i := 748) (by decide +kernel)⟩
theorem lw_p25 : lw_okq (⟨"BeesSting$Heard", "take", "(I)V"⟩, 9) := ⟨⟨by decide +kernel, by decide +kernel⟩, List.mem_of_getElem? (i := 326) (by decide +kernel), List.mem_of_getElem? (i := 782) (by decide +kernel), List.mem_of_getElem? (i := 783) (by decide +kernel)⟩
theorem lw_p26 : lw_okq (⟨"BeesSting$Acts", "self", "(III)I"⟩, 5) := ⟨⟨by decide +kernel, by decide +kernel⟩, List.mem_of_getElem? (i := 78) (by decide +kernel), List.mem_of_getElem? (i := 856) (by decide +kernel), List.mem_of_getElem? (i := 857) (by decide +kernel)⟩
theorem lw_p27 : lw_okq (⟨"BeesSting$Acts", "from", "(IIII)I"⟩, 5) := ⟨⟨by decide +kernel, by decide +kernel⟩, List.mem_of_getElem? (i := 78) (by decide +kernel), List.mem_of_getElem? (i := 860) (by decide +kernel), List.mem_of_getElem? (i := 861) (by decide +kernel)⟩
theorem lw_p28 : lw_okq (⟨"BeesSting$Acts", "run", "(III)I"⟩, 5) := ⟨⟨by decide +kernel, by decide +kernel⟩, List.mem_of_getElem? (i := 78) (by decide +kernel), List.mem_of_getElem? (i := 870) (by decide +kernel), List.mem_of_getElem? (i := 871) (by decide +kernel)⟩
theorem lw_p29 : lw_okq (⟨"BeesStingModel", "addOne", "(III)I"⟩, 70) := ⟨⟨by decide +kernel, by decide +kernel⟩, List.mem_of_getElem? (i := 948) (by decide +kernel), List.mem_of_getElem? (i := 1176) (by decide +kernel), List.mem_of_getElem? (i := 1177) (by decide +kernel)⟩
theorem lw_p30 : lw_okq (⟨"BeesStingModel", "lays", "(III)V"⟩, 70) := ⟨⟨by decide +kernel, by decide +kernel⟩, List.mem_of_getElem? (i := 948) (by decide +kernel), List.mem_of_getElem? (i := 1192) (by decide +kernel), List.mem_of_getElem? (i := 1193) (by decide +kernel)⟩
theorem lw_p31 : lw_okq (⟨"BeesStingModel", "isPlace", "(II)Z"⟩, 70) := ⟨⟨by decide +kernel, by decide +kernel⟩, List.mem_of_getElem? (i := 948) (by decide +kernel), List.mem_of_getElem? (i := 1204) (by decide +kernel), List.mem_of_getElem? (i := 1205) (by decide +kernel)⟩
def lw_privs_2 : List (MethodName × Nat) := [(⟨"BeesSting$LawReader", "write", "(I)Z"⟩, 5), (⟨"BeesSting$LawReader", "passes", "(I)Z"⟩, 5), (⟨"BeesSting$Law", "worth", "()I"⟩, 8), (⟨"BeesSting", "openDay", "(I)I"⟩, 15), (⟨"BeesSting", "think", "(I)I"⟩, 15), (⟨"BeesSting$Orders", "take", "(I)V"⟩, 6), (⟨"BeesSting", "isSpared", "(I)Z"⟩, 15), (⟨"BeesSting$LastWord", "stillness", "(LBeesSting$Flight;)I"⟩, 6), (⟨"BeesSting$LastWord", "bit", "(I)I"⟩, 6), (⟨"BeesSting$Heard", "take", "(I)V"⟩, 9), (⟨"BeesSting$Acts", "self", "(III)I"⟩, 5), (⟨"BeesSting$Acts", "from", "(IIII)I"⟩, 5), (⟨"BeesSting$Acts", "run", "(III)I"⟩, 5), (⟨"BeesStingModel", "addOne", "(III)I"⟩, 70), (⟨"BeesStingModel", "lays", "(III)V"⟩, 70), (⟨"BeesStingModel", "isPlace", "(II)Z"⟩, 70)]
theorem lw_r2 : ∀ q ∈ lw_privs_2, lw_okq q := List.forall_mem_cons.mpr ⟨lw_p16, List.forall_mem_cons.mpr ⟨lw_p17, List.forall_mem_cons.mpr ⟨lw_p18, List.forall_mem_cons.mpr ⟨lw_p19, List.forall_mem_cons.mpr ⟨lw_p20, List.forall_mem_cons.mpr ⟨lw_p21, List.forall_mem_cons.mpr ⟨lw_p22, List.forall_mem_cons.mpr ⟨lw_p23, List.forall_mem_cons.mpr ⟨lw_p24, List.forall_mem_cons.mpr ⟨lw_p25, List.forall_mem_cons.mpr ⟨lw_p26, List.forall_mem_cons.mpr ⟨lw_p27, List.forall_mem_cons.mpr ⟨lw_p28, List.forall_mem_cons.mpr ⟨lw_p29, List.forall_mem_cons.mpr ⟨lw_p30, List.forall_mem_cons.mpr ⟨lw_p31, fun _ h => absurd h List.not_mem_nil⟩⟩⟩⟩⟩⟩⟩⟩⟩⟩⟩⟩⟩⟩⟩⟩
theorem lw_p32 : lw_okq (⟨"BeesStingModel", "isOne", "(I)Z"⟩, 70) := ⟨⟨by decide +kernel, by decide +kernel⟩, List.mem_of_getElem? (i := 948) (by decide +kernel), List.mem_of_getElem? (i := 1208) (by decide +kernel), List.mem_of_getElem? (i := 1209) (by decide +kernel)⟩
theorem lw_p33 : lw_okq (⟨"BeesStingModel", "changes", "(III)I"⟩, 70) := ⟨⟨by decide +kernel, by decide +kernel⟩, List.mem_of_getElem? (i := 948) (by decide +kernel), List.mem_of_getElem? (i := 1215) (by decide +kernel), List.mem_of_getElem? (i := 1216) (by decide +kernel)⟩
theorem lw_p34 : lw_okq (⟨"BeesStingModel", "valueAt", "(II)I"⟩, 70) := ⟨⟨by decide +kernel, by decide +kernel⟩, List.mem_of_getElem? (i := 948) (by decide +kernel), List.mem_of_getElem? (i := 1219) (by decide +kernel), List.mem_of_getElem? (i := 1220) (by decide +kernel)⟩
theorem lw_p35 : lw_okq (⟨"BeesStingModel", "readText", "(I)I"⟩, 70) := ⟨⟨by decide +kernel, by decide +kernel⟩, List.mem_of_getElem? (i := 948) (by decide +kernel), List.mem_of_getElem? (i := 1235) (by decide +kernel), List.mem_of_getElem? (i := 1236) (by decide +kernel)⟩
theorem lw_p36 : lw_okq (⟨"BeesStingModel", "line", "()V"⟩, 70) := ⟨⟨by decide +kernel, by decide +kernel⟩, List.mem_of_getElem? (i := 948) (by decide +kernel), List.mem_of_getElem? (i := 1239) (by decide +kernel), List.mem_of_getElem? (i := 1240) (by decide +kernel)⟩
theorem lw_p37 : lw_okq (⟨"BeesStingModel", "either", "()V"⟩, 70) := ⟨⟨by decide +kernel, by decide +kernel⟩, List.mem_of_getElem? (i := 948) (by decide +kernel), List.mem_of_getElem? (i := 1243) (by decide +kernel), List.mem_of_getElem? (i := 1244) (by decide +kernel)⟩
theorem lw_p38 : lw_okq (⟨"BeesStingModel", "both", "()V"⟩, 70) := ⟨⟨by decide +kernel, by decide +kernel⟩, List.mem_of_getElem? (i := 948) (by decide +kernel), List.mem_of_getElem? (i := 1247) (by decide +kernel), List.mem_of_getElem? (i := 1248) (by decide +kernel)⟩
theorem lw_p39 : lw_okq (⟨"BeesStingModel", "compared", "()V"⟩, 70) := ⟨⟨by decide +kernel, by decide +kernel⟩, List.mem_of_getElem? (i := 948) (by decide +kernel), List.mem_of_getElem? (i := 1251) (by decide +kernel), List.mem_of_getElem? (i := 1252) (by decide +kernel)⟩
theorem lw_p40 : lw_okq (⟨"BeesStingModel", "sum", "()V"⟩, 70) := ⟨⟨by decide +kernel, by decide +kernel⟩, List.mem_of_getElem? (i := 948) (by decide +kernel), List.mem_of_getElem? (i := 1255) (by decide +kernel), List.mem_of_getElem? (i := 1256) (by decide +kernel)⟩
theorem lw_p41 : lw_okq (⟨"BeesStingModel", "product", "()V"⟩, 70) := ⟨⟨by decide +kernel, by decide +kernel⟩, List.mem_of_getElem? (i := 948) (by decide +kernel), List.mem_of_getElem? (i := 1259) (by decide +kernel), List.mem_of_getElem? (i := 1260) (by decide +kernel)⟩
theorem lw_p42 : lw_okq (⟨"BeesStingModel", "operand", "()V"⟩, 70) := ⟨⟨by decide +kernel, by decide +kernel⟩, List.mem_of_getElem? (i := 948) (by decide +kernel), List.mem_of_getElem? (i := 1263) (by decide +kernel), List.mem_of_getElem? (i := 1264) (by decide +kernel)⟩
theorem lw_p43 : lw_okq (⟨"BeesStingModel", "look", "()I"⟩, 70) := ⟨⟨by decide +kernel, by decide +kernel⟩, List.mem_of_getElem? (i := 948) (by decide +kernel), List.mem_of_getElem? (i := 1267) (by decide +kernel), List.mem_of_getElem? (i := 1268) (by decide +kernel)⟩
theorem lw_p44 : lw_okq (⟨"BeesStingModel", "addStep", "(II)V"⟩, 70) := ⟨⟨by decide +kernel, by decide +kernel⟩, List.mem_of_getElem? (i := 948) (by decide +kernel), List.mem_of_getElem? (i := 1274) (by decide +kernel), List.mem_of_getElem? (i := 1275) (by decide +kernel)⟩
theorem lw_p45 : lw_okq (⟨"BeesStingModel", "opens", "()Z"⟩, 70) := ⟨⟨by decide +kernel, by decide +kernel⟩, List.mem_of_getElem? (i := 948) (by decide +kernel), List.mem_of_getElem? (i := 1278) (by decide +kernel), List.mem_of_getElem? (i := 1279) (by decide +kernel)⟩
theorem lw_p46 : lw_okq (⟨"BeesStingModel", "wrong", "()V"⟩, 70) := ⟨⟨by decide +kernel, by decide +kernel⟩, List.mem_of_getElem? (i := 948) (by decide +kernel), List.mem_of_getElem? (i := 1282) (by decide +kernel), List.mem_of_getElem? (i := 1283) (by decide +kernel)⟩
theorem lw_p47 : lw_okq (⟨"BeesStingModel", "figure", "()V"⟩, 70) := ⟨⟨by decide +kernel, by decide +kernel⟩, List.mem_of_getElem? (i := 948) (by decide +kernel), List.mem_of_getElem? (i := 1286) (by decide +kernel), List.mem_of_getElem? (i := 1287) (by decide +kernel)⟩
def lw_privs_3 : List (MethodName × Nat) := [(⟨"BeesStingModel", "isOne", "(I)Z"⟩, 70), (⟨"BeesStingModel", "changes", "(III)I"⟩, 70), (⟨"BeesStingModel", "valueAt", "(II)I"⟩, 70), (⟨"BeesStingModel", "readText", "(I)I"⟩, 70), (⟨"BeesStingModel", "line", "()V"⟩, 70), (⟨"BeesStingModel", "either", "()V"⟩, 70), (⟨"BeesStingModel", "both", "()V"⟩, 70), (⟨"BeesStingModel", "compared", "()V"⟩, 70), (⟨"BeesStingModel", "sum", "()V"⟩, 70), (⟨"BeesStingModel", "product", "()V"⟩, 70), (⟨"BeesStingModel", "operand", "()V"⟩, 70), (⟨"BeesStingModel", "look", "()I"⟩, 70), (⟨"BeesStingModel", "addStep", "(II)V"⟩, 70), (⟨"BeesStingModel", "opens", "()Z"⟩, 70), (⟨"BeesStingModel", "wrong", "()V"⟩, 70), (⟨"BeesStingModel", "figure", "()V"⟩, 70)]
theorem lw_r3 : ∀ q ∈ lw_privs_3, lw_okq q := List.forall_mem_cons.mpr ⟨lw_p32, List.forall_mem_cons.mpr ⟨lw_p33, List.forall_mem_cons.mpr ⟨lw_p34, List.forall_mem_cons.mpr ⟨lw_p35, List.forall_mem_cons.mpr ⟨lw_p36, List.forall_mem_cons.mpr ⟨lw_p37, List.forall_mem_cons.mpr ⟨lw_p38, List.forall_mem_cons.mpr ⟨lw_p39, List.forall_mem_cons.mpr ⟨lw_p40, List.forall_mem_cons.mpr ⟨lw_p41, List.forall_mem_cons.mpr ⟨lw_p42, List.forall_mem_cons.mpr ⟨lw_p43, List.forall_mem_cons.mpr ⟨lw_p44, List.forall_mem_cons.mpr ⟨lw_p45, List.forall_mem_cons.mpr ⟨lw_p46, List.forall_mem_cons.mpr ⟨lw_p47, fun _ h => absurd h List.not_mem_nil⟩⟩⟩⟩⟩⟩⟩⟩⟩⟩⟩⟩⟩⟩⟩⟩
theorem lw_p48 : lw_okq (⟨"BeesStingModel", "layNow", "(I)V"⟩, 70) := ⟨⟨by decide +kernel, by decide +kernel⟩, List.mem_of_getElem? (i := 948) (by decide +kernel), List.mem_of_getElem? (i := 1294) (by decide +kernel), List.mem_of_getElem? (i := 1295) (by decide +kernel)⟩
theorem lw_p49 : lw_okq (⟨"BeesStingModel", "loudOf", "(I)I"⟩, 70) := ⟨⟨by decide +kernel, by decide +kernel⟩, List.mem_of_getElem? (i := 948) (by decide +kernel), List.mem_of_getElem? (i := 1298) (by decide +kernel), List.mem_of_getElem? (i := 1299) (by decide +kernel)⟩
theorem lw_p50 : lw_okq (⟨"BeesStingModel", "within", "(I)I"⟩, 70) := ⟨⟨by decide +kernel, by decide +kernel⟩, List.mem_of_getElem? (i := 948) (by decide +kernel), List.mem_of_getElem? (i := 1308) (by decide +kernel), List.mem_of_getElem? (i := 1309) (by decide +kernel)⟩
theorem lw_p51 : lw_okq (⟨"BeesStingModel", "gives", "(I)I"⟩, 70) := ⟨⟨by decide +kernel, by decide +kernel⟩, List.mem_of_getElem? (i := 948) (by decide +kernel), List.mem_of_getElem? (i := 1315) (by decide +kernel), List.mem_of_getElem? (i := 1316) (by decide +kernel)⟩
theorem lw_p52 : lw_okq (⟨"BeesStingModel", "worked", "(III)I"⟩, 70) := ⟨⟨by decide +kernel, by decide +kernel⟩, List.mem_of_getElem? (i := 948) (by decide +kernel), List.mem_of_getElem? (i := 1319) (by decide +kernel), List.mem_of_getElem? (i := 1320) (by decide +kernel)⟩
theorem lw_p53 : lw_okq (⟨"BeesStingModel", "rowFault", "(II)I"⟩, 70) := ⟨⟨by decide +kernel, by decide +kernel⟩, List.mem_of_getElem? (i := 948) (by decide +kernel), List.mem_of_getElem? (i := 1333) (by decide +kernel), List.mem_of_getElem? (i := 1334) (by decide +kernel)⟩
theorem lw_p54 : lw_okq (⟨"BeesStingModel", "goDay", "(II)V"⟩, 70) := ⟨⟨by decide +kernel, by decide +kernel⟩, List.mem_of_getElem? (i := 948) (by decide +kernel), List.mem_of_getElem? (i := 1337) (by decide +kernel), List.mem_of_getElem? (i := 1338) (by decide +kernel)⟩
theorem lw_p55 : lw_okq (⟨"BeesStingModel", "longOf", "(II)I"⟩, 70) := ⟨⟨by decide +kernel, by decide +kernel⟩, List.mem_of_getElem? (i := 948) (by decide +kernel), List.mem_of_getElem? (i := 1341) (by decide +kernel), List.mem_of_getElem? (i := 1342) (by decide +kernel)⟩
theorem lw_p56 : lw_okq (⟨"BeesStingModel", "at", "(II)I"⟩, 70) := ⟨⟨by decide +kernel, by decide +kernel⟩, List.mem_of_getElem? (i := 948) (by decide +kernel), List.mem_of_getElem? (i := 1345) (by decide +kernel), List.mem_of_getElem? (i := 1346) (by decide +kernel)⟩
theorem lw_p57 : lw_okq (⟨"BeesStingModel", "goSaying", "(IZ)I"⟩, 70) := ⟨⟨by decide +kernel, by decide +kernel⟩, List.mem_of_getElem? (i := 948) (by decide +kernel), List.mem_of_getElem? (i := 1349) (by decide +kernel), List.mem_of_getElem? (i := 1350) (by decide +kernel)⟩
theorem lw_p58 : lw_okq (⟨"BeesStingModel", "flies", "(I)V"⟩, 70) := ⟨⟨by decide +kernel, by decide +kernel⟩, List.mem_of_getElem? (i := 948) (by decide +kernel), List.mem_of_getElem? (i := 1353) (by decide +kernel), List.mem_of_getElem? (i := 1354) (by decide +kernel)⟩
theorem lw_p59 : lw_okq (⟨"BeesStingModel", "stungBehind", "(II)I"⟩, 70) := ⟨⟨by decide +kernel, by decide +kernel⟩, List.mem_of_getElem? (i := 948) (by decide +kernel), List.mem_of_getElem? (i := 1372) (by decide +kernel), List.mem_of_getElem? (i := 1373) (by decide +kernel)⟩
theorem lw_p60 : lw_okq (⟨"BeesStingModel", "goOrders", "(IIII)V"⟩, 70) := ⟨⟨by decide +kernel, by decide +kernel⟩, List.mem_of_getElem? (i := 948) (by decide +kernel), List.mem_of_getElem? (i := 1384) (by decide +kernel), List.mem_of_getElem? (i := 1385) (by decide +kernel)⟩
theorem lw_p61 : lw_okq (⟨"BeesStingModel", "areTwo", "(I)Z"⟩, 70) := ⟨⟨by decide +kernel, by decide +kernel⟩, List.mem_of_getElem? (i := 948) (by decide +kernel), List.mem_of_getElem? (i := 1396) (by decide +kernel), List.mem_of_getElem? (i := 1397) (by decide +kernel)⟩
theorem lw_p62 : lw_okq (⟨"BeesStingModel", "lastBy", "(IZIZ)I"⟩, 70) := ⟨⟨by decide +kernel, by decide +kernel⟩, List.mem_of_getElem? (i := 948) (by decide +kernel), List.mem_of_getElem? (i := 1400) (by decide +kernel), List.mem_of_getElem? (i := 1401) (by decide +kernel)⟩
theorem lw_p63 : lw_okq (⟨"BeesStingModel", "bitOf", "(I)I"⟩, 70) := ⟨⟨by decide +kernel, by decide +kernel⟩, List.mem_of_getElem? (i := 948) (by decide +kernel), List.mem_of_getElem? (i := 1404) (by decide +kernel), List.mem_of_getElem? (i := 1405) (by decide +kernel)⟩
def lw_privs_4 : List (MethodName × Nat) := [(⟨"BeesStingModel", "layNow", "(I)V"⟩, 70), (⟨"BeesStingModel", "loudOf", "(I)I"⟩, 70), (⟨"BeesStingModel", "within", "(I)I"⟩, 70), (⟨"BeesStingModel", "gives", "(I)I"⟩, 70), (⟨"BeesStingModel", "worked", "(III)I"⟩, 70), (⟨"BeesStingModel", "rowFault", "(II)I"⟩, 70), (⟨"BeesStingModel", "goDay", "(II)V"⟩, 70), (⟨"BeesStingModel", "longOf", "(II)I"⟩, 70), (⟨"BeesStingModel", "at", "(II)I"⟩, 70), (⟨"BeesStingModel", "goSaying", "(IZ)I"⟩, 70), (⟨"BeesStingModel", "flies", "(I)V"⟩, 70), (⟨"BeesStingModel", "stungBehind", "(II)I"⟩, 70), (⟨"BeesStingModel", "goOrders", "(IIII)V"⟩, 70), (⟨"BeesStingModel", "areTwo", "(I)Z"⟩, 70), (⟨"BeesStingModel", "lastBy", "(IZIZ)I"⟩, 70), (⟨"BeesStingModel", "bitOf", "(I)I"⟩, 70)]
theorem lw_r4 : ∀ q ∈ lw_privs_4, lw_okq q := List.forall_mem_cons.mpr ⟨lw_p48, List.forall_mem_cons.mpr ⟨lw_p49, List.forall_mem_cons.mpr ⟨lw_p50, List.forall_mem_cons.mpr ⟨lw_p51, List.forall_mem_cons.mpr ⟨lw_p52, List.forall_mem_cons.mpr ⟨lw_p53, List.forall_mem_cons.mpr ⟨lw_p54, List.forall_mem_cons.mpr ⟨lw_p55, List.forall_mem_cons.mpr ⟨lw_p56, List.forall_mem_cons.mpr ⟨lw_p57, List.forall_mem_cons.mpr ⟨lw_p58, List.forall_mem_cons.mpr ⟨lw_p59, List.forall_mem_cons.mpr ⟨lw_p60, List.forall_mem_cons.mpr ⟨lw_p61, List.forall_mem_cons.mpr ⟨lw_p62, List.forall_mem_cons.mpr ⟨lw_p63, fun _ h => absurd h List.not_mem_nil⟩⟩⟩⟩⟩⟩⟩⟩⟩⟩⟩⟩⟩⟩⟩⟩
theorem lw_p64 : lw_okq (⟨"BeesStingModel", "lastOf", "(IZI)I"⟩, 70) := ⟨⟨by decide +kernel, by decide +kernel⟩, List.mem_of_getElem? (i := 948) (by decide +kernel), List.mem_of_getElem? (i := 1408) (by decide +kernel), List.mem_of_getElem? (i := 1409) (by decide +kernel)⟩
theorem lw_p65 : lw_okq (⟨"BeesStingModel", "lastStill", "(I)I"⟩, 70) := ⟨⟨by decide +kernel, by decide +kernel⟩, List.mem_of_getElem? (i := 948) (by decide +kernel), List.mem_of_getElem? (i := 1412) (by decide +kernel), List.mem_of_getElem? (i := 1413) (by decide +kernel)⟩
theorem lw_p66 : lw_okq (⟨"BeesStingModel", "takes", "(I)I"⟩, 70) := ⟨⟨by decide +kernel, by decide +kernel⟩, List.mem_of_getElem? (i := 948) (by decide +kernel), List.mem_of_getElem? (i := 1424) (by decide +kernel), List.mem_of_getElem? (i := 1425) (by decide +kernel)⟩
theorem lw_p67 : lw_okq (⟨"BeesStingModel", "goHeard", "(II)V"⟩, 70) := ⟨⟨by decide +kernel, by decide +kernel⟩, List.mem_of_getElem? (i := 948) (by decide +kernel), List.mem_of_getElem? (i := 1436) (by decide +kernel), List.mem_of_getElem? (i := 1437) (by decide +kernel)⟩
theorem lw_p68 : lw_okq (⟨"BeesStingModel", "whoseCell", "()I"⟩, 70) := ⟨⟨by decide +kernel, by decide +kernel⟩, List.mem_of_getElem? (i := 948) (by decide +kernel), List.mem_of_getElem? (i := 1440) (by decide +kernel), List.mem_of_getElem? (i := 1441) (by decide +kernel)⟩
theorem lw_p69 : lw_okq (⟨"BeesStingModel", "isBody", "(I)Z"⟩, 70) := ⟨⟨by decide +kernel, by decide +kernel⟩, List.mem_of_getElem? (i := 948) (by decide +kernel), List.mem_of_getElem? (i := 1485) (by decide +kernel), List.mem_of_getElem? (i := 1486) (by decide +kernel)⟩
theorem lw_p70 : lw_okq (⟨"BeesStingModel", "flying", "(II)I"⟩, 70) := ⟨⟨by decide +kernel, by decide +kernel⟩, List.mem_of_getElem? (i := 948) (by decide +kernel), List.mem_of_getElem? (i := 1489) (by decide +kernel), List.mem_of_getElem? (i := 1490) (by decide +kernel)⟩
theorem lw_p71 : lw_okq (⟨"BeesStingModel", "ran", "(I)V"⟩, 70) := ⟨⟨by decide +kernel, by decide +kernel⟩, List.mem_of_getElem? (i := 948) (by decide +kernel), List.mem_of_getElem? (i := 1496) (by decide +kernel), List.mem_of_getElem? (i := 1497) (by decide +kernel)⟩
theorem lw_p72 : lw_okq (⟨"BeesStingModel", "plainFlies", "(II)I"⟩, 70) := ⟨⟨by decide +kernel, by decide +kernel⟩, List.mem_of_getElem? (i := 948) (by decide +kernel), List.mem_of_getElem? (i := 1500) (by decide +kernel), List.mem_of_getElem? (i := 1501) (by decide +kernel)⟩
theorem lw_p73 : lw_okq (⟨"BeesStingModel", "coatFlies", "(II)I"⟩, 70) := ⟨⟨by decide +kernel, by decide +kernel⟩, List.mem_of_getElem? (i := 948) (by decide +kernel), List.mem_of_getElem? (i := 1504) (by decide +kernel), List.mem_of_getElem? (i := 1505) (by decide +kernel)⟩
theorem lw_p74 : lw_okq (⟨"BeesStingModel", "stinging", "(II)I"⟩, 70) := ⟨⟨by decide +kernel, by decide +kernel⟩, List.mem_of_getElem? (i := 948) (by decide +kernel), List.mem_of_getElem? (i := 1508) (by decide +kernel), List.mem_of_getElem? (i := 1509) (by decide +kernel)⟩
theorem lw_p75 : lw_okq (⟨"BeesStingModel", "brookStings", "(II)I"⟩, 70) := ⟨⟨by decide +kernel, by decide +kernel⟩, List.mem_of_getElem? (i := 948) (by decide +kernel), List.mem_of_getElem? (i := 1512) (by decide +kernel), List.mem_of_getElem? (i := 1513) (by decide +kernel)⟩
theorem lw_p76 : lw_okq (⟨"BeesStingModel", "plainStings", "(II)I"⟩, 70) := ⟨⟨by decide +kernel, by decide +kernel⟩, List.mem_of_getElem? (i := 948) (by decide +kernel), List.mem_of_getElem? (i := 1516) (by decide +kernel), List.mem_of_getElem? (i := 1517) (by decide +kernel)⟩
theorem lw_p77 : lw_okq (⟨"BeesStingModel", "settling", "(II)I"⟩, 70) := ⟨⟨by decide +kernel, by decide +kernel⟩, List.mem_of_getElem? (i := 948) (by decide +kernel), List.mem_of_getElem? (i := 1520) (by decide +kernel), List.mem_of_getElem? (i := 1521) (by decide +kernel)⟩
theorem lw_p78 : lw_okq (⟨"BeesStingModel", "courtSettles", "(II)I"⟩, 70) := ⟨⟨by decide +kernel, by decide +kernel⟩, List.mem_of_getElem? (i := 948) (by decide +kernel), List.mem_of_getElem? (i := 1524) (by decide +kernel), List.mem_of_getElem? (i := 1525) (by decide +kernel)⟩
theorem lw_p79 : lw_okq (⟨"BeesStingModel", "plainSettles", "(II)I"⟩, 70) := ⟨⟨by decide +kernel, by decide +kernel⟩, List.mem_of_getElem? (i := 948) (by decide +kernel), List.mem_of_getElem? (i := 1528) (by decide +kernel), List.mem_of_getElem? (i := 1529) (by decide +kernel)⟩
def lw_privs_5 : List (MethodName × Nat) := [(⟨"BeesStingModel", "lastOf", "(IZI)I"⟩, 70), (⟨"BeesStingModel", "lastStill", "(I)I"⟩, 70), (⟨"BeesStingModel", "takes", "(I)I"⟩, 70), (⟨"BeesStingModel", "goHeard", "(II)V"⟩, 70), (⟨"BeesStingModel", "whoseCell", "()I"⟩, 70), (⟨"BeesStingModel", "isBody", "(I)Z"⟩, 70), (⟨"BeesStingModel", "flying", "(II)I"⟩, 70), (⟨"BeesStingModel", "ran", "(I)V"⟩, 70), (⟨"BeesStingModel", "plainFlies", "(II)I"⟩, 70), (⟨"BeesStingModel", "coatFlies", "(II)I"⟩, 70), (⟨"BeesStingModel", "stinging", "(II)I"⟩, 70), (⟨"BeesStingModel", "brookStings", "(II)I"⟩, 70), (⟨"BeesStingModel", "plainStings", "(II)I"⟩, 70), (⟨"BeesStingModel", "settling", "(II)I"⟩, 70), (⟨"BeesStingModel", "courtSettles", "(II)I"⟩, 70), (⟨"BeesStingModel", "plainSettles", "(II)I"⟩, 70)]
theorem lw_r5 : ∀ q ∈ lw_privs_5, lw_okq q := List.forall_mem_cons.mpr ⟨lw_p64, List.forall_mem_cons.mpr ⟨lw_p65, List.forall_mem_cons.mpr ⟨lw_p66, List.forall_mem_cons.mpr ⟨lw_p67, List.forall_mem_cons.mpr ⟨lw_p68, List.forall_mem_cons.mpr ⟨lw_p69, List.forall_mem_cons.mpr ⟨lw_p70, List.forall_mem_cons.mpr ⟨lw_p71, List.forall_mem_cons.mpr ⟨lw_p72, List.forall_mem_cons.mpr ⟨lw_p73, List.forall_mem_cons.mpr ⟨lw_p74, List.forall_mem_cons.mpr ⟨lw_p75, List.forall_mem_cons.mpr ⟨lw_p76, List.forall_mem_cons.mpr ⟨lw_p77, List.forall_mem_cons.mpr ⟨lw_p78, List.forall_mem_cons.mpr ⟨lw_p79, fun _ h => absurd h List.not_mem_nil⟩⟩⟩⟩⟩⟩⟩⟩⟩⟩⟩⟩⟩⟩⟩⟩
theorem lw_p80 : lw_okq (⟨"BeesStingModel", "telling", "(II)I"⟩, 70) := ⟨⟨by decide +kernel, by decide +kernel⟩, List.mem_of_getElem? (i := 948) (by decide +kernel), List.mem_of_getElem? (i := 1532) (by decide +kernel), List.mem_of_getElem? (i := 1533) (by decide +kernel)⟩
theorem lw_p81 : lw_okq (⟨"BeesStingModel", "plainTells", "(II)I"⟩, 70) := ⟨⟨by decide +kernel, by decide +kernel⟩, List.mem_of_getElem? (i := 948) (by decide +kernel), List.mem_of_getElem? (i := 1536) (by decide +kernel), List.mem_of_getElem? (i := 1537) (by decide +kernel)⟩
theorem lw_p82 : lw_okq (⟨"BeesStingModel", "whyNoPlace", "(II)I"⟩, 70) := ⟨⟨by decide +kernel, by decide +kernel⟩, List.mem_of_getElem? (i := 948) (by decide +kernel), List.mem_of_getElem? (i := 1556) (by decide +kernel), List.mem_of_getElem? (i := 1557) (by decide +kernel)⟩
def lw_privs_6 : List (MethodName × Nat) := [(⟨"BeesStingModel", "telling", "(II)I"⟩, 70), (⟨"BeesStingModel", "plainTells", "(II)I"⟩, 70), (⟨"BeesStingModel", "whyNoPlace", "(II)I"⟩, 70)]
theorem lw_r6 : ∀ q ∈ lw_privs_6, lw_okq q := List.forall_mem_cons.mpr ⟨lw_p80, List.forall_mem_cons.mpr ⟨lw_p81, List.forall_mem_cons.mpr ⟨lw_p82, fun _ h => absurd h List.not_mem_nil⟩⟩⟩
def lw_privs : List (MethodName × Nat) := lw_privs_1 ++ (lw_privs_2 ++ (lw_privs_3 ++ (lw_privs_4 ++ (lw_privs_5 ++ (lw_privs_6)))))
def lw_tbl : List Cond := k2_sels lw_privs ++ tables_1
theorem lw_privs_ok : ∀ q ∈ lw_privs, lw_okq q := by
  show ∀ q ∈ lw_privs_1 ++ (lw_privs_2 ++ (lw_privs_3 ++ (lw_privs_4 ++ (lw_privs_5 ++ (lw_privs_6))))), lw_okq q
  exact List.forall_mem_append.mpr ⟨lw_r1, List.forall_mem_append.mpr ⟨lw_r2, List.forall_mem_append.mpr ⟨lw_r3, List.forall_mem_append.mpr ⟨lw_r4, List.forall_mem_append.mpr ⟨lw_r5, lw_r6⟩⟩⟩⟩⟩
end
section
theorem mt1 : ∀ w ∈ tables_1_1, w ∈ lw_tbl := fun w h => List.mem_append_right _ (by unfold tables_1; exact List.mem_append_left _ h)
theorem mt2 : ∀ w ∈ tables_1_2, w ∈ lw_tbl := fun w h => List.mem_append_right _ (by unfold tables_1; exact List.mem_append_right _ (List.mem_append_left _ h))
theorem mt3 : ∀ w ∈ tables_1_3, w ∈ lw_tbl := fun w h => List.mem_append_right _ (by unfold tables_1; exact List.mem_append_right _ (List.mem_append_right _ (List.mem_append_left _ h)))
theorem mt4 : ∀ w ∈ tables_1_4, w ∈ lw_tbl := fun w h => List.mem_append_right _ (by unfold tables_1; exact List.mem_append_right _ (List.mem_append_right _ (List.mem_append_right _ (List.mem_append_left _ h))))
theorem mt5 : ∀ w ∈ tables_1_5, w ∈ lw_tbl := fun w h => List.mem_append_right _ (by unfold tables_1; exact List.mem_append_right _ (List.mem_append_right _ (List.mem_append_right _ (List.mem_append_right _ (List.mem_append_left _ h)))))
theorem mt6 : ∀ w ∈ tables_1_6, w ∈ lw_tbl := fun w h => List.mem_append_right _ (by unfold tables_1; exact List.mem_append_right _ (List.mem_append_right _ (List.mem_append_right _ (List.mem_append_right _ (List.mem_append_right _ (List.mem_append_left _ h))))))
theorem mt7 : ∀ w ∈ tables_1_7, w ∈ lw_tbl := fun w h => List.mem_append_right _ (by unfold tables_1; exact List.mem_append_right _ (List.mem_append_right _ (List.mem_append_right _ (List.mem_append_right _ (List.mem_append_right _ (List.mem_append_right _ (h)))))))
def gw : List Cond := lw_tbl.filter goodWord
theorem q1_0 : (Jvm.Cond.initialized "BeesStingLaw") ∈ gw := List.mem_filter.mpr ⟨mt1 _ (List.mem_of_getElem? (i := 0) rfl), rfl⟩
theorem q1_1 : (Jvm.Cond.initialized "BeesSting") ∈ gw := List.mem_filter.mpr ⟨mt1 _ (List.mem_of_getElem? (i := 1) rfl), rfl⟩
theorem q1_2 : (Jvm.Cond.initialized "BeesSting$Changes") ∈ gw := List.mem_filter.mpr ⟨mt1 _ (List.mem_of_getElem? (i := 2) rfl), rfl⟩
theorem q1_3 : (Jvm.Cond.initialized "BeesSting$Shelves") ∈ gw := List.mem_filter.mpr ⟨mt1 _ (List.mem_of_getElem? (i := 3) rfl), rfl⟩
theorem q1_4 : (Jvm.Cond.initialized "BeesSting$Acts") ∈ gw := List.mem_filter.mpr ⟨mt1 _ (List.mem_of_getElem? (i := 4) rfl), rfl⟩
theorem q1_5 : (Jvm.Cond.initialized "BeesSting$Parish") ∈ gw := List.mem_filter.mpr ⟨mt1 _ (List.mem_of_getElem? (i := 5) rfl), rfl⟩
theorem q1_6 : (Jvm.Cond.initialized "BeesSting$Law") ∈ gw := List.mem_filter.mpr ⟨mt1 _ (List.mem_of_getElem? (i := 6) rfl), rfl⟩
theorem q1_7 : (Jvm.Cond.initialized "BeesSting$LawReader") ∈ gw := List.mem_filter.mpr ⟨mt1 _ (List.mem_of_getElem? (i := 7) rfl), rfl⟩
theorem q1_8 : (Jvm.Cond.initialized "BeesSting$Day") ∈ gw := List.mem_filter.mpr ⟨mt1 _ (List.mem_of_getElem? (i := 8) rfl), rfl⟩
theorem q1_9 : (Jvm.Cond.initialized "BeesSting$Flight") ∈ gw := List.mem_filter.mpr ⟨mt1 _ (List.mem_of_getElem? (i := 9) rfl), rfl⟩
theorem q1_10 : (Jvm.Cond.initialized "BeesSting$Orders") ∈ gw := List.mem_filter.mpr ⟨mt1 _ (List.mem_of_getElem? (i := 10) rfl), rfl⟩
theorem q1_11 : (Jvm.Cond.initialized "BeesSting$LastWord") ∈ gw := List.mem_filter.mpr ⟨mt1 _ (List.mem_of_getElem? (i := 11) rfl), rfl⟩
theorem q1_12 : (Jvm.Cond.initialized "BeesSting$Heard") ∈ gw := List.mem_filter.mpr ⟨mt1 _ (List.mem_of_getElem? (i := 12) rfl), rfl⟩
theorem q1_13 : (Jvm.Cond.initialized "BeesStingModel") ∈ gw := List.mem_filter.mpr ⟨mt1 _ (List.mem_of_getElem? (i := 13) rfl), rfl⟩
theorem q1_14 : (Jvm.Cond.initialized "java/lang/Integer") ∈ gw := List.mem_filter.mpr ⟨mt1 _ (List.mem_of_getElem? (i := 14) rfl), rfl⟩
theorem q1_15 : (Jvm.Cond.initialized "java/lang/System") ∈ gw := List.mem_filter.mpr ⟨mt1 _ (List.mem_of_getElem? (i := 15) rfl), rfl⟩
theorem q1_16 : (Jvm.Cond.initialized "java/lang/Math") ∈ gw := List.mem_filter.mpr ⟨mt1 _ (List.mem_of_getElem? (i := 16) rfl), rfl⟩
theorem q1_17 : (Jvm.Cond.initialized "java/util/Arrays") ∈ gw := List.mem_filter.mpr ⟨mt1 _ (List.mem_of_getElem? (i := 17) rfl), rfl⟩
theorem q1_18 : (Jvm.Cond.classLink "BeesStingLaw" (7 : Nat) "BeesSting") ∈ gw := List.mem_filter.mpr ⟨mt1 _ (List.mem_of_getElem? (i := 18) rfl), rfl⟩
theorem q1_19 : (Jvm.Cond.instantiable "BeesSting" (15 : Nat)) ∈ gw := List.mem_filter.mpr ⟨mt1 _ (List.mem_of_getElem? (i := 19) rfl), rfl⟩
theorem q1_20 : (Jvm.Cond.methodLink "BeesStingLaw" (9 : Nat) ({ cls := "BeesSting", name := "<init>", desc := "()V" } : Jvm.MethodName)) ∈ gw := List.mem_filter.mpr ⟨mt1 _ (List.mem_of_getElem? (i := 20) rfl), rfl⟩
theorem q1_21 : (Jvm.Cond.instanceMethod ({ cls := "BeesSting", name := "<init>", desc := "()V" } : Jvm.MethodName)) ∈ gw := List.mem_filter.mpr ⟨mt1 _ (List.mem_of_getElem? (i := 21) rfl), rfl⟩
theorem q1_22 : (Jvm.Cond.code ({ cls := "BeesSting", name := "<init>", desc := "()V" } : Jvm.MethodName) prog_1_method_1_code (6 : Nat) (Option.none : Option Jvm.ClassFile.FieldType)) ∈ gw := List.mem_filter.mpr ⟨mt1 _ (List.mem_of_getElem? (i := 22) rfl), rfl⟩
theorem q1_23 : (Jvm.Cond.methodLink "BeesSting" (1 : Nat) ({ cls := "java/lang/Object", name := "<init>", desc := "()V" } : Jvm.MethodName)) ∈ gw := List.mem_filter.mpr ⟨mt1 _ (List.mem_of_getElem? (i := 23) rfl), rfl⟩
theorem q1_24 : (Jvm.Cond.instanceMethod ({ cls := "java/lang/Object", name := "<init>", desc := "()V" } : Jvm.MethodName)) ∈ gw := List.mem_filter.mpr ⟨mt1 _ (List.mem_of_getElem? (i := 24) rfl), rfl⟩
theorem q1_25 : (Jvm.Cond.code ({ cls := "java/lang/Object", name := "<init>", desc := "()V" } : Jvm.MethodName) object_method_1_code (1 : Nat) (Option.none : Option Jvm.ClassFile.FieldType)) ∈ gw := List.mem_filter.mpr ⟨mt1 _ (List.mem_of_getElem? (i := 25) rfl), rfl⟩
theorem q1_26 : (Jvm.Cond.classLink "BeesSting" (7 : Nat) "BeesSting$Changes") ∈ gw := List.mem_filter.mpr ⟨mt1 _ (List.mem_of_getElem? (i := 26) rfl), rfl⟩
theorem q1_27 : (Jvm.Cond.instantiable "BeesSting$Changes" (6 : Nat)) ∈ gw := List.mem_filter.mpr ⟨mt1 _ (List.mem_of_getElem? (i := 27) rfl), rfl⟩
theorem q1_28 : (Jvm.Cond.methodLinkNest "BeesSting" (9 : Nat) ({ cls := "BeesSting$Changes", name := "<init>", desc := "()V" } : Jvm.MethodName) "BeesSting") ∈ lw_tbl := mt1 _ (List.mem_of_getElem? (i := 28) rfl)
theorem q1_29 : (Jvm.Cond.instanceMethod ({ cls := "BeesSting$Changes", name := "<init>", desc := "()V" } : Jvm.MethodName)) ∈ gw := List.mem_filter.mpr ⟨mt1 _ (List.mem_of_getElem? (i := 29) rfl), rfl⟩
theorem q1_30 : (Jvm.Cond.code ({ cls := "BeesSting$Changes", name := "<init>", desc := "()V" } : Jvm.MethodName) prog_3_method_1_code (1 : Nat) (Option.none : Option Jvm.ClassFile.FieldType)) ∈ gw := List.mem_filter.mpr ⟨mt1 _ (List.mem_of_getElem? (i := 30) rfl), rfl⟩
theorem q1_31 : (Jvm.Cond.methodLink "BeesSting$Changes" (1 : Nat) ({ cls := "java/lang/Object", name := "<init>", desc := "()V" } : Jvm.MethodName)) ∈ gw := List.mem_filter.mpr ⟨mt1 _ (List.mem_of_getElem? (i := 31) rfl), rfl⟩
theorem q1_32 : (Jvm.Cond.fieldLink "BeesSting$Changes" (9 : Nat) "BeesSting$Changes" "number" "[I") ∈ gw := List.mem_filter.mpr ⟨mt1 _ (List.mem_of_getElem? (i := 32) rfl), rfl⟩
theorem q1_33 : (Jvm.Cond.fieldLink "BeesSting" (300 : Nat) "BeesSting$Changes" "number" "[I") ∈ gw := List.mem_filter.mpr ⟨mt1 _ (List.mem_of_getElem? (i := 33) rfl), rfl⟩
theorem q1_34 : (Jvm.Cond.fieldLink "BeesSting$Changes" (13 : Nat) "BeesSting$Changes" "what" "[I") ∈ gw := List.mem_filter.mpr ⟨mt1 _ (List.mem_of_getElem? (i := 34) rfl), rfl⟩
theorem q1_35 : (Jvm.Cond.fieldLink "BeesSting" (303 : Nat) "BeesSting$Changes" "what" "[I") ∈ gw := List.mem_filter.mpr ⟨mt1 _ (List.mem_of_getElem? (i := 35) rfl), rfl⟩
theorem q1_36 : (Jvm.Cond.fieldLink "BeesSting$Changes" (16 : Nat) "BeesSting$Changes" "was" "[I") ∈ gw := List.mem_filter.mpr ⟨mt1 _ (List.mem_of_getElem? (i := 36) rfl), rfl⟩
theorem q1_37 : (Jvm.Cond.fieldLink "BeesSting" (306 : Nat) "BeesSting$Changes" "was" "[I") ∈ gw := List.mem_filter.mpr ⟨mt1 _ (List.mem_of_getElem? (i := 37) rfl), rfl⟩
theorem q1_38 : (Jvm.Cond.fieldLink "BeesSting$Changes" (19 : Nat) "BeesSting$Changes" "becomes" "[I") ∈ gw := List.mem_filter.mpr ⟨mt1 _ (List.mem_of_getElem? (i := 38) rfl), rfl⟩
theorem q1_39 : (Jvm.Cond.fieldLink "BeesSting" (312 : Nat) "BeesSting$Changes" "becomes" "[I") ∈ gw := List.mem_filter.mpr ⟨mt1 _ (List.mem_of_getElem? (i := 39) rfl), rfl⟩
theorem q1_40 : (Jvm.Cond.fieldLink "BeesSting$Changes" (22 : Nat) "BeesSting$Changes" "done" "I") ∈ gw := List.mem_filter.mpr ⟨mt1 _ (List.mem_of_getElem? (i := 40) rfl), rfl⟩
theorem q1_41 : (Jvm.Cond.fieldLink "BeesSting" (297 : Nat) "BeesSting$Changes" "done" "I") ∈ gw := List.mem_filter.mpr ⟨mt1 _ (List.mem_of_getElem? (i := 41) rfl), rfl⟩
theorem q1_42 : (Jvm.Cond.fieldLink "BeesSting$Changes" (26 : Nat) "BeesSting$Changes" "all" "I") ∈ gw := List.mem_filter.mpr ⟨mt1 _ (List.mem_of_getElem? (i := 42) rfl), rfl⟩
theorem q1_43 : (Jvm.Cond.fieldLink "BeesSting" (309 : Nat) "BeesSting$Changes" "all" "I") ∈ gw := List.mem_filter.mpr ⟨mt1 _ (List.mem_of_getElem? (i := 43) rfl), rfl⟩
theorem q1_44 : (Jvm.Cond.laysFinal "BeesSting$Changes" "BeesSting$Changes" "number" "[I") ∈ gw := List.mem_filter.mpr ⟨mt1 _ (List.mem_of_getElem? (i := 44) rfl), rfl⟩
theorem q1_45 : (Jvm.Cond.soleField "BeesSting$Changes" "number") ∈ gw := List.mem_filter.mpr ⟨mt1 _ (List.mem_of_getElem? (i := 45) rfl), rfl⟩
theorem q1_46 : (Jvm.Cond.laysFinal "BeesSting$Changes" "BeesSting$Changes" "what" "[I") ∈ gw := List.mem_filter.mpr ⟨mt1 _ (List.mem_of_getElem? (i := 46) rfl), rfl⟩
theorem q1_47 : (Jvm.Cond.soleField "BeesSting$Changes" "what") ∈ gw := List.mem_filter.mpr ⟨mt1 _ (List.mem_of_getElem? (i := 47) rfl), rfl⟩
theorem q1_48 : (Jvm.Cond.laysFinal "BeesSting$Changes" "BeesSting$Changes" "was" "[I") ∈ gw := List.mem_filter.mpr ⟨mt1 _ (List.mem_of_getElem? (i := 48) rfl), rfl⟩
theorem q1_49 : (Jvm.Cond.soleField "BeesSting$Changes" "was") ∈ gw := List.mem_filter.mpr ⟨mt1 _ (List.mem_of_getElem? (i := 49) rfl), rfl⟩
theorem q1_50 : (Jvm.Cond.laysFinal "BeesSting$Changes" "BeesSting$Changes" "becomes" "[I") ∈ gw := List.mem_filter.mpr ⟨mt1 _ (List.mem_of_getElem? (i := 50) rfl), rfl⟩
theorem q1_51 : (Jvm.Cond.soleField "BeesSting$Changes" "becomes") ∈ gw := List.mem_filter.mpr ⟨mt1 _ (List.mem_of_getElem? (i := 51) rfl), rfl⟩
theorem q1_52 : (Jvm.Cond.lays "BeesSting$Changes" "BeesSting$Changes" "done" "I") ∈ gw := List.mem_filter.mpr ⟨mt1 _ (List.mem_of_getElem? (i := 52) rfl), rfl⟩
theorem q1_53 : (Jvm.Cond.soleField "BeesSting$Changes" "done") ∈ gw := List.mem_filter.mpr ⟨mt1 _ (List.mem_of_getElem? (i := 53) rfl), rfl⟩
theorem q1_54 : (Jvm.Cond.lays "BeesSting$Changes" "BeesSting$Changes" "all" "I") ∈ gw := List.mem_filter.mpr ⟨mt1 _ (List.mem_of_getElem? (i := 54) rfl), rfl⟩
theorem q1_55 : (Jvm.Cond.soleField "BeesSting$Changes" "all") ∈ gw := List.mem_filter.mpr ⟨mt1 _ (List.mem_of_getElem? (i := 55) rfl), rfl⟩
theorem q1_56 : (Jvm.Cond.superclass "BeesSting$Changes" "java/lang/Object") ∈ gw := List.mem_filter.mpr ⟨mt1 _ (List.mem_of_getElem? (i := 56) rfl), rfl⟩
theorem q1_57 : (Jvm.Cond.arrayClass Jvm.ClassFile.FieldType.int) ∈ gw := List.mem_filter.mpr ⟨mt1 _ (List.mem_of_getElem? (i := 57) rfl), rfl⟩
theorem q1_58 : (Jvm.Cond.classLink "BeesSting" (16 : Nat) "BeesSting$Shelves") ∈ gw := List.mem_filter.mpr ⟨mt1 _ (List.mem_of_getElem? (i := 58) rfl), rfl⟩
theorem q1_59 : (Jvm.Cond.instantiable "BeesSting$Shelves" (3 : Nat)) ∈ gw := List.mem_filter.mpr ⟨mt1 _ (List.mem_of_getElem? (i := 59) rfl), rfl⟩
theorem q1_60 : (Jvm.Cond.methodLinkNest "BeesSting" (18 : Nat) ({ cls := "BeesSting$Shelves", name := "<init>", desc := "()V" } : Jvm.MethodName) "BeesSting") ∈ lw_tbl := mt1 _ (List.mem_of_getElem? (i := 60) rfl)
theorem q1_61 : (Jvm.Cond.instanceMethod ({ cls := "BeesSting$Shelves", name := "<init>", desc := "()V" } : Jvm.MethodName)) ∈ gw := List.mem_filter.mpr ⟨mt1 _ (List.mem_of_getElem? (i := 61) rfl), rfl⟩
theorem q1_62 : (Jvm.Cond.code ({ cls := "BeesSting$Shelves", name := "<init>", desc := "()V" } : Jvm.MethodName) prog_12_method_1_code (1 : Nat) (Option.none : Option Jvm.ClassFile.FieldType)) ∈ gw := List.mem_filter.mpr ⟨mt1 _ (List.mem_of_getElem? (i := 62) rfl), rfl⟩
theorem q1_63 : (Jvm.Cond.methodLink "BeesSting$Shelves" (3 : Nat) ({ cls := "java/lang/Object", name := "<init>", desc := "()V" } : Jvm.MethodName)) ∈ gw := List.mem_filter.mpr ⟨mt1 _ (List.mem_of_getElem? (i := 63) rfl), rfl⟩
theorem q1_64 : (Jvm.Cond.classLink "BeesSting$Shelves" (18 : Nat) "[[J") ∈ gw := List.mem_filter.mpr ⟨mt1 _ (List.mem_of_getElem? (i := 64) rfl), rfl⟩
theorem q1_65 : (Jvm.Cond.arrayOver (Jvm.ClassFile.FieldType.array Jvm.ClassFile.FieldType.long)) ∈ lw_tbl := mt1 _ (List.mem_of_getElem? (i := 65) rfl)
theorem q1_66 : (Jvm.Cond.fieldLink "BeesSting$Shelves" (11 : Nat) "BeesSting$Shelves" "sort" "[I") ∈ gw := List.mem_filter.mpr ⟨mt1 _ (List.mem_of_getElem? (i := 66) rfl), rfl⟩
theorem q1_67 : (Jvm.Cond.fieldLink "BeesSting$Shelves" (15 : Nat) "BeesSting$Shelves" "size" "[I") ∈ gw := List.mem_filter.mpr ⟨mt1 _ (List.mem_of_getElem? (i := 67) rfl), rfl⟩
theorem q1_68 : (Jvm.Cond.fieldLink "BeesSting$Shelves" (20 : Nat) "BeesSting$Shelves" "rows" "[[J") ∈ gw := List.mem_filter.mpr ⟨mt1 _ (List.mem_of_getElem? (i := 68) rfl), rfl⟩
theorem q1_69 : (Jvm.Cond.laysFinal "BeesSting$Shelves" "BeesSting$Shelves" "sort" "[I") ∈ gw := List.mem_filter.mpr ⟨mt1 _ (List.mem_of_getElem? (i := 69) rfl), rfl⟩
theorem q1_70 : (Jvm.Cond.soleField "BeesSting$Shelves" "sort") ∈ gw := List.mem_filter.mpr ⟨mt1 _ (List.mem_of_getElem? (i := 70) rfl), rfl⟩
theorem q1_71 : (Jvm.Cond.laysFinal "BeesSting$Shelves" "BeesSting$Shelves" "size" "[I") ∈ gw := List.mem_filter.mpr ⟨mt1 _ (List.mem_of_getElem? (i := 71) rfl), rfl⟩
theorem q1_72 : (Jvm.Cond.soleField "BeesSting$Shelves" "size") ∈ gw := List.mem_filter.mpr ⟨mt1 _ (List.mem_of_getElem? (i := 72) rfl), rfl⟩
theorem q1_73 : (Jvm.Cond.laysFinal "BeesSting$Shelves" "BeesSting$Shelves" "rows" "[[J") ∈ gw := List.mem_filter.mpr ⟨mt1 _ (List.mem_of_getElem? (i := 73) rfl), rfl⟩
theorem q1_74 : (Jvm.Cond.soleField "BeesSting$Shelves" "rows") ∈ gw := List.mem_filter.mpr ⟨mt1 _ (List.mem_of_getElem? (i := 74) rfl), rfl⟩
theorem q1_75 : (Jvm.Cond.superclass "BeesSting$Shelves" "java/lang/Object") ∈ gw := List.mem_filter.mpr ⟨mt1 _ (List.mem_of_getElem? (i := 75) rfl), rfl⟩
theorem q1_76 : (Jvm.Cond.arrayClass Jvm.ClassFile.FieldType.long) ∈ gw := List.mem_filter.mpr ⟨mt1 _ (List.mem_of_getElem? (i := 76) rfl), rfl⟩
theorem q1_77 : (Jvm.Cond.classLink "BeesSting" (23 : Nat) "BeesSting$Acts") ∈ gw := List.mem_filter.mpr ⟨mt1 _ (List.mem_of_getElem? (i := 77) rfl), rfl⟩
theorem q1_78 : (Jvm.Cond.instantiable "BeesSting$Acts" (5 : Nat)) ∈ gw := List.mem_filter.mpr ⟨mt1 _ (List.mem_of_getElem? (i := 78) rfl), rfl⟩
theorem q1_79 : (Jvm.Cond.methodLinkNest "BeesSting" (25 : Nat) ({ cls := "BeesSting$Acts", name := "<init>", desc := "()V" } : Jvm.MethodName) "BeesSting") ∈ lw_tbl := mt1 _ (List.mem_of_getElem? (i := 79) rfl)
theorem q1_80 : (Jvm.Cond.instanceMethod ({ cls := "BeesSting$Acts", name := "<init>", desc := "()V" } : Jvm.MethodName)) ∈ gw := List.mem_filter.mpr ⟨mt1 _ (List.mem_of_getElem? (i := 80) rfl), rfl⟩
theorem q1_81 : (Jvm.Cond.code ({ cls := "BeesSting$Acts", name := "<init>", desc := "()V" } : Jvm.MethodName) prog_2_method_1_code (1 : Nat) (Option.none : Option Jvm.ClassFile.FieldType)) ∈ gw := List.mem_filter.mpr ⟨mt1 _ (List.mem_of_getElem? (i := 81) rfl), rfl⟩
theorem q1_82 : (Jvm.Cond.methodLink "BeesSting$Acts" (3 : Nat) ({ cls := "java/lang/Object", name := "<init>", desc := "()V" } : Jvm.MethodName)) ∈ gw := List.mem_filter.mpr ⟨mt1 _ (List.mem_of_getElem? (i := 82) rfl), rfl⟩
theorem q1_83 : (Jvm.Cond.fieldLink "BeesSting$Acts" (11 : Nat) "BeesSting$Acts" "kind" "[I") ∈ gw := List.mem_filter.mpr ⟨mt1 _ (List.mem_of_getElem? (i := 83) rfl), rfl⟩
theorem q1_84 : (Jvm.Cond.fieldLink "BeesSting$Acts" (15 : Nat) "BeesSting$Acts" "made" "I") ∈ gw := List.mem_filter.mpr ⟨mt1 _ (List.mem_of_getElem? (i := 84) rfl), rfl⟩
theorem q1_85 : (Jvm.Cond.fieldLink "BeesSting" (365 : Nat) "BeesSting$Acts" "made" "I") ∈ gw := List.mem_filter.mpr ⟨mt1 _ (List.mem_of_getElem? (i := 85) rfl), rfl⟩
theorem q1_86 : (Jvm.Cond.fieldLink "BeesSting$Acts" (19 : Nat) "BeesSting$Acts" "traced" "[I") ∈ gw := List.mem_filter.mpr ⟨mt1 _ (List.mem_of_getElem? (i := 86) rfl), rfl⟩
theorem q1_87 : (Jvm.Cond.fieldLink "BeesSting" (327 : Nat) "BeesSting$Acts" "traced" "[I") ∈ gw := List.mem_filter.mpr ⟨mt1 _ (List.mem_of_getElem? (i := 87) rfl), rfl⟩
theorem q1_88 : (Jvm.Cond.fieldLink "BeesSting$Acts" (22 : Nat) "BeesSting$Acts" "ran" "I") ∈ gw := List.mem_filter.mpr ⟨mt1 _ (List.mem_of_getElem? (i := 88) rfl), rfl⟩
theorem q1_89 : (Jvm.Cond.fieldLink "BeesSting" (368 : Nat) "BeesSting$Acts" "ran" "I") ∈ gw := List.mem_filter.mpr ⟨mt1 _ (List.mem_of_getElem? (i := 89) rfl), rfl⟩
theorem q1_90 : (Jvm.Cond.fieldLink "BeesSting$Acts" (25 : Nat) "BeesSting$Acts" "number" "I") ∈ gw := List.mem_filter.mpr ⟨mt1 _ (List.mem_of_getElem? (i := 90) rfl), rfl⟩
theorem q1_91 : (Jvm.Cond.laysFinal "BeesSting$Acts" "BeesSting$Acts" "kind" "[I") ∈ gw := List.mem_filter.mpr ⟨mt1 _ (List.mem_of_getElem? (i := 91) rfl), rfl⟩
theorem q1_92 : (Jvm.Cond.soleField "BeesSting$Acts" "kind") ∈ gw := List.mem_filter.mpr ⟨mt1 _ (List.mem_of_getElem? (i := 92) rfl), rfl⟩
theorem q1_93 : (Jvm.Cond.lays "BeesSting$Acts" "BeesSting$Acts" "made" "I") ∈ gw := List.mem_filter.mpr ⟨mt1 _ (List.mem_of_getElem? (i := 93) rfl), rfl⟩
theorem q1_94 : (Jvm.Cond.soleField "BeesSting$Acts" "made") ∈ gw := List.mem_filter.mpr ⟨mt1 _ (List.mem_of_getElem? (i := 94) rfl), rfl⟩
theorem q1_95 : (Jvm.Cond.laysFinal "BeesSting$Acts" "BeesSting$Acts" "traced" "[I") ∈ gw := List.mem_filter.mpr ⟨mt1 _ (List.mem_of_getElem? (i := 95) rfl), rfl⟩
theorem q1_96 : (Jvm.Cond.soleField "BeesSting$Acts" "traced") ∈ gw := List.mem_filter.mpr ⟨mt1 _ (List.mem_of_getElem? (i := 96) rfl), rfl⟩
theorem q1_97 : (Jvm.Cond.lays "BeesSting$Acts" "BeesSting$Acts" "ran" "I") ∈ gw := List.mem_filter.mpr ⟨mt1 _ (List.mem_of_getElem? (i := 97) rfl), rfl⟩
theorem q1_98 : (Jvm.Cond.soleField "BeesSting$Acts" "ran") ∈ gw := List.mem_filter.mpr ⟨mt1 _ (List.mem_of_getElem? (i := 98) rfl), rfl⟩
theorem q1_99 : (Jvm.Cond.lays "BeesSting$Acts" "BeesSting$Acts" "number" "I") ∈ gw := List.mem_filter.mpr ⟨mt1 _ (List.mem_of_getElem? (i := 99) rfl), rfl⟩
theorem q1_100 : (Jvm.Cond.soleField "BeesSting$Acts" "number") ∈ gw := List.mem_filter.mpr ⟨mt1 _ (List.mem_of_getElem? (i := 100) rfl), rfl⟩
theorem q1_101 : (Jvm.Cond.superclass "BeesSting$Acts" "java/lang/Object") ∈ gw := List.mem_filter.mpr ⟨mt1 _ (List.mem_of_getElem? (i := 101) rfl), rfl⟩
theorem q1_102 : (Jvm.Cond.classLink "BeesSting" (38 : Nat) "BeesSting$Parish") ∈ gw := List.mem_filter.mpr ⟨mt1 _ (List.mem_of_getElem? (i := 102) rfl), rfl⟩
theorem q1_103 : (Jvm.Cond.instantiable "BeesSting$Parish" (7 : Nat)) ∈ gw := List.mem_filter.mpr ⟨mt1 _ (List.mem_of_getElem? (i := 103) rfl), rfl⟩
theorem q1_104 : (Jvm.Cond.methodLinkNest "BeesSting" (40 : Nat) ({ cls := "BeesSting$Parish", name := "<init>", desc := "()V" } : Jvm.MethodName) "BeesSting") ∈ lw_tbl := mt1 _ (List.mem_of_getElem? (i := 104) rfl)
theorem q1_105 : (Jvm.Cond.instanceMethod ({ cls := "BeesSting$Parish", name := "<init>", desc := "()V" } : Jvm.MethodName)) ∈ gw := List.mem_filter.mpr ⟨mt1 _ (List.mem_of_getElem? (i := 105) rfl), rfl⟩
theorem q1_106 : (Jvm.Cond.code ({ cls := "BeesSting$Parish", name := "<init>", desc := "()V" } : Jvm.MethodName) prog_11_method_1_code (1 : Nat) (Option.none : Option Jvm.ClassFile.FieldType)) ∈ gw := List.mem_filter.mpr ⟨mt1 _ (List.mem_of_getElem? (i := 106) rfl), rfl⟩
theorem q1_107 : (Jvm.Cond.methodLink "BeesSting$Parish" (3 : Nat) ({ cls := "java/lang/Object", name := "<init>", desc := "()V" } : Jvm.MethodName)) ∈ gw := List.mem_filter.mpr ⟨mt1 _ (List.mem_of_getElem? (i := 107) rfl), rfl⟩
theorem q1_108 : (Jvm.Cond.fieldLink "BeesSting$Parish" (9 : Nat) "BeesSting$Parish" "people" "I") ∈ gw := List.mem_filter.mpr ⟨mt1 _ (List.mem_of_getElem? (i := 108) rfl), rfl⟩
theorem q1_109 : (Jvm.Cond.fieldLink "BeesSting" (108 : Nat) "BeesSting$Parish" "people" "I") ∈ gw := List.mem_filter.mpr ⟨mt1 _ (List.mem_of_getElem? (i := 109) rfl), rfl⟩
theorem q1_110 : (Jvm.Cond.fieldLink "BeesSting$Parish" (15 : Nat) "BeesSting$Parish" "mile" "I") ∈ gw := List.mem_filter.mpr ⟨mt1 _ (List.mem_of_getElem? (i := 110) rfl), rfl⟩
theorem q1_111 : (Jvm.Cond.fieldLink "BeesSting$Flight" (82 : Nat) "BeesSting$Parish" "mile" "I") ∈ gw := List.mem_filter.mpr ⟨mt1 _ (List.mem_of_getElem? (i := 111) rfl), rfl⟩
theorem q1_112 : (Jvm.Cond.fieldLink "BeesSting" (378 : Nat) "BeesSting$Parish" "mile" "I") ∈ gw := List.mem_filter.mpr ⟨mt1 _ (List.mem_of_getElem? (i := 112) rfl), rfl⟩
theorem q1_113 : (Jvm.Cond.fieldLink "BeesSting$Parish" (18 : Nat) "BeesSting$Parish" "pace" "I") ∈ gw := List.mem_filter.mpr ⟨mt1 _ (List.mem_of_getElem? (i := 113) rfl), rfl⟩
theorem q1_114 : (Jvm.Cond.fieldLink "BeesSting$Flight" (85 : Nat) "BeesSting$Parish" "pace" "I") ∈ gw := List.mem_filter.mpr ⟨mt1 _ (List.mem_of_getElem? (i := 114) rfl), rfl⟩
theorem q1_115 : (Jvm.Cond.fieldLink "BeesSting" (384 : Nat) "BeesSting$Parish" "pace" "I") ∈ gw := List.mem_filter.mpr ⟨mt1 _ (List.mem_of_getElem? (i := 115) rfl), rfl⟩
theorem q1_116 : (Jvm.Cond.fieldLink "BeesSting$Parish" (21 : Nat) "BeesSting$Parish" "cell" "[I") ∈ gw := List.mem_filter.mpr ⟨mt1 _ (List.mem_of_getElem? (i := 116) rfl), rfl⟩
theorem q1_117 : (Jvm.Cond.fieldLink "BeesSting$Law" (55 : Nat) "BeesSting$Parish" "cell" "[I") ∈ gw := List.mem_filter.mpr ⟨mt1 _ (List.mem_of_getElem? (i := 117) rfl), rfl⟩
theorem q1_118 : (Jvm.Cond.fieldLink "BeesSting$Flight" (74 : Nat) "BeesSting$Parish" "cell" "[I") ∈ gw := List.mem_filter.mpr ⟨mt1 _ (List.mem_of_getElem? (i := 118) rfl), rfl⟩
theorem q1_119 : (Jvm.Cond.fieldLink "BeesSting" (221 : Nat) "BeesSting$Parish" "cell" "[I") ∈ gw := List.mem_filter.mpr ⟨mt1 _ (List.mem_of_getElem? (i := 119) rfl), rfl⟩
theorem q1_120 : (Jvm.Cond.fieldLink "BeesSting$Parish" (25 : Nat) "BeesSting$Parish" "cheek" "[I") ∈ gw := List.mem_filter.mpr ⟨mt1 _ (List.mem_of_getElem? (i := 120) rfl), rfl⟩
theorem q1_121 : (Jvm.Cond.fieldLink "BeesSting$Law" (70 : Nat) "BeesSting$Parish" "cheek" "[I") ∈ gw := List.mem_filter.mpr ⟨mt1 _ (List.mem_of_getElem? (i := 121) rfl), rfl⟩
theorem q1_122 : (Jvm.Cond.fieldLink "BeesSting" (273 : Nat) "BeesSting$Parish" "cheek" "[I") ∈ gw := List.mem_filter.mpr ⟨mt1 _ (List.mem_of_getElem? (i := 122) rfl), rfl⟩
theorem q1_123 : (Jvm.Cond.fieldLink "BeesSting$Parish" (28 : Nat) "BeesSting$Parish" "pay" "[I") ∈ gw := List.mem_filter.mpr ⟨mt1 _ (List.mem_of_getElem? (i := 123) rfl), rfl⟩
theorem q1_124 : (Jvm.Cond.fieldLink "BeesSting" (244 : Nat) "BeesSting$Parish" "pay" "[I") ∈ gw := List.mem_filter.mpr ⟨mt1 _ (List.mem_of_getElem? (i := 124) rfl), rfl⟩
theorem q1_125 : (Jvm.Cond.fieldLink "BeesSting$Parish" (31 : Nat) "BeesSting$Parish" "near" "[I") ∈ gw := List.mem_filter.mpr ⟨mt1 _ (List.mem_of_getElem? (i := 125) rfl), rfl⟩
theorem q1_126 : (Jvm.Cond.fieldLink "BeesSting$Law" (79 : Nat) "BeesSting$Parish" "near" "[I") ∈ gw := List.mem_filter.mpr ⟨mt1 _ (List.mem_of_getElem? (i := 126) rfl), rfl⟩
theorem q1_127 : (Jvm.Cond.lays "BeesSting$Parish" "BeesSting$Parish" "people" "I") ∈ gw := List.mem_filter.mpr ⟨mt1 _ (List.mem_of_getElem? (i := 127) rfl), rfl⟩
theorem q1_128 : (Jvm.Cond.soleField "BeesSting$Parish" "people") ∈ gw := List.mem_filter.mpr ⟨mt1 _ (List.mem_of_getElem? (i := 128) rfl), rfl⟩
theorem q1_129 : (Jvm.Cond.lays "BeesSting$Parish" "BeesSting$Parish" "mile" "I") ∈ gw := List.mem_filter.mpr ⟨mt1 _ (List.mem_of_getElem? (i := 129) rfl), rfl⟩
theorem q1_130 : (Jvm.Cond.soleField "BeesSting$Parish" "mile") ∈ gw := List.mem_filter.mpr ⟨mt1 _ (List.mem_of_getElem? (i := 130) rfl), rfl⟩
theorem q1_131 : (Jvm.Cond.lays "BeesSting$Parish" "BeesSting$Parish" "pace" "I") ∈ gw := List.mem_filter.mpr ⟨mt1 _ (List.mem_of_getElem? (i := 131) rfl), rfl⟩
theorem q1_132 : (Jvm.Cond.soleField "BeesSting$Parish" "pace") ∈ gw := List.mem_filter.mpr ⟨mt1 _ (List.mem_of_getElem? (i := 132) rfl), rfl⟩
theorem q1_133 : (Jvm.Cond.laysFinal "BeesSting$Parish" "BeesSting$Parish" "cell" "[I") ∈ gw := List.mem_filter.mpr ⟨mt1 _ (List.mem_of_getElem? (i := 133) rfl), rfl⟩
theorem q1_134 : (Jvm.Cond.soleField "BeesSting$Parish" "cell") ∈ gw := List.mem_filter.mpr ⟨mt1 _ (List.mem_of_getElem? (i := 134) rfl), rfl⟩
theorem q1_135 : (Jvm.Cond.laysFinal "BeesSting$Parish" "BeesSting$Parish" "cheek" "[I") ∈ gw := List.mem_filter.mpr ⟨mt1 _ (List.mem_of_getElem? (i := 135) rfl), rfl⟩
theorem q1_136 : (Jvm.Cond.soleField "BeesSting$Parish" "cheek") ∈ gw := List.mem_filter.mpr ⟨mt1 _ (List.mem_of_getElem? (i := 136) rfl), rfl⟩
theorem q1_137 : (Jvm.Cond.laysFinal "BeesSting$Parish" "BeesSting$Parish" "pay" "[I") ∈ gw := List.mem_filter.mpr ⟨mt1 _ (List.mem_of_getElem? (i := 137) rfl), rfl⟩
theorem q1_138 : (Jvm.Cond.soleField "BeesSting$Parish" "pay") ∈ gw := List.mem_filter.mpr ⟨mt1 _ (List.mem_of_getElem? (i := 138) rfl), rfl⟩
theorem q1_139 : (Jvm.Cond.laysFinal "BeesSting$Parish" "BeesSting$Parish" "near" "[I") ∈ gw := List.mem_filter.mpr ⟨mt1 _ (List.mem_of_getElem? (i := 139) rfl), rfl⟩
theorem q1_140 : (Jvm.Cond.soleField "BeesSting$Parish" "near") ∈ gw := List.mem_filter.mpr ⟨mt1 _ (List.mem_of_getElem? (i := 140) rfl), rfl⟩
theorem q1_141 : (Jvm.Cond.superclass "BeesSting$Parish" "java/lang/Object") ∈ gw := List.mem_filter.mpr ⟨mt1 _ (List.mem_of_getElem? (i := 141) rfl), rfl⟩
theorem q1_142 : (Jvm.Cond.classLink "BeesSting" (41 : Nat) "BeesSting$Law") ∈ gw := List.mem_filter.mpr ⟨mt1 _ (List.mem_of_getElem? (i := 142) rfl), rfl⟩
theorem q1_143 : (Jvm.Cond.instantiable "BeesSting$Law" (8 : Nat)) ∈ gw := List.mem_filter.mpr ⟨mt1 _ (List.mem_of_getElem? (i := 143) rfl), rfl⟩
theorem q1_144 : (Jvm.Cond.methodLinkNest "BeesSting" (43 : Nat) ({ cls := "BeesSting$Law", name := "<init>", desc := "()V" } : Jvm.MethodName) "BeesSting") ∈ lw_tbl := mt1 _ (List.mem_of_getElem? (i := 144) rfl)
theorem q1_145 : (Jvm.Cond.instanceMethod ({ cls := "BeesSting$Law", name := "<init>", desc := "()V" } : Jvm.MethodName)) ∈ gw := List.mem_filter.mpr ⟨mt1 _ (List.mem_of_getElem? (i := 145) rfl), rfl⟩
theorem q1_146 : (Jvm.Cond.code ({ cls := "BeesSting$Law", name := "<init>", desc := "()V" } : Jvm.MethodName) prog_8_method_1_code (1 : Nat) (Option.none : Option Jvm.ClassFile.FieldType)) ∈ gw := List.mem_filter.mpr ⟨mt1 _ (List.mem_of_getElem? (i := 146) rfl), rfl⟩
theorem q1_147 : (Jvm.Cond.methodLink "BeesSting$Law" (3 : Nat) ({ cls := "java/lang/Object", name := "<init>", desc := "()V" } : Jvm.MethodName)) ∈ gw := List.mem_filter.mpr ⟨mt1 _ (List.mem_of_getElem? (i := 147) rfl), rfl⟩
theorem q1_148 : (Jvm.Cond.classLink "BeesSting$Law" (19 : Nat) "BeesSting$LawReader") ∈ gw := List.mem_filter.mpr ⟨mt1 _ (List.mem_of_getElem? (i := 148) rfl), rfl⟩
theorem q1_149 : (Jvm.Cond.instantiable "BeesSting$LawReader" (5 : Nat)) ∈ gw := List.mem_filter.mpr ⟨mt1 _ (List.mem_of_getElem? (i := 149) rfl), rfl⟩
theorem q1_150 : (Jvm.Cond.methodLinkNest "BeesSting$Law" (21 : Nat) ({ cls := "BeesSting$LawReader", name := "<init>", desc := "()V" } : Jvm.MethodName) "BeesSting") ∈ lw_tbl := mt1 _ (List.mem_of_getElem? (i := 150) rfl)
theorem q1_151 : (Jvm.Cond.instanceMethod ({ cls := "BeesSting$LawReader", name := "<init>", desc := "()V" } : Jvm.MethodName)) ∈ gw := List.mem_filter.mpr ⟨mt1 _ (List.mem_of_getElem? (i := 151) rfl), rfl⟩
theorem q1_152 : (Jvm.Cond.code ({ cls := "BeesSting$LawReader", name := "<init>", desc := "()V" } : Jvm.MethodName) prog_9_method_1_code (1 : Nat) (Option.none : Option Jvm.ClassFile.FieldType)) ∈ gw := List.mem_filter.mpr ⟨mt1 _ (List.mem_of_getElem? (i := 152) rfl), rfl⟩
theorem q1_153 : (Jvm.Cond.methodLink "BeesSting$LawReader" (1 : Nat) ({ cls := "java/lang/Object", name := "<init>", desc := "()V" } : Jvm.MethodName)) ∈ gw := List.mem_filter.mpr ⟨mt1 _ (List.mem_of_getElem? (i := 153) rfl), rfl⟩
theorem q1_154 : (Jvm.Cond.fieldLink "BeesSting$LawReader" (7 : Nat) "BeesSting$LawReader" "text" "[I") ∈ gw := List.mem_filter.mpr ⟨mt1 _ (List.mem_of_getElem? (i := 154) rfl), rfl⟩
theorem q1_155 : (Jvm.Cond.fieldLink "BeesSting$LawReader" (13 : Nat) "BeesSting$LawReader" "code" "[I") ∈ gw := List.mem_filter.mpr ⟨mt1 _ (List.mem_of_getElem? (i := 155) rfl), rfl⟩
theorem q1_156 : (Jvm.Cond.fieldLink "BeesSting$LawReader" (16 : Nat) "BeesSting$LawReader" "length" "I") ∈ gw := List.mem_filter.mpr ⟨mt1 _ (List.mem_of_getElem? (i := 156) rfl), rfl⟩
theorem q1_157 : (Jvm.Cond.fieldLink "BeesSting$LawReader" (20 : Nat) "BeesSting$LawReader" "at" "I") ∈ gw := List.mem_filter.mpr ⟨mt1 _ (List.mem_of_getElem? (i := 157) rfl), rfl⟩
theorem q1_158 : (Jvm.Cond.fieldLink "BeesSting$Law" (45 : Nat) "BeesSting$LawReader" "at" "I") ∈ gw := List.mem_filter.mpr ⟨mt1 _ (List.mem_of_getElem? (i := 158) rfl), rfl⟩
theorem q1_159 : (Jvm.Cond.fieldLink "BeesSting$LawReader" (23 : Nat) "BeesSting$LawReader" "size" "I") ∈ gw := List.mem_filter.mpr ⟨mt1 _ (List.mem_of_getElem? (i := 159) rfl), rfl⟩
theorem q1_160 : (Jvm.Cond.fieldLink "BeesSting$Law" (48 : Nat) "BeesSting$LawReader" "size" "I") ∈ gw := List.mem_filter.mpr ⟨mt1 _ (List.mem_of_getElem? (i := 160) rfl), rfl⟩
theorem q1_161 : (Jvm.Cond.lays "BeesSting$LawReader" "BeesSting$LawReader" "text" "[I") ∈ gw := List.mem_filter.mpr ⟨mt1 _ (List.mem_of_getElem? (i := 161) rfl), rfl⟩
theorem q1_162 : (Jvm.Cond.soleField "BeesSting$LawReader" "text") ∈ gw := List.mem_filter.mpr ⟨mt1 _ (List.mem_of_getElem? (i := 162) rfl), rfl⟩
theorem q1_163 : (Jvm.Cond.lays "BeesSting$LawReader" "BeesSting$LawReader" "code" "[I") ∈ gw := List.mem_filter.mpr ⟨mt1 _ (List.mem_of_getElem? (i := 163) rfl), rfl⟩
theorem q1_164 : (Jvm.Cond.soleField "BeesSting$LawReader" "code") ∈ gw := List.mem_filter.mpr ⟨mt1 _ (List.mem_of_getElem? (i := 164) rfl), rfl⟩
theorem q1_165 : (Jvm.Cond.lays "BeesSting$LawReader" "BeesSting$LawReader" "length" "I") ∈ gw := List.mem_filter.mpr ⟨mt1 _ (List.mem_of_getElem? (i := 165) rfl), rfl⟩
theorem q1_166 : (Jvm.Cond.soleField "BeesSting$LawReader" "length") ∈ gw := List.mem_filter.mpr ⟨mt1 _ (List.mem_of_getElem? (i := 166) rfl), rfl⟩
theorem q1_167 : (Jvm.Cond.lays "BeesSting$LawReader" "BeesSting$LawReader" "at" "I") ∈ gw := List.mem_filter.mpr ⟨mt1 _ (List.mem_of_getElem? (i := 167) rfl), rfl⟩
theorem q1_168 : (Jvm.Cond.soleField "BeesSting$LawReader" "at") ∈ gw := List.mem_filter.mpr ⟨mt1 _ (List.mem_of_getElem? (i := 168) rfl), rfl⟩
theorem q1_169 : (Jvm.Cond.lays "BeesSting$LawReader" "BeesSting$LawReader" "size" "I") ∈ gw := List.mem_filter.mpr ⟨mt1 _ (List.mem_of_getElem? (i := 169) rfl), rfl⟩
theorem q1_170 : (Jvm.Cond.soleField "BeesSting$LawReader" "size") ∈ gw := List.mem_filter.mpr ⟨mt1 _ (List.mem_of_getElem? (i := 170) rfl), rfl⟩
theorem q1_171 : (Jvm.Cond.superclass "BeesSting$LawReader" "java/lang/Object") ∈ gw := List.mem_filter.mpr ⟨mt1 _ (List.mem_of_getElem? (i := 171) rfl), rfl⟩
theorem q1_172 : (Jvm.Cond.fieldLink "BeesSting$Law" (11 : Nat) "BeesSting$Law" "tape" "[I") ∈ gw := List.mem_filter.mpr ⟨mt1 _ (List.mem_of_getElem? (i := 172) rfl), rfl⟩
theorem q1_173 : (Jvm.Cond.fieldLink "BeesSting$Law" (15 : Nat) "BeesSting$Law" "fed" "I") ∈ gw := List.mem_filter.mpr ⟨mt1 _ (List.mem_of_getElem? (i := 173) rfl), rfl⟩
theorem q1_174 : (Jvm.Cond.fieldLink "BeesSting" (362 : Nat) "BeesSting$Law" "fed" "I") ∈ gw := List.mem_filter.mpr ⟨mt1 _ (List.mem_of_getElem? (i := 174) rfl), rfl⟩
theorem q1_175 : (Jvm.Cond.fieldLink "BeesSting$Law" (22 : Nat) "BeesSting$Law" "reader" "LBeesSting$LawReader;") ∈ gw := List.mem_filter.mpr ⟨mt1 _ (List.mem_of_getElem? (i := 175) rfl), rfl⟩
theorem q1_176 : (Jvm.Cond.fieldLink "BeesSting$Law" (26 : Nat) "BeesSting$Law" "stack" "[I") ∈ gw := List.mem_filter.mpr ⟨mt1 _ (List.mem_of_getElem? (i := 176) rfl), rfl⟩
theorem q1_177 : (Jvm.Cond.fieldLink "BeesSting$Law" (29 : Nat) "BeesSting$Law" "named" "[I") ∈ gw := List.mem_filter.mpr ⟨mt1 _ (List.mem_of_getElem? (i := 177) rfl), rfl⟩
theorem q1_178 : (Jvm.Cond.fieldLink "BeesSting$Law" (32 : Nat) "BeesSting$Law" "code" "[I") ∈ gw := List.mem_filter.mpr ⟨mt1 _ (List.mem_of_getElem? (i := 178) rfl), rfl⟩
theorem q1_179 : (Jvm.Cond.fieldLink "BeesSting$Law" (35 : Nat) "BeesSting$Law" "spare" "[I") ∈ gw := List.mem_filter.mpr ⟨mt1 _ (List.mem_of_getElem? (i := 179) rfl), rfl⟩
theorem q1_180 : (Jvm.Cond.fieldLink "BeesSting$Law" (38 : Nat) "BeesSting$Law" "size" "I") ∈ gw := List.mem_filter.mpr ⟨mt1 _ (List.mem_of_getElem? (i := 180) rfl), rfl⟩
theorem q1_181 : (Jvm.Cond.laysFinal "BeesSting$Law" "BeesSting$Law" "tape" "[I") ∈ gw := List.mem_filter.mpr ⟨mt1 _ (List.mem_of_getElem? (i := 181) rfl), rfl⟩
theorem q1_182 : (Jvm.Cond.soleField "BeesSting$Law" "tape") ∈ gw := List.mem_filter.mpr ⟨mt1 _ (List.mem_of_getElem? (i := 182) rfl), rfl⟩
theorem q1_183 : (Jvm.Cond.lays "BeesSting$Law" "BeesSting$Law" "fed" "I") ∈ gw := List.mem_filter.mpr ⟨mt1 _ (List.mem_of_getElem? (i := 183) rfl), rfl⟩
theorem q1_184 : (Jvm.Cond.soleField "BeesSting$Law" "fed") ∈ gw := List.mem_filter.mpr ⟨mt1 _ (List.mem_of_getElem? (i := 184) rfl), rfl⟩
theorem q1_185 : (Jvm.Cond.laysFinal "BeesSting$Law" "BeesSting$Law" "reader" "LBeesSting$LawReader;") ∈ gw := List.mem_filter.mpr ⟨mt1 _ (List.mem_of_getElem? (i := 185) rfl), rfl⟩
theorem q1_186 : (Jvm.Cond.soleField "BeesSting$Law" "reader") ∈ gw := List.mem_filter.mpr ⟨mt1 _ (List.mem_of_getElem? (i := 186) rfl), rfl⟩
theorem q1_187 : (Jvm.Cond.laysFinal "BeesSting$Law" "BeesSting$Law" "stack" "[I") ∈ gw := List.mem_filter.mpr ⟨mt1 _ (List.mem_of_getElem? (i := 187) rfl), rfl⟩
theorem q1_188 : (Jvm.Cond.soleField "BeesSting$Law" "stack") ∈ gw := List.mem_filter.mpr ⟨mt1 _ (List.mem_of_getElem? (i := 188) rfl), rfl⟩
theorem q1_189 : (Jvm.Cond.laysFinal "BeesSting$Law" "BeesSting$Law" "named" "[I") ∈ gw := List.mem_filter.mpr ⟨mt1 _ (List.mem_of_getElem? (i := 189) rfl), rfl⟩
theorem q1_190 : (Jvm.Cond.soleField "BeesSting$Law" "named") ∈ gw := List.mem_filter.mpr ⟨mt1 _ (List.mem_of_getElem? (i := 190) rfl), rfl⟩
theorem q1_191 : (Jvm.Cond.lays "BeesSting$Law" "BeesSting$Law" "code" "[I") ∈ gw := List.mem_filter.mpr ⟨mt1 _ (List.mem_of_getElem? (i := 191) rfl), rfl⟩
theorem q1_192 : (Jvm.Cond.soleField "BeesSting$Law" "code") ∈ gw := List.mem_filter.mpr ⟨mt1 _ (List.mem_of_getElem? (i := 192) rfl), rfl⟩
theorem q1_193 : (Jvm.Cond.lays "BeesSting$Law" "BeesSting$Law" "spare" "[I") ∈ gw := List.mem_filter.mpr ⟨mt1 _ (List.mem_of_getElem? (i := 193) rfl), rfl⟩
theorem q1_194 : (Jvm.Cond.soleField "BeesSting$Law" "spare") ∈ gw := List.mem_filter.mpr ⟨mt1 _ (List.mem_of_getElem? (i := 194) rfl), rfl⟩
theorem q1_195 : (Jvm.Cond.lays "BeesSting$Law" "BeesSting$Law" "size" "I") ∈ gw := List.mem_filter.mpr ⟨mt1 _ (List.mem_of_getElem? (i := 195) rfl), rfl⟩
theorem q1_196 : (Jvm.Cond.soleField "BeesSting$Law" "size") ∈ gw := List.mem_filter.mpr ⟨mt1 _ (List.mem_of_getElem? (i := 196) rfl), rfl⟩
theorem q1_197 : (Jvm.Cond.superclass "BeesSting$Law" "java/lang/Object") ∈ gw := List.mem_filter.mpr ⟨mt1 _ (List.mem_of_getElem? (i := 197) rfl), rfl⟩
theorem q1_198 : (Jvm.Cond.classLink "BeesSting" (44 : Nat) "BeesSting$Day") ∈ gw := List.mem_filter.mpr ⟨mt1 _ (List.mem_of_getElem? (i := 198) rfl), rfl⟩
theorem q1_199 : (Jvm.Cond.instantiable "BeesSting$Day" (2 : Nat)) ∈ gw := List.mem_filter.mpr ⟨mt1 _ (List.mem_of_getElem? (i := 199) rfl), rfl⟩
theorem q1_200 : (Jvm.Cond.methodLinkNest "BeesSting" (46 : Nat) ({ cls := "BeesSting$Day", name := "<init>", desc := "()V" } : Jvm.MethodName) "BeesSting") ∈ lw_tbl := mt1 _ (List.mem_of_getElem? (i := 200) rfl)
theorem q1_201 : (Jvm.Cond.instanceMethod ({ cls := "BeesSting$Day", name := "<init>", desc := "()V" } : Jvm.MethodName)) ∈ gw := List.mem_filter.mpr ⟨mt1 _ (List.mem_of_getElem? (i := 201) rfl), rfl⟩
theorem q1_202 : (Jvm.Cond.code ({ cls := "BeesSting$Day", name := "<init>", desc := "()V" } : Jvm.MethodName) prog_4_method_1_code (1 : Nat) (Option.none : Option Jvm.ClassFile.FieldType)) ∈ gw := List.mem_filter.mpr ⟨mt1 _ (List.mem_of_getElem? (i := 202) rfl), rfl⟩
theorem q1_203 : (Jvm.Cond.methodLink "BeesSting$Day" (3 : Nat) ({ cls := "java/lang/Object", name := "<init>", desc := "()V" } : Jvm.MethodName)) ∈ gw := List.mem_filter.mpr ⟨mt1 _ (List.mem_of_getElem? (i := 203) rfl), rfl⟩
theorem q1_204 : (Jvm.Cond.fieldLink "BeesSting$Day" (9 : Nat) "BeesSting$Day" "saying" "[I") ∈ gw := List.mem_filter.mpr ⟨mt1 _ (List.mem_of_getElem? (i := 204) rfl), rfl⟩
theorem q1_205 : (Jvm.Cond.fieldLink "BeesSting$Day" (15 : Nat) "BeesSting$Day" "size" "I") ∈ gw := List.mem_filter.mpr ⟨mt1 _ (List.mem_of_getElem? (i := 205) rfl), rfl⟩
theorem q1_206 : (Jvm.Cond.fieldLink "BeesSting$Heard" (69 : Nat) "BeesSting$Day" "size" "I") ∈ gw := List.mem_filter.mpr ⟨mt1 _ (List.mem_of_getElem? (i := 206) rfl), rfl⟩
theorem q1_207 : (Jvm.Cond.fieldLink "BeesSting$Orders" (46 : Nat) "BeesSting$Day" "size" "I") ∈ gw := List.mem_filter.mpr ⟨mt1 _ (List.mem_of_getElem? (i := 207) rfl), rfl⟩
theorem q1_208 : (Jvm.Cond.fieldLink "BeesSting" (183 : Nat) "BeesSting$Day" "size" "I") ∈ gw := List.mem_filter.mpr ⟨mt1 _ (List.mem_of_getElem? (i := 208) rfl), rfl⟩
theorem q1_209 : (Jvm.Cond.laysFinal "BeesSting$Day" "BeesSting$Day" "saying" "[I") ∈ gw := List.mem_filter.mpr ⟨mt1 _ (List.mem_of_getElem? (i := 209) rfl), rfl⟩
theorem q1_210 : (Jvm.Cond.soleField "BeesSting$Day" "saying") ∈ gw := List.mem_filter.mpr ⟨mt1 _ (List.mem_of_getElem? (i := 210) rfl), rfl⟩
theorem q1_211 : (Jvm.Cond.lays "BeesSting$Day" "BeesSting$Day" "size" "I") ∈ gw := List.mem_filter.mpr ⟨mt1 _ (List.mem_of_getElem? (i := 211) rfl), rfl⟩
theorem q1_212 : (Jvm.Cond.soleField "BeesSting$Day" "size") ∈ gw := List.mem_filter.mpr ⟨mt1 _ (List.mem_of_getElem? (i := 212) rfl), rfl⟩
theorem q1_213 : (Jvm.Cond.superclass "BeesSting$Day" "java/lang/Object") ∈ gw := List.mem_filter.mpr ⟨mt1 _ (List.mem_of_getElem? (i := 213) rfl), rfl⟩
theorem q1_214 : (Jvm.Cond.classLink "BeesSting" (47 : Nat) "BeesSting$Flight") ∈ gw := List.mem_filter.mpr ⟨mt1 _ (List.mem_of_getElem? (i := 214) rfl), rfl⟩
theorem q1_215 : (Jvm.Cond.arrayOver (Jvm.ClassFile.FieldType.object "BeesSting$Flight")) ∈ lw_tbl := mt1 _ (List.mem_of_getElem? (i := 215) rfl)
theorem q1_216 : (Jvm.Cond.instantiable "BeesSting$Flight" (11 : Nat)) ∈ gw := List.mem_filter.mpr ⟨mt1 _ (List.mem_of_getElem? (i := 216) rfl), rfl⟩
theorem q1_217 : (Jvm.Cond.methodLink "BeesSting" (49 : Nat) ({ cls := "BeesSting$Flight", name := "<init>", desc := "(LBeesSting$Parish;LBeesSting$Law;)V" } : Jvm.MethodName)) ∈ gw := List.mem_filter.mpr ⟨mt1 _ (List.mem_of_getElem? (i := 217) rfl), rfl⟩
theorem q1_218 : (Jvm.Cond.instanceMethod ({ cls := "BeesSting$Flight", name := "<init>", desc := "(LBeesSting$Parish;LBeesSting$Law;)V" } : Jvm.MethodName)) ∈ gw := List.mem_filter.mpr ⟨mt1 _ (List.mem_of_getElem? (i := 218) rfl), rfl⟩
theorem q1_219 : (Jvm.Cond.code ({ cls := "BeesSting$Flight", name := "<init>", desc := "(LBeesSting$Parish;LBeesSting$Law;)V" } : Jvm.MethodName) prog_5_method_1_code (3 : Nat) (Option.none : Option Jvm.ClassFile.FieldType)) ∈ gw := List.mem_filter.mpr ⟨mt1 _ (List.mem_of_getElem? (i := 219) rfl), rfl⟩
theorem q1_220 : (Jvm.Cond.methodLink "BeesSting$Flight" (3 : Nat) ({ cls := "java/lang/Object", name := "<init>", desc := "()V" } : Jvm.MethodName)) ∈ gw := List.mem_filter.mpr ⟨mt1 _ (List.mem_of_getElem? (i := 220) rfl), rfl⟩
theorem q1_221 : (Jvm.Cond.fieldLink "BeesSting$Flight" (40 : Nat) "BeesSting$Flight" "parish" "LBeesSting$Parish;") ∈ gw := List.mem_filter.mpr ⟨mt1 _ (List.mem_of_getElem? (i := 221) rfl), rfl⟩
theorem q1_222 : (Jvm.Cond.fieldLink "BeesSting$Law" (49 : Nat) "BeesSting$Flight" "parish" "LBeesSting$Parish;") ∈ gw := List.mem_filter.mpr ⟨mt1 _ (List.mem_of_getElem? (i := 222) rfl), rfl⟩
theorem q1_223 : (Jvm.Cond.fieldLink "BeesSting$Flight" (44 : Nat) "BeesSting$Flight" "law" "LBeesSting$Law;") ∈ gw := List.mem_filter.mpr ⟨mt1 _ (List.mem_of_getElem? (i := 223) rfl), rfl⟩
theorem q1_224 : (Jvm.Cond.fieldLink "BeesSting$Flight" (9 : Nat) "BeesSting$Flight" "pads" "[I") ∈ gw := List.mem_filter.mpr ⟨mt1 _ (List.mem_of_getElem? (i := 224) rfl), rfl⟩
theorem q1_225 : (Jvm.Cond.fieldLink "BeesSting$Law" (73 : Nat) "BeesSting$Flight" "pads" "[I") ∈ gw := List.mem_filter.mpr ⟨mt1 _ (List.mem_of_getElem? (i := 225) rfl), rfl⟩
theorem q1_226 : (Jvm.Cond.fieldLink "BeesSting" (241 : Nat) "BeesSting$Flight" "pads" "[I") ∈ gw := List.mem_filter.mpr ⟨mt1 _ (List.mem_of_getElem? (i := 226) rfl), rfl⟩
theorem q1_227 : (Jvm.Cond.fieldLink "BeesSting$Flight" (15 : Nat) "BeesSting$Flight" "hour" "I") ∈ gw := List.mem_filter.mpr ⟨mt1 _ (List.mem_of_getElem? (i := 227) rfl), rfl⟩
theorem q1_228 : (Jvm.Cond.fieldLink "BeesSting$Law" (76 : Nat) "BeesSting$Flight" "hour" "I") ∈ gw := List.mem_filter.mpr ⟨mt1 _ (List.mem_of_getElem? (i := 228) rfl), rfl⟩
theorem q1_229 : (Jvm.Cond.fieldLink "BeesSting" (381 : Nat) "BeesSting$Flight" "hour" "I") ∈ gw := List.mem_filter.mpr ⟨mt1 _ (List.mem_of_getElem? (i := 229) rfl), rfl⟩
theorem q1_230 : (Jvm.Cond.fieldLink "BeesSting$Flight" (19 : Nat) "BeesSting$Flight" "swarm" "I") ∈ gw := List.mem_filter.mpr ⟨mt1 _ (List.mem_of_getElem? (i := 230) rfl), rfl⟩
theorem q1_231 : (Jvm.Cond.fieldLink "BeesSting$Heard" (89 : Nat) "BeesSting$Flight" "swarm" "I") ∈ gw := List.mem_filter.mpr ⟨mt1 _ (List.mem_of_getElem? (i := 231) rfl), rfl⟩
theorem q1_232 : (Jvm.Cond.fieldLink "BeesSting$Law" (60 : Nat) "BeesSting$Flight" "swarm" "I") ∈ gw := List.mem_filter.mpr ⟨mt1 _ (List.mem_of_getElem? (i := 232) rfl), rfl⟩
theorem q1_233 : (Jvm.Cond.fieldLink "BeesSting" (180 : Nat) "BeesSting$Flight" "swarm" "I") ∈ gw := List.mem_filter.mpr ⟨mt1 _ (List.mem_of_getElem? (i := 233) rfl), rfl⟩
theorem q1_234 : (Jvm.Cond.fieldLink "BeesSting$Flight" (22 : Nat) "BeesSting$Flight" "liar" "I") ∈ gw := List.mem_filter.mpr ⟨mt1 _ (List.mem_of_getElem? (i := 234) rfl), rfl⟩
theorem q1_235 : (Jvm.Cond.fieldLink "BeesSting" (177 : Nat) "BeesSting$Flight" "liar" "I") ∈ gw := List.mem_filter.mpr ⟨mt1 _ (List.mem_of_getElem? (i := 235) rfl), rfl⟩
theorem q1_236 : (Jvm.Cond.fieldLink "BeesSting$Flight" (25 : Nat) "BeesSting$Flight" "sayings" "I") ∈ gw := List.mem_filter.mpr ⟨mt1 _ (List.mem_of_getElem? (i := 236) rfl), rfl⟩
theorem q1_237 : (Jvm.Cond.fieldLink "BeesSting" (281 : Nat) "BeesSting$Flight" "sayings" "I") ∈ gw := List.mem_filter.mpr ⟨mt1 _ (List.mem_of_getElem? (i := 237) rfl), rfl⟩
theorem q1_238 : (Jvm.Cond.fieldLink "BeesSting$Flight" (28 : Nat) "BeesSting$Flight" "lies" "I") ∈ gw := List.mem_filter.mpr ⟨mt1 _ (List.mem_of_getElem? (i := 238) rfl), rfl⟩
theorem q1_239 : (Jvm.Cond.fieldLink "BeesSting$Law" (67 : Nat) "BeesSting$Flight" "lies" "I") ∈ gw := List.mem_filter.mpr ⟨mt1 _ (List.mem_of_getElem? (i := 239) rfl), rfl⟩
theorem q2_0 : (Jvm.Cond.fieldLink "BeesSting" (284 : Nat) "BeesSting$Flight" "lies" "I") ∈ gw := List.mem_filter.mpr ⟨mt2 _ (List.mem_of_getElem? (i := 0) rfl), rfl⟩
theorem q2_1 : (Jvm.Cond.fieldLink "BeesSting$Flight" (31 : Nat) "BeesSting$Flight" "louds" "I") ∈ gw := List.mem_filter.mpr ⟨mt2 _ (List.mem_of_getElem? (i := 1) rfl), rfl⟩
theorem q2_2 : (Jvm.Cond.fieldLink "BeesSting" (287 : Nat) "BeesSting$Flight" "louds" "I") ∈ gw := List.mem_filter.mpr ⟨mt2 _ (List.mem_of_getElem? (i := 2) rfl), rfl⟩
theorem q2_3 : (Jvm.Cond.fieldLink "BeesSting$Flight" (34 : Nat) "BeesSting$Flight" "stings" "I") ∈ gw := List.mem_filter.mpr ⟨mt2 _ (List.mem_of_getElem? (i := 3) rfl), rfl⟩
theorem q2_4 : (Jvm.Cond.fieldLink "BeesSting" (290 : Nat) "BeesSting$Flight" "stings" "I") ∈ gw := List.mem_filter.mpr ⟨mt2 _ (List.mem_of_getElem? (i := 4) rfl), rfl⟩
theorem q2_5 : (Jvm.Cond.fieldLink "BeesSting$Flight" (37 : Nat) "BeesSting$Flight" "hurts" "I") ∈ gw := List.mem_filter.mpr ⟨mt2 _ (List.mem_of_getElem? (i := 5) rfl), rfl⟩
theorem q2_6 : (Jvm.Cond.fieldLink "BeesSting$Orders" (43 : Nat) "BeesSting$Flight" "hurts" "I") ∈ gw := List.mem_filter.mpr ⟨mt2 _ (List.mem_of_getElem? (i := 6) rfl), rfl⟩
theorem q2_7 : (Jvm.Cond.fieldLink "BeesSting" (186 : Nat) "BeesSting$Flight" "hurts" "I") ∈ gw := List.mem_filter.mpr ⟨mt2 _ (List.mem_of_getElem? (i := 7) rfl), rfl⟩
theorem q2_8 : (Jvm.Cond.laysFinal "BeesSting$Flight" "BeesSting$Flight" "parish" "LBeesSting$Parish;") ∈ gw := List.mem_filter.mpr ⟨mt2 _ (List.mem_of_getElem? (i := 8) rfl), rfl⟩
theorem q2_9 : (Jvm.Cond.soleField "BeesSting$Flight" "parish") ∈ gw := List.mem_filter.mpr ⟨mt2 _ (List.mem_of_getElem? (i := 9) rfl), rfl⟩
theorem q2_10 : (Jvm.Cond.laysFinal "BeesSting$Flight" "BeesSting$Flight" "law" "LBeesSting$Law;") ∈ gw := List.mem_filter.mpr ⟨mt2 _ (List.mem_of_getElem? (i := 10) rfl), rfl⟩
theorem q2_11 : (Jvm.Cond.soleField "BeesSting$Flight" "law") ∈ gw := List.mem_filter.mpr ⟨mt2 _ (List.mem_of_getElem? (i := 11) rfl), rfl⟩
theorem q2_12 : (Jvm.Cond.laysFinal "BeesSting$Flight" "BeesSting$Flight" "pads" "[I") ∈ gw := List.mem_filter.mpr ⟨mt2 _ (List.mem_of_getElem? (i := 12) rfl), rfl⟩
theorem q2_13 : (Jvm.Cond.soleField "BeesSting$Flight" "pads") ∈ gw := List.mem_filter.mpr ⟨mt2 _ (List.mem_of_getElem? (i := 13) rfl), rfl⟩
theorem q2_14 : (Jvm.Cond.lays "BeesSting$Flight" "BeesSting$Flight" "hour" "I") ∈ gw := List.mem_filter.mpr ⟨mt2 _ (List.mem_of_getElem? (i := 14) rfl), rfl⟩
theorem q2_15 : (Jvm.Cond.soleField "BeesSting$Flight" "hour") ∈ gw := List.mem_filter.mpr ⟨mt2 _ (List.mem_of_getElem? (i := 15) rfl), rfl⟩
theorem q2_16 : (Jvm.Cond.lays "BeesSting$Flight" "BeesSting$Flight" "swarm" "I") ∈ gw := List.mem_filter.mpr ⟨mt2 _ (List.mem_of_getElem? (i := 16) rfl), rfl⟩
theorem q2_17 : (Jvm.Cond.soleField "BeesSting$Flight" "swarm") ∈ gw := List.mem_filter.mpr ⟨mt2 _ (List.mem_of_getElem? (i := 17) rfl), rfl⟩
theorem q2_18 : (Jvm.Cond.lays "BeesSting$Flight" "BeesSting$Flight" "liar" "I") ∈ gw := List.mem_filter.mpr ⟨mt2 _ (List.mem_of_getElem? (i := 18) rfl), rfl⟩
theorem q2_19 : (Jvm.Cond.soleField "BeesSting$Flight" "liar") ∈ gw := List.mem_filter.mpr ⟨mt2 _ (List.mem_of_getElem? (i := 19) rfl), rfl⟩
theorem q2_20 : (Jvm.Cond.lays "BeesSting$Flight" "BeesSting$Flight" "sayings" "I") ∈ gw := List.mem_filter.mpr ⟨mt2 _ (List.mem_of_getElem? (i := 20) rfl), rfl⟩
theorem q2_21 : (Jvm.Cond.soleField "BeesSting$Flight" "sayings") ∈ gw := List.mem_filter.mpr ⟨mt2 _ (List.mem_of_getElem? (i := 21) rfl), rfl⟩
theorem q2_22 : (Jvm.Cond.lays "BeesSting$Flight" "BeesSting$Flight" "lies" "I") ∈ gw := List.mem_filter.mpr ⟨mt2 _ (List.mem_of_getElem? (i := 22) rfl), rfl⟩
theorem q2_23 : (Jvm.Cond.soleField "BeesSting$Flight" "lies") ∈ gw := List.mem_filter.mpr ⟨mt2 _ (List.mem_of_getElem? (i := 23) rfl), rfl⟩
theorem q2_24 : (Jvm.Cond.lays "BeesSting$Flight" "BeesSting$Flight" "louds" "I") ∈ gw := List.mem_filter.mpr ⟨mt2 _ (List.mem_of_getElem? (i := 24) rfl), rfl⟩
theorem q2_25 : (Jvm.Cond.soleField "BeesSting$Flight" "louds") ∈ gw := List.mem_filter.mpr ⟨mt2 _ (List.mem_of_getElem? (i := 25) rfl), rfl⟩
theorem q2_26 : (Jvm.Cond.lays "BeesSting$Flight" "BeesSting$Flight" "stings" "I") ∈ gw := List.mem_filter.mpr ⟨mt2 _ (List.mem_of_getElem? (i := 26) rfl), rfl⟩
theorem q2_27 : (Jvm.Cond.soleField "BeesSting$Flight" "stings") ∈ gw := List.mem_filter.mpr ⟨mt2 _ (List.mem_of_getElem? (i := 27) rfl), rfl⟩
theorem q2_28 : (Jvm.Cond.lays "BeesSting$Flight" "BeesSting$Flight" "hurts" "I") ∈ gw := List.mem_filter.mpr ⟨mt2 _ (List.mem_of_getElem? (i := 28) rfl), rfl⟩
theorem q2_29 : (Jvm.Cond.soleField "BeesSting$Flight" "hurts") ∈ gw := List.mem_filter.mpr ⟨mt2 _ (List.mem_of_getElem? (i := 29) rfl), rfl⟩
theorem q2_30 : (Jvm.Cond.superclass "BeesSting$Flight" "java/lang/Object") ∈ gw := List.mem_filter.mpr ⟨mt2 _ (List.mem_of_getElem? (i := 30) rfl), rfl⟩
theorem q2_31 : (Jvm.Cond.classLink "BeesSting" (77 : Nat) "BeesSting$Orders") ∈ gw := List.mem_filter.mpr ⟨mt2 _ (List.mem_of_getElem? (i := 31) rfl), rfl⟩
theorem q2_32 : (Jvm.Cond.instantiable "BeesSting$Orders" (6 : Nat)) ∈ gw := List.mem_filter.mpr ⟨mt2 _ (List.mem_of_getElem? (i := 32) rfl), rfl⟩
theorem q2_33 : (Jvm.Cond.methodLink "BeesSting" (79 : Nat) ({ cls := "BeesSting$Orders", name := "<init>", desc := "([LBeesSting$Flight;LBeesSting$Day;)V" } : Jvm.MethodName)) ∈ gw := List.mem_filter.mpr ⟨mt2 _ (List.mem_of_getElem? (i := 33) rfl), rfl⟩
theorem q2_34 : (Jvm.Cond.instanceMethod ({ cls := "BeesSting$Orders", name := "<init>", desc := "([LBeesSting$Flight;LBeesSting$Day;)V" } : Jvm.MethodName)) ∈ gw := List.mem_filter.mpr ⟨mt2 _ (List.mem_of_getElem? (i := 34) rfl), rfl⟩
theorem q2_35 : (Jvm.Cond.code ({ cls := "BeesSting$Orders", name := "<init>", desc := "([LBeesSting$Flight;LBeesSting$Day;)V" } : Jvm.MethodName) prog_10_method_1_code (3 : Nat) (Option.none : Option Jvm.ClassFile.FieldType)) ∈ gw := List.mem_filter.mpr ⟨mt2 _ (List.mem_of_getElem? (i := 35) rfl), rfl⟩
theorem q2_36 : (Jvm.Cond.methodLink "BeesSting$Orders" (3 : Nat) ({ cls := "java/lang/Object", name := "<init>", desc := "()V" } : Jvm.MethodName)) ∈ gw := List.mem_filter.mpr ⟨mt2 _ (List.mem_of_getElem? (i := 36) rfl), rfl⟩
theorem q2_37 : (Jvm.Cond.fieldLink "BeesSting$Orders" (25 : Nat) "BeesSting$Orders" "flights" "[LBeesSting$Flight;") ∈ gw := List.mem_filter.mpr ⟨mt2 _ (List.mem_of_getElem? (i := 37) rfl), rfl⟩
theorem q2_38 : (Jvm.Cond.fieldLink "BeesSting$Orders" (29 : Nat) "BeesSting$Orders" "day" "LBeesSting$Day;") ∈ gw := List.mem_filter.mpr ⟨mt2 _ (List.mem_of_getElem? (i := 38) rfl), rfl⟩
theorem q2_39 : (Jvm.Cond.fieldLink "BeesSting$Orders" (9 : Nat) "BeesSting$Orders" "tried" "[I") ∈ gw := List.mem_filter.mpr ⟨mt2 _ (List.mem_of_getElem? (i := 39) rfl), rfl⟩
theorem q2_40 : (Jvm.Cond.fieldLink "BeesSting$Orders" (15 : Nat) "BeesSting$Orders" "best" "[I") ∈ gw := List.mem_filter.mpr ⟨mt2 _ (List.mem_of_getElem? (i := 40) rfl), rfl⟩
theorem q2_41 : (Jvm.Cond.fieldLink "BeesSting$Orders" (18 : Nat) "BeesSting$Orders" "fewest" "I") ∈ gw := List.mem_filter.mpr ⟨mt2 _ (List.mem_of_getElem? (i := 41) rfl), rfl⟩
theorem q2_42 : (Jvm.Cond.fieldLink "BeesSting" (212 : Nat) "BeesSting$Orders" "fewest" "I") ∈ gw := List.mem_filter.mpr ⟨mt2 _ (List.mem_of_getElem? (i := 42) rfl), rfl⟩
theorem q2_43 : (Jvm.Cond.fieldLink "BeesSting$Orders" (22 : Nat) "BeesSting$Orders" "quiet" "I") ∈ gw := List.mem_filter.mpr ⟨mt2 _ (List.mem_of_getElem? (i := 43) rfl), rfl⟩
theorem q2_44 : (Jvm.Cond.fieldLink "BeesSting" (215 : Nat) "BeesSting$Orders" "quiet" "I") ∈ gw := List.mem_filter.mpr ⟨mt2 _ (List.mem_of_getElem? (i := 44) rfl), rfl⟩
theorem q2_45 : (Jvm.Cond.laysFinal "BeesSting$Orders" "BeesSting$Orders" "flights" "[LBeesSting$Flight;") ∈ gw := List.mem_filter.mpr ⟨mt2 _ (List.mem_of_getElem? (i := 45) rfl), rfl⟩
theorem q2_46 : (Jvm.Cond.soleField "BeesSting$Orders" "flights") ∈ gw := List.mem_filter.mpr ⟨mt2 _ (List.mem_of_getElem? (i := 46) rfl), rfl⟩
theorem q2_47 : (Jvm.Cond.laysFinal "BeesSting$Orders" "BeesSting$Orders" "day" "LBeesSting$Day;") ∈ gw := List.mem_filter.mpr ⟨mt2 _ (List.mem_of_getElem? (i := 47) rfl), rfl⟩
theorem q2_48 : (Jvm.Cond.soleField "BeesSting$Orders" "day") ∈ gw := List.mem_filter.mpr ⟨mt2 _ (List.mem_of_getElem? (i := 48) rfl), rfl⟩
theorem q2_49 : (Jvm.Cond.laysFinal "BeesSting$Orders" "BeesSting$Orders" "tried" "[I") ∈ gw := List.mem_filter.mpr ⟨mt2 _ (List.mem_of_getElem? (i := 49) rfl), rfl⟩
theorem q2_50 : (Jvm.Cond.soleField "BeesSting$Orders" "tried") ∈ gw := List.mem_filter.mpr ⟨mt2 _ (List.mem_of_getElem? (i := 50) rfl), rfl⟩
theorem q2_51 : (Jvm.Cond.laysFinal "BeesSting$Orders" "BeesSting$Orders" "best" "[I") ∈ gw := List.mem_filter.mpr ⟨mt2 _ (List.mem_of_getElem? (i := 51) rfl), rfl⟩
theorem q2_52 : (Jvm.Cond.soleField "BeesSting$Orders" "best") ∈ gw := List.mem_filter.mpr ⟨mt2 _ (List.mem_of_getElem? (i := 52) rfl), rfl⟩
theorem q2_53 : (Jvm.Cond.lays "BeesSting$Orders" "BeesSting$Orders" "fewest" "I") ∈ gw := List.mem_filter.mpr ⟨mt2 _ (List.mem_of_getElem? (i := 53) rfl), rfl⟩
theorem q2_54 : (Jvm.Cond.soleField "BeesSting$Orders" "fewest") ∈ gw := List.mem_filter.mpr ⟨mt2 _ (List.mem_of_getElem? (i := 54) rfl), rfl⟩
theorem q2_55 : (Jvm.Cond.lays "BeesSting$Orders" "BeesSting$Orders" "quiet" "I") ∈ gw := List.mem_filter.mpr ⟨mt2 _ (List.mem_of_getElem? (i := 55) rfl), rfl⟩
theorem q2_56 : (Jvm.Cond.soleField "BeesSting$Orders" "quiet") ∈ gw := List.mem_filter.mpr ⟨mt2 _ (List.mem_of_getElem? (i := 56) rfl), rfl⟩
theorem q2_57 : (Jvm.Cond.superclass "BeesSting$Orders" "java/lang/Object") ∈ gw := List.mem_filter.mpr ⟨mt2 _ (List.mem_of_getElem? (i := 57) rfl), rfl⟩
theorem q2_58 : (Jvm.Cond.classLink "BeesSting" (86 : Nat) "BeesSting$LastWord") ∈ gw := List.mem_filter.mpr ⟨mt2 _ (List.mem_of_getElem? (i := 58) rfl), rfl⟩
theorem q2_59 : (Jvm.Cond.instantiable "BeesSting$LastWord" (6 : Nat)) ∈ gw := List.mem_filter.mpr ⟨mt2 _ (List.mem_of_getElem? (i := 59) rfl), rfl⟩
theorem q2_60 : (Jvm.Cond.methodLink "BeesSting" (88 : Nat) ({ cls := "BeesSting$LastWord", name := "<init>", desc := "([LBeesSting$Flight;)V" } : Jvm.MethodName)) ∈ gw := List.mem_filter.mpr ⟨mt2 _ (List.mem_of_getElem? (i := 60) rfl), rfl⟩
theorem q2_61 : (Jvm.Cond.instanceMethod ({ cls := "BeesSting$LastWord", name := "<init>", desc := "([LBeesSting$Flight;)V" } : Jvm.MethodName)) ∈ gw := List.mem_filter.mpr ⟨mt2 _ (List.mem_of_getElem? (i := 61) rfl), rfl⟩
theorem q2_62 : (Jvm.Cond.code ({ cls := "BeesSting$LastWord", name := "<init>", desc := "([LBeesSting$Flight;)V" } : Jvm.MethodName) prog_7_method_1_code (2 : Nat) (Option.none : Option Jvm.ClassFile.FieldType)) ∈ gw := List.mem_filter.mpr ⟨mt2 _ (List.mem_of_getElem? (i := 62) rfl), rfl⟩
theorem q2_63 : (Jvm.Cond.methodLink "BeesSting$LastWord" (3 : Nat) ({ cls := "java/lang/Object", name := "<init>", desc := "()V" } : Jvm.MethodName)) ∈ gw := List.mem_filter.mpr ⟨mt2 _ (List.mem_of_getElem? (i := 63) rfl), rfl⟩
theorem q2_64 : (Jvm.Cond.fieldLink "BeesSting$LastWord" (27 : Nat) "BeesSting$LastWord" "flights" "[LBeesSting$Flight;") ∈ gw := List.mem_filter.mpr ⟨mt2 _ (List.mem_of_getElem? (i := 64) rfl), rfl⟩
theorem q2_65 : (Jvm.Cond.fieldLink "BeesSting$LastWord" (9 : Nat) "BeesSting$LastWord" "first" "I") ∈ gw := List.mem_filter.mpr ⟨mt2 _ (List.mem_of_getElem? (i := 65) rfl), rfl⟩
theorem q2_66 : (Jvm.Cond.fieldLink "BeesSting$LastWord" (15 : Nat) "BeesSting$LastWord" "other" "I") ∈ gw := List.mem_filter.mpr ⟨mt2 _ (List.mem_of_getElem? (i := 66) rfl), rfl⟩
theorem q2_67 : (Jvm.Cond.fieldLink "BeesSting$LastWord" (18 : Nat) "BeesSting$LastWord" "turns" "I") ∈ gw := List.mem_filter.mpr ⟨mt2 _ (List.mem_of_getElem? (i := 67) rfl), rfl⟩
theorem q2_68 : (Jvm.Cond.fieldLink "BeesSting$LastWord" (21 : Nat) "BeesSting$LastWord" "stings" "I") ∈ gw := List.mem_filter.mpr ⟨mt2 _ (List.mem_of_getElem? (i := 68) rfl), rfl⟩
theorem q2_69 : (Jvm.Cond.fieldLink "BeesSting" (235 : Nat) "BeesSting$LastWord" "stings" "I") ∈ gw := List.mem_filter.mpr ⟨mt2 _ (List.mem_of_getElem? (i := 69) rfl), rfl⟩
theorem q2_70 : (Jvm.Cond.fieldLink "BeesSting$LastWord" (24 : Nat) "BeesSting$LastWord" "opening" "I") ∈ gw := List.mem_filter.mpr ⟨mt2 _ (List.mem_of_getElem? (i := 70) rfl), rfl⟩
theorem q2_71 : (Jvm.Cond.fieldLink "BeesSting" (238 : Nat) "BeesSting$LastWord" "opening" "I") ∈ gw := List.mem_filter.mpr ⟨mt2 _ (List.mem_of_getElem? (i := 71) rfl), rfl⟩
theorem q2_72 : (Jvm.Cond.laysFinal "BeesSting$LastWord" "BeesSting$LastWord" "flights" "[LBeesSting$Flight;") ∈ gw := List.mem_filter.mpr ⟨mt2 _ (List.mem_of_getElem? (i := 72) rfl), rfl⟩
theorem q2_73 : (Jvm.Cond.soleField "BeesSting$LastWord" "flights") ∈ gw := List.mem_filter.mpr ⟨mt2 _ (List.mem_of_getElem? (i := 73) rfl), rfl⟩
theorem q2_74 : (Jvm.Cond.lays "BeesSting$LastWord" "BeesSting$LastWord" "first" "I") ∈ gw := List.mem_filter.mpr ⟨mt2 _ (List.mem_of_getElem? (i := 74) rfl), rfl⟩
theorem q2_75 : (Jvm.Cond.soleField "BeesSting$LastWord" "first") ∈ gw := List.mem_filter.mpr ⟨mt2 _ (List.mem_of_getElem? (i := 75) rfl), rfl⟩
theorem q2_76 : (Jvm.Cond.lays "BeesSting$LastWord" "BeesSting$LastWord" "other" "I") ∈ gw := List.mem_filter.mpr ⟨mt2 _ (List.mem_of_getElem? (i := 76) rfl), rfl⟩
theorem q2_77 : (Jvm.Cond.soleField "BeesSting$LastWord" "other") ∈ gw := List.mem_filter.mpr ⟨mt2 _ (List.mem_of_getElem? (i := 77) rfl), rfl⟩
theorem q2_78 : (Jvm.Cond.lays "BeesSting$LastWord" "BeesSting$LastWord" "turns" "I") ∈ gw := List.mem_filter.mpr ⟨mt2 _ (List.mem_of_getElem? (i := 78) rfl), rfl⟩
theorem q2_79 : (Jvm.Cond.soleField "BeesSting$LastWord" "turns") ∈ gw := List.mem_filter.mpr ⟨mt2 _ (List.mem_of_getElem? (i := 79) rfl), rfl⟩
theorem q2_80 : (Jvm.Cond.lays "BeesSting$LastWord" "BeesSting$LastWord" "stings" "I") ∈ gw := List.mem_filter.mpr ⟨mt2 _ (List.mem_of_getElem? (i := 80) rfl), rfl⟩
theorem q2_81 : (Jvm.Cond.soleField "BeesSting$LastWord" "stings") ∈ gw := List.mem_filter.mpr ⟨mt2 _ (List.mem_of_getElem? (i := 81) rfl), rfl⟩
theorem q2_82 : (Jvm.Cond.lays "BeesSting$LastWord" "BeesSting$LastWord" "opening" "I") ∈ gw := List.mem_filter.mpr ⟨mt2 _ (List.mem_of_getElem? (i := 82) rfl), rfl⟩
theorem q2_83 : (Jvm.Cond.soleField "BeesSting$LastWord" "opening") ∈ gw := List.mem_filter.mpr ⟨mt2 _ (List.mem_of_getElem? (i := 83) rfl), rfl⟩
theorem q2_84 : (Jvm.Cond.superclass "BeesSting$LastWord" "java/lang/Object") ∈ gw := List.mem_filter.mpr ⟨mt2 _ (List.mem_of_getElem? (i := 84) rfl), rfl⟩
theorem q2_85 : (Jvm.Cond.classLink "BeesSting" (95 : Nat) "BeesSting$Heard") ∈ gw := List.mem_filter.mpr ⟨mt2 _ (List.mem_of_getElem? (i := 85) rfl), rfl⟩
theorem q2_86 : (Jvm.Cond.instantiable "BeesSting$Heard" (9 : Nat)) ∈ gw := List.mem_filter.mpr ⟨mt2 _ (List.mem_of_getElem? (i := 86) rfl), rfl⟩
theorem q2_87 : (Jvm.Cond.methodLink "BeesSting" (97 : Nat) ({ cls := "BeesSting$Heard", name := "<init>", desc := "([LBeesSting$Flight;LBeesSting$Day;LBeesSting$Parish;)V" } : Jvm.MethodName)) ∈ gw := List.mem_filter.mpr ⟨mt2 _ (List.mem_of_getElem? (i := 87) rfl), rfl⟩
theorem q2_88 : (Jvm.Cond.instanceMethod ({ cls := "BeesSting$Heard", name := "<init>", desc := "([LBeesSting$Flight;LBeesSting$Day;LBeesSting$Parish;)V" } : Jvm.MethodName)) ∈ gw := List.mem_filter.mpr ⟨mt2 _ (List.mem_of_getElem? (i := 88) rfl), rfl⟩
theorem q2_89 : (Jvm.Cond.code ({ cls := "BeesSting$Heard", name := "<init>", desc := "([LBeesSting$Flight;LBeesSting$Day;LBeesSting$Parish;)V" } : Jvm.MethodName) prog_6_method_1_code (4 : Nat) (Option.none : Option Jvm.ClassFile.FieldType)) ∈ gw := List.mem_filter.mpr ⟨mt2 _ (List.mem_of_getElem? (i := 89) rfl), rfl⟩
theorem q2_90 : (Jvm.Cond.methodLink "BeesSting$Heard" (3 : Nat) ({ cls := "java/lang/Object", name := "<init>", desc := "()V" } : Jvm.MethodName)) ∈ gw := List.mem_filter.mpr ⟨mt2 _ (List.mem_of_getElem? (i := 90) rfl), rfl⟩
theorem q2_91 : (Jvm.Cond.fieldLink "BeesSting$Heard" (31 : Nat) "BeesSting$Heard" "flights" "[LBeesSting$Flight;") ∈ gw := List.mem_filter.mpr ⟨mt2 _ (List.mem_of_getElem? (i := 91) rfl), rfl⟩
theorem q2_92 : (Jvm.Cond.fieldLink "BeesSting$Heard" (35 : Nat) "BeesSting$Heard" "day" "LBeesSting$Day;") ∈ gw := List.mem_filter.mpr ⟨mt2 _ (List.mem_of_getElem? (i := 92) rfl), rfl⟩
theorem q2_93 : (Jvm.Cond.fieldLink "BeesSting$Heard" (39 : Nat) "BeesSting$Heard" "parish" "LBeesSting$Parish;") ∈ gw := List.mem_filter.mpr ⟨mt2 _ (List.mem_of_getElem? (i := 93) rfl), rfl⟩
theorem q2_94 : (Jvm.Cond.fieldLink "BeesSting$Heard" (9 : Nat) "BeesSting$Heard" "seen" "[I") ∈ gw := List.mem_filter.mpr ⟨mt2 _ (List.mem_of_getElem? (i := 94) rfl), rfl⟩
theorem q2_95 : (Jvm.Cond.fieldLink "BeesSting$Heard" (15 : Nat) "BeesSting$Heard" "known" "I") ∈ gw := List.mem_filter.mpr ⟨mt2 _ (List.mem_of_getElem? (i := 95) rfl), rfl⟩
theorem q2_96 : (Jvm.Cond.fieldLink "BeesSting$Heard" (19 : Nat) "BeesSting$Heard" "ways" "I") ∈ gw := List.mem_filter.mpr ⟨mt2 _ (List.mem_of_getElem? (i := 96) rfl), rfl⟩
theorem q2_97 : (Jvm.Cond.fieldLink "BeesSting" (262 : Nat) "BeesSting$Heard" "ways" "I") ∈ gw := List.mem_filter.mpr ⟨mt2 _ (List.mem_of_getElem? (i := 97) rfl), rfl⟩
theorem q2_98 : (Jvm.Cond.fieldLink "BeesSting$Heard" (22 : Nat) "BeesSting$Heard" "fewest" "I") ∈ gw := List.mem_filter.mpr ⟨mt2 _ (List.mem_of_getElem? (i := 98) rfl), rfl⟩
theorem q2_99 : (Jvm.Cond.fieldLink "BeesSting" (265 : Nat) "BeesSting$Heard" "fewest" "I") ∈ gw := List.mem_filter.mpr ⟨mt2 _ (List.mem_of_getElem? (i := 99) rfl), rfl⟩
theorem q2_100 : (Jvm.Cond.fieldLink "BeesSting$Heard" (25 : Nat) "BeesSting$Heard" "which" "I") ∈ gw := List.mem_filter.mpr ⟨mt2 _ (List.mem_of_getElem? (i := 100) rfl), rfl⟩
theorem q2_101 : (Jvm.Cond.fieldLink "BeesSting" (266 : Nat) "BeesSting$Heard" "which" "I") ∈ gw := List.mem_filter.mpr ⟨mt2 _ (List.mem_of_getElem? (i := 101) rfl), rfl⟩
theorem q2_102 : (Jvm.Cond.fieldLink "BeesSting$Heard" (28 : Nat) "BeesSting$Heard" "certain" "I") ∈ gw := List.mem_filter.mpr ⟨mt2 _ (List.mem_of_getElem? (i := 102) rfl), rfl⟩
theorem q2_103 : (Jvm.Cond.fieldLink "BeesSting" (269 : Nat) "BeesSting$Heard" "certain" "I") ∈ gw := List.mem_filter.mpr ⟨mt2 _ (List.mem_of_getElem? (i := 103) rfl), rfl⟩
theorem q2_104 : (Jvm.Cond.laysFinal "BeesSting$Heard" "BeesSting$Heard" "flights" "[LBeesSting$Flight;") ∈ gw := List.mem_filter.mpr ⟨mt2 _ (List.mem_of_getElem? (i := 104) rfl), rfl⟩
theorem q2_105 : (Jvm.Cond.soleField "BeesSting$Heard" "flights") ∈ gw := List.mem_filter.mpr ⟨mt2 _ (List.mem_of_getElem? (i := 105) rfl), rfl⟩
theorem q2_106 : (Jvm.Cond.laysFinal "BeesSting$Heard" "BeesSting$Heard" "day" "LBeesSting$Day;") ∈ gw := List.mem_filter.mpr ⟨mt2 _ (List.mem_of_getElem? (i := 106) rfl), rfl⟩
theorem q2_107 : (Jvm.Cond.soleField "BeesSting$Heard" "day") ∈ gw := List.mem_filter.mpr ⟨mt2 _ (List.mem_of_getElem? (i := 107) rfl), rfl⟩
theorem q2_108 : (Jvm.Cond.laysFinal "BeesSting$Heard" "BeesSting$Heard" "parish" "LBeesSting$Parish;") ∈ gw := List.mem_filter.mpr ⟨mt2 _ (List.mem_of_getElem? (i := 108) rfl), rfl⟩
theorem q2_109 : (Jvm.Cond.soleField "BeesSting$Heard" "parish") ∈ gw := List.mem_filter.mpr ⟨mt2 _ (List.mem_of_getElem? (i := 109) rfl), rfl⟩
theorem q2_110 : (Jvm.Cond.laysFinal "BeesSting$Heard" "BeesSting$Heard" "seen" "[I") ∈ gw := List.mem_filter.mpr ⟨mt2 _ (List.mem_of_getElem? (i := 110) rfl), rfl⟩
theorem q2_111 : (Jvm.Cond.soleField "BeesSting$Heard" "seen") ∈ gw := List.mem_filter.mpr ⟨mt2 _ (List.mem_of_getElem? (i := 111) rfl), rfl⟩
theorem q2_112 : (Jvm.Cond.lays "BeesSting$Heard" "BeesSting$Heard" "known" "I") ∈ gw := List.mem_filter.mpr ⟨mt2 _ (List.mem_of_getElem? (i := 112) rfl), rfl⟩
theorem q2_113 : (Jvm.Cond.soleField "BeesSting$Heard" "known") ∈ gw := List.mem_filter.mpr ⟨mt2 _ (List.mem_of_getElem? (i := 113) rfl), rfl⟩
theorem q2_114 : (Jvm.Cond.lays "BeesSting$Heard" "BeesSting$Heard" "ways" "I") ∈ gw := List.mem_filter.mpr ⟨mt2 _ (List.mem_of_getElem? (i := 114) rfl), rfl⟩
theorem q2_115 : (Jvm.Cond.soleField "BeesSting$Heard" "ways") ∈ gw := List.mem_filter.mpr ⟨mt2 _ (List.mem_of_getElem? (i := 115) rfl), rfl⟩
theorem q2_116 : (Jvm.Cond.lays "BeesSting$Heard" "BeesSting$Heard" "fewest" "I") ∈ gw := List.mem_filter.mpr ⟨mt2 _ (List.mem_of_getElem? (i := 116) rfl), rfl⟩
theorem q2_117 : (Jvm.Cond.soleField "BeesSting$Heard" "fewest") ∈ gw := List.mem_filter.mpr ⟨mt2 _ (List.mem_of_getElem? (i := 117) rfl), rfl⟩
theorem q2_118 : (Jvm.Cond.lays "BeesSting$Heard" "BeesSting$Heard" "which" "I") ∈ gw := List.mem_filter.mpr ⟨mt2 _ (List.mem_of_getElem? (i := 118) rfl), rfl⟩
theorem q2_119 : (Jvm.Cond.soleField "BeesSting$Heard" "which") ∈ gw := List.mem_filter.mpr ⟨mt2 _ (List.mem_of_getElem? (i := 119) rfl), rfl⟩
theorem q2_120 : (Jvm.Cond.lays "BeesSting$Heard" "BeesSting$Heard" "certain" "I") ∈ gw := List.mem_filter.mpr ⟨mt2 _ (List.mem_of_getElem? (i := 120) rfl), rfl⟩
theorem q2_121 : (Jvm.Cond.soleField "BeesSting$Heard" "certain") ∈ gw := List.mem_filter.mpr ⟨mt2 _ (List.mem_of_getElem? (i := 121) rfl), rfl⟩
theorem q2_122 : (Jvm.Cond.superclass "BeesSting$Heard" "java/lang/Object") ∈ gw := List.mem_filter.mpr ⟨mt2 _ (List.mem_of_getElem? (i := 122) rfl), rfl⟩
theorem q2_123 : (Jvm.Cond.fieldLink "BeesSting" (52 : Nat) "BeesSting" "parish" "LBeesSting$Parish;") ∈ gw := List.mem_filter.mpr ⟨mt2 _ (List.mem_of_getElem? (i := 123) rfl), rfl⟩
theorem q2_124 : (Jvm.Cond.fieldLink "BeesSting" (56 : Nat) "BeesSting" "rules" "LBeesSting$Law;") ∈ gw := List.mem_filter.mpr ⟨mt2 _ (List.mem_of_getElem? (i := 124) rfl), rfl⟩
theorem q2_125 : (Jvm.Cond.fieldLink "BeesSting" (64 : Nat) "BeesSting" "deed" "LBeesSting$Flight;") ∈ gw := List.mem_filter.mpr ⟨mt2 _ (List.mem_of_getElem? (i := 125) rfl), rfl⟩
theorem q2_126 : (Jvm.Cond.fieldLink "BeesSting" (68 : Nat) "BeesSting" "thought" "LBeesSting$Flight;") ∈ gw := List.mem_filter.mpr ⟨mt2 _ (List.mem_of_getElem? (i := 126) rfl), rfl⟩
theorem q2_127 : (Jvm.Cond.fieldLink "BeesSting" (71 : Nat) "BeesSting" "further" "LBeesSting$Flight;") ∈ gw := List.mem_filter.mpr ⟨mt2 _ (List.mem_of_getElem? (i := 127) rfl), rfl⟩
theorem q2_128 : (Jvm.Cond.fieldLink "BeesSting" (60 : Nat) "BeesSting" "today" "LBeesSting$Day;") ∈ gw := List.mem_filter.mpr ⟨mt2 _ (List.mem_of_getElem? (i := 128) rfl), rfl⟩
theorem q2_129 : (Jvm.Cond.fieldLink "BeesSting" (82 : Nat) "BeesSting" "arranging" "LBeesSting$Orders;") ∈ gw := List.mem_filter.mpr ⟨mt2 _ (List.mem_of_getElem? (i := 129) rfl), rfl⟩
theorem q2_130 : (Jvm.Cond.fieldLink "BeesSting" (91 : Nat) "BeesSting" "talking" "LBeesSting$LastWord;") ∈ gw := List.mem_filter.mpr ⟨mt2 _ (List.mem_of_getElem? (i := 130) rfl), rfl⟩
theorem q2_131 : (Jvm.Cond.fieldLink "BeesSting" (100 : Nat) "BeesSting" "hearing" "LBeesSting$Heard;") ∈ gw := List.mem_filter.mpr ⟨mt2 _ (List.mem_of_getElem? (i := 131) rfl), rfl⟩
theorem q2_132 : (Jvm.Cond.fieldLink "BeesSting" (10 : Nat) "BeesSting" "changes" "LBeesSting$Changes;") ∈ gw := List.mem_filter.mpr ⟨mt2 _ (List.mem_of_getElem? (i := 132) rfl), rfl⟩
theorem q2_133 : (Jvm.Cond.fieldLink "BeesSting" (19 : Nat) "BeesSting" "shelves" "LBeesSting$Shelves;") ∈ gw := List.mem_filter.mpr ⟨mt2 _ (List.mem_of_getElem? (i := 133) rfl), rfl⟩
theorem q2_134 : (Jvm.Cond.fieldLink "BeesSting" (26 : Nat) "BeesSting" "acts" "LBeesSting$Acts;") ∈ gw := List.mem_filter.mpr ⟨mt2 _ (List.mem_of_getElem? (i := 134) rfl), rfl⟩
theorem q2_135 : (Jvm.Cond.fieldLink "BeesSting" (74 : Nat) "BeesSting" "keptFlight" "LBeesSting$Flight;") ∈ gw := List.mem_filter.mpr ⟨mt2 _ (List.mem_of_getElem? (i := 135) rfl), rfl⟩
theorem q2_136 : (Jvm.Cond.fieldLink "BeesSting" (30 : Nat) "BeesSting" "keptCells" "[I") ∈ gw := List.mem_filter.mpr ⟨mt2 _ (List.mem_of_getElem? (i := 136) rfl), rfl⟩
theorem q2_137 : (Jvm.Cond.fieldLink "BeesSting" (34 : Nat) "BeesSting" "keptPeople" "I") ∈ gw := List.mem_filter.mpr ⟨mt2 _ (List.mem_of_getElem? (i := 137) rfl), rfl⟩
theorem q2_138 : (Jvm.Cond.laysFinal "BeesSting" "BeesSting" "parish" "LBeesSting$Parish;") ∈ gw := List.mem_filter.mpr ⟨mt2 _ (List.mem_of_getElem? (i := 138) rfl), rfl⟩
theorem q2_139 : (Jvm.Cond.soleField "BeesSting" "parish") ∈ gw := List.mem_filter.mpr ⟨mt2 _ (List.mem_of_getElem? (i := 139) rfl), rfl⟩
theorem q2_140 : (Jvm.Cond.laysFinal "BeesSting" "BeesSting" "rules" "LBeesSting$Law;") ∈ gw := List.mem_filter.mpr ⟨mt2 _ (List.mem_of_getElem? (i := 140) rfl), rfl⟩
theorem q2_141 : (Jvm.Cond.soleField "BeesSting" "rules") ∈ gw := List.mem_filter.mpr ⟨mt2 _ (List.mem_of_getElem? (i := 141) rfl), rfl⟩
theorem q2_142 : (Jvm.Cond.laysFinal "BeesSting" "BeesSting" "deed" "LBeesSting$Flight;") ∈ gw := List.mem_filter.mpr ⟨mt2 _ (List.mem_of_getElem? (i := 142) rfl), rfl⟩
theorem q2_143 : (Jvm.Cond.soleField "BeesSting" "deed") ∈ gw := List.mem_filter.mpr ⟨mt2 _ (List.mem_of_getElem? (i := 143) rfl), rfl⟩
theorem q2_144 : (Jvm.Cond.laysFinal "BeesSting" "BeesSting" "thought" "LBeesSting$Flight;") ∈ gw := List.mem_filter.mpr ⟨mt2 _ (List.mem_of_getElem? (i := 144) rfl), rfl⟩
theorem q2_145 : (Jvm.Cond.soleField "BeesSting" "thought") ∈ gw := List.mem_filter.mpr ⟨mt2 _ (List.mem_of_getElem? (i := 145) rfl), rfl⟩
theorem q2_146 : (Jvm.Cond.laysFinal "BeesSting" "BeesSting" "further" "LBeesSting$Flight;") ∈ gw := List.mem_filter.mpr ⟨mt2 _ (List.mem_of_getElem? (i := 146) rfl), rfl⟩
theorem q2_147 : (Jvm.Cond.soleField "BeesSting" "further") ∈ gw := List.mem_filter.mpr ⟨mt2 _ (List.mem_of_getElem? (i := 147) rfl), rfl⟩
theorem q2_148 : (Jvm.Cond.laysFinal "BeesSting" "BeesSting" "today" "LBeesSting$Day;") ∈ gw := List.mem_filter.mpr ⟨mt2 _ (List.mem_of_getElem? (i := 148) rfl), rfl⟩
theorem q2_149 : (Jvm.Cond.soleField "BeesSting" "today") ∈ gw := List.mem_filter.mpr ⟨mt2 _ (List.mem_of_getElem? (i := 149) rfl), rfl⟩
theorem q2_150 : (Jvm.Cond.laysFinal "BeesSting" "BeesSting" "arranging" "LBeesSting$Orders;") ∈ gw := List.mem_filter.mpr ⟨mt2 _ (List.mem_of_getElem? (i := 150) rfl), rfl⟩
theorem q2_151 : (Jvm.Cond.soleField "BeesSting" "arranging") ∈ gw := List.mem_filter.mpr ⟨mt2 _ (List.mem_of_getElem? (i := 151) rfl), rfl⟩
theorem q2_152 : (Jvm.Cond.laysFinal "BeesSting" "BeesSting" "talking" "LBeesSting$LastWord;") ∈ gw := List.mem_filter.mpr ⟨mt2 _ (List.mem_of_getElem? (i := 152) rfl), rfl⟩
theorem q2_153 : (Jvm.Cond.soleField "BeesSting" "talking") ∈ gw := List.mem_filter.mpr ⟨mt2 _ (List.mem_of_getElem? (i := 153) rfl), rfl⟩
theorem q2_154 : (Jvm.Cond.laysFinal "BeesSting" "BeesSting" "hearing" "LBeesSting$Heard;") ∈ gw := List.mem_filter.mpr ⟨mt2 _ (List.mem_of_getElem? (i := 154) rfl), rfl⟩
theorem q2_155 : (Jvm.Cond.soleField "BeesSting" "hearing") ∈ gw := List.mem_filter.mpr ⟨mt2 _ (List.mem_of_getElem? (i := 155) rfl), rfl⟩
theorem q2_156 : (Jvm.Cond.laysFinal "BeesSting" "BeesSting" "changes" "LBeesSting$Changes;") ∈ gw := List.mem_filter.mpr ⟨mt2 _ (List.mem_of_getElem? (i := 156) rfl), rfl⟩
theorem q2_157 : (Jvm.Cond.soleField "BeesSting" "changes") ∈ gw := List.mem_filter.mpr ⟨mt2 _ (List.mem_of_getElem? (i := 157) rfl), rfl⟩
theorem q2_158 : (Jvm.Cond.laysFinal "BeesSting" "BeesSting" "shelves" "LBeesSting$Shelves;") ∈ gw := List.mem_filter.mpr ⟨mt2 _ (List.mem_of_getElem? (i := 158) rfl), rfl⟩
theorem q2_159 : (Jvm.Cond.soleField "BeesSting" "shelves") ∈ gw := List.mem_filter.mpr ⟨mt2 _ (List.mem_of_getElem? (i := 159) rfl), rfl⟩
theorem q2_160 : (Jvm.Cond.laysFinal "BeesSting" "BeesSting" "acts" "LBeesSting$Acts;") ∈ gw := List.mem_filter.mpr ⟨mt2 _ (List.mem_of_getElem? (i := 160) rfl), rfl⟩
theorem q2_161 : (Jvm.Cond.soleField "BeesSting" "acts") ∈ gw := List.mem_filter.mpr ⟨mt2 _ (List.mem_of_getElem? (i := 161) rfl), rfl⟩
theorem q2_162 : (Jvm.Cond.laysFinal "BeesSting" "BeesSting" "keptFlight" "LBeesSting$Flight;") ∈ gw := List.mem_filter.mpr ⟨mt2 _ (List.mem_of_getElem? (i := 162) rfl), rfl⟩
theorem q2_163 : (Jvm.Cond.soleField "BeesSting" "keptFlight") ∈ gw := List.mem_filter.mpr ⟨mt2 _ (List.mem_of_getElem? (i := 163) rfl), rfl⟩
theorem q2_164 : (Jvm.Cond.laysFinal "BeesSting" "BeesSting" "keptCells" "[I") ∈ gw := List.mem_filter.mpr ⟨mt2 _ (List.mem_of_getElem? (i := 164) rfl), rfl⟩
theorem q2_165 : (Jvm.Cond.soleField "BeesSting" "keptCells") ∈ gw := List.mem_filter.mpr ⟨mt2 _ (List.mem_of_getElem? (i := 165) rfl), rfl⟩
theorem q2_166 : (Jvm.Cond.lays "BeesSting" "BeesSting" "keptPeople" "I") ∈ gw := List.mem_filter.mpr ⟨mt2 _ (List.mem_of_getElem? (i := 166) rfl), rfl⟩
theorem q2_167 : (Jvm.Cond.soleField "BeesSting" "keptPeople") ∈ gw := List.mem_filter.mpr ⟨mt2 _ (List.mem_of_getElem? (i := 167) rfl), rfl⟩
theorem q2_168 : (Jvm.Cond.superclass "BeesSting" "java/lang/Object") ∈ gw := List.mem_filter.mpr ⟨mt2 _ (List.mem_of_getElem? (i := 168) rfl), rfl⟩
theorem q2_169 : (Jvm.Cond.methodLink "BeesStingLaw" (13 : Nat) ({ cls := "BeesSting", name := "person", desc := "(I)I" } : Jvm.MethodName)) ∈ gw := List.mem_filter.mpr ⟨mt2 _ (List.mem_of_getElem? (i := 169) rfl), rfl⟩
theorem q2_170 : (Jvm.Cond.instanceMethod ({ cls := "BeesSting", name := "person", desc := "(I)I" } : Jvm.MethodName)) ∈ gw := List.mem_filter.mpr ⟨mt2 _ (List.mem_of_getElem? (i := 170) rfl), rfl⟩
theorem q2_171 : (Jvm.Cond.selects "BeesSting" ({ cls := "BeesSting", name := "person", desc := "(I)I" } : Jvm.MethodName) ({ cls := "BeesSting", name := "person", desc := "(I)I" } : Jvm.MethodName)) ∈ gw := List.mem_filter.mpr ⟨mt2 _ (List.mem_of_getElem? (i := 171) rfl), rfl⟩
theorem q2_172 : (Jvm.Cond.code ({ cls := "BeesSting", name := "person", desc := "(I)I" } : Jvm.MethodName) prog_1_method_2_code (2 : Nat) (Option.some Jvm.ClassFile.FieldType.int)) ∈ gw := List.mem_filter.mpr ⟨mt2 _ (List.mem_of_getElem? (i := 172) rfl), rfl⟩
theorem q2_173 : (Jvm.Cond.methodLink "BeesSting" (104 : Nat) ({ cls := "BeesSting", name := "isCell", desc := "(I)Z" } : Jvm.MethodName)) ∈ gw := List.mem_filter.mpr ⟨mt2 _ (List.mem_of_getElem? (i := 173) rfl), rfl⟩
theorem q2_174 : (Jvm.Cond.static ({ cls := "BeesSting", name := "isCell", desc := "(I)Z" } : Jvm.MethodName)) ∈ gw := List.mem_filter.mpr ⟨mt2 _ (List.mem_of_getElem? (i := 174) rfl), rfl⟩
theorem q2_175 : (Jvm.Cond.code ({ cls := "BeesSting", name := "isCell", desc := "(I)Z" } : Jvm.MethodName) prog_1_method_39_code (1 : Nat) (Option.some Jvm.ClassFile.FieldType.boolean)) ∈ gw := List.mem_filter.mpr ⟨mt2 _ (List.mem_of_getElem? (i := 175) rfl), rfl⟩
theorem q2_176 : (Jvm.Cond.methodLink "BeesSting" (111 : Nat) ({ cls := "BeesSting", name := "join", desc := "(III)I" } : Jvm.MethodName)) ∈ gw := List.mem_filter.mpr ⟨mt2 _ (List.mem_of_getElem? (i := 176) rfl), rfl⟩
theorem q2_177 : (Jvm.Cond.privateMethod ({ cls := "BeesSting", name := "join", desc := "(III)I" } : Jvm.MethodName)) ∈ lw_tbl := mt2 _ (List.mem_of_getElem? (i := 177) rfl)
theorem q2_178 : (Jvm.Cond.instanceMethod ({ cls := "BeesSting", name := "join", desc := "(III)I" } : Jvm.MethodName)) ∈ gw := List.mem_filter.mpr ⟨mt2 _ (List.mem_of_getElem? (i := 178) rfl), rfl⟩
theorem q2_179 : (Jvm.Cond.code ({ cls := "BeesSting", name := "join", desc := "(III)I" } : Jvm.MethodName) prog_1_method_40_code (5 : Nat) (Option.some Jvm.ClassFile.FieldType.int)) ∈ gw := List.mem_filter.mpr ⟨mt2 _ (List.mem_of_getElem? (i := 179) rfl), rfl⟩
theorem q2_180 : (Jvm.Cond.methodLink "BeesSting" (371 : Nat) ({ cls := "BeesSting$Parish", name := "join", desc := "(II)I" } : Jvm.MethodName)) ∈ gw := List.mem_filter.mpr ⟨mt2 _ (List.mem_of_getElem? (i := 180) rfl), rfl⟩
theorem q2_181 : (Jvm.Cond.instanceMethod ({ cls := "BeesSting$Parish", name := "join", desc := "(II)I" } : Jvm.MethodName)) ∈ gw := List.mem_filter.mpr ⟨mt2 _ (List.mem_of_getElem? (i := 181) rfl), rfl⟩
theorem q2_182 : (Jvm.Cond.selects "BeesSting$Parish" ({ cls := "BeesSting$Parish", name := "join", desc := "(II)I" } : Jvm.MethodName) ({ cls := "BeesSting$Parish", name := "join", desc := "(II)I" } : Jvm.MethodName)) ∈ gw := List.mem_filter.mpr ⟨mt2 _ (List.mem_of_getElem? (i := 182) rfl), rfl⟩
theorem q2_183 : (Jvm.Cond.code ({ cls := "BeesSting$Parish", name := "join", desc := "(II)I" } : Jvm.MethodName) prog_11_method_3_code (4 : Nat) (Option.some Jvm.ClassFile.FieldType.int)) ∈ gw := List.mem_filter.mpr ⟨mt2 _ (List.mem_of_getElem? (i := 183) rfl), rfl⟩
theorem q2_184 : (Jvm.Cond.methodLink "BeesSting$Parish" (34 : Nat) ({ cls := "BeesSting$Parish", name := "lookAround", desc := "()V" } : Jvm.MethodName)) ∈ gw := List.mem_filter.mpr ⟨mt2 _ (List.mem_of_getElem? (i := 184) rfl), rfl⟩
theorem q2_185 : (Jvm.Cond.privateMethod ({ cls := "BeesSting$Parish", name := "lookAround", desc := "()V" } : Jvm.MethodName)) ∈ lw_tbl := mt2 _ (List.mem_of_getElem? (i := 185) rfl)
theorem q2_186 : (Jvm.Cond.instanceMethod ({ cls := "BeesSting$Parish", name := "lookAround", desc := "()V" } : Jvm.MethodName)) ∈ gw := List.mem_filter.mpr ⟨mt2 _ (List.mem_of_getElem? (i := 186) rfl), rfl⟩
theorem q2_187 : (Jvm.Cond.code ({ cls := "BeesSting$Parish", name := "lookAround", desc := "()V" } : Jvm.MethodName) prog_11_method_6_code (2 : Nat) (Option.none : Option Jvm.ClassFile.FieldType)) ∈ gw := List.mem_filter.mpr ⟨mt2 _ (List.mem_of_getElem? (i := 187) rfl), rfl⟩
theorem q2_188 : (Jvm.Cond.methodLink "BeesSting$Parish" (37 : Nat) ({ cls := "BeesSting$Parish", name := "within", desc := "(I)I" } : Jvm.MethodName)) ∈ gw := List.mem_filter.mpr ⟨mt2 _ (List.mem_of_getElem? (i := 188) rfl), rfl⟩
theorem q2_189 : (Jvm.Cond.instanceMethod ({ cls := "BeesSting$Parish", name := "within", desc := "(I)I" } : Jvm.MethodName)) ∈ gw := List.mem_filter.mpr ⟨mt2 _ (List.mem_of_getElem? (i := 189) rfl), rfl⟩
theorem q2_190 : (Jvm.Cond.selects "BeesSting$Parish" ({ cls := "BeesSting$Parish", name := "within", desc := "(I)I" } : Jvm.MethodName) ({ cls := "BeesSting$Parish", name := "within", desc := "(I)I" } : Jvm.MethodName)) ∈ gw := List.mem_filter.mpr ⟨mt2 _ (List.mem_of_getElem? (i := 190) rfl), rfl⟩
theorem q2_191 : (Jvm.Cond.code ({ cls := "BeesSting$Parish", name := "within", desc := "(I)I" } : Jvm.MethodName) prog_11_method_7_code (4 : Nat) (Option.some Jvm.ClassFile.FieldType.int)) ∈ gw := List.mem_filter.mpr ⟨mt2 _ (List.mem_of_getElem? (i := 191) rfl), rfl⟩
theorem q2_192 : (Jvm.Cond.methodLink "BeesSting$Parish" (46 : Nat) ({ cls := "BeesSting$Parish", name := "apart", desc := "(II)I" } : Jvm.MethodName)) ∈ gw := List.mem_filter.mpr ⟨mt2 _ (List.mem_of_getElem? (i := 192) rfl), rfl⟩
theorem q2_193 : (Jvm.Cond.static ({ cls := "BeesSting$Parish", name := "apart", desc := "(II)I" } : Jvm.MethodName)) ∈ gw := List.mem_filter.mpr ⟨mt2 _ (List.mem_of_getElem? (i := 193) rfl), rfl⟩
theorem q2_194 : (Jvm.Cond.code ({ cls := "BeesSting$Parish", name := "apart", desc := "(II)I" } : Jvm.MethodName) prog_11_method_10_code (4 : Nat) (Option.some Jvm.ClassFile.FieldType.int)) ∈ gw := List.mem_filter.mpr ⟨mt2 _ (List.mem_of_getElem? (i := 194) rfl), rfl⟩
theorem q2_195 : (Jvm.Cond.methodLink "BeesSting$Parish" (41 : Nat) ({ cls := "java/lang/Integer", name := "bitCount", desc := "(I)I" } : Jvm.MethodName)) ∈ gw := List.mem_filter.mpr ⟨mt2 _ (List.mem_of_getElem? (i := 195) rfl), rfl⟩
theorem q2_196 : (Jvm.Cond.static ({ cls := "java/lang/Integer", name := "bitCount", desc := "(I)I" } : Jvm.MethodName)) ∈ gw := List.mem_filter.mpr ⟨mt2 _ (List.mem_of_getElem? (i := 196) rfl), rfl⟩
theorem q2_197 : (Jvm.Cond.code ({ cls := "java/lang/Integer", name := "bitCount", desc := "(I)I" } : Jvm.MethodName) prog_15_method_49_code (1 : Nat) (Option.some Jvm.ClassFile.FieldType.int)) ∈ gw := List.mem_filter.mpr ⟨mt2 _ (List.mem_of_getElem? (i := 197) rfl), rfl⟩
theorem q2_198 : (Jvm.Cond.constant "java/lang/Integer" (265 : Nat) (1431655765 : Int32)) ∈ gw := List.mem_filter.mpr ⟨mt2 _ (List.mem_of_getElem? (i := 198) rfl), rfl⟩
theorem q2_199 : (Jvm.Cond.constant "java/lang/Integer" (266 : Nat) (858993459 : Int32)) ∈ gw := List.mem_filter.mpr ⟨mt2 _ (List.mem_of_getElem? (i := 199) rfl), rfl⟩
theorem q2_200 : (Jvm.Cond.constant "java/lang/Integer" (267 : Nat) (252645135 : Int32)) ∈ gw := List.mem_filter.mpr ⟨mt2 _ (List.mem_of_getElem? (i := 200) rfl), rfl⟩
theorem q2_201 : (Jvm.Cond.methodLink "BeesStingLaw" (18 : Nat) ({ cls := "BeesSting", name := "people", desc := "(III)I" } : Jvm.MethodName)) ∈ gw := List.mem_filter.mpr ⟨mt2 _ (List.mem_of_getElem? (i := 201) rfl), rfl⟩
theorem q2_202 : (Jvm.Cond.instanceMethod ({ cls := "BeesSting", name := "people", desc := "(III)I" } : Jvm.MethodName)) ∈ gw := List.mem_filter.mpr ⟨mt2 _ (List.mem_of_getElem? (i := 202) rfl), rfl⟩
theorem q2_203 : (Jvm.Cond.selects "BeesSting" ({ cls := "BeesSting", name := "people", desc := "(III)I" } : Jvm.MethodName) ({ cls := "BeesSting", name := "people", desc := "(III)I" } : Jvm.MethodName)) ∈ gw := List.mem_filter.mpr ⟨mt2 _ (List.mem_of_getElem? (i := 203) rfl), rfl⟩
theorem q2_204 : (Jvm.Cond.code ({ cls := "BeesSting", name := "people", desc := "(III)I" } : Jvm.MethodName) prog_1_method_3_code (5 : Nat) (Option.some Jvm.ClassFile.FieldType.int)) ∈ gw := List.mem_filter.mpr ⟨mt2 _ (List.mem_of_getElem? (i := 204) rfl), rfl⟩
theorem q2_205 : (Jvm.Cond.methodLink "BeesSting" (115 : Nat) ({ cls := "BeesSting$Shelves", name := "isShelf", desc := "(I)Z" } : Jvm.MethodName)) ∈ gw := List.mem_filter.mpr ⟨mt2 _ (List.mem_of_getElem? (i := 205) rfl), rfl⟩
theorem q2_206 : (Jvm.Cond.static ({ cls := "BeesSting$Shelves", name := "isShelf", desc := "(I)Z" } : Jvm.MethodName)) ∈ gw := List.mem_filter.mpr ⟨mt2 _ (List.mem_of_getElem? (i := 206) rfl), rfl⟩
theorem q2_207 : (Jvm.Cond.code ({ cls := "BeesSting$Shelves", name := "isShelf", desc := "(I)Z" } : Jvm.MethodName) prog_12_method_2_code (1 : Nat) (Option.some Jvm.ClassFile.FieldType.boolean)) ∈ gw := List.mem_filter.mpr ⟨mt2 _ (List.mem_of_getElem? (i := 207) rfl), rfl⟩
theorem q2_208 : (Jvm.Cond.methodLink "BeesSting" (118 : Nat) ({ cls := "BeesSting$Shelves", name := "isEmpty", desc := "(I)Z" } : Jvm.MethodName)) ∈ gw := List.mem_filter.mpr ⟨mt2 _ (List.mem_of_getElem? (i := 208) rfl), rfl⟩
theorem q2_209 : (Jvm.Cond.instanceMethod ({ cls := "BeesSting$Shelves", name := "isEmpty", desc := "(I)Z" } : Jvm.MethodName)) ∈ gw := List.mem_filter.mpr ⟨mt2 _ (List.mem_of_getElem? (i := 209) rfl), rfl⟩
theorem q2_210 : (Jvm.Cond.selects "BeesSting$Shelves" ({ cls := "BeesSting$Shelves", name := "isEmpty", desc := "(I)Z" } : Jvm.MethodName) ({ cls := "BeesSting$Shelves", name := "isEmpty", desc := "(I)Z" } : Jvm.MethodName)) ∈ gw := List.mem_filter.mpr ⟨mt2 _ (List.mem_of_getElem? (i := 210) rfl), rfl⟩
theorem q2_211 : (Jvm.Cond.code ({ cls := "BeesSting$Shelves", name := "isEmpty", desc := "(I)Z" } : Jvm.MethodName) prog_12_method_3_code (2 : Nat) (Option.some Jvm.ClassFile.FieldType.boolean)) ∈ gw := List.mem_filter.mpr ⟨mt2 _ (List.mem_of_getElem? (i := 211) rfl), rfl⟩
theorem q2_212 : (Jvm.Cond.methodLink "BeesSting" (121 : Nat) ({ cls := "BeesSting$Shelves", name := "holdsRow", desc := "(II)Z" } : Jvm.MethodName)) ∈ gw := List.mem_filter.mpr ⟨mt2 _ (List.mem_of_getElem? (i := 212) rfl), rfl⟩
theorem q2_213 : (Jvm.Cond.instanceMethod ({ cls := "BeesSting$Shelves", name := "holdsRow", desc := "(II)Z" } : Jvm.MethodName)) ∈ gw := List.mem_filter.mpr ⟨mt2 _ (List.mem_of_getElem? (i := 213) rfl), rfl⟩
theorem q2_214 : (Jvm.Cond.selects "BeesSting$Shelves" ({ cls := "BeesSting$Shelves", name := "holdsRow", desc := "(II)Z" } : Jvm.MethodName) ({ cls := "BeesSting$Shelves", name := "holdsRow", desc := "(II)Z" } : Jvm.MethodName)) ∈ gw := List.mem_filter.mpr ⟨mt2 _ (List.mem_of_getElem? (i := 214) rfl), rfl⟩
theorem q2_215 : (Jvm.Cond.code ({ cls := "BeesSting$Shelves", name := "holdsRow", desc := "(II)Z" } : Jvm.MethodName) prog_12_method_4_code (3 : Nat) (Option.some Jvm.ClassFile.FieldType.boolean)) ∈ gw := List.mem_filter.mpr ⟨mt2 _ (List.mem_of_getElem? (i := 215) rfl), rfl⟩
theorem q2_216 : (Jvm.Cond.constantLong "BeesSting" (125 : Nat) (3 : Int64)) ∈ gw := List.mem_filter.mpr ⟨mt2 _ (List.mem_of_getElem? (i := 216) rfl), rfl⟩
theorem q2_217 : (Jvm.Cond.methodLink "BeesSting" (127 : Nat) ({ cls := "BeesSting", name := "comes", desc := "(IJ)Z" } : Jvm.MethodName)) ∈ gw := List.mem_filter.mpr ⟨mt2 _ (List.mem_of_getElem? (i := 217) rfl), rfl⟩
theorem q2_218 : (Jvm.Cond.privateMethod ({ cls := "BeesSting", name := "comes", desc := "(IJ)Z" } : Jvm.MethodName)) ∈ lw_tbl := mt2 _ (List.mem_of_getElem? (i := 218) rfl)
theorem q2_219 : (Jvm.Cond.instanceMethod ({ cls := "BeesSting", name := "comes", desc := "(IJ)Z" } : Jvm.MethodName)) ∈ gw := List.mem_filter.mpr ⟨mt2 _ (List.mem_of_getElem? (i := 219) rfl), rfl⟩
theorem q2_220 : (Jvm.Cond.code ({ cls := "BeesSting", name := "comes", desc := "(IJ)Z" } : Jvm.MethodName) prog_1_method_41_code (8 : Nat) (Option.some Jvm.ClassFile.FieldType.boolean)) ∈ gw := List.mem_filter.mpr ⟨mt2 _ (List.mem_of_getElem? (i := 220) rfl), rfl⟩
theorem q2_221 : (Jvm.Cond.constantLong "BeesSting" (373 : Nat) (2 : Int64)) ∈ gw := List.mem_filter.mpr ⟨mt2 _ (List.mem_of_getElem? (i := 221) rfl), rfl⟩
theorem q2_222 : (Jvm.Cond.methodLink "BeesSting" (375 : Nat) ({ cls := "BeesSting$Shelves", name := "sizeOf", desc := "(I)I" } : Jvm.MethodName)) ∈ gw := List.mem_filter.mpr ⟨mt2 _ (List.mem_of_getElem? (i := 222) rfl), rfl⟩
theorem q2_223 : (Jvm.Cond.instanceMethod ({ cls := "BeesSting$Shelves", name := "sizeOf", desc := "(I)I" } : Jvm.MethodName)) ∈ gw := List.mem_filter.mpr ⟨mt2 _ (List.mem_of_getElem? (i := 223) rfl), rfl⟩
theorem q2_224 : (Jvm.Cond.selects "BeesSting$Shelves" ({ cls := "BeesSting$Shelves", name := "sizeOf", desc := "(I)I" } : Jvm.MethodName) ({ cls := "BeesSting$Shelves", name := "sizeOf", desc := "(I)I" } : Jvm.MethodName)) ∈ gw := List.mem_filter.mpr ⟨mt2 _ (List.mem_of_getElem? (i := 224) rfl), rfl⟩
theorem q2_225 : (Jvm.Cond.code ({ cls := "BeesSting$Shelves", name := "sizeOf", desc := "(I)I" } : Jvm.MethodName) prog_12_method_6_code (2 : Nat) (Option.some Jvm.ClassFile.FieldType.int)) ∈ gw := List.mem_filter.mpr ⟨mt2 _ (List.mem_of_getElem? (i := 225) rfl), rfl⟩
theorem q2_226 : (Jvm.Cond.methodLink "BeesSting$Shelves" (23 : Nat) ({ cls := "BeesSting$Shelves", name := "isRow", desc := "(I)Z" } : Jvm.MethodName)) ∈ gw := List.mem_filter.mpr ⟨mt2 _ (List.mem_of_getElem? (i := 226) rfl), rfl⟩
theorem q2_227 : (Jvm.Cond.privateMethod ({ cls := "BeesSting$Shelves", name := "isRow", desc := "(I)Z" } : Jvm.MethodName)) ∈ lw_tbl := mt2 _ (List.mem_of_getElem? (i := 227) rfl)
theorem q2_228 : (Jvm.Cond.instanceMethod ({ cls := "BeesSting$Shelves", name := "isRow", desc := "(I)Z" } : Jvm.MethodName)) ∈ gw := List.mem_filter.mpr ⟨mt2 _ (List.mem_of_getElem? (i := 228) rfl), rfl⟩
theorem q2_229 : (Jvm.Cond.code ({ cls := "BeesSting$Shelves", name := "isRow", desc := "(I)Z" } : Jvm.MethodName) prog_12_method_7_code (2 : Nat) (Option.some Jvm.ClassFile.FieldType.boolean)) ∈ gw := List.mem_filter.mpr ⟨mt2 _ (List.mem_of_getElem? (i := 229) rfl), rfl⟩
theorem q2_230 : (Jvm.Cond.methodLink "BeesSting" (345 : Nat) ({ cls := "BeesSting$Shelves", name := "get", desc := "(II)J" } : Jvm.MethodName)) ∈ gw := List.mem_filter.mpr ⟨mt2 _ (List.mem_of_getElem? (i := 230) rfl), rfl⟩
theorem q2_231 : (Jvm.Cond.instanceMethod ({ cls := "BeesSting$Shelves", name := "get", desc := "(II)J" } : Jvm.MethodName)) ∈ gw := List.mem_filter.mpr ⟨mt2 _ (List.mem_of_getElem? (i := 231) rfl), rfl⟩
theorem q2_232 : (Jvm.Cond.selects "BeesSting$Shelves" ({ cls := "BeesSting$Shelves", name := "get", desc := "(II)J" } : Jvm.MethodName) ({ cls := "BeesSting$Shelves", name := "get", desc := "(II)J" } : Jvm.MethodName)) ∈ gw := List.mem_filter.mpr ⟨mt2 _ (List.mem_of_getElem? (i := 232) rfl), rfl⟩
theorem q2_233 : (Jvm.Cond.code ({ cls := "BeesSting$Shelves", name := "get", desc := "(II)J" } : Jvm.MethodName) prog_12_method_11_code (3 : Nat) (Option.some Jvm.ClassFile.FieldType.long)) ∈ gw := List.mem_filter.mpr ⟨mt2 _ (List.mem_of_getElem? (i := 233) rfl), rfl⟩
theorem q2_234 : (Jvm.Cond.fieldLink "BeesSting" (137 : Nat) "BeesSting" "MOST" "[I") ∈ gw := List.mem_filter.mpr ⟨mt2 _ (List.mem_of_getElem? (i := 234) rfl), rfl⟩
theorem q2_235 : (Jvm.Cond.laysStatic "BeesSting" "MOST" "[I") ∈ lw_tbl := mt2 _ (List.mem_of_getElem? (i := 235) rfl)
theorem q2_236 : (Jvm.Cond.methodLink "BeesStingLaw" (23 : Nat) ({ cls := "BeesSting", name := "mend", desc := "(III)I" } : Jvm.MethodName)) ∈ gw := List.mem_filter.mpr ⟨mt2 _ (List.mem_of_getElem? (i := 236) rfl), rfl⟩
theorem q2_237 : (Jvm.Cond.instanceMethod ({ cls := "BeesSting", name := "mend", desc := "(III)I" } : Jvm.MethodName)) ∈ gw := List.mem_filter.mpr ⟨mt2 _ (List.mem_of_getElem? (i := 237) rfl), rfl⟩
theorem q2_238 : (Jvm.Cond.selects "BeesSting" ({ cls := "BeesSting", name := "mend", desc := "(III)I" } : Jvm.MethodName) ({ cls := "BeesSting", name := "mend", desc := "(III)I" } : Jvm.MethodName)) ∈ gw := List.mem_filter.mpr ⟨mt2 _ (List.mem_of_getElem? (i := 238) rfl), rfl⟩
theorem q2_239 : (Jvm.Cond.code ({ cls := "BeesSting", name := "mend", desc := "(III)I" } : Jvm.MethodName) prog_1_method_4_code (5 : Nat) (Option.some Jvm.ClassFile.FieldType.int)) ∈ gw := List.mem_filter.mpr ⟨mt2 _ (List.mem_of_getElem? (i := 239) rfl), rfl⟩
theorem q3_0 : (Jvm.Cond.methodLink "BeesSting" (131 : Nat) ({ cls := "BeesSting", name := "isTold", desc := "(II)Z" } : Jvm.MethodName)) ∈ gw := List.mem_filter.mpr ⟨mt3 _ (List.mem_of_getElem? (i := 0) rfl), rfl⟩
theorem q3_1 : (Jvm.Cond.privateMethod ({ cls := "BeesSting", name := "isTold", desc := "(II)Z" } : Jvm.MethodName)) ∈ lw_tbl := mt3 _ (List.mem_of_getElem? (i := 1) rfl)
theorem q3_2 : (Jvm.Cond.instanceMethod ({ cls := "BeesSting", name := "isTold", desc := "(II)Z" } : Jvm.MethodName)) ∈ gw := List.mem_filter.mpr ⟨mt3 _ (List.mem_of_getElem? (i := 2) rfl), rfl⟩
theorem q3_3 : (Jvm.Cond.code ({ cls := "BeesSting", name := "isTold", desc := "(II)Z" } : Jvm.MethodName) prog_1_method_42_code (3 : Nat) (Option.some Jvm.ClassFile.FieldType.boolean)) ∈ gw := List.mem_filter.mpr ⟨mt3 _ (List.mem_of_getElem? (i := 3) rfl), rfl⟩
theorem q3_4 : (Jvm.Cond.methodLink "BeesSting" (160 : Nat) ({ cls := "BeesSting$Parish", name := "has", desc := "(I)Z" } : Jvm.MethodName)) ∈ gw := List.mem_filter.mpr ⟨mt3 _ (List.mem_of_getElem? (i := 4) rfl), rfl⟩
theorem q3_5 : (Jvm.Cond.instanceMethod ({ cls := "BeesSting$Parish", name := "has", desc := "(I)Z" } : Jvm.MethodName)) ∈ gw := List.mem_filter.mpr ⟨mt3 _ (List.mem_of_getElem? (i := 5) rfl), rfl⟩
theorem q3_6 : (Jvm.Cond.selects "BeesSting$Parish" ({ cls := "BeesSting$Parish", name := "has", desc := "(I)Z" } : Jvm.MethodName) ({ cls := "BeesSting$Parish", name := "has", desc := "(I)Z" } : Jvm.MethodName)) ∈ gw := List.mem_filter.mpr ⟨mt3 _ (List.mem_of_getElem? (i := 6) rfl), rfl⟩
theorem q3_7 : (Jvm.Cond.code ({ cls := "BeesSting$Parish", name := "has", desc := "(I)Z" } : Jvm.MethodName) prog_11_method_2_code (2 : Nat) (Option.some Jvm.ClassFile.FieldType.boolean)) ∈ gw := List.mem_filter.mpr ⟨mt3 _ (List.mem_of_getElem? (i := 7) rfl), rfl⟩
theorem q3_8 : (Jvm.Cond.fieldLink "BeesSting" (134 : Nat) "BeesSting" "LEAST" "[I") ∈ gw := List.mem_filter.mpr ⟨mt3 _ (List.mem_of_getElem? (i := 8) rfl), rfl⟩
theorem q3_9 : (Jvm.Cond.laysStatic "BeesSting" "LEAST" "[I") ∈ lw_tbl := mt3 _ (List.mem_of_getElem? (i := 9) rfl)
theorem q3_10 : (Jvm.Cond.methodLink "BeesSting" (140 : Nat) ({ cls := "BeesSting", name := "told", desc := "(II)I" } : Jvm.MethodName)) ∈ gw := List.mem_filter.mpr ⟨mt3 _ (List.mem_of_getElem? (i := 10) rfl), rfl⟩
theorem q3_11 : (Jvm.Cond.privateMethod ({ cls := "BeesSting", name := "told", desc := "(II)I" } : Jvm.MethodName)) ∈ lw_tbl := mt3 _ (List.mem_of_getElem? (i := 11) rfl)
theorem q3_12 : (Jvm.Cond.instanceMethod ({ cls := "BeesSting", name := "told", desc := "(II)I" } : Jvm.MethodName)) ∈ gw := List.mem_filter.mpr ⟨mt3 _ (List.mem_of_getElem? (i := 12) rfl), rfl⟩
theorem q3_13 : (Jvm.Cond.code ({ cls := "BeesSting", name := "told", desc := "(II)I" } : Jvm.MethodName) prog_1_method_43_code (3 : Nat) (Option.some Jvm.ClassFile.FieldType.int)) ∈ gw := List.mem_filter.mpr ⟨mt3 _ (List.mem_of_getElem? (i := 13) rfl), rfl⟩
theorem q3_14 : (Jvm.Cond.methodLink "BeesSting" (144 : Nat) ({ cls := "BeesSting$Changes", name := "add", desc := "(IIII)V" } : Jvm.MethodName)) ∈ gw := List.mem_filter.mpr ⟨mt3 _ (List.mem_of_getElem? (i := 14) rfl), rfl⟩
theorem q3_15 : (Jvm.Cond.instanceMethod ({ cls := "BeesSting$Changes", name := "add", desc := "(IIII)V" } : Jvm.MethodName)) ∈ gw := List.mem_filter.mpr ⟨mt3 _ (List.mem_of_getElem? (i := 15) rfl), rfl⟩
theorem q3_16 : (Jvm.Cond.selects "BeesSting$Changes" ({ cls := "BeesSting$Changes", name := "add", desc := "(IIII)V" } : Jvm.MethodName) ({ cls := "BeesSting$Changes", name := "add", desc := "(IIII)V" } : Jvm.MethodName)) ∈ gw := List.mem_filter.mpr ⟨mt3 _ (List.mem_of_getElem? (i := 16) rfl), rfl⟩
theorem q3_17 : (Jvm.Cond.code ({ cls := "BeesSting$Changes", name := "add", desc := "(IIII)V" } : Jvm.MethodName) prog_3_method_2_code (5 : Nat) (Option.none : Option Jvm.ClassFile.FieldType)) ∈ gw := List.mem_filter.mpr ⟨mt3 _ (List.mem_of_getElem? (i := 17) rfl), rfl⟩
theorem q3_18 : (Jvm.Cond.methodLink "BeesSting$Changes" (29 : Nat) ({ cls := "BeesSting$Changes", name := "dropOldest", desc := "([I)V" } : Jvm.MethodName)) ∈ gw := List.mem_filter.mpr ⟨mt3 _ (List.mem_of_getElem? (i := 18) rfl), rfl⟩
theorem q3_19 : (Jvm.Cond.static ({ cls := "BeesSting$Changes", name := "dropOldest", desc := "([I)V" } : Jvm.MethodName)) ∈ gw := List.mem_filter.mpr ⟨mt3 _ (List.mem_of_getElem? (i := 19) rfl), rfl⟩
theorem q3_20 : (Jvm.Cond.code ({ cls := "BeesSting$Changes", name := "dropOldest", desc := "([I)V" } : Jvm.MethodName) prog_3_method_3_code (1 : Nat) (Option.none : Option Jvm.ClassFile.FieldType)) ∈ gw := List.mem_filter.mpr ⟨mt3 _ (List.mem_of_getElem? (i := 20) rfl), rfl⟩
theorem q3_21 : (Jvm.Cond.methodLink "BeesSting$Changes" (33 : Nat) ({ cls := "java/lang/System", name := "arraycopy", desc := "(Ljava/lang/Object;ILjava/lang/Object;II)V" } : Jvm.MethodName)) ∈ gw := List.mem_filter.mpr ⟨mt3 _ (List.mem_of_getElem? (i := 21) rfl), rfl⟩
theorem q3_22 : (Jvm.Cond.static ({ cls := "java/lang/System", name := "arraycopy", desc := "(Ljava/lang/Object;ILjava/lang/Object;II)V" } : Jvm.MethodName)) ∈ gw := List.mem_filter.mpr ⟨mt3 _ (List.mem_of_getElem? (i := 22) rfl), rfl⟩
theorem q3_23 : (Jvm.Cond.native ({ cls := "java/lang/System", name := "arraycopy", desc := "(Ljava/lang/Object;ILjava/lang/Object;II)V" } : Jvm.MethodName)) ∈ gw := List.mem_filter.mpr ⟨mt3 _ (List.mem_of_getElem? (i := 23) rfl), rfl⟩
theorem q3_24 : (Jvm.Cond.methodLink "BeesSting" (148 : Nat) ({ cls := "BeesSting", name := "tell", desc := "(III)V" } : Jvm.MethodName)) ∈ gw := List.mem_filter.mpr ⟨mt3 _ (List.mem_of_getElem? (i := 24) rfl), rfl⟩
theorem q3_25 : (Jvm.Cond.privateMethod ({ cls := "BeesSting", name := "tell", desc := "(III)V" } : Jvm.MethodName)) ∈ lw_tbl := mt3 _ (List.mem_of_getElem? (i := 25) rfl)
theorem q3_26 : (Jvm.Cond.instanceMethod ({ cls := "BeesSting", name := "tell", desc := "(III)V" } : Jvm.MethodName)) ∈ gw := List.mem_filter.mpr ⟨mt3 _ (List.mem_of_getElem? (i := 26) rfl), rfl⟩
theorem q3_27 : (Jvm.Cond.code ({ cls := "BeesSting", name := "tell", desc := "(III)V" } : Jvm.MethodName) prog_1_method_44_code (4 : Nat) (Option.none : Option Jvm.ClassFile.FieldType)) ∈ gw := List.mem_filter.mpr ⟨mt3 _ (List.mem_of_getElem? (i := 27) rfl), rfl⟩
theorem q3_28 : (Jvm.Cond.methodLink "BeesSting" (224 : Nat) ({ cls := "BeesSting$Parish", name := "place", desc := "(II)V" } : Jvm.MethodName)) ∈ gw := List.mem_filter.mpr ⟨mt3 _ (List.mem_of_getElem? (i := 28) rfl), rfl⟩
theorem q3_29 : (Jvm.Cond.instanceMethod ({ cls := "BeesSting$Parish", name := "place", desc := "(II)V" } : Jvm.MethodName)) ∈ gw := List.mem_filter.mpr ⟨mt3 _ (List.mem_of_getElem? (i := 29) rfl), rfl⟩
theorem q3_30 : (Jvm.Cond.selects "BeesSting$Parish" ({ cls := "BeesSting$Parish", name := "place", desc := "(II)V" } : Jvm.MethodName) ({ cls := "BeesSting$Parish", name := "place", desc := "(II)V" } : Jvm.MethodName)) ∈ gw := List.mem_filter.mpr ⟨mt3 _ (List.mem_of_getElem? (i := 30) rfl), rfl⟩
theorem q3_31 : (Jvm.Cond.code ({ cls := "BeesSting$Parish", name := "place", desc := "(II)V" } : Jvm.MethodName) prog_11_method_4_code (3 : Nat) (Option.none : Option Jvm.ClassFile.FieldType)) ∈ gw := List.mem_filter.mpr ⟨mt3 _ (List.mem_of_getElem? (i := 31) rfl), rfl⟩
theorem q3_32 : (Jvm.Cond.methodLink "BeesSting" (387 : Nat) ({ cls := "BeesSting$Parish", name := "setMile", desc := "(I)V" } : Jvm.MethodName)) ∈ gw := List.mem_filter.mpr ⟨mt3 _ (List.mem_of_getElem? (i := 32) rfl), rfl⟩
theorem q3_33 : (Jvm.Cond.instanceMethod ({ cls := "BeesSting$Parish", name := "setMile", desc := "(I)V" } : Jvm.MethodName)) ∈ gw := List.mem_filter.mpr ⟨mt3 _ (List.mem_of_getElem? (i := 33) rfl), rfl⟩
theorem q3_34 : (Jvm.Cond.selects "BeesSting$Parish" ({ cls := "BeesSting$Parish", name := "setMile", desc := "(I)V" } : Jvm.MethodName) ({ cls := "BeesSting$Parish", name := "setMile", desc := "(I)V" } : Jvm.MethodName)) ∈ gw := List.mem_filter.mpr ⟨mt3 _ (List.mem_of_getElem? (i := 34) rfl), rfl⟩
theorem q3_35 : (Jvm.Cond.code ({ cls := "BeesSting$Parish", name := "setMile", desc := "(I)V" } : Jvm.MethodName) prog_11_method_5_code (2 : Nat) (Option.none : Option Jvm.ClassFile.FieldType)) ∈ gw := List.mem_filter.mpr ⟨mt3 _ (List.mem_of_getElem? (i := 35) rfl), rfl⟩
theorem q3_36 : (Jvm.Cond.methodLink "BeesStingLaw" (27 : Nat) ({ cls := "BeesSting", name := "of", desc := "(II)I" } : Jvm.MethodName)) ∈ gw := List.mem_filter.mpr ⟨mt3 _ (List.mem_of_getElem? (i := 36) rfl), rfl⟩
theorem q3_37 : (Jvm.Cond.instanceMethod ({ cls := "BeesSting", name := "of", desc := "(II)I" } : Jvm.MethodName)) ∈ gw := List.mem_filter.mpr ⟨mt3 _ (List.mem_of_getElem? (i := 37) rfl), rfl⟩
theorem q3_38 : (Jvm.Cond.selects "BeesSting" ({ cls := "BeesSting", name := "of", desc := "(II)I" } : Jvm.MethodName) ({ cls := "BeesSting", name := "of", desc := "(II)I" } : Jvm.MethodName)) ∈ gw := List.mem_filter.mpr ⟨mt3 _ (List.mem_of_getElem? (i := 38) rfl), rfl⟩
theorem q3_39 : (Jvm.Cond.code ({ cls := "BeesSting", name := "of", desc := "(II)I" } : Jvm.MethodName) prog_1_method_5_code (3 : Nat) (Option.some Jvm.ClassFile.FieldType.int)) ∈ gw := List.mem_filter.mpr ⟨mt3 _ (List.mem_of_getElem? (i := 39) rfl), rfl⟩
theorem q3_40 : (Jvm.Cond.methodLink "BeesStingLaw" (32 : Nat) ({ cls := "BeesSting", name := "feed", desc := "(I)I" } : Jvm.MethodName)) ∈ gw := List.mem_filter.mpr ⟨mt3 _ (List.mem_of_getElem? (i := 40) rfl), rfl⟩
theorem q3_41 : (Jvm.Cond.instanceMethod ({ cls := "BeesSting", name := "feed", desc := "(I)I" } : Jvm.MethodName)) ∈ gw := List.mem_filter.mpr ⟨mt3 _ (List.mem_of_getElem? (i := 41) rfl), rfl⟩
theorem q3_42 : (Jvm.Cond.selects "BeesSting" ({ cls := "BeesSting", name := "feed", desc := "(I)I" } : Jvm.MethodName) ({ cls := "BeesSting", name := "feed", desc := "(I)I" } : Jvm.MethodName)) ∈ gw := List.mem_filter.mpr ⟨mt3 _ (List.mem_of_getElem? (i := 42) rfl), rfl⟩
theorem q3_43 : (Jvm.Cond.code ({ cls := "BeesSting", name := "feed", desc := "(I)I" } : Jvm.MethodName) prog_1_method_6_code (2 : Nat) (Option.some Jvm.ClassFile.FieldType.int)) ∈ gw := List.mem_filter.mpr ⟨mt3 _ (List.mem_of_getElem? (i := 43) rfl), rfl⟩
theorem q3_44 : (Jvm.Cond.methodLink "BeesSting" (152 : Nat) ({ cls := "BeesSting$Law", name := "takeLetter", desc := "(I)I" } : Jvm.MethodName)) ∈ gw := List.mem_filter.mpr ⟨mt3 _ (List.mem_of_getElem? (i := 44) rfl), rfl⟩
theorem q3_45 : (Jvm.Cond.instanceMethod ({ cls := "BeesSting$Law", name := "takeLetter", desc := "(I)I" } : Jvm.MethodName)) ∈ gw := List.mem_filter.mpr ⟨mt3 _ (List.mem_of_getElem? (i := 45) rfl), rfl⟩
theorem q3_46 : (Jvm.Cond.selects "BeesSting$Law" ({ cls := "BeesSting$Law", name := "takeLetter", desc := "(I)I" } : Jvm.MethodName) ({ cls := "BeesSting$Law", name := "takeLetter", desc := "(I)I" } : Jvm.MethodName)) ∈ gw := List.mem_filter.mpr ⟨mt3 _ (List.mem_of_getElem? (i := 46) rfl), rfl⟩
theorem q3_47 : (Jvm.Cond.code ({ cls := "BeesSting$Law", name := "takeLetter", desc := "(I)I" } : Jvm.MethodName) prog_8_method_2_code (2 : Nat) (Option.some Jvm.ClassFile.FieldType.int)) ∈ gw := List.mem_filter.mpr ⟨mt3 _ (List.mem_of_getElem? (i := 47) rfl), rfl⟩
theorem q3_48 : (Jvm.Cond.methodLink "BeesStingLaw" (36 : Nat) ({ cls := "BeesSting", name := "law", desc := "()I" } : Jvm.MethodName)) ∈ gw := List.mem_filter.mpr ⟨mt3 _ (List.mem_of_getElem? (i := 48) rfl), rfl⟩
theorem q3_49 : (Jvm.Cond.instanceMethod ({ cls := "BeesSting", name := "law", desc := "()I" } : Jvm.MethodName)) ∈ gw := List.mem_filter.mpr ⟨mt3 _ (List.mem_of_getElem? (i := 49) rfl), rfl⟩
theorem q3_50 : (Jvm.Cond.selects "BeesSting" ({ cls := "BeesSting", name := "law", desc := "()I" } : Jvm.MethodName) ({ cls := "BeesSting", name := "law", desc := "()I" } : Jvm.MethodName)) ∈ gw := List.mem_filter.mpr ⟨mt3 _ (List.mem_of_getElem? (i := 50) rfl), rfl⟩
theorem q3_51 : (Jvm.Cond.code ({ cls := "BeesSting", name := "law", desc := "()I" } : Jvm.MethodName) prog_1_method_7_code (1 : Nat) (Option.some Jvm.ClassFile.FieldType.int)) ∈ gw := List.mem_filter.mpr ⟨mt3 _ (List.mem_of_getElem? (i := 51) rfl), rfl⟩
theorem q3_52 : (Jvm.Cond.methodLink "BeesSting" (156 : Nat) ({ cls := "BeesSting$Law", name := "takeText", desc := "()I" } : Jvm.MethodName)) ∈ gw := List.mem_filter.mpr ⟨mt3 _ (List.mem_of_getElem? (i := 52) rfl), rfl⟩
theorem q3_53 : (Jvm.Cond.instanceMethod ({ cls := "BeesSting$Law", name := "takeText", desc := "()I" } : Jvm.MethodName)) ∈ gw := List.mem_filter.mpr ⟨mt3 _ (List.mem_of_getElem? (i := 53) rfl), rfl⟩
theorem q3_54 : (Jvm.Cond.selects "BeesSting$Law" ({ cls := "BeesSting$Law", name := "takeText", desc := "()I" } : Jvm.MethodName) ({ cls := "BeesSting$Law", name := "takeText", desc := "()I" } : Jvm.MethodName)) ∈ gw := List.mem_filter.mpr ⟨mt3 _ (List.mem_of_getElem? (i := 54) rfl), rfl⟩
theorem q3_55 : (Jvm.Cond.code ({ cls := "BeesSting$Law", name := "takeText", desc := "()I" } : Jvm.MethodName) prog_8_method_3_code (3 : Nat) (Option.some Jvm.ClassFile.FieldType.int)) ∈ gw := List.mem_filter.mpr ⟨mt3 _ (List.mem_of_getElem? (i := 55) rfl), rfl⟩
theorem q3_56 : (Jvm.Cond.methodLink "BeesSting$Law" (41 : Nat) ({ cls := "BeesSting$LawReader", name := "read", desc := "([II[I)Z" } : Jvm.MethodName)) ∈ gw := List.mem_filter.mpr ⟨mt3 _ (List.mem_of_getElem? (i := 56) rfl), rfl⟩
theorem q3_57 : (Jvm.Cond.instanceMethod ({ cls := "BeesSting$LawReader", name := "read", desc := "([II[I)Z" } : Jvm.MethodName)) ∈ gw := List.mem_filter.mpr ⟨mt3 _ (List.mem_of_getElem? (i := 57) rfl), rfl⟩
theorem q3_58 : (Jvm.Cond.selects "BeesSting$LawReader" ({ cls := "BeesSting$LawReader", name := "read", desc := "([II[I)Z" } : Jvm.MethodName) ({ cls := "BeesSting$LawReader", name := "read", desc := "([II[I)Z" } : Jvm.MethodName)) ∈ gw := List.mem_filter.mpr ⟨mt3 _ (List.mem_of_getElem? (i := 58) rfl), rfl⟩
theorem q3_59 : (Jvm.Cond.code ({ cls := "BeesSting$LawReader", name := "read", desc := "([II[I)Z" } : Jvm.MethodName) prog_9_method_3_code (5 : Nat) (Option.some Jvm.ClassFile.FieldType.boolean)) ∈ gw := List.mem_filter.mpr ⟨mt3 _ (List.mem_of_getElem? (i := 59) rfl), rfl⟩
theorem q3_60 : (Jvm.Cond.methodLink "BeesSting$LawReader" (26 : Nat) ({ cls := "java/lang/Math", name := "min", desc := "(II)I" } : Jvm.MethodName)) ∈ gw := List.mem_filter.mpr ⟨mt3 _ (List.mem_of_getElem? (i := 60) rfl), rfl⟩
theorem q3_61 : (Jvm.Cond.static ({ cls := "java/lang/Math", name := "min", desc := "(II)I" } : Jvm.MethodName)) ∈ gw := List.mem_filter.mpr ⟨mt3 _ (List.mem_of_getElem? (i := 61) rfl), rfl⟩
theorem q3_62 : (Jvm.Cond.code ({ cls := "java/lang/Math", name := "min", desc := "(II)I" } : Jvm.MethodName) prog_16_method_69_code (2 : Nat) (Option.some Jvm.ClassFile.FieldType.int)) ∈ gw := List.mem_filter.mpr ⟨mt3 _ (List.mem_of_getElem? (i := 62) rfl), rfl⟩
theorem q3_63 : (Jvm.Cond.methodLink "BeesSting$LawReader" (32 : Nat) ({ cls := "BeesSting$LawReader", name := "readLine", desc := "()Z" } : Jvm.MethodName)) ∈ gw := List.mem_filter.mpr ⟨mt3 _ (List.mem_of_getElem? (i := 63) rfl), rfl⟩
theorem q3_64 : (Jvm.Cond.privateMethod ({ cls := "BeesSting$LawReader", name := "readLine", desc := "()Z" } : Jvm.MethodName)) ∈ lw_tbl := mt3 _ (List.mem_of_getElem? (i := 64) rfl)
theorem q3_65 : (Jvm.Cond.instanceMethod ({ cls := "BeesSting$LawReader", name := "readLine", desc := "()Z" } : Jvm.MethodName)) ∈ gw := List.mem_filter.mpr ⟨mt3 _ (List.mem_of_getElem? (i := 65) rfl), rfl⟩
theorem q3_66 : (Jvm.Cond.code ({ cls := "BeesSting$LawReader", name := "readLine", desc := "()Z" } : Jvm.MethodName) prog_9_method_4_code (2 : Nat) (Option.some Jvm.ClassFile.FieldType.boolean)) ∈ gw := List.mem_filter.mpr ⟨mt3 _ (List.mem_of_getElem? (i := 66) rfl), rfl⟩
theorem q3_67 : (Jvm.Cond.methodLink "BeesSting$LawReader" (40 : Nat) ({ cls := "BeesSting$LawReader", name := "readEither", desc := "(I)Z" } : Jvm.MethodName)) ∈ gw := List.mem_filter.mpr ⟨mt3 _ (List.mem_of_getElem? (i := 67) rfl), rfl⟩
theorem q3_68 : (Jvm.Cond.privateMethod ({ cls := "BeesSting$LawReader", name := "readEither", desc := "(I)Z" } : Jvm.MethodName)) ∈ lw_tbl := mt3 _ (List.mem_of_getElem? (i := 68) rfl)
theorem q3_69 : (Jvm.Cond.instanceMethod ({ cls := "BeesSting$LawReader", name := "readEither", desc := "(I)Z" } : Jvm.MethodName)) ∈ gw := List.mem_filter.mpr ⟨mt3 _ (List.mem_of_getElem? (i := 69) rfl), rfl⟩
theorem q3_70 : (Jvm.Cond.code ({ cls := "BeesSting$LawReader", name := "readEither", desc := "(I)Z" } : Jvm.MethodName) prog_9_method_5_code (2 : Nat) (Option.some Jvm.ClassFile.FieldType.boolean)) ∈ gw := List.mem_filter.mpr ⟨mt3 _ (List.mem_of_getElem? (i := 70) rfl), rfl⟩
theorem q3_71 : (Jvm.Cond.methodLink "BeesSting$LawReader" (46 : Nat) ({ cls := "BeesSting$LawReader", name := "readBoth", desc := "(I)Z" } : Jvm.MethodName)) ∈ gw := List.mem_filter.mpr ⟨mt3 _ (List.mem_of_getElem? (i := 71) rfl), rfl⟩
theorem q3_72 : (Jvm.Cond.privateMethod ({ cls := "BeesSting$LawReader", name := "readBoth", desc := "(I)Z" } : Jvm.MethodName)) ∈ lw_tbl := mt3 _ (List.mem_of_getElem? (i := 72) rfl)
theorem q3_73 : (Jvm.Cond.instanceMethod ({ cls := "BeesSting$LawReader", name := "readBoth", desc := "(I)Z" } : Jvm.MethodName)) ∈ gw := List.mem_filter.mpr ⟨mt3 _ (List.mem_of_getElem? (i := 73) rfl), rfl⟩
theorem q3_74 : (Jvm.Cond.code ({ cls := "BeesSting$LawReader", name := "readBoth", desc := "(I)Z" } : Jvm.MethodName) prog_9_method_6_code (2 : Nat) (Option.some Jvm.ClassFile.FieldType.boolean)) ∈ gw := List.mem_filter.mpr ⟨mt3 _ (List.mem_of_getElem? (i := 74) rfl), rfl⟩
theorem q3_75 : (Jvm.Cond.methodLink "BeesSting$LawReader" (53 : Nat) ({ cls := "BeesSting$LawReader", name := "readCompared", desc := "(I)Z" } : Jvm.MethodName)) ∈ gw := List.mem_filter.mpr ⟨mt3 _ (List.mem_of_getElem? (i := 75) rfl), rfl⟩
theorem q3_76 : (Jvm.Cond.privateMethod ({ cls := "BeesSting$LawReader", name := "readCompared", desc := "(I)Z" } : Jvm.MethodName)) ∈ lw_tbl := mt3 _ (List.mem_of_getElem? (i := 76) rfl)
theorem q3_77 : (Jvm.Cond.instanceMethod ({ cls := "BeesSting$LawReader", name := "readCompared", desc := "(I)Z" } : Jvm.MethodName)) ∈ gw := List.mem_filter.mpr ⟨mt3 _ (List.mem_of_getElem? (i := 77) rfl), rfl⟩
theorem q3_78 : (Jvm.Cond.code ({ cls := "BeesSting$LawReader", name := "readCompared", desc := "(I)Z" } : Jvm.MethodName) prog_9_method_7_code (3 : Nat) (Option.some Jvm.ClassFile.FieldType.boolean)) ∈ gw := List.mem_filter.mpr ⟨mt3 _ (List.mem_of_getElem? (i := 78) rfl), rfl⟩
theorem q3_79 : (Jvm.Cond.methodLink "BeesSting$LawReader" (56 : Nat) ({ cls := "BeesSting$LawReader", name := "readSum", desc := "(I)Z" } : Jvm.MethodName)) ∈ gw := List.mem_filter.mpr ⟨mt3 _ (List.mem_of_getElem? (i := 79) rfl), rfl⟩
theorem q3_80 : (Jvm.Cond.privateMethod ({ cls := "BeesSting$LawReader", name := "readSum", desc := "(I)Z" } : Jvm.MethodName)) ∈ lw_tbl := mt3 _ (List.mem_of_getElem? (i := 80) rfl)
theorem q3_81 : (Jvm.Cond.instanceMethod ({ cls := "BeesSting$LawReader", name := "readSum", desc := "(I)Z" } : Jvm.MethodName)) ∈ gw := List.mem_filter.mpr ⟨mt3 _ (List.mem_of_getElem? (i := 81) rfl), rfl⟩
theorem q3_82 : (Jvm.Cond.code ({ cls := "BeesSting$LawReader", name := "readSum", desc := "(I)Z" } : Jvm.MethodName) prog_9_method_8_code (3 : Nat) (Option.some Jvm.ClassFile.FieldType.boolean)) ∈ gw := List.mem_filter.mpr ⟨mt3 _ (List.mem_of_getElem? (i := 82) rfl), rfl⟩
theorem q3_83 : (Jvm.Cond.methodLink "BeesSting$LawReader" (59 : Nat) ({ cls := "BeesSting$LawReader", name := "readProduct", desc := "(I)Z" } : Jvm.MethodName)) ∈ gw := List.mem_filter.mpr ⟨mt3 _ (List.mem_of_getElem? (i := 83) rfl), rfl⟩
theorem q3_84 : (Jvm.Cond.privateMethod ({ cls := "BeesSting$LawReader", name := "readProduct", desc := "(I)Z" } : Jvm.MethodName)) ∈ lw_tbl := mt3 _ (List.mem_of_getElem? (i := 84) rfl)
theorem q3_85 : (Jvm.Cond.instanceMethod ({ cls := "BeesSting$LawReader", name := "readProduct", desc := "(I)Z" } : Jvm.MethodName)) ∈ gw := List.mem_filter.mpr ⟨mt3 _ (List.mem_of_getElem? (i := 85) rfl), rfl⟩
theorem q3_86 : (Jvm.Cond.code ({ cls := "BeesSting$LawReader", name := "readProduct", desc := "(I)Z" } : Jvm.MethodName) prog_9_method_9_code (3 : Nat) (Option.some Jvm.ClassFile.FieldType.boolean)) ∈ gw := List.mem_filter.mpr ⟨mt3 _ (List.mem_of_getElem? (i := 86) rfl), rfl⟩
theorem q3_87 : (Jvm.Cond.methodLink "BeesSting$LawReader" (62 : Nat) ({ cls := "BeesSting$LawReader", name := "readOne", desc := "(I)Z" } : Jvm.MethodName)) ∈ gw := List.mem_filter.mpr ⟨mt3 _ (List.mem_of_getElem? (i := 87) rfl), rfl⟩
theorem q3_88 : (Jvm.Cond.privateMethod ({ cls := "BeesSting$LawReader", name := "readOne", desc := "(I)Z" } : Jvm.MethodName)) ∈ lw_tbl := mt3 _ (List.mem_of_getElem? (i := 88) rfl)
theorem q3_89 : (Jvm.Cond.instanceMethod ({ cls := "BeesSting$LawReader", name := "readOne", desc := "(I)Z" } : Jvm.MethodName)) ∈ gw := List.mem_filter.mpr ⟨mt3 _ (List.mem_of_getElem? (i := 89) rfl), rfl⟩
theorem q3_90 : (Jvm.Cond.code ({ cls := "BeesSting$LawReader", name := "readOne", desc := "(I)Z" } : Jvm.MethodName) prog_9_method_10_code (4 : Nat) (Option.some Jvm.ClassFile.FieldType.boolean)) ∈ gw := List.mem_filter.mpr ⟨mt3 _ (List.mem_of_getElem? (i := 90) rfl), rfl⟩
theorem q3_91 : (Jvm.Cond.methodLink "BeesSting$LawReader" (49 : Nat) ({ cls := "BeesSting$LawReader", name := "sign", desc := "()I" } : Jvm.MethodName)) ∈ gw := List.mem_filter.mpr ⟨mt3 _ (List.mem_of_getElem? (i := 91) rfl), rfl⟩
theorem q3_92 : (Jvm.Cond.privateMethod ({ cls := "BeesSting$LawReader", name := "sign", desc := "()I" } : Jvm.MethodName)) ∈ lw_tbl := mt3 _ (List.mem_of_getElem? (i := 92) rfl)
theorem q3_93 : (Jvm.Cond.instanceMethod ({ cls := "BeesSting$LawReader", name := "sign", desc := "()I" } : Jvm.MethodName)) ∈ gw := List.mem_filter.mpr ⟨mt3 _ (List.mem_of_getElem? (i := 93) rfl), rfl⟩
theorem q3_94 : (Jvm.Cond.code ({ cls := "BeesSting$LawReader", name := "sign", desc := "()I" } : Jvm.MethodName) prog_9_method_13_code (1 : Nat) (Option.some Jvm.ClassFile.FieldType.int)) ∈ gw := List.mem_filter.mpr ⟨mt3 _ (List.mem_of_getElem? (i := 94) rfl), rfl⟩
theorem q3_95 : (Jvm.Cond.methodLink "BeesSting$LawReader" (65 : Nat) ({ cls := "BeesSting$LawReader", name := "isDigit", desc := "(I)Z" } : Jvm.MethodName)) ∈ gw := List.mem_filter.mpr ⟨mt3 _ (List.mem_of_getElem? (i := 95) rfl), rfl⟩
theorem q3_96 : (Jvm.Cond.static ({ cls := "BeesSting$LawReader", name := "isDigit", desc := "(I)Z" } : Jvm.MethodName)) ∈ gw := List.mem_filter.mpr ⟨mt3 _ (List.mem_of_getElem? (i := 96) rfl), rfl⟩
theorem q3_97 : (Jvm.Cond.code ({ cls := "BeesSting$LawReader", name := "isDigit", desc := "(I)Z" } : Jvm.MethodName) prog_9_method_12_code (1 : Nat) (Option.some Jvm.ClassFile.FieldType.boolean)) ∈ gw := List.mem_filter.mpr ⟨mt3 _ (List.mem_of_getElem? (i := 97) rfl), rfl⟩
theorem q3_98 : (Jvm.Cond.methodLink "BeesSting$LawReader" (68 : Nat) ({ cls := "BeesSting$LawReader", name := "readNumber", desc := "()Z" } : Jvm.MethodName)) ∈ gw := List.mem_filter.mpr ⟨mt3 _ (List.mem_of_getElem? (i := 98) rfl), rfl⟩
theorem q3_99 : (Jvm.Cond.privateMethod ({ cls := "BeesSting$LawReader", name := "readNumber", desc := "()Z" } : Jvm.MethodName)) ∈ lw_tbl := mt3 _ (List.mem_of_getElem? (i := 99) rfl)
theorem q3_100 : (Jvm.Cond.instanceMethod ({ cls := "BeesSting$LawReader", name := "readNumber", desc := "()Z" } : Jvm.MethodName)) ∈ gw := List.mem_filter.mpr ⟨mt3 _ (List.mem_of_getElem? (i := 100) rfl), rfl⟩
theorem q3_101 : (Jvm.Cond.code ({ cls := "BeesSting$LawReader", name := "readNumber", desc := "()Z" } : Jvm.MethodName) prog_9_method_11_code (3 : Nat) (Option.some Jvm.ClassFile.FieldType.boolean)) ∈ gw := List.mem_filter.mpr ⟨mt3 _ (List.mem_of_getElem? (i := 101) rfl), rfl⟩
theorem q3_102 : (Jvm.Cond.methodLink "BeesSting$LawReader" (43 : Nat) ({ cls := "BeesSting$LawReader", name := "write", desc := "(I)Z" } : Jvm.MethodName)) ∈ gw := List.mem_filter.mpr ⟨mt3 _ (List.mem_of_getElem? (i := 102) rfl), rfl⟩
theorem q3_103 : (Jvm.Cond.privateMethod ({ cls := "BeesSting$LawReader", name := "write", desc := "(I)Z" } : Jvm.MethodName)) ∈ lw_tbl := mt3 _ (List.mem_of_getElem? (i := 103) rfl)
theorem q3_104 : (Jvm.Cond.instanceMethod ({ cls := "BeesSting$LawReader", name := "write", desc := "(I)Z" } : Jvm.MethodName)) ∈ gw := List.mem_filter.mpr ⟨mt3 _ (List.mem_of_getElem? (i := 104) rfl), rfl⟩
theorem q3_105 : (Jvm.Cond.code ({ cls := "BeesSting$LawReader", name := "write", desc := "(I)Z" } : Jvm.MethodName) prog_9_method_15_code (2 : Nat) (Option.some Jvm.ClassFile.FieldType.boolean)) ∈ gw := List.mem_filter.mpr ⟨mt3 _ (List.mem_of_getElem? (i := 105) rfl), rfl⟩
theorem q3_106 : (Jvm.Cond.methodLink "BeesSting$LawReader" (71 : Nat) ({ cls := "BeesSting$LawReader", name := "nameOf", desc := "(I)I" } : Jvm.MethodName)) ∈ gw := List.mem_filter.mpr ⟨mt3 _ (List.mem_of_getElem? (i := 106) rfl), rfl⟩
theorem q3_107 : (Jvm.Cond.static ({ cls := "BeesSting$LawReader", name := "nameOf", desc := "(I)I" } : Jvm.MethodName)) ∈ gw := List.mem_filter.mpr ⟨mt3 _ (List.mem_of_getElem? (i := 107) rfl), rfl⟩
theorem q3_108 : (Jvm.Cond.code ({ cls := "BeesSting$LawReader", name := "nameOf", desc := "(I)I" } : Jvm.MethodName) prog_9_method_2_code (1 : Nat) (Option.some Jvm.ClassFile.FieldType.int)) ∈ gw := List.mem_filter.mpr ⟨mt3 _ (List.mem_of_getElem? (i := 108) rfl), rfl⟩
theorem q3_109 : (Jvm.Cond.methodLink "BeesSting$LawReader" (36 : Nat) ({ cls := "BeesSting$LawReader", name := "passes", desc := "(I)Z" } : Jvm.MethodName)) ∈ gw := List.mem_filter.mpr ⟨mt3 _ (List.mem_of_getElem? (i := 109) rfl), rfl⟩
theorem q3_110 : (Jvm.Cond.privateMethod ({ cls := "BeesSting$LawReader", name := "passes", desc := "(I)Z" } : Jvm.MethodName)) ∈ lw_tbl := mt3 _ (List.mem_of_getElem? (i := 110) rfl)
theorem q3_111 : (Jvm.Cond.instanceMethod ({ cls := "BeesSting$LawReader", name := "passes", desc := "(I)Z" } : Jvm.MethodName)) ∈ gw := List.mem_filter.mpr ⟨mt3 _ (List.mem_of_getElem? (i := 111) rfl), rfl⟩
theorem q3_112 : (Jvm.Cond.code ({ cls := "BeesSting$LawReader", name := "passes", desc := "(I)Z" } : Jvm.MethodName) prog_9_method_14_code (2 : Nat) (Option.some Jvm.ClassFile.FieldType.boolean)) ∈ gw := List.mem_filter.mpr ⟨mt3 _ (List.mem_of_getElem? (i := 112) rfl), rfl⟩
theorem q3_113 : (Jvm.Cond.methodLink "BeesStingLaw" (41 : Nat) ({ cls := "BeesSting", name := "loud", desc := "(I)I" } : Jvm.MethodName)) ∈ gw := List.mem_filter.mpr ⟨mt3 _ (List.mem_of_getElem? (i := 113) rfl), rfl⟩
theorem q3_114 : (Jvm.Cond.instanceMethod ({ cls := "BeesSting", name := "loud", desc := "(I)I" } : Jvm.MethodName)) ∈ gw := List.mem_filter.mpr ⟨mt3 _ (List.mem_of_getElem? (i := 114) rfl), rfl⟩
theorem q3_115 : (Jvm.Cond.selects "BeesSting" ({ cls := "BeesSting", name := "loud", desc := "(I)I" } : Jvm.MethodName) ({ cls := "BeesSting", name := "loud", desc := "(I)I" } : Jvm.MethodName)) ∈ gw := List.mem_filter.mpr ⟨mt3 _ (List.mem_of_getElem? (i := 115) rfl), rfl⟩
theorem q3_116 : (Jvm.Cond.code ({ cls := "BeesSting", name := "loud", desc := "(I)I" } : Jvm.MethodName) prog_1_method_8_code (2 : Nat) (Option.some Jvm.ClassFile.FieldType.int)) ∈ gw := List.mem_filter.mpr ⟨mt3 _ (List.mem_of_getElem? (i := 116) rfl), rfl⟩
theorem q3_117 : (Jvm.Cond.methodLink "BeesSting" (163 : Nat) ({ cls := "BeesSting$Flight", name := "begin", desc := "(LBeesSting$Flight;)V" } : Jvm.MethodName)) ∈ gw := List.mem_filter.mpr ⟨mt3 _ (List.mem_of_getElem? (i := 117) rfl), rfl⟩
theorem q3_118 : (Jvm.Cond.instanceMethod ({ cls := "BeesSting$Flight", name := "begin", desc := "(LBeesSting$Flight;)V" } : Jvm.MethodName)) ∈ gw := List.mem_filter.mpr ⟨mt3 _ (List.mem_of_getElem? (i := 118) rfl), rfl⟩
theorem q3_119 : (Jvm.Cond.selects "BeesSting$Flight" ({ cls := "BeesSting$Flight", name := "begin", desc := "(LBeesSting$Flight;)V" } : Jvm.MethodName) ({ cls := "BeesSting$Flight", name := "begin", desc := "(LBeesSting$Flight;)V" } : Jvm.MethodName)) ∈ gw := List.mem_filter.mpr ⟨mt3 _ (List.mem_of_getElem? (i := 119) rfl), rfl⟩
theorem q3_120 : (Jvm.Cond.code ({ cls := "BeesSting$Flight", name := "begin", desc := "(LBeesSting$Flight;)V" } : Jvm.MethodName) prog_5_method_3_code (2 : Nat) (Option.none : Option Jvm.ClassFile.FieldType)) ∈ gw := List.mem_filter.mpr ⟨mt3 _ (List.mem_of_getElem? (i := 120) rfl), rfl⟩
theorem q3_121 : (Jvm.Cond.methodLink "BeesSting$Flight" (60 : Nat) ({ cls := "BeesSting$Flight", name := "follow", desc := "(LBeesSting$Flight;I)V" } : Jvm.MethodName)) ∈ gw := List.mem_filter.mpr ⟨mt3 _ (List.mem_of_getElem? (i := 121) rfl), rfl⟩
theorem q3_122 : (Jvm.Cond.instanceMethod ({ cls := "BeesSting$Flight", name := "follow", desc := "(LBeesSting$Flight;I)V" } : Jvm.MethodName)) ∈ gw := List.mem_filter.mpr ⟨mt3 _ (List.mem_of_getElem? (i := 122) rfl), rfl⟩
theorem q3_123 : (Jvm.Cond.selects "BeesSting$Flight" ({ cls := "BeesSting$Flight", name := "follow", desc := "(LBeesSting$Flight;I)V" } : Jvm.MethodName) ({ cls := "BeesSting$Flight", name := "follow", desc := "(LBeesSting$Flight;I)V" } : Jvm.MethodName)) ∈ gw := List.mem_filter.mpr ⟨mt3 _ (List.mem_of_getElem? (i := 123) rfl), rfl⟩
theorem q3_124 : (Jvm.Cond.code ({ cls := "BeesSting$Flight", name := "follow", desc := "(LBeesSting$Flight;I)V" } : Jvm.MethodName) prog_5_method_2_code (3 : Nat) (Option.none : Option Jvm.ClassFile.FieldType)) ∈ gw := List.mem_filter.mpr ⟨mt3 _ (List.mem_of_getElem? (i := 124) rfl), rfl⟩
theorem q3_125 : (Jvm.Cond.methodLink "BeesSting$Flight" (48 : Nat) ({ cls := "java/lang/Math", name := "min", desc := "(II)I" } : Jvm.MethodName)) ∈ gw := List.mem_filter.mpr ⟨mt3 _ (List.mem_of_getElem? (i := 125) rfl), rfl⟩
theorem q3_126 : (Jvm.Cond.methodLink "BeesSting$Flight" (54 : Nat) ({ cls := "java/lang/System", name := "arraycopy", desc := "(Ljava/lang/Object;ILjava/lang/Object;II)V" } : Jvm.MethodName)) ∈ gw := List.mem_filter.mpr ⟨mt3 _ (List.mem_of_getElem? (i := 126) rfl), rfl⟩
theorem q3_127 : (Jvm.Cond.methodLink "BeesSting" (167 : Nat) ({ cls := "BeesSting$Law", name := "loudness", desc := "(LBeesSting$Flight;I)I" } : Jvm.MethodName)) ∈ gw := List.mem_filter.mpr ⟨mt3 _ (List.mem_of_getElem? (i := 127) rfl), rfl⟩
theorem q3_128 : (Jvm.Cond.instanceMethod ({ cls := "BeesSting$Law", name := "loudness", desc := "(LBeesSting$Flight;I)I" } : Jvm.MethodName)) ∈ gw := List.mem_filter.mpr ⟨mt3 _ (List.mem_of_getElem? (i := 128) rfl), rfl⟩
theorem q3_129 : (Jvm.Cond.selects "BeesSting$Law" ({ cls := "BeesSting$Law", name := "loudness", desc := "(LBeesSting$Flight;I)I" } : Jvm.MethodName) ({ cls := "BeesSting$Law", name := "loudness", desc := "(LBeesSting$Flight;I)I" } : Jvm.MethodName)) ∈ gw := List.mem_filter.mpr ⟨mt3 _ (List.mem_of_getElem? (i := 129) rfl), rfl⟩
theorem q3_130 : (Jvm.Cond.code ({ cls := "BeesSting$Law", name := "loudness", desc := "(LBeesSting$Flight;I)I" } : Jvm.MethodName) prog_8_method_4_code (6 : Nat) (Option.some Jvm.ClassFile.FieldType.int)) ∈ gw := List.mem_filter.mpr ⟨mt3 _ (List.mem_of_getElem? (i := 130) rfl), rfl⟩
theorem q3_131 : (Jvm.Cond.methodLink "BeesSting$Law" (63 : Nat) ({ cls := "BeesSting$Parish", name := "apart", desc := "(II)I" } : Jvm.MethodName)) ∈ gw := List.mem_filter.mpr ⟨mt3 _ (List.mem_of_getElem? (i := 131) rfl), rfl⟩
theorem q3_132 : (Jvm.Cond.methodLink "BeesSting$Law" (82 : Nat) ({ cls := "BeesSting$Law", name := "worth", desc := "()I" } : Jvm.MethodName)) ∈ gw := List.mem_filter.mpr ⟨mt3 _ (List.mem_of_getElem? (i := 132) rfl), rfl⟩
theorem q3_133 : (Jvm.Cond.privateMethod ({ cls := "BeesSting$Law", name := "worth", desc := "()I" } : Jvm.MethodName)) ∈ lw_tbl := mt3 _ (List.mem_of_getElem? (i := 133) rfl)
theorem q3_134 : (Jvm.Cond.instanceMethod ({ cls := "BeesSting$Law", name := "worth", desc := "()I" } : Jvm.MethodName)) ∈ gw := List.mem_filter.mpr ⟨mt3 _ (List.mem_of_getElem? (i := 134) rfl), rfl⟩
theorem q3_135 : (Jvm.Cond.code ({ cls := "BeesSting$Law", name := "worth", desc := "()I" } : Jvm.MethodName) prog_8_method_5_code (4 : Nat) (Option.some Jvm.ClassFile.FieldType.int)) ∈ gw := List.mem_filter.mpr ⟨mt3 _ (List.mem_of_getElem? (i := 135) rfl), rfl⟩
theorem q3_136 : (Jvm.Cond.methodLink "BeesSting$Law" (91 : Nat) ({ cls := "java/lang/Math", name := "max", desc := "(II)I" } : Jvm.MethodName)) ∈ gw := List.mem_filter.mpr ⟨mt3 _ (List.mem_of_getElem? (i := 136) rfl), rfl⟩
theorem q3_137 : (Jvm.Cond.static ({ cls := "java/lang/Math", name := "max", desc := "(II)I" } : Jvm.MethodName)) ∈ gw := List.mem_filter.mpr ⟨mt3 _ (List.mem_of_getElem? (i := 137) rfl), rfl⟩
theorem q3_138 : (Jvm.Cond.code ({ cls := "java/lang/Math", name := "max", desc := "(II)I" } : Jvm.MethodName) prog_16_method_65_code (2 : Nat) (Option.some Jvm.ClassFile.FieldType.int)) ∈ gw := List.mem_filter.mpr ⟨mt3 _ (List.mem_of_getElem? (i := 138) rfl), rfl⟩
theorem q3_139 : (Jvm.Cond.methodLink "BeesSting$Law" (94 : Nat) ({ cls := "BeesSting$Law", name := "joined", desc := "(III)I" } : Jvm.MethodName)) ∈ gw := List.mem_filter.mpr ⟨mt3 _ (List.mem_of_getElem? (i := 139) rfl), rfl⟩
theorem q3_140 : (Jvm.Cond.static ({ cls := "BeesSting$Law", name := "joined", desc := "(III)I" } : Jvm.MethodName)) ∈ gw := List.mem_filter.mpr ⟨mt3 _ (List.mem_of_getElem? (i := 140) rfl), rfl⟩
theorem q3_141 : (Jvm.Cond.code ({ cls := "BeesSting$Law", name := "joined", desc := "(III)I" } : Jvm.MethodName) prog_8_method_6_code (3 : Nat) (Option.some Jvm.ClassFile.FieldType.int)) ∈ gw := List.mem_filter.mpr ⟨mt3 _ (List.mem_of_getElem? (i := 141) rfl), rfl⟩
theorem q3_142 : (Jvm.Cond.methodLink "BeesSting$Law" (86 : Nat) ({ cls := "java/lang/Math", name := "min", desc := "(II)I" } : Jvm.MethodName)) ∈ gw := List.mem_filter.mpr ⟨mt3 _ (List.mem_of_getElem? (i := 142) rfl), rfl⟩
theorem q3_143 : (Jvm.Cond.methodLink "BeesStingLaw" (45 : Nat) ({ cls := "BeesSting", name := "day", desc := "(III)I" } : Jvm.MethodName)) ∈ gw := List.mem_filter.mpr ⟨mt3 _ (List.mem_of_getElem? (i := 143) rfl), rfl⟩
theorem q3_144 : (Jvm.Cond.instanceMethod ({ cls := "BeesSting", name := "day", desc := "(III)I" } : Jvm.MethodName)) ∈ gw := List.mem_filter.mpr ⟨mt3 _ (List.mem_of_getElem? (i := 144) rfl), rfl⟩
theorem q3_145 : (Jvm.Cond.selects "BeesSting" ({ cls := "BeesSting", name := "day", desc := "(III)I" } : Jvm.MethodName) ({ cls := "BeesSting", name := "day", desc := "(III)I" } : Jvm.MethodName)) ∈ gw := List.mem_filter.mpr ⟨mt3 _ (List.mem_of_getElem? (i := 145) rfl), rfl⟩
theorem q3_146 : (Jvm.Cond.code ({ cls := "BeesSting", name := "day", desc := "(III)I" } : Jvm.MethodName) prog_1_method_9_code (6 : Nat) (Option.some Jvm.ClassFile.FieldType.int)) ∈ gw := List.mem_filter.mpr ⟨mt3 _ (List.mem_of_getElem? (i := 146) rfl), rfl⟩
theorem q3_147 : (Jvm.Cond.methodLink "BeesSting" (171 : Nat) ({ cls := "BeesSting", name := "openDay", desc := "(I)I" } : Jvm.MethodName)) ∈ gw := List.mem_filter.mpr ⟨mt3 _ (List.mem_of_getElem? (i := 147) rfl), rfl⟩
theorem q3_148 : (Jvm.Cond.privateMethod ({ cls := "BeesSting", name := "openDay", desc := "(I)I" } : Jvm.MethodName)) ∈ lw_tbl := mt3 _ (List.mem_of_getElem? (i := 148) rfl)
theorem q3_149 : (Jvm.Cond.instanceMethod ({ cls := "BeesSting", name := "openDay", desc := "(I)I" } : Jvm.MethodName)) ∈ gw := List.mem_filter.mpr ⟨mt3 _ (List.mem_of_getElem? (i := 149) rfl), rfl⟩
theorem q3_150 : (Jvm.Cond.code ({ cls := "BeesSting", name := "openDay", desc := "(I)I" } : Jvm.MethodName) prog_1_method_45_code (3 : Nat) (Option.some Jvm.ClassFile.FieldType.int)) ∈ gw := List.mem_filter.mpr ⟨mt3 _ (List.mem_of_getElem? (i := 150) rfl), rfl⟩
theorem q3_151 : (Jvm.Cond.methodLink "BeesSting" (251 : Nat) ({ cls := "BeesSting$Shelves", name := "faultOfBytes", desc := "(II)I" } : Jvm.MethodName)) ∈ gw := List.mem_filter.mpr ⟨mt3 _ (List.mem_of_getElem? (i := 151) rfl), rfl⟩
theorem q3_152 : (Jvm.Cond.instanceMethod ({ cls := "BeesSting$Shelves", name := "faultOfBytes", desc := "(II)I" } : Jvm.MethodName)) ∈ gw := List.mem_filter.mpr ⟨mt3 _ (List.mem_of_getElem? (i := 152) rfl), rfl⟩
theorem q3_153 : (Jvm.Cond.selects "BeesSting$Shelves" ({ cls := "BeesSting$Shelves", name := "faultOfBytes", desc := "(II)I" } : Jvm.MethodName) ({ cls := "BeesSting$Shelves", name := "faultOfBytes", desc := "(II)I" } : Jvm.MethodName)) ∈ gw := List.mem_filter.mpr ⟨mt3 _ (List.mem_of_getElem? (i := 153) rfl), rfl⟩
theorem q3_154 : (Jvm.Cond.code ({ cls := "BeesSting$Shelves", name := "faultOfBytes", desc := "(II)I" } : Jvm.MethodName) prog_12_method_9_code (3 : Nat) (Option.some Jvm.ClassFile.FieldType.int)) ∈ gw := List.mem_filter.mpr ⟨mt3 _ (List.mem_of_getElem? (i := 154) rfl), rfl⟩
theorem q3_155 : (Jvm.Cond.methodLink "BeesSting$Shelves" (33 : Nat) ({ cls := "BeesSting$Shelves", name := "isEmpty", desc := "(I)Z" } : Jvm.MethodName)) ∈ gw := List.mem_filter.mpr ⟨mt3 _ (List.mem_of_getElem? (i := 155) rfl), rfl⟩
theorem q3_156 : (Jvm.Cond.methodLink "BeesSting$Shelves" (36 : Nat) ({ cls := "BeesSting$Shelves", name := "holdsRow", desc := "(II)Z" } : Jvm.MethodName)) ∈ gw := List.mem_filter.mpr ⟨mt3 _ (List.mem_of_getElem? (i := 156) rfl), rfl⟩
theorem q3_157 : (Jvm.Cond.methodLink "BeesSting" (254 : Nat) ({ cls := "BeesSting$Day", name := "read", desc := "(LBeesSting$Shelves;II)V" } : Jvm.MethodName)) ∈ gw := List.mem_filter.mpr ⟨mt3 _ (List.mem_of_getElem? (i := 157) rfl), rfl⟩
theorem q3_158 : (Jvm.Cond.instanceMethod ({ cls := "BeesSting$Day", name := "read", desc := "(LBeesSting$Shelves;II)V" } : Jvm.MethodName)) ∈ gw := List.mem_filter.mpr ⟨mt3 _ (List.mem_of_getElem? (i := 158) rfl), rfl⟩
theorem q3_159 : (Jvm.Cond.selects "BeesSting$Day" ({ cls := "BeesSting$Day", name := "read", desc := "(LBeesSting$Shelves;II)V" } : Jvm.MethodName) ({ cls := "BeesSting$Day", name := "read", desc := "(LBeesSting$Shelves;II)V" } : Jvm.MethodName)) ∈ gw := List.mem_filter.mpr ⟨mt3 _ (List.mem_of_getElem? (i := 159) rfl), rfl⟩
theorem q3_160 : (Jvm.Cond.code ({ cls := "BeesSting$Day", name := "read", desc := "(LBeesSting$Shelves;II)V" } : Jvm.MethodName) prog_4_method_2_code (7 : Nat) (Option.none : Option Jvm.ClassFile.FieldType)) ∈ gw := List.mem_filter.mpr ⟨mt3 _ (List.mem_of_getElem? (i := 160) rfl), rfl⟩
theorem q3_161 : (Jvm.Cond.methodLink "BeesSting$Day" (19 : Nat) ({ cls := "BeesSting$Shelves", name := "sizeOf", desc := "(I)I" } : Jvm.MethodName)) ∈ gw := List.mem_filter.mpr ⟨mt3 _ (List.mem_of_getElem? (i := 161) rfl), rfl⟩
theorem q3_162 : (Jvm.Cond.methodLink "BeesSting$Day" (25 : Nat) ({ cls := "java/lang/Math", name := "min", desc := "(II)I" } : Jvm.MethodName)) ∈ gw := List.mem_filter.mpr ⟨mt3 _ (List.mem_of_getElem? (i := 162) rfl), rfl⟩
theorem q3_163 : (Jvm.Cond.methodLink "BeesSting$Day" (31 : Nat) ({ cls := "BeesSting$Shelves", name := "get", desc := "(II)J" } : Jvm.MethodName)) ∈ gw := List.mem_filter.mpr ⟨mt3 _ (List.mem_of_getElem? (i := 163) rfl), rfl⟩
theorem q3_164 : (Jvm.Cond.methodLink "BeesSting" (174 : Nat) ({ cls := "BeesSting", name := "think", desc := "(I)I" } : Jvm.MethodName)) ∈ gw := List.mem_filter.mpr ⟨mt3 _ (List.mem_of_getElem? (i := 164) rfl), rfl⟩
theorem q3_165 : (Jvm.Cond.privateMethod ({ cls := "BeesSting", name := "think", desc := "(I)I" } : Jvm.MethodName)) ∈ lw_tbl := mt3 _ (List.mem_of_getElem? (i := 165) rfl)
theorem q3_166 : (Jvm.Cond.instanceMethod ({ cls := "BeesSting", name := "think", desc := "(I)I" } : Jvm.MethodName)) ∈ gw := List.mem_filter.mpr ⟨mt3 _ (List.mem_of_getElem? (i := 166) rfl), rfl⟩
theorem q3_167 : (Jvm.Cond.code ({ cls := "BeesSting", name := "think", desc := "(I)I" } : Jvm.MethodName) prog_1_method_46_code (5 : Nat) (Option.some Jvm.ClassFile.FieldType.int)) ∈ gw := List.mem_filter.mpr ⟨mt3 _ (List.mem_of_getElem? (i := 167) rfl), rfl⟩
theorem q3_168 : (Jvm.Cond.methodLink "BeesSting" (189 : Nat) ({ cls := "BeesSting$Day", name := "who", desc := "(I)I" } : Jvm.MethodName)) ∈ gw := List.mem_filter.mpr ⟨mt3 _ (List.mem_of_getElem? (i := 168) rfl), rfl⟩
theorem q3_169 : (Jvm.Cond.instanceMethod ({ cls := "BeesSting$Day", name := "who", desc := "(I)I" } : Jvm.MethodName)) ∈ gw := List.mem_filter.mpr ⟨mt3 _ (List.mem_of_getElem? (i := 169) rfl), rfl⟩
theorem q3_170 : (Jvm.Cond.selects "BeesSting$Day" ({ cls := "BeesSting$Day", name := "who", desc := "(I)I" } : Jvm.MethodName) ({ cls := "BeesSting$Day", name := "who", desc := "(I)I" } : Jvm.MethodName)) ∈ gw := List.mem_filter.mpr ⟨mt3 _ (List.mem_of_getElem? (i := 170) rfl), rfl⟩
theorem q3_171 : (Jvm.Cond.code ({ cls := "BeesSting$Day", name := "who", desc := "(I)I" } : Jvm.MethodName) prog_4_method_3_code (2 : Nat) (Option.some Jvm.ClassFile.FieldType.int)) ∈ gw := List.mem_filter.mpr ⟨mt3 _ (List.mem_of_getElem? (i := 171) rfl), rfl⟩
theorem q3_172 : (Jvm.Cond.methodLink "BeesSting" (192 : Nat) ({ cls := "BeesSting$Day", name := "isLie", desc := "(I)Z" } : Jvm.MethodName)) ∈ gw := List.mem_filter.mpr ⟨mt3 _ (List.mem_of_getElem? (i := 172) rfl), rfl⟩
theorem q3_173 : (Jvm.Cond.instanceMethod ({ cls := "BeesSting$Day", name := "isLie", desc := "(I)Z" } : Jvm.MethodName)) ∈ gw := List.mem_filter.mpr ⟨mt3 _ (List.mem_of_getElem? (i := 173) rfl), rfl⟩
theorem q3_174 : (Jvm.Cond.selects "BeesSting$Day" ({ cls := "BeesSting$Day", name := "isLie", desc := "(I)Z" } : Jvm.MethodName) ({ cls := "BeesSting$Day", name := "isLie", desc := "(I)Z" } : Jvm.MethodName)) ∈ gw := List.mem_filter.mpr ⟨mt3 _ (List.mem_of_getElem? (i := 174) rfl), rfl⟩
theorem q3_175 : (Jvm.Cond.code ({ cls := "BeesSting$Day", name := "isLie", desc := "(I)Z" } : Jvm.MethodName) prog_4_method_4_code (2 : Nat) (Option.some Jvm.ClassFile.FieldType.boolean)) ∈ gw := List.mem_filter.mpr ⟨mt3 _ (List.mem_of_getElem? (i := 175) rfl), rfl⟩
theorem q3_176 : (Jvm.Cond.methodLink "BeesSting" (195 : Nat) ({ cls := "BeesSting$Flight", name := "utter", desc := "(IZ)I" } : Jvm.MethodName)) ∈ gw := List.mem_filter.mpr ⟨mt3 _ (List.mem_of_getElem? (i := 176) rfl), rfl⟩
theorem q3_177 : (Jvm.Cond.instanceMethod ({ cls := "BeesSting$Flight", name := "utter", desc := "(IZ)I" } : Jvm.MethodName)) ∈ gw := List.mem_filter.mpr ⟨mt3 _ (List.mem_of_getElem? (i := 177) rfl), rfl⟩
theorem q3_178 : (Jvm.Cond.selects "BeesSting$Flight" ({ cls := "BeesSting$Flight", name := "utter", desc := "(IZ)I" } : Jvm.MethodName) ({ cls := "BeesSting$Flight", name := "utter", desc := "(IZ)I" } : Jvm.MethodName)) ∈ gw := List.mem_filter.mpr ⟨mt3 _ (List.mem_of_getElem? (i := 178) rfl), rfl⟩
theorem q3_179 : (Jvm.Cond.code ({ cls := "BeesSting$Flight", name := "utter", desc := "(IZ)I" } : Jvm.MethodName) prog_5_method_4_code (3 : Nat) (Option.some Jvm.ClassFile.FieldType.int)) ∈ gw := List.mem_filter.mpr ⟨mt3 _ (List.mem_of_getElem? (i := 179) rfl), rfl⟩
theorem q3_180 : (Jvm.Cond.methodLink "BeesSting$Flight" (64 : Nat) ({ cls := "BeesSting$Law", name := "loudness", desc := "(LBeesSting$Flight;I)I" } : Jvm.MethodName)) ∈ gw := List.mem_filter.mpr ⟨mt3 _ (List.mem_of_getElem? (i := 180) rfl), rfl⟩
theorem q3_181 : (Jvm.Cond.methodLink "BeesSting$Flight" (70 : Nat) ({ cls := "BeesSting$Flight", name := "passHour", desc := "()I" } : Jvm.MethodName)) ∈ gw := List.mem_filter.mpr ⟨mt3 _ (List.mem_of_getElem? (i := 181) rfl), rfl⟩
theorem q3_182 : (Jvm.Cond.instanceMethod ({ cls := "BeesSting$Flight", name := "passHour", desc := "()I" } : Jvm.MethodName)) ∈ gw := List.mem_filter.mpr ⟨mt3 _ (List.mem_of_getElem? (i := 182) rfl), rfl⟩
theorem q3_183 : (Jvm.Cond.selects "BeesSting$Flight" ({ cls := "BeesSting$Flight", name := "passHour", desc := "()I" } : Jvm.MethodName) ({ cls := "BeesSting$Flight", name := "passHour", desc := "()I" } : Jvm.MethodName)) ∈ gw := List.mem_filter.mpr ⟨mt3 _ (List.mem_of_getElem? (i := 183) rfl), rfl⟩
theorem q3_184 : (Jvm.Cond.code ({ cls := "BeesSting$Flight", name := "passHour", desc := "()I" } : Jvm.MethodName) prog_5_method_5_code (2 : Nat) (Option.some Jvm.ClassFile.FieldType.int)) ∈ gw := List.mem_filter.mpr ⟨mt3 _ (List.mem_of_getElem? (i := 184) rfl), rfl⟩
theorem q3_185 : (Jvm.Cond.methodLink "BeesSting$Flight" (79 : Nat) ({ cls := "BeesSting$Parish", name := "apart", desc := "(II)I" } : Jvm.MethodName)) ∈ gw := List.mem_filter.mpr ⟨mt3 _ (List.mem_of_getElem? (i := 185) rfl), rfl⟩
theorem q3_186 : (Jvm.Cond.methodLink "BeesSting$Flight" (88 : Nat) ({ cls := "BeesSting$Flight", name := "flown", desc := "(III)I" } : Jvm.MethodName)) ∈ gw := List.mem_filter.mpr ⟨mt3 _ (List.mem_of_getElem? (i := 186) rfl), rfl⟩
theorem q3_187 : (Jvm.Cond.static ({ cls := "BeesSting$Flight", name := "flown", desc := "(III)I" } : Jvm.MethodName)) ∈ gw := List.mem_filter.mpr ⟨mt3 _ (List.mem_of_getElem? (i := 187) rfl), rfl⟩
theorem q3_188 : (Jvm.Cond.code ({ cls := "BeesSting$Flight", name := "flown", desc := "(III)I" } : Jvm.MethodName) prog_5_method_6_code (5 : Nat) (Option.some Jvm.ClassFile.FieldType.int)) ∈ gw := List.mem_filter.mpr ⟨mt3 _ (List.mem_of_getElem? (i := 188) rfl), rfl⟩
theorem q3_189 : (Jvm.Cond.methodLink "BeesSting$Flight" (92 : Nat) ({ cls := "BeesSting$Flight", name := "nearer", desc := "(III)I" } : Jvm.MethodName)) ∈ gw := List.mem_filter.mpr ⟨mt3 _ (List.mem_of_getElem? (i := 189) rfl), rfl⟩
theorem q3_190 : (Jvm.Cond.static ({ cls := "BeesSting$Flight", name := "nearer", desc := "(III)I" } : Jvm.MethodName)) ∈ gw := List.mem_filter.mpr ⟨mt3 _ (List.mem_of_getElem? (i := 190) rfl), rfl⟩
theorem q3_191 : (Jvm.Cond.code ({ cls := "BeesSting$Flight", name := "nearer", desc := "(III)I" } : Jvm.MethodName) prog_5_method_7_code (3 : Nat) (Option.some Jvm.ClassFile.FieldType.int)) ∈ gw := List.mem_filter.mpr ⟨mt3 _ (List.mem_of_getElem? (i := 191) rfl), rfl⟩
theorem q3_192 : (Jvm.Cond.methodLink "BeesStingLaw" (49 : Nat) ({ cls := "BeesSting", name := "stung", desc := "(IIII)I" } : Jvm.MethodName)) ∈ gw := List.mem_filter.mpr ⟨mt3 _ (List.mem_of_getElem? (i := 192) rfl), rfl⟩
theorem q3_193 : (Jvm.Cond.instanceMethod ({ cls := "BeesSting", name := "stung", desc := "(IIII)I" } : Jvm.MethodName)) ∈ gw := List.mem_filter.mpr ⟨mt3 _ (List.mem_of_getElem? (i := 193) rfl), rfl⟩
theorem q3_194 : (Jvm.Cond.selects "BeesSting" ({ cls := "BeesSting", name := "stung", desc := "(IIII)I" } : Jvm.MethodName) ({ cls := "BeesSting", name := "stung", desc := "(IIII)I" } : Jvm.MethodName)) ∈ gw := List.mem_filter.mpr ⟨mt3 _ (List.mem_of_getElem? (i := 194) rfl), rfl⟩
theorem q3_195 : (Jvm.Cond.code ({ cls := "BeesSting", name := "stung", desc := "(IIII)I" } : Jvm.MethodName) prog_1_method_10_code (11 : Nat) (Option.some Jvm.ClassFile.FieldType.int)) ∈ gw := List.mem_filter.mpr ⟨mt3 _ (List.mem_of_getElem? (i := 195) rfl), rfl⟩
theorem q3_196 : (Jvm.Cond.methodLink "BeesStingLaw" (54 : Nat) ({ cls := "BeesSting", name := "reach", desc := "()I" } : Jvm.MethodName)) ∈ gw := List.mem_filter.mpr ⟨mt3 _ (List.mem_of_getElem? (i := 196) rfl), rfl⟩
theorem q3_197 : (Jvm.Cond.instanceMethod ({ cls := "BeesSting", name := "reach", desc := "()I" } : Jvm.MethodName)) ∈ gw := List.mem_filter.mpr ⟨mt3 _ (List.mem_of_getElem? (i := 197) rfl), rfl⟩
theorem q3_198 : (Jvm.Cond.selects "BeesSting" ({ cls := "BeesSting", name := "reach", desc := "()I" } : Jvm.MethodName) ({ cls := "BeesSting", name := "reach", desc := "()I" } : Jvm.MethodName)) ∈ gw := List.mem_filter.mpr ⟨mt3 _ (List.mem_of_getElem? (i := 198) rfl), rfl⟩
theorem q3_199 : (Jvm.Cond.code ({ cls := "BeesSting", name := "reach", desc := "()I" } : Jvm.MethodName) prog_1_method_11_code (1 : Nat) (Option.some Jvm.ClassFile.FieldType.int)) ∈ gw := List.mem_filter.mpr ⟨mt3 _ (List.mem_of_getElem? (i := 199) rfl), rfl⟩
theorem q3_200 : (Jvm.Cond.methodLink "BeesSting" (199 : Nat) ({ cls := "BeesSting$Parish", name := "within", desc := "(I)I" } : Jvm.MethodName)) ∈ gw := List.mem_filter.mpr ⟨mt3 _ (List.mem_of_getElem? (i := 200) rfl), rfl⟩
theorem q3_201 : (Jvm.Cond.methodLink "BeesStingLaw" (58 : Nat) ({ cls := "BeesSting", name := "soon", desc := "(I)I" } : Jvm.MethodName)) ∈ gw := List.mem_filter.mpr ⟨mt3 _ (List.mem_of_getElem? (i := 201) rfl), rfl⟩
theorem q3_202 : (Jvm.Cond.instanceMethod ({ cls := "BeesSting", name := "soon", desc := "(I)I" } : Jvm.MethodName)) ∈ gw := List.mem_filter.mpr ⟨mt3 _ (List.mem_of_getElem? (i := 202) rfl), rfl⟩
theorem q3_203 : (Jvm.Cond.selects "BeesSting" ({ cls := "BeesSting", name := "soon", desc := "(I)I" } : Jvm.MethodName) ({ cls := "BeesSting", name := "soon", desc := "(I)I" } : Jvm.MethodName)) ∈ gw := List.mem_filter.mpr ⟨mt3 _ (List.mem_of_getElem? (i := 203) rfl), rfl⟩
theorem q3_204 : (Jvm.Cond.code ({ cls := "BeesSting", name := "soon", desc := "(I)I" } : Jvm.MethodName) prog_1_method_12_code (2 : Nat) (Option.some Jvm.ClassFile.FieldType.int)) ∈ gw := List.mem_filter.mpr ⟨mt3 _ (List.mem_of_getElem? (i := 204) rfl), rfl⟩
theorem q3_205 : (Jvm.Cond.methodLink "BeesSting" (202 : Nat) ({ cls := "BeesSting", name := "stungBehind", desc := "(LBeesSting$Flight;I)I" } : Jvm.MethodName)) ∈ gw := List.mem_filter.mpr ⟨mt3 _ (List.mem_of_getElem? (i := 205) rfl), rfl⟩
theorem q3_206 : (Jvm.Cond.static ({ cls := "BeesSting", name := "stungBehind", desc := "(LBeesSting$Flight;I)I" } : Jvm.MethodName)) ∈ gw := List.mem_filter.mpr ⟨mt3 _ (List.mem_of_getElem? (i := 206) rfl), rfl⟩
theorem q3_207 : (Jvm.Cond.code ({ cls := "BeesSting", name := "stungBehind", desc := "(LBeesSting$Flight;I)I" } : Jvm.MethodName) prog_1_method_48_code (3 : Nat) (Option.some Jvm.ClassFile.FieldType.int)) ∈ gw := List.mem_filter.mpr ⟨mt3 _ (List.mem_of_getElem? (i := 207) rfl), rfl⟩
theorem q3_208 : (Jvm.Cond.methodLink "BeesSting" (391 : Nat) ({ cls := "BeesSting$Flight", name := "passHour", desc := "()I" } : Jvm.MethodName)) ∈ gw := List.mem_filter.mpr ⟨mt3 _ (List.mem_of_getElem? (i := 208) rfl), rfl⟩
theorem q3_209 : (Jvm.Cond.methodLink "BeesStingLaw" (62 : Nat) ({ cls := "BeesSting", name := "passOn", desc := "(III)I" } : Jvm.MethodName)) ∈ gw := List.mem_filter.mpr ⟨mt3 _ (List.mem_of_getElem? (i := 209) rfl), rfl⟩
theorem q3_210 : (Jvm.Cond.instanceMethod ({ cls := "BeesSting", name := "passOn", desc := "(III)I" } : Jvm.MethodName)) ∈ gw := List.mem_filter.mpr ⟨mt3 _ (List.mem_of_getElem? (i := 210) rfl), rfl⟩
theorem q3_211 : (Jvm.Cond.selects "BeesSting" ({ cls := "BeesSting", name := "passOn", desc := "(III)I" } : Jvm.MethodName) ({ cls := "BeesSting", name := "passOn", desc := "(III)I" } : Jvm.MethodName)) ∈ gw := List.mem_filter.mpr ⟨mt3 _ (List.mem_of_getElem? (i := 211) rfl), rfl⟩
theorem q3_212 : (Jvm.Cond.code ({ cls := "BeesSting", name := "passOn", desc := "(III)I" } : Jvm.MethodName) prog_1_method_13_code (9 : Nat) (Option.some Jvm.ClassFile.FieldType.int)) ∈ gw := List.mem_filter.mpr ⟨mt3 _ (List.mem_of_getElem? (i := 212) rfl), rfl⟩
theorem q3_213 : (Jvm.Cond.methodLink "BeesSting" (205 : Nat) ({ cls := "BeesSting$Flight", name := "follow", desc := "(LBeesSting$Flight;I)V" } : Jvm.MethodName)) ∈ gw := List.mem_filter.mpr ⟨mt3 _ (List.mem_of_getElem? (i := 213) rfl), rfl⟩
theorem q3_214 : (Jvm.Cond.methodLink "BeesStingLaw" (66 : Nat) ({ cls := "BeesSting", name := "orders", desc := "(II)I" } : Jvm.MethodName)) ∈ gw := List.mem_filter.mpr ⟨mt3 _ (List.mem_of_getElem? (i := 214) rfl), rfl⟩
theorem q3_215 : (Jvm.Cond.instanceMethod ({ cls := "BeesSting", name := "orders", desc := "(II)I" } : Jvm.MethodName)) ∈ gw := List.mem_filter.mpr ⟨mt3 _ (List.mem_of_getElem? (i := 215) rfl), rfl⟩
theorem q3_216 : (Jvm.Cond.selects "BeesSting" ({ cls := "BeesSting", name := "orders", desc := "(II)I" } : Jvm.MethodName) ({ cls := "BeesSting", name := "orders", desc := "(II)I" } : Jvm.MethodName)) ∈ gw := List.mem_filter.mpr ⟨mt3 _ (List.mem_of_getElem? (i := 216) rfl), rfl⟩
theorem q3_217 : (Jvm.Cond.code ({ cls := "BeesSting", name := "orders", desc := "(II)I" } : Jvm.MethodName) prog_1_method_14_code (4 : Nat) (Option.some Jvm.ClassFile.FieldType.int)) ∈ gw := List.mem_filter.mpr ⟨mt3 _ (List.mem_of_getElem? (i := 217) rfl), rfl⟩
theorem q3_218 : (Jvm.Cond.methodLink "BeesSting" (209 : Nat) ({ cls := "BeesSting$Orders", name := "tryAll", desc := "(LBeesSting$Flight;)V" } : Jvm.MethodName)) ∈ gw := List.mem_filter.mpr ⟨mt3 _ (List.mem_of_getElem? (i := 218) rfl), rfl⟩
theorem q3_219 : (Jvm.Cond.instanceMethod ({ cls := "BeesSting$Orders", name := "tryAll", desc := "(LBeesSting$Flight;)V" } : Jvm.MethodName)) ∈ gw := List.mem_filter.mpr ⟨mt3 _ (List.mem_of_getElem? (i := 219) rfl), rfl⟩
theorem q3_220 : (Jvm.Cond.selects "BeesSting$Orders" ({ cls := "BeesSting$Orders", name := "tryAll", desc := "(LBeesSting$Flight;)V" } : Jvm.MethodName) ({ cls := "BeesSting$Orders", name := "tryAll", desc := "(LBeesSting$Flight;)V" } : Jvm.MethodName)) ∈ gw := List.mem_filter.mpr ⟨mt3 _ (List.mem_of_getElem? (i := 220) rfl), rfl⟩
theorem q3_221 : (Jvm.Cond.code ({ cls := "BeesSting$Orders", name := "tryAll", desc := "(LBeesSting$Flight;)V" } : Jvm.MethodName) prog_10_method_2_code (2 : Nat) (Option.none : Option Jvm.ClassFile.FieldType)) ∈ gw := List.mem_filter.mpr ⟨mt3 _ (List.mem_of_getElem? (i := 221) rfl), rfl⟩
theorem q3_222 : (Jvm.Cond.methodLink "BeesSting$Orders" (33 : Nat) ({ cls := "BeesSting$Flight", name := "begin", desc := "(LBeesSting$Flight;)V" } : Jvm.MethodName)) ∈ gw := List.mem_filter.mpr ⟨mt3 _ (List.mem_of_getElem? (i := 222) rfl), rfl⟩
theorem q3_223 : (Jvm.Cond.methodLink "BeesSting$Orders" (39 : Nat) ({ cls := "BeesSting$Orders", name := "arrange", desc := "(LBeesSting$Orders;II)V" } : Jvm.MethodName)) ∈ gw := List.mem_filter.mpr ⟨mt3 _ (List.mem_of_getElem? (i := 223) rfl), rfl⟩
theorem q3_224 : (Jvm.Cond.static ({ cls := "BeesSting$Orders", name := "arrange", desc := "(LBeesSting$Orders;II)V" } : Jvm.MethodName)) ∈ gw := List.mem_filter.mpr ⟨mt3 _ (List.mem_of_getElem? (i := 224) rfl), rfl⟩
theorem q3_225 : (Jvm.Cond.code ({ cls := "BeesSting$Orders", name := "arrange", desc := "(LBeesSting$Orders;II)V" } : Jvm.MethodName) prog_10_method_4_code (7 : Nat) (Option.none : Option Jvm.ClassFile.FieldType)) ∈ gw := List.mem_filter.mpr ⟨mt3 _ (List.mem_of_getElem? (i := 225) rfl), rfl⟩
theorem q3_226 : (Jvm.Cond.methodLink "BeesSting$Orders" (51 : Nat) ({ cls := "BeesSting$Orders", name := "take", desc := "(I)V" } : Jvm.MethodName)) ∈ gw := List.mem_filter.mpr ⟨mt3 _ (List.mem_of_getElem? (i := 226) rfl), rfl⟩
theorem q3_227 : (Jvm.Cond.privateMethod ({ cls := "BeesSting$Orders", name := "take", desc := "(I)V" } : Jvm.MethodName)) ∈ lw_tbl := mt3 _ (List.mem_of_getElem? (i := 227) rfl)
theorem q3_228 : (Jvm.Cond.instanceMethod ({ cls := "BeesSting$Orders", name := "take", desc := "(I)V" } : Jvm.MethodName)) ∈ gw := List.mem_filter.mpr ⟨mt3 _ (List.mem_of_getElem? (i := 228) rfl), rfl⟩
theorem q3_229 : (Jvm.Cond.code ({ cls := "BeesSting$Orders", name := "take", desc := "(I)V" } : Jvm.MethodName) prog_10_method_5_code (2 : Nat) (Option.none : Option Jvm.ClassFile.FieldType)) ∈ gw := List.mem_filter.mpr ⟨mt3 _ (List.mem_of_getElem? (i := 229) rfl), rfl⟩
theorem q3_230 : (Jvm.Cond.methodLink "BeesSting$Orders" (71 : Nat) ({ cls := "java/lang/System", name := "arraycopy", desc := "(Ljava/lang/Object;ILjava/lang/Object;II)V" } : Jvm.MethodName)) ∈ gw := List.mem_filter.mpr ⟨mt3 _ (List.mem_of_getElem? (i := 230) rfl), rfl⟩
theorem q3_231 : (Jvm.Cond.methodLink "BeesSting$Orders" (55 : Nat) ({ cls := "BeesSting$Flight", name := "follow", desc := "(LBeesSting$Flight;I)V" } : Jvm.MethodName)) ∈ gw := List.mem_filter.mpr ⟨mt3 _ (List.mem_of_getElem? (i := 231) rfl), rfl⟩
theorem q3_232 : (Jvm.Cond.methodLink "BeesSting$Orders" (59 : Nat) ({ cls := "BeesSting$Day", name := "who", desc := "(I)I" } : Jvm.MethodName)) ∈ gw := List.mem_filter.mpr ⟨mt3 _ (List.mem_of_getElem? (i := 232) rfl), rfl⟩
theorem q3_233 : (Jvm.Cond.methodLink "BeesSting$Orders" (63 : Nat) ({ cls := "BeesSting$Day", name := "isLie", desc := "(I)Z" } : Jvm.MethodName)) ∈ gw := List.mem_filter.mpr ⟨mt3 _ (List.mem_of_getElem? (i := 233) rfl), rfl⟩
theorem q3_234 : (Jvm.Cond.methodLink "BeesSting$Orders" (67 : Nat) ({ cls := "BeesSting$Flight", name := "utter", desc := "(IZ)I" } : Jvm.MethodName)) ∈ gw := List.mem_filter.mpr ⟨mt3 _ (List.mem_of_getElem? (i := 234) rfl), rfl⟩
theorem q3_235 : (Jvm.Cond.methodLink "BeesSting" (218 : Nat) ({ cls := "BeesSting$Orders", name := "placeOf", desc := "(I)I" } : Jvm.MethodName)) ∈ gw := List.mem_filter.mpr ⟨mt3 _ (List.mem_of_getElem? (i := 235) rfl), rfl⟩
theorem q3_236 : (Jvm.Cond.instanceMethod ({ cls := "BeesSting$Orders", name := "placeOf", desc := "(I)I" } : Jvm.MethodName)) ∈ gw := List.mem_filter.mpr ⟨mt3 _ (List.mem_of_getElem? (i := 236) rfl), rfl⟩
theorem q3_237 : (Jvm.Cond.selects "BeesSting$Orders" ({ cls := "BeesSting$Orders", name := "placeOf", desc := "(I)I" } : Jvm.MethodName) ({ cls := "BeesSting$Orders", name := "placeOf", desc := "(I)I" } : Jvm.MethodName)) ∈ gw := List.mem_filter.mpr ⟨mt3 _ (List.mem_of_getElem? (i := 237) rfl), rfl⟩
theorem q3_238 : (Jvm.Cond.code ({ cls := "BeesSting$Orders", name := "placeOf", desc := "(I)I" } : Jvm.MethodName) prog_10_method_3_code (2 : Nat) (Option.some Jvm.ClassFile.FieldType.int)) ∈ gw := List.mem_filter.mpr ⟨mt3 _ (List.mem_of_getElem? (i := 238) rfl), rfl⟩
theorem q3_239 : (Jvm.Cond.methodLink "BeesStingLaw" (70 : Nat) ({ cls := "BeesSting", name := "stand", desc := "(III)I" } : Jvm.MethodName)) ∈ gw := List.mem_filter.mpr ⟨mt3 _ (List.mem_of_getElem? (i := 239) rfl), rfl⟩
theorem q4_0 : (Jvm.Cond.instanceMethod ({ cls := "BeesSting", name := "stand", desc := "(III)I" } : Jvm.MethodName)) ∈ gw := List.mem_filter.mpr ⟨mt4 _ (List.mem_of_getElem? (i := 0) rfl), rfl⟩
theorem q4_1 : (Jvm.Cond.selects "BeesSting" ({ cls := "BeesSting", name := "stand", desc := "(III)I" } : Jvm.MethodName) ({ cls := "BeesSting", name := "stand", desc := "(III)I" } : Jvm.MethodName)) ∈ gw := List.mem_filter.mpr ⟨mt4 _ (List.mem_of_getElem? (i := 1) rfl), rfl⟩
theorem q4_2 : (Jvm.Cond.code ({ cls := "BeesSting", name := "stand", desc := "(III)I" } : Jvm.MethodName) prog_1_method_15_code (9 : Nat) (Option.some Jvm.ClassFile.FieldType.int)) ∈ gw := List.mem_filter.mpr ⟨mt4 _ (List.mem_of_getElem? (i := 2) rfl), rfl⟩
theorem q4_3 : (Jvm.Cond.methodLink "BeesSting" (228 : Nat) ({ cls := "BeesSting", name := "isSpared", desc := "(I)Z" } : Jvm.MethodName)) ∈ gw := List.mem_filter.mpr ⟨mt4 _ (List.mem_of_getElem? (i := 3) rfl), rfl⟩
theorem q4_4 : (Jvm.Cond.privateMethod ({ cls := "BeesSting", name := "isSpared", desc := "(I)Z" } : Jvm.MethodName)) ∈ lw_tbl := mt4 _ (List.mem_of_getElem? (i := 4) rfl)
theorem q4_5 : (Jvm.Cond.instanceMethod ({ cls := "BeesSting", name := "isSpared", desc := "(I)Z" } : Jvm.MethodName)) ∈ gw := List.mem_filter.mpr ⟨mt4 _ (List.mem_of_getElem? (i := 5) rfl), rfl⟩
theorem q4_6 : (Jvm.Cond.code ({ cls := "BeesSting", name := "isSpared", desc := "(I)Z" } : Jvm.MethodName) prog_1_method_47_code (3 : Nat) (Option.some Jvm.ClassFile.FieldType.boolean)) ∈ gw := List.mem_filter.mpr ⟨mt4 _ (List.mem_of_getElem? (i := 6) rfl), rfl⟩
theorem q4_7 : (Jvm.Cond.methodLink "BeesStingLaw" (74 : Nat) ({ cls := "BeesSting", name := "lastWord", desc := "(III)I" } : Jvm.MethodName)) ∈ gw := List.mem_filter.mpr ⟨mt4 _ (List.mem_of_getElem? (i := 7) rfl), rfl⟩
theorem q4_8 : (Jvm.Cond.instanceMethod ({ cls := "BeesSting", name := "lastWord", desc := "(III)I" } : Jvm.MethodName)) ∈ gw := List.mem_filter.mpr ⟨mt4 _ (List.mem_of_getElem? (i := 8) rfl), rfl⟩
theorem q4_9 : (Jvm.Cond.selects "BeesSting" ({ cls := "BeesSting", name := "lastWord", desc := "(III)I" } : Jvm.MethodName) ({ cls := "BeesSting", name := "lastWord", desc := "(III)I" } : Jvm.MethodName)) ∈ gw := List.mem_filter.mpr ⟨mt4 _ (List.mem_of_getElem? (i := 9) rfl), rfl⟩
theorem q4_10 : (Jvm.Cond.code ({ cls := "BeesSting", name := "lastWord", desc := "(III)I" } : Jvm.MethodName) prog_1_method_16_code (6 : Nat) (Option.some Jvm.ClassFile.FieldType.int)) ∈ gw := List.mem_filter.mpr ⟨mt4 _ (List.mem_of_getElem? (i := 10) rfl), rfl⟩
theorem q4_11 : (Jvm.Cond.methodLink "BeesSting" (231 : Nat) ({ cls := "BeesSting$LastWord", name := "talk", desc := "(LBeesSting$Flight;III)V" } : Jvm.MethodName)) ∈ gw := List.mem_filter.mpr ⟨mt4 _ (List.mem_of_getElem? (i := 11) rfl), rfl⟩
theorem q4_12 : (Jvm.Cond.instanceMethod ({ cls := "BeesSting$LastWord", name := "talk", desc := "(LBeesSting$Flight;III)V" } : Jvm.MethodName)) ∈ gw := List.mem_filter.mpr ⟨mt4 _ (List.mem_of_getElem? (i := 12) rfl), rfl⟩
theorem q4_13 : (Jvm.Cond.selects "BeesSting$LastWord" ({ cls := "BeesSting$LastWord", name := "talk", desc := "(LBeesSting$Flight;III)V" } : Jvm.MethodName) ({ cls := "BeesSting$LastWord", name := "talk", desc := "(LBeesSting$Flight;III)V" } : Jvm.MethodName)) ∈ gw := List.mem_filter.mpr ⟨mt4 _ (List.mem_of_getElem? (i := 13) rfl), rfl⟩
theorem q4_14 : (Jvm.Cond.code ({ cls := "BeesSting$LastWord", name := "talk", desc := "(LBeesSting$Flight;III)V" } : Jvm.MethodName) prog_7_method_2_code (5 : Nat) (Option.none : Option Jvm.ClassFile.FieldType)) ∈ gw := List.mem_filter.mpr ⟨mt4 _ (List.mem_of_getElem? (i := 14) rfl), rfl⟩
theorem q4_15 : (Jvm.Cond.methodLink "BeesSting$LastWord" (31 : Nat) ({ cls := "java/lang/Math", name := "min", desc := "(II)I" } : Jvm.MethodName)) ∈ gw := List.mem_filter.mpr ⟨mt4 _ (List.mem_of_getElem? (i := 15) rfl), rfl⟩
theorem q4_16 : (Jvm.Cond.methodLink "BeesSting$LastWord" (37 : Nat) ({ cls := "BeesSting$Flight", name := "begin", desc := "(LBeesSting$Flight;)V" } : Jvm.MethodName)) ∈ gw := List.mem_filter.mpr ⟨mt4 _ (List.mem_of_getElem? (i := 16) rfl), rfl⟩
theorem q4_17 : (Jvm.Cond.methodLink "BeesSting$LastWord" (43 : Nat) ({ cls := "BeesSting$LastWord", name := "play", desc := "(LBeesSting$LastWord;II)I" } : Jvm.MethodName)) ∈ gw := List.mem_filter.mpr ⟨mt4 _ (List.mem_of_getElem? (i := 17) rfl), rfl⟩
theorem q4_18 : (Jvm.Cond.static ({ cls := "BeesSting$LastWord", name := "play", desc := "(LBeesSting$LastWord;II)I" } : Jvm.MethodName)) ∈ gw := List.mem_filter.mpr ⟨mt4 _ (List.mem_of_getElem? (i := 18) rfl), rfl⟩
theorem q4_19 : (Jvm.Cond.code ({ cls := "BeesSting$LastWord", name := "play", desc := "(LBeesSting$LastWord;II)I" } : Jvm.MethodName) prog_7_method_3_code (9 : Nat) (Option.some Jvm.ClassFile.FieldType.int)) ∈ gw := List.mem_filter.mpr ⟨mt4 _ (List.mem_of_getElem? (i := 19) rfl), rfl⟩
theorem q4_20 : (Jvm.Cond.methodLink "BeesSting$LastWord" (47 : Nat) ({ cls := "BeesSting$Flight", name := "follow", desc := "(LBeesSting$Flight;I)V" } : Jvm.MethodName)) ∈ gw := List.mem_filter.mpr ⟨mt4 _ (List.mem_of_getElem? (i := 20) rfl), rfl⟩
theorem q4_21 : (Jvm.Cond.methodLink "BeesSting$LastWord" (51 : Nat) ({ cls := "BeesSting$LastWord", name := "stillness", desc := "(LBeesSting$Flight;)I" } : Jvm.MethodName)) ∈ gw := List.mem_filter.mpr ⟨mt4 _ (List.mem_of_getElem? (i := 21) rfl), rfl⟩
theorem q4_22 : (Jvm.Cond.privateMethod ({ cls := "BeesSting$LastWord", name := "stillness", desc := "(LBeesSting$Flight;)I" } : Jvm.MethodName)) ∈ lw_tbl := mt4 _ (List.mem_of_getElem? (i := 22) rfl)
theorem q4_23 : (Jvm.Cond.instanceMethod ({ cls := "BeesSting$LastWord", name := "stillness", desc := "(LBeesSting$Flight;)I" } : Jvm.MethodName)) ∈ gw := List.mem_filter.mpr ⟨mt4 _ (List.mem_of_getElem? (i := 23) rfl), rfl⟩
theorem q4_24 : (Jvm.Cond.code ({ cls := "BeesSting$LastWord", name := "stillness", desc := "(LBeesSting$Flight;)I" } : Jvm.MethodName) prog_7_method_4_code (4 : Nat) (Option.some Jvm.ClassFile.FieldType.int)) ∈ gw := List.mem_filter.mpr ⟨mt4 _ (List.mem_of_getElem? (i := 24) rfl), rfl⟩
theorem q4_25 : (Jvm.Cond.methodLink "BeesSting$LastWord" (55 : Nat) ({ cls := "BeesSting$Flight", name := "passHour", desc := "()I" } : Jvm.MethodName)) ∈ gw := List.mem_filter.mpr ⟨mt4 _ (List.mem_of_getElem? (i := 25) rfl), rfl⟩
theorem q4_26 : (Jvm.Cond.methodLink "BeesSting$LastWord" (59 : Nat) ({ cls := "BeesSting$LastWord", name := "bit", desc := "(I)I" } : Jvm.MethodName)) ∈ gw := List.mem_filter.mpr ⟨mt4 _ (List.mem_of_getElem? (i := 26) rfl), rfl⟩
theorem q4_27 : (Jvm.Cond.privateMethod ({ cls := "BeesSting$LastWord", name := "bit", desc := "(I)I" } : Jvm.MethodName)) ∈ lw_tbl := mt4 _ (List.mem_of_getElem? (i := 27) rfl)
theorem q4_28 : (Jvm.Cond.instanceMethod ({ cls := "BeesSting$LastWord", name := "bit", desc := "(I)I" } : Jvm.MethodName)) ∈ gw := List.mem_filter.mpr ⟨mt4 _ (List.mem_of_getElem? (i := 28) rfl), rfl⟩
theorem q4_29 : (Jvm.Cond.code ({ cls := "BeesSting$LastWord", name := "bit", desc := "(I)I" } : Jvm.MethodName) prog_7_method_5_code (2 : Nat) (Option.some Jvm.ClassFile.FieldType.int)) ∈ gw := List.mem_filter.mpr ⟨mt4 _ (List.mem_of_getElem? (i := 29) rfl), rfl⟩
theorem q4_30 : (Jvm.Cond.methodLink "BeesSting$LastWord" (63 : Nat) ({ cls := "BeesSting$Flight", name := "utter", desc := "(IZ)I" } : Jvm.MethodName)) ∈ gw := List.mem_filter.mpr ⟨mt4 _ (List.mem_of_getElem? (i := 30) rfl), rfl⟩
theorem q4_31 : (Jvm.Cond.methodLink "BeesSting$LastWord" (67 : Nat) ({ cls := "BeesSting$LastWord", name := "liking", desc := "(IZ)I" } : Jvm.MethodName)) ∈ gw := List.mem_filter.mpr ⟨mt4 _ (List.mem_of_getElem? (i := 31) rfl), rfl⟩
theorem q4_32 : (Jvm.Cond.static ({ cls := "BeesSting$LastWord", name := "liking", desc := "(IZ)I" } : Jvm.MethodName)) ∈ gw := List.mem_filter.mpr ⟨mt4 _ (List.mem_of_getElem? (i := 32) rfl), rfl⟩
theorem q4_33 : (Jvm.Cond.code ({ cls := "BeesSting$LastWord", name := "liking", desc := "(IZ)I" } : Jvm.MethodName) prog_7_method_6_code (4 : Nat) (Option.some Jvm.ClassFile.FieldType.int)) ∈ gw := List.mem_filter.mpr ⟨mt4 _ (List.mem_of_getElem? (i := 33) rfl), rfl⟩
theorem q4_34 : (Jvm.Cond.methodLink "BeesStingLaw" (78 : Nat) ({ cls := "BeesSting", name := "crier", desc := "(II)I" } : Jvm.MethodName)) ∈ gw := List.mem_filter.mpr ⟨mt4 _ (List.mem_of_getElem? (i := 34) rfl), rfl⟩
theorem q4_35 : (Jvm.Cond.instanceMethod ({ cls := "BeesSting", name := "crier", desc := "(II)I" } : Jvm.MethodName)) ∈ gw := List.mem_filter.mpr ⟨mt4 _ (List.mem_of_getElem? (i := 35) rfl), rfl⟩
theorem q4_36 : (Jvm.Cond.selects "BeesSting" ({ cls := "BeesSting", name := "crier", desc := "(II)I" } : Jvm.MethodName) ({ cls := "BeesSting", name := "crier", desc := "(II)I" } : Jvm.MethodName)) ∈ gw := List.mem_filter.mpr ⟨mt4 _ (List.mem_of_getElem? (i := 36) rfl), rfl⟩
theorem q4_37 : (Jvm.Cond.code ({ cls := "BeesSting", name := "crier", desc := "(II)I" } : Jvm.MethodName) prog_1_method_17_code (8 : Nat) (Option.some Jvm.ClassFile.FieldType.int)) ∈ gw := List.mem_filter.mpr ⟨mt4 _ (List.mem_of_getElem? (i := 37) rfl), rfl⟩
theorem q4_38 : (Jvm.Cond.methodLink "BeesStingLaw" (82 : Nat) ({ cls := "BeesSting", name := "keepNear", desc := "(I)I" } : Jvm.MethodName)) ∈ gw := List.mem_filter.mpr ⟨mt4 _ (List.mem_of_getElem? (i := 38) rfl), rfl⟩
theorem q4_39 : (Jvm.Cond.instanceMethod ({ cls := "BeesSting", name := "keepNear", desc := "(I)I" } : Jvm.MethodName)) ∈ gw := List.mem_filter.mpr ⟨mt4 _ (List.mem_of_getElem? (i := 39) rfl), rfl⟩
theorem q4_40 : (Jvm.Cond.selects "BeesSting" ({ cls := "BeesSting", name := "keepNear", desc := "(I)I" } : Jvm.MethodName) ({ cls := "BeesSting", name := "keepNear", desc := "(I)I" } : Jvm.MethodName)) ∈ gw := List.mem_filter.mpr ⟨mt4 _ (List.mem_of_getElem? (i := 40) rfl), rfl⟩
theorem q4_41 : (Jvm.Cond.code ({ cls := "BeesSting", name := "keepNear", desc := "(I)I" } : Jvm.MethodName) prog_1_method_18_code (4 : Nat) (Option.some Jvm.ClassFile.FieldType.int)) ∈ gw := List.mem_filter.mpr ⟨mt4 _ (List.mem_of_getElem? (i := 41) rfl), rfl⟩
theorem q4_42 : (Jvm.Cond.methodLink "BeesSting" (247 : Nat) ({ cls := "BeesSting$Parish", name := "isNearer", desc := "(III)Z" } : Jvm.MethodName)) ∈ gw := List.mem_filter.mpr ⟨mt4 _ (List.mem_of_getElem? (i := 42) rfl), rfl⟩
theorem q4_43 : (Jvm.Cond.instanceMethod ({ cls := "BeesSting$Parish", name := "isNearer", desc := "(III)Z" } : Jvm.MethodName)) ∈ gw := List.mem_filter.mpr ⟨mt4 _ (List.mem_of_getElem? (i := 43) rfl), rfl⟩
theorem q4_44 : (Jvm.Cond.selects "BeesSting$Parish" ({ cls := "BeesSting$Parish", name := "isNearer", desc := "(III)Z" } : Jvm.MethodName) ({ cls := "BeesSting$Parish", name := "isNearer", desc := "(III)Z" } : Jvm.MethodName)) ∈ gw := List.mem_filter.mpr ⟨mt4 _ (List.mem_of_getElem? (i := 44) rfl), rfl⟩
theorem q4_45 : (Jvm.Cond.code ({ cls := "BeesSting$Parish", name := "isNearer", desc := "(III)Z" } : Jvm.MethodName) prog_11_method_8_code (6 : Nat) (Option.some Jvm.ClassFile.FieldType.boolean)) ∈ gw := List.mem_filter.mpr ⟨mt4 _ (List.mem_of_getElem? (i := 45) rfl), rfl⟩
theorem q4_46 : (Jvm.Cond.methodLink "BeesStingLaw" (86 : Nat) ({ cls := "BeesSting", name := "heard", desc := "(III)I" } : Jvm.MethodName)) ∈ gw := List.mem_filter.mpr ⟨mt4 _ (List.mem_of_getElem? (i := 46) rfl), rfl⟩
theorem q4_47 : (Jvm.Cond.instanceMethod ({ cls := "BeesSting", name := "heard", desc := "(III)I" } : Jvm.MethodName)) ∈ gw := List.mem_filter.mpr ⟨mt4 _ (List.mem_of_getElem? (i := 47) rfl), rfl⟩
theorem q4_48 : (Jvm.Cond.selects "BeesSting" ({ cls := "BeesSting", name := "heard", desc := "(III)I" } : Jvm.MethodName) ({ cls := "BeesSting", name := "heard", desc := "(III)I" } : Jvm.MethodName)) ∈ gw := List.mem_filter.mpr ⟨mt4 _ (List.mem_of_getElem? (i := 48) rfl), rfl⟩
theorem q4_49 : (Jvm.Cond.code ({ cls := "BeesSting", name := "heard", desc := "(III)I" } : Jvm.MethodName) prog_1_method_19_code (5 : Nat) (Option.some Jvm.ClassFile.FieldType.int)) ∈ gw := List.mem_filter.mpr ⟨mt4 _ (List.mem_of_getElem? (i := 49) rfl), rfl⟩
theorem q4_50 : (Jvm.Cond.methodLink "BeesSting" (258 : Nat) ({ cls := "BeesSting$Heard", name := "listen", desc := "(LBeesSting$Flight;LBeesSting$Shelves;I)V" } : Jvm.MethodName)) ∈ gw := List.mem_filter.mpr ⟨mt4 _ (List.mem_of_getElem? (i := 50) rfl), rfl⟩
theorem q4_51 : (Jvm.Cond.instanceMethod ({ cls := "BeesSting$Heard", name := "listen", desc := "(LBeesSting$Flight;LBeesSting$Shelves;I)V" } : Jvm.MethodName)) ∈ gw := List.mem_filter.mpr ⟨mt4 _ (List.mem_of_getElem? (i := 51) rfl), rfl⟩
theorem q4_52 : (Jvm.Cond.selects "BeesSting$Heard" ({ cls := "BeesSting$Heard", name := "listen", desc := "(LBeesSting$Flight;LBeesSting$Shelves;I)V" } : Jvm.MethodName) ({ cls := "BeesSting$Heard", name := "listen", desc := "(LBeesSting$Flight;LBeesSting$Shelves;I)V" } : Jvm.MethodName)) ∈ gw := List.mem_filter.mpr ⟨mt4 _ (List.mem_of_getElem? (i := 52) rfl), rfl⟩
theorem q4_53 : (Jvm.Cond.code ({ cls := "BeesSting$Heard", name := "listen", desc := "(LBeesSting$Flight;LBeesSting$Shelves;I)V" } : Jvm.MethodName) prog_6_method_2_code (5 : Nat) (Option.none : Option Jvm.ClassFile.FieldType)) ∈ gw := List.mem_filter.mpr ⟨mt4 _ (List.mem_of_getElem? (i := 53) rfl), rfl⟩
theorem q4_54 : (Jvm.Cond.methodLink "BeesSting$Heard" (43 : Nat) ({ cls := "BeesSting$Shelves", name := "sizeOf", desc := "(I)I" } : Jvm.MethodName)) ∈ gw := List.mem_filter.mpr ⟨mt4 _ (List.mem_of_getElem? (i := 54) rfl), rfl⟩
theorem q4_55 : (Jvm.Cond.methodLink "BeesSting$Heard" (49 : Nat) ({ cls := "java/lang/Math", name := "min", desc := "(II)I" } : Jvm.MethodName)) ∈ gw := List.mem_filter.mpr ⟨mt4 _ (List.mem_of_getElem? (i := 55) rfl), rfl⟩
theorem q4_56 : (Jvm.Cond.methodLink "BeesSting$Heard" (55 : Nat) ({ cls := "BeesSting$Shelves", name := "get", desc := "(II)J" } : Jvm.MethodName)) ∈ gw := List.mem_filter.mpr ⟨mt4 _ (List.mem_of_getElem? (i := 56) rfl), rfl⟩
theorem q4_57 : (Jvm.Cond.methodLink "BeesSting$Heard" (59 : Nat) ({ cls := "BeesSting$Flight", name := "begin", desc := "(LBeesSting$Flight;)V" } : Jvm.MethodName)) ∈ gw := List.mem_filter.mpr ⟨mt4 _ (List.mem_of_getElem? (i := 57) rfl), rfl⟩
theorem q4_58 : (Jvm.Cond.methodLink "BeesSting$Heard" (65 : Nat) ({ cls := "BeesSting$Heard", name := "guess", desc := "(LBeesSting$Heard;II)V" } : Jvm.MethodName)) ∈ gw := List.mem_filter.mpr ⟨mt4 _ (List.mem_of_getElem? (i := 58) rfl), rfl⟩
theorem q4_59 : (Jvm.Cond.static ({ cls := "BeesSting$Heard", name := "guess", desc := "(LBeesSting$Heard;II)V" } : Jvm.MethodName)) ∈ gw := List.mem_filter.mpr ⟨mt4 _ (List.mem_of_getElem? (i := 59) rfl), rfl⟩
theorem q4_60 : (Jvm.Cond.code ({ cls := "BeesSting$Heard", name := "guess", desc := "(LBeesSting$Heard;II)V" } : Jvm.MethodName) prog_6_method_3_code (6 : Nat) (Option.none : Option Jvm.ClassFile.FieldType)) ∈ gw := List.mem_filter.mpr ⟨mt4 _ (List.mem_of_getElem? (i := 60) rfl), rfl⟩
theorem q4_61 : (Jvm.Cond.methodLink "BeesSting$Heard" (74 : Nat) ({ cls := "BeesSting$Heard", name := "take", desc := "(I)V" } : Jvm.MethodName)) ∈ gw := List.mem_filter.mpr ⟨mt4 _ (List.mem_of_getElem? (i := 61) rfl), rfl⟩
theorem q4_62 : (Jvm.Cond.privateMethod ({ cls := "BeesSting$Heard", name := "take", desc := "(I)V" } : Jvm.MethodName)) ∈ lw_tbl := mt4 _ (List.mem_of_getElem? (i := 62) rfl)
theorem q4_63 : (Jvm.Cond.instanceMethod ({ cls := "BeesSting$Heard", name := "take", desc := "(I)V" } : Jvm.MethodName)) ∈ gw := List.mem_filter.mpr ⟨mt4 _ (List.mem_of_getElem? (i := 63) rfl), rfl⟩
theorem q4_64 : (Jvm.Cond.code ({ cls := "BeesSting$Heard", name := "take", desc := "(I)V" } : Jvm.MethodName) prog_6_method_4_code (3 : Nat) (Option.none : Option Jvm.ClassFile.FieldType)) ∈ gw := List.mem_filter.mpr ⟨mt4 _ (List.mem_of_getElem? (i := 64) rfl), rfl⟩
theorem q4_65 : (Jvm.Cond.methodLink "BeesSting$Heard" (97 : Nat) ({ cls := "java/lang/Integer", name := "bitCount", desc := "(I)I" } : Jvm.MethodName)) ∈ gw := List.mem_filter.mpr ⟨mt4 _ (List.mem_of_getElem? (i := 65) rfl), rfl⟩
theorem q4_66 : (Jvm.Cond.methodLink "BeesSting$Heard" (78 : Nat) ({ cls := "BeesSting$Flight", name := "follow", desc := "(LBeesSting$Flight;I)V" } : Jvm.MethodName)) ∈ gw := List.mem_filter.mpr ⟨mt4 _ (List.mem_of_getElem? (i := 66) rfl), rfl⟩
theorem q4_67 : (Jvm.Cond.methodLink "BeesSting$Heard" (82 : Nat) ({ cls := "BeesSting$Day", name := "who", desc := "(I)I" } : Jvm.MethodName)) ∈ gw := List.mem_filter.mpr ⟨mt4 _ (List.mem_of_getElem? (i := 67) rfl), rfl⟩
theorem q4_68 : (Jvm.Cond.methodLink "BeesSting$Heard" (85 : Nat) ({ cls := "BeesSting$Flight", name := "utter", desc := "(IZ)I" } : Jvm.MethodName)) ∈ gw := List.mem_filter.mpr ⟨mt4 _ (List.mem_of_getElem? (i := 68) rfl), rfl⟩
theorem q4_69 : (Jvm.Cond.methodLink "BeesSting$Heard" (92 : Nat) ({ cls := "BeesSting$Parish", name := "whoseCell", desc := "(I)I" } : Jvm.MethodName)) ∈ gw := List.mem_filter.mpr ⟨mt4 _ (List.mem_of_getElem? (i := 69) rfl), rfl⟩
theorem q4_70 : (Jvm.Cond.instanceMethod ({ cls := "BeesSting$Parish", name := "whoseCell", desc := "(I)I" } : Jvm.MethodName)) ∈ gw := List.mem_filter.mpr ⟨mt4 _ (List.mem_of_getElem? (i := 70) rfl), rfl⟩
theorem q4_71 : (Jvm.Cond.selects "BeesSting$Parish" ({ cls := "BeesSting$Parish", name := "whoseCell", desc := "(I)I" } : Jvm.MethodName) ({ cls := "BeesSting$Parish", name := "whoseCell", desc := "(I)I" } : Jvm.MethodName)) ∈ gw := List.mem_filter.mpr ⟨mt4 _ (List.mem_of_getElem? (i := 71) rfl), rfl⟩
theorem q4_72 : (Jvm.Cond.code ({ cls := "BeesSting$Parish", name := "whoseCell", desc := "(I)I" } : Jvm.MethodName) prog_11_method_9_code (3 : Nat) (Option.some Jvm.ClassFile.FieldType.int)) ∈ gw := List.mem_filter.mpr ⟨mt4 _ (List.mem_of_getElem? (i := 72) rfl), rfl⟩
theorem q4_73 : (Jvm.Cond.methodLink "BeesStingLaw" (90 : Nat) ({ cls := "BeesSting", name := "drawn", desc := "(III)I" } : Jvm.MethodName)) ∈ gw := List.mem_filter.mpr ⟨mt4 _ (List.mem_of_getElem? (i := 73) rfl), rfl⟩
theorem q4_74 : (Jvm.Cond.instanceMethod ({ cls := "BeesSting", name := "drawn", desc := "(III)I" } : Jvm.MethodName)) ∈ gw := List.mem_filter.mpr ⟨mt4 _ (List.mem_of_getElem? (i := 74) rfl), rfl⟩
theorem q4_75 : (Jvm.Cond.selects "BeesSting" ({ cls := "BeesSting", name := "drawn", desc := "(III)I" } : Jvm.MethodName) ({ cls := "BeesSting", name := "drawn", desc := "(III)I" } : Jvm.MethodName)) ∈ gw := List.mem_filter.mpr ⟨mt4 _ (List.mem_of_getElem? (i := 75) rfl), rfl⟩
theorem q4_76 : (Jvm.Cond.code ({ cls := "BeesSting", name := "drawn", desc := "(III)I" } : Jvm.MethodName) prog_1_method_20_code (12 : Nat) (Option.some Jvm.ClassFile.FieldType.int)) ∈ gw := List.mem_filter.mpr ⟨mt4 _ (List.mem_of_getElem? (i := 76) rfl), rfl⟩
theorem q4_77 : (Jvm.Cond.constant "BeesSting" (272 : Nat) (1103515245 : Int32)) ∈ gw := List.mem_filter.mpr ⟨mt4 _ (List.mem_of_getElem? (i := 77) rfl), rfl⟩
theorem q4_78 : (Jvm.Cond.methodLink "BeesStingLaw" (94 : Nat) ({ cls := "BeesSting", name := "say", desc := "(II)I" } : Jvm.MethodName)) ∈ gw := List.mem_filter.mpr ⟨mt4 _ (List.mem_of_getElem? (i := 78) rfl), rfl⟩
theorem q4_79 : (Jvm.Cond.instanceMethod ({ cls := "BeesSting", name := "say", desc := "(II)I" } : Jvm.MethodName)) ∈ gw := List.mem_filter.mpr ⟨mt4 _ (List.mem_of_getElem? (i := 79) rfl), rfl⟩
theorem q4_80 : (Jvm.Cond.selects "BeesSting" ({ cls := "BeesSting", name := "say", desc := "(II)I" } : Jvm.MethodName) ({ cls := "BeesSting", name := "say", desc := "(II)I" } : Jvm.MethodName)) ∈ gw := List.mem_filter.mpr ⟨mt4 _ (List.mem_of_getElem? (i := 80) rfl), rfl⟩
theorem q4_81 : (Jvm.Cond.code ({ cls := "BeesSting", name := "say", desc := "(II)I" } : Jvm.MethodName) prog_1_method_21_code (3 : Nat) (Option.some Jvm.ClassFile.FieldType.int)) ∈ gw := List.mem_filter.mpr ⟨mt4 _ (List.mem_of_getElem? (i := 81) rfl), rfl⟩
theorem q4_82 : (Jvm.Cond.methodLink "BeesStingLaw" (98 : Nat) ({ cls := "BeesSting", name := "go", desc := "(II)I" } : Jvm.MethodName)) ∈ gw := List.mem_filter.mpr ⟨mt4 _ (List.mem_of_getElem? (i := 82) rfl), rfl⟩
theorem q4_83 : (Jvm.Cond.instanceMethod ({ cls := "BeesSting", name := "go", desc := "(II)I" } : Jvm.MethodName)) ∈ gw := List.mem_filter.mpr ⟨mt4 _ (List.mem_of_getElem? (i := 83) rfl), rfl⟩
theorem q4_84 : (Jvm.Cond.selects "BeesSting" ({ cls := "BeesSting", name := "go", desc := "(II)I" } : Jvm.MethodName) ({ cls := "BeesSting", name := "go", desc := "(II)I" } : Jvm.MethodName)) ∈ gw := List.mem_filter.mpr ⟨mt4 _ (List.mem_of_getElem? (i := 84) rfl), rfl⟩
theorem q4_85 : (Jvm.Cond.code ({ cls := "BeesSting", name := "go", desc := "(II)I" } : Jvm.MethodName) prog_1_method_22_code (4 : Nat) (Option.some Jvm.ClassFile.FieldType.int)) ∈ gw := List.mem_filter.mpr ⟨mt4 _ (List.mem_of_getElem? (i := 85) rfl), rfl⟩
theorem q4_86 : (Jvm.Cond.methodLink "BeesStingLaw" (102 : Nat) ({ cls := "BeesSting", name := "pad", desc := "(I)I" } : Jvm.MethodName)) ∈ gw := List.mem_filter.mpr ⟨mt4 _ (List.mem_of_getElem? (i := 86) rfl), rfl⟩
theorem q4_87 : (Jvm.Cond.instanceMethod ({ cls := "BeesSting", name := "pad", desc := "(I)I" } : Jvm.MethodName)) ∈ gw := List.mem_filter.mpr ⟨mt4 _ (List.mem_of_getElem? (i := 87) rfl), rfl⟩
theorem q4_88 : (Jvm.Cond.selects "BeesSting" ({ cls := "BeesSting", name := "pad", desc := "(I)I" } : Jvm.MethodName) ({ cls := "BeesSting", name := "pad", desc := "(I)I" } : Jvm.MethodName)) ∈ gw := List.mem_filter.mpr ⟨mt4 _ (List.mem_of_getElem? (i := 88) rfl), rfl⟩
theorem q4_89 : (Jvm.Cond.code ({ cls := "BeesSting", name := "pad", desc := "(I)I" } : Jvm.MethodName) prog_1_method_23_code (2 : Nat) (Option.some Jvm.ClassFile.FieldType.int)) ∈ gw := List.mem_filter.mpr ⟨mt4 _ (List.mem_of_getElem? (i := 89) rfl), rfl⟩
theorem q4_90 : (Jvm.Cond.methodLink "BeesSting" (276 : Nat) ({ cls := "java/lang/Math", name := "min", desc := "(II)I" } : Jvm.MethodName)) ∈ gw := List.mem_filter.mpr ⟨mt4 _ (List.mem_of_getElem? (i := 90) rfl), rfl⟩
theorem q4_91 : (Jvm.Cond.methodLink "BeesStingLaw" (106 : Nat) ({ cls := "BeesSting", name := "led", desc := "(I)I" } : Jvm.MethodName)) ∈ gw := List.mem_filter.mpr ⟨mt4 _ (List.mem_of_getElem? (i := 91) rfl), rfl⟩
theorem q4_92 : (Jvm.Cond.instanceMethod ({ cls := "BeesSting", name := "led", desc := "(I)I" } : Jvm.MethodName)) ∈ gw := List.mem_filter.mpr ⟨mt4 _ (List.mem_of_getElem? (i := 92) rfl), rfl⟩
theorem q4_93 : (Jvm.Cond.selects "BeesSting" ({ cls := "BeesSting", name := "led", desc := "(I)I" } : Jvm.MethodName) ({ cls := "BeesSting", name := "led", desc := "(I)I" } : Jvm.MethodName)) ∈ gw := List.mem_filter.mpr ⟨mt4 _ (List.mem_of_getElem? (i := 93) rfl), rfl⟩
theorem q4_94 : (Jvm.Cond.code ({ cls := "BeesSting", name := "led", desc := "(I)I" } : Jvm.MethodName) prog_1_method_24_code (2 : Nat) (Option.some Jvm.ClassFile.FieldType.int)) ∈ gw := List.mem_filter.mpr ⟨mt4 _ (List.mem_of_getElem? (i := 94) rfl), rfl⟩
theorem q4_95 : (Jvm.Cond.methodLink "BeesStingLaw" (110 : Nat) ({ cls := "BeesSting", name := "image", desc := "()I" } : Jvm.MethodName)) ∈ gw := List.mem_filter.mpr ⟨mt4 _ (List.mem_of_getElem? (i := 95) rfl), rfl⟩
theorem q4_96 : (Jvm.Cond.instanceMethod ({ cls := "BeesSting", name := "image", desc := "()I" } : Jvm.MethodName)) ∈ gw := List.mem_filter.mpr ⟨mt4 _ (List.mem_of_getElem? (i := 96) rfl), rfl⟩
theorem q4_97 : (Jvm.Cond.selects "BeesSting" ({ cls := "BeesSting", name := "image", desc := "()I" } : Jvm.MethodName) ({ cls := "BeesSting", name := "image", desc := "()I" } : Jvm.MethodName)) ∈ gw := List.mem_filter.mpr ⟨mt4 _ (List.mem_of_getElem? (i := 97) rfl), rfl⟩
theorem q4_98 : (Jvm.Cond.code ({ cls := "BeesSting", name := "image", desc := "()I" } : Jvm.MethodName) prog_1_method_25_code (1 : Nat) (Option.some Jvm.ClassFile.FieldType.int)) ∈ gw := List.mem_filter.mpr ⟨mt4 _ (List.mem_of_getElem? (i := 98) rfl), rfl⟩
theorem q4_99 : (Jvm.Cond.methodLink "BeesSting" (291 : Nat) ({ cls := "java/lang/System", name := "arraycopy", desc := "(Ljava/lang/Object;ILjava/lang/Object;II)V" } : Jvm.MethodName)) ∈ gw := List.mem_filter.mpr ⟨mt4 _ (List.mem_of_getElem? (i := 99) rfl), rfl⟩
theorem q4_100 : (Jvm.Cond.methodLink "BeesStingLaw" (114 : Nat) ({ cls := "BeesSting", name := "back", desc := "()I" } : Jvm.MethodName)) ∈ gw := List.mem_filter.mpr ⟨mt4 _ (List.mem_of_getElem? (i := 100) rfl), rfl⟩
theorem q4_101 : (Jvm.Cond.instanceMethod ({ cls := "BeesSting", name := "back", desc := "()I" } : Jvm.MethodName)) ∈ gw := List.mem_filter.mpr ⟨mt4 _ (List.mem_of_getElem? (i := 101) rfl), rfl⟩
theorem q4_102 : (Jvm.Cond.selects "BeesSting" ({ cls := "BeesSting", name := "back", desc := "()I" } : Jvm.MethodName) ({ cls := "BeesSting", name := "back", desc := "()I" } : Jvm.MethodName)) ∈ gw := List.mem_filter.mpr ⟨mt4 _ (List.mem_of_getElem? (i := 102) rfl), rfl⟩
theorem q4_103 : (Jvm.Cond.code ({ cls := "BeesSting", name := "back", desc := "()I" } : Jvm.MethodName) prog_1_method_26_code (3 : Nat) (Option.some Jvm.ClassFile.FieldType.int)) ∈ gw := List.mem_filter.mpr ⟨mt4 _ (List.mem_of_getElem? (i := 103) rfl), rfl⟩
theorem q4_104 : (Jvm.Cond.methodLink "BeesStingLaw" (118 : Nat) ({ cls := "BeesSting", name := "undo", desc := "()I" } : Jvm.MethodName)) ∈ gw := List.mem_filter.mpr ⟨mt4 _ (List.mem_of_getElem? (i := 104) rfl), rfl⟩
theorem q4_105 : (Jvm.Cond.instanceMethod ({ cls := "BeesSting", name := "undo", desc := "()I" } : Jvm.MethodName)) ∈ gw := List.mem_filter.mpr ⟨mt4 _ (List.mem_of_getElem? (i := 105) rfl), rfl⟩
theorem q4_106 : (Jvm.Cond.selects "BeesSting" ({ cls := "BeesSting", name := "undo", desc := "()I" } : Jvm.MethodName) ({ cls := "BeesSting", name := "undo", desc := "()I" } : Jvm.MethodName)) ∈ gw := List.mem_filter.mpr ⟨mt4 _ (List.mem_of_getElem? (i := 106) rfl), rfl⟩
theorem q4_107 : (Jvm.Cond.code ({ cls := "BeesSting", name := "undo", desc := "()I" } : Jvm.MethodName) prog_1_method_27_code (2 : Nat) (Option.some Jvm.ClassFile.FieldType.int)) ∈ gw := List.mem_filter.mpr ⟨mt4 _ (List.mem_of_getElem? (i := 107) rfl), rfl⟩
theorem q4_108 : (Jvm.Cond.methodLink "BeesStingLaw" (122 : Nat) ({ cls := "BeesSting", name := "redo", desc := "()I" } : Jvm.MethodName)) ∈ gw := List.mem_filter.mpr ⟨mt4 _ (List.mem_of_getElem? (i := 108) rfl), rfl⟩
theorem q4_109 : (Jvm.Cond.instanceMethod ({ cls := "BeesSting", name := "redo", desc := "()I" } : Jvm.MethodName)) ∈ gw := List.mem_filter.mpr ⟨mt4 _ (List.mem_of_getElem? (i := 109) rfl), rfl⟩
theorem q4_110 : (Jvm.Cond.selects "BeesSting" ({ cls := "BeesSting", name := "redo", desc := "()I" } : Jvm.MethodName) ({ cls := "BeesSting", name := "redo", desc := "()I" } : Jvm.MethodName)) ∈ gw := List.mem_filter.mpr ⟨mt4 _ (List.mem_of_getElem? (i := 110) rfl), rfl⟩
theorem q4_111 : (Jvm.Cond.code ({ cls := "BeesSting", name := "redo", desc := "()I" } : Jvm.MethodName) prog_1_method_28_code (2 : Nat) (Option.some Jvm.ClassFile.FieldType.int)) ∈ gw := List.mem_filter.mpr ⟨mt4 _ (List.mem_of_getElem? (i := 111) rfl), rfl⟩
theorem q4_112 : (Jvm.Cond.methodLink "BeesStingLaw" (126 : Nat) ({ cls := "BeesSting", name := "body", desc := "(I)I" } : Jvm.MethodName)) ∈ gw := List.mem_filter.mpr ⟨mt4 _ (List.mem_of_getElem? (i := 112) rfl), rfl⟩
theorem q4_113 : (Jvm.Cond.instanceMethod ({ cls := "BeesSting", name := "body", desc := "(I)I" } : Jvm.MethodName)) ∈ gw := List.mem_filter.mpr ⟨mt4 _ (List.mem_of_getElem? (i := 113) rfl), rfl⟩
theorem q4_114 : (Jvm.Cond.selects "BeesSting" ({ cls := "BeesSting", name := "body", desc := "(I)I" } : Jvm.MethodName) ({ cls := "BeesSting", name := "body", desc := "(I)I" } : Jvm.MethodName)) ∈ gw := List.mem_filter.mpr ⟨mt4 _ (List.mem_of_getElem? (i := 114) rfl), rfl⟩
theorem q4_115 : (Jvm.Cond.code ({ cls := "BeesSting", name := "body", desc := "(I)I" } : Jvm.MethodName) prog_1_method_29_code (2 : Nat) (Option.some Jvm.ClassFile.FieldType.int)) ∈ gw := List.mem_filter.mpr ⟨mt4 _ (List.mem_of_getElem? (i := 115) rfl), rfl⟩
theorem q4_116 : (Jvm.Cond.methodLink "BeesSting" (315 : Nat) ({ cls := "BeesSting$Acts", name := "isKind", desc := "(I)Z" } : Jvm.MethodName)) ∈ gw := List.mem_filter.mpr ⟨mt4 _ (List.mem_of_getElem? (i := 116) rfl), rfl⟩
theorem q4_117 : (Jvm.Cond.static ({ cls := "BeesSting$Acts", name := "isKind", desc := "(I)Z" } : Jvm.MethodName)) ∈ gw := List.mem_filter.mpr ⟨mt4 _ (List.mem_of_getElem? (i := 117) rfl), rfl⟩
theorem q4_118 : (Jvm.Cond.code ({ cls := "BeesSting$Acts", name := "isKind", desc := "(I)Z" } : Jvm.MethodName) prog_2_method_2_code (1 : Nat) (Option.some Jvm.ClassFile.FieldType.boolean)) ∈ gw := List.mem_filter.mpr ⟨mt4 _ (List.mem_of_getElem? (i := 118) rfl), rfl⟩
theorem q4_119 : (Jvm.Cond.methodLink "BeesSting" (318 : Nat) ({ cls := "BeesSting$Acts", name := "make", desc := "(I)I" } : Jvm.MethodName)) ∈ gw := List.mem_filter.mpr ⟨mt4 _ (List.mem_of_getElem? (i := 119) rfl), rfl⟩
theorem q4_120 : (Jvm.Cond.instanceMethod ({ cls := "BeesSting$Acts", name := "make", desc := "(I)I" } : Jvm.MethodName)) ∈ gw := List.mem_filter.mpr ⟨mt4 _ (List.mem_of_getElem? (i := 120) rfl), rfl⟩
theorem q4_121 : (Jvm.Cond.selects "BeesSting$Acts" ({ cls := "BeesSting$Acts", name := "make", desc := "(I)I" } : Jvm.MethodName) ({ cls := "BeesSting$Acts", name := "make", desc := "(I)I" } : Jvm.MethodName)) ∈ gw := List.mem_filter.mpr ⟨mt4 _ (List.mem_of_getElem? (i := 121) rfl), rfl⟩
theorem q4_122 : (Jvm.Cond.code ({ cls := "BeesSting$Acts", name := "make", desc := "(I)I" } : Jvm.MethodName) prog_2_method_6_code (2 : Nat) (Option.some Jvm.ClassFile.FieldType.int)) ∈ gw := List.mem_filter.mpr ⟨mt4 _ (List.mem_of_getElem? (i := 122) rfl), rfl⟩
theorem q4_123 : (Jvm.Cond.methodLink "BeesStingLaw" (130 : Nat) ({ cls := "BeesSting", name := "act", desc := "(III)I" } : Jvm.MethodName)) ∈ gw := List.mem_filter.mpr ⟨mt4 _ (List.mem_of_getElem? (i := 123) rfl), rfl⟩
theorem q4_124 : (Jvm.Cond.instanceMethod ({ cls := "BeesSting", name := "act", desc := "(III)I" } : Jvm.MethodName)) ∈ gw := List.mem_filter.mpr ⟨mt4 _ (List.mem_of_getElem? (i := 124) rfl), rfl⟩
theorem q4_125 : (Jvm.Cond.selects "BeesSting" ({ cls := "BeesSting", name := "act", desc := "(III)I" } : Jvm.MethodName) ({ cls := "BeesSting", name := "act", desc := "(III)I" } : Jvm.MethodName)) ∈ gw := List.mem_filter.mpr ⟨mt4 _ (List.mem_of_getElem? (i := 125) rfl), rfl⟩
theorem q4_126 : (Jvm.Cond.code ({ cls := "BeesSting", name := "act", desc := "(III)I" } : Jvm.MethodName) prog_1_method_30_code (4 : Nat) (Option.some Jvm.ClassFile.FieldType.int)) ∈ gw := List.mem_filter.mpr ⟨mt4 _ (List.mem_of_getElem? (i := 126) rfl), rfl⟩
theorem q4_127 : (Jvm.Cond.methodLink "BeesSting" (321 : Nat) ({ cls := "BeesSting$Acts", name := "perform", desc := "(III)I" } : Jvm.MethodName)) ∈ gw := List.mem_filter.mpr ⟨mt4 _ (List.mem_of_getElem? (i := 127) rfl), rfl⟩
theorem q4_128 : (Jvm.Cond.instanceMethod ({ cls := "BeesSting$Acts", name := "perform", desc := "(III)I" } : Jvm.MethodName)) ∈ gw := List.mem_filter.mpr ⟨mt4 _ (List.mem_of_getElem? (i := 128) rfl), rfl⟩
theorem q4_129 : (Jvm.Cond.selects "BeesSting$Acts" ({ cls := "BeesSting$Acts", name := "perform", desc := "(III)I" } : Jvm.MethodName) ({ cls := "BeesSting$Acts", name := "perform", desc := "(III)I" } : Jvm.MethodName)) ∈ gw := List.mem_filter.mpr ⟨mt4 _ (List.mem_of_getElem? (i := 129) rfl), rfl⟩
theorem q4_130 : (Jvm.Cond.code ({ cls := "BeesSting$Acts", name := "perform", desc := "(III)I" } : Jvm.MethodName) prog_2_method_8_code (4 : Nat) (Option.some Jvm.ClassFile.FieldType.int)) ∈ gw := List.mem_filter.mpr ⟨mt4 _ (List.mem_of_getElem? (i := 130) rfl), rfl⟩
theorem q4_131 : (Jvm.Cond.methodLink "BeesSting$Acts" (35 : Nat) ({ cls := "BeesSting$Acts", name := "has", desc := "(I)Z" } : Jvm.MethodName)) ∈ gw := List.mem_filter.mpr ⟨mt4 _ (List.mem_of_getElem? (i := 131) rfl), rfl⟩
theorem q4_132 : (Jvm.Cond.instanceMethod ({ cls := "BeesSting$Acts", name := "has", desc := "(I)Z" } : Jvm.MethodName)) ∈ gw := List.mem_filter.mpr ⟨mt4 _ (List.mem_of_getElem? (i := 132) rfl), rfl⟩
theorem q4_133 : (Jvm.Cond.selects "BeesSting$Acts" ({ cls := "BeesSting$Acts", name := "has", desc := "(I)Z" } : Jvm.MethodName) ({ cls := "BeesSting$Acts", name := "has", desc := "(I)Z" } : Jvm.MethodName)) ∈ gw := List.mem_filter.mpr ⟨mt4 _ (List.mem_of_getElem? (i := 133) rfl), rfl⟩
theorem q4_134 : (Jvm.Cond.code ({ cls := "BeesSting$Acts", name := "has", desc := "(I)Z" } : Jvm.MethodName) prog_2_method_4_code (2 : Nat) (Option.some Jvm.ClassFile.FieldType.boolean)) ∈ gw := List.mem_filter.mpr ⟨mt4 _ (List.mem_of_getElem? (i := 134) rfl), rfl⟩
theorem q4_135 : (Jvm.Cond.methodLink "BeesSting$Acts" (44 : Nat) ({ cls := "BeesSting$Acts", name := "self", desc := "(III)I" } : Jvm.MethodName)) ∈ gw := List.mem_filter.mpr ⟨mt4 _ (List.mem_of_getElem? (i := 135) rfl), rfl⟩
theorem q4_136 : (Jvm.Cond.privateMethod ({ cls := "BeesSting$Acts", name := "self", desc := "(III)I" } : Jvm.MethodName)) ∈ lw_tbl := mt4 _ (List.mem_of_getElem? (i := 136) rfl)
theorem q4_137 : (Jvm.Cond.instanceMethod ({ cls := "BeesSting$Acts", name := "self", desc := "(III)I" } : Jvm.MethodName)) ∈ gw := List.mem_filter.mpr ⟨mt4 _ (List.mem_of_getElem? (i := 137) rfl), rfl⟩
theorem q4_138 : (Jvm.Cond.code ({ cls := "BeesSting$Acts", name := "self", desc := "(III)I" } : Jvm.MethodName) prog_2_method_9_code (4 : Nat) (Option.some Jvm.ClassFile.FieldType.int)) ∈ gw := List.mem_filter.mpr ⟨mt4 _ (List.mem_of_getElem? (i := 138) rfl), rfl⟩
theorem q4_139 : (Jvm.Cond.methodLink "BeesSting$Acts" (48 : Nat) ({ cls := "BeesSting$Acts", name := "from", desc := "(IIII)I" } : Jvm.MethodName)) ∈ gw := List.mem_filter.mpr ⟨mt4 _ (List.mem_of_getElem? (i := 139) rfl), rfl⟩
theorem q4_140 : (Jvm.Cond.privateMethod ({ cls := "BeesSting$Acts", name := "from", desc := "(IIII)I" } : Jvm.MethodName)) ∈ lw_tbl := mt4 _ (List.mem_of_getElem? (i := 140) rfl)
theorem q4_141 : (Jvm.Cond.instanceMethod ({ cls := "BeesSting$Acts", name := "from", desc := "(IIII)I" } : Jvm.MethodName)) ∈ gw := List.mem_filter.mpr ⟨mt4 _ (List.mem_of_getElem? (i := 141) rfl), rfl⟩
theorem q4_142 : (Jvm.Cond.code ({ cls := "BeesSting$Acts", name := "from", desc := "(IIII)I" } : Jvm.MethodName) prog_2_method_10_code (8 : Nat) (Option.some Jvm.ClassFile.FieldType.int)) ∈ gw := List.mem_filter.mpr ⟨mt4 _ (List.mem_of_getElem? (i := 142) rfl), rfl⟩
theorem q4_143 : (Jvm.Cond.fieldLink "BeesSting$Acts" (28 : Nat) "BeesSting$Acts" "ABOVE" "[I") ∈ gw := List.mem_filter.mpr ⟨mt4 _ (List.mem_of_getElem? (i := 143) rfl), rfl⟩
theorem q4_144 : (Jvm.Cond.laysStatic "BeesSting$Acts" "ABOVE" "[I") ∈ lw_tbl := mt4 _ (List.mem_of_getElem? (i := 144) rfl)
theorem q4_145 : (Jvm.Cond.methodLink "BeesSting$Acts" (31 : Nat) ({ cls := "BeesSting$Acts", name := "isKind", desc := "(I)Z" } : Jvm.MethodName)) ∈ gw := List.mem_filter.mpr ⟨mt4 _ (List.mem_of_getElem? (i := 145) rfl), rfl⟩
theorem q4_146 : (Jvm.Cond.methodLink "BeesSting$Acts" (52 : Nat) ({ cls := "BeesSting$Acts", name := "bodyOf", desc := "(II)I" } : Jvm.MethodName)) ∈ gw := List.mem_filter.mpr ⟨mt4 _ (List.mem_of_getElem? (i := 146) rfl), rfl⟩
theorem q4_147 : (Jvm.Cond.static ({ cls := "BeesSting$Acts", name := "bodyOf", desc := "(II)I" } : Jvm.MethodName)) ∈ gw := List.mem_filter.mpr ⟨mt4 _ (List.mem_of_getElem? (i := 147) rfl), rfl⟩
theorem q4_148 : (Jvm.Cond.code ({ cls := "BeesSting$Acts", name := "bodyOf", desc := "(II)I" } : Jvm.MethodName) prog_2_method_11_code (2 : Nat) (Option.some Jvm.ClassFile.FieldType.int)) ∈ gw := List.mem_filter.mpr ⟨mt4 _ (List.mem_of_getElem? (i := 148) rfl), rfl⟩
theorem q4_149 : (Jvm.Cond.methodLink "BeesSting$Acts" (55 : Nat) ({ cls := "BeesSting$Acts", name := "run", desc := "(III)I" } : Jvm.MethodName)) ∈ gw := List.mem_filter.mpr ⟨mt4 _ (List.mem_of_getElem? (i := 149) rfl), rfl⟩
theorem q4_150 : (Jvm.Cond.privateMethod ({ cls := "BeesSting$Acts", name := "run", desc := "(III)I" } : Jvm.MethodName)) ∈ lw_tbl := mt4 _ (List.mem_of_getElem? (i := 150) rfl)
theorem q4_151 : (Jvm.Cond.instanceMethod ({ cls := "BeesSting$Acts", name := "run", desc := "(III)I" } : Jvm.MethodName)) ∈ gw := List.mem_filter.mpr ⟨mt4 _ (List.mem_of_getElem? (i := 151) rfl), rfl⟩
theorem q4_152 : (Jvm.Cond.code ({ cls := "BeesSting$Acts", name := "run", desc := "(III)I" } : Jvm.MethodName) prog_2_method_12_code (4 : Nat) (Option.some Jvm.ClassFile.FieldType.int)) ∈ gw := List.mem_filter.mpr ⟨mt4 _ (List.mem_of_getElem? (i := 152) rfl), rfl⟩
theorem q4_153 : (Jvm.Cond.methodLink "BeesStingLaw" (134 : Nat) ({ cls := "BeesSting", name := "trace", desc := "(I)I" } : Jvm.MethodName)) ∈ gw := List.mem_filter.mpr ⟨mt4 _ (List.mem_of_getElem? (i := 153) rfl), rfl⟩
theorem q4_154 : (Jvm.Cond.instanceMethod ({ cls := "BeesSting", name := "trace", desc := "(I)I" } : Jvm.MethodName)) ∈ gw := List.mem_filter.mpr ⟨mt4 _ (List.mem_of_getElem? (i := 154) rfl), rfl⟩
theorem q4_155 : (Jvm.Cond.selects "BeesSting" ({ cls := "BeesSting", name := "trace", desc := "(I)I" } : Jvm.MethodName) ({ cls := "BeesSting", name := "trace", desc := "(I)I" } : Jvm.MethodName)) ∈ gw := List.mem_filter.mpr ⟨mt4 _ (List.mem_of_getElem? (i := 155) rfl), rfl⟩
theorem q4_156 : (Jvm.Cond.code ({ cls := "BeesSting", name := "trace", desc := "(I)I" } : Jvm.MethodName) prog_1_method_31_code (2 : Nat) (Option.some Jvm.ClassFile.FieldType.int)) ∈ gw := List.mem_filter.mpr ⟨mt4 _ (List.mem_of_getElem? (i := 156) rfl), rfl⟩
theorem q4_157 : (Jvm.Cond.methodLink "BeesSting" (324 : Nat) ({ cls := "BeesSting$Acts", name := "kept", desc := "()I" } : Jvm.MethodName)) ∈ gw := List.mem_filter.mpr ⟨mt4 _ (List.mem_of_getElem? (i := 157) rfl), rfl⟩
theorem q4_158 : (Jvm.Cond.instanceMethod ({ cls := "BeesSting$Acts", name := "kept", desc := "()I" } : Jvm.MethodName)) ∈ gw := List.mem_filter.mpr ⟨mt4 _ (List.mem_of_getElem? (i := 158) rfl), rfl⟩
theorem q4_159 : (Jvm.Cond.selects "BeesSting$Acts" ({ cls := "BeesSting$Acts", name := "kept", desc := "()I" } : Jvm.MethodName) ({ cls := "BeesSting$Acts", name := "kept", desc := "()I" } : Jvm.MethodName)) ∈ gw := List.mem_filter.mpr ⟨mt4 _ (List.mem_of_getElem? (i := 159) rfl), rfl⟩
theorem q4_160 : (Jvm.Cond.code ({ cls := "BeesSting$Acts", name := "kept", desc := "()I" } : Jvm.MethodName) prog_2_method_7_code (1 : Nat) (Option.some Jvm.ClassFile.FieldType.int)) ∈ gw := List.mem_filter.mpr ⟨mt4 _ (List.mem_of_getElem? (i := 160) rfl), rfl⟩
theorem q4_161 : (Jvm.Cond.methodLink "BeesSting$Acts" (38 : Nat) ({ cls := "java/lang/Math", name := "min", desc := "(II)I" } : Jvm.MethodName)) ∈ gw := List.mem_filter.mpr ⟨mt4 _ (List.mem_of_getElem? (i := 161) rfl), rfl⟩
theorem q4_162 : (Jvm.Cond.methodLink "BeesStingLaw" (138 : Nat) ({ cls := "BeesSting", name := "keep", desc := "(II)I" } : Jvm.MethodName)) ∈ gw := List.mem_filter.mpr ⟨mt4 _ (List.mem_of_getElem? (i := 162) rfl), rfl⟩
theorem q4_163 : (Jvm.Cond.instanceMethod ({ cls := "BeesSting", name := "keep", desc := "(II)I" } : Jvm.MethodName)) ∈ gw := List.mem_filter.mpr ⟨mt4 _ (List.mem_of_getElem? (i := 163) rfl), rfl⟩
theorem q4_164 : (Jvm.Cond.selects "BeesSting" ({ cls := "BeesSting", name := "keep", desc := "(II)I" } : Jvm.MethodName) ({ cls := "BeesSting", name := "keep", desc := "(II)I" } : Jvm.MethodName)) ∈ gw := List.mem_filter.mpr ⟨mt4 _ (List.mem_of_getElem? (i := 164) rfl), rfl⟩
theorem q4_165 : (Jvm.Cond.code ({ cls := "BeesSting", name := "keep", desc := "(II)I" } : Jvm.MethodName) prog_1_method_32_code (3 : Nat) (Option.some Jvm.ClassFile.FieldType.int)) ∈ gw := List.mem_filter.mpr ⟨mt4 _ (List.mem_of_getElem? (i := 165) rfl), rfl⟩
theorem q4_166 : (Jvm.Cond.methodLink "BeesSting" (330 : Nat) ({ cls := "BeesSting$Acts", name := "has", desc := "(I)Z" } : Jvm.MethodName)) ∈ gw := List.mem_filter.mpr ⟨mt4 _ (List.mem_of_getElem? (i := 166) rfl), rfl⟩
theorem q4_167 : (Jvm.Cond.methodLink "BeesSting" (331 : Nat) ({ cls := "BeesSting$Shelves", name := "lay", desc := "(III)V" } : Jvm.MethodName)) ∈ gw := List.mem_filter.mpr ⟨mt4 _ (List.mem_of_getElem? (i := 167) rfl), rfl⟩
theorem q4_168 : (Jvm.Cond.instanceMethod ({ cls := "BeesSting$Shelves", name := "lay", desc := "(III)V" } : Jvm.MethodName)) ∈ gw := List.mem_filter.mpr ⟨mt4 _ (List.mem_of_getElem? (i := 168) rfl), rfl⟩
theorem q4_169 : (Jvm.Cond.selects "BeesSting$Shelves" ({ cls := "BeesSting$Shelves", name := "lay", desc := "(III)V" } : Jvm.MethodName) ({ cls := "BeesSting$Shelves", name := "lay", desc := "(III)V" } : Jvm.MethodName)) ∈ gw := List.mem_filter.mpr ⟨mt4 _ (List.mem_of_getElem? (i := 169) rfl), rfl⟩
theorem q4_170 : (Jvm.Cond.code ({ cls := "BeesSting$Shelves", name := "lay", desc := "(III)V" } : Jvm.MethodName) prog_12_method_8_code (4 : Nat) (Option.none : Option Jvm.ClassFile.FieldType)) ∈ gw := List.mem_filter.mpr ⟨mt4 _ (List.mem_of_getElem? (i := 170) rfl), rfl⟩
theorem q4_171 : (Jvm.Cond.methodLink "BeesSting$Shelves" (27 : Nat) ({ cls := "java/util/Arrays", name := "fill", desc := "([JJ)V" } : Jvm.MethodName)) ∈ gw := List.mem_filter.mpr ⟨mt4 _ (List.mem_of_getElem? (i := 171) rfl), rfl⟩
theorem q4_172 : (Jvm.Cond.static ({ cls := "java/util/Arrays", name := "fill", desc := "([JJ)V" } : Jvm.MethodName)) ∈ gw := List.mem_filter.mpr ⟨mt4 _ (List.mem_of_getElem? (i := 172) rfl), rfl⟩
theorem q4_173 : (Jvm.Cond.code ({ cls := "java/util/Arrays", name := "fill", desc := "([JJ)V" } : Jvm.MethodName) prog_18_method_101_code (5 : Nat) (Option.none : Option Jvm.ClassFile.FieldType)) ∈ gw := List.mem_filter.mpr ⟨mt4 _ (List.mem_of_getElem? (i := 173) rfl), rfl⟩
theorem q4_174 : (Jvm.Cond.methodLink "BeesStingLaw" (142 : Nat) ({ cls := "BeesSting", name := "row", desc := "(III)I" } : Jvm.MethodName)) ∈ gw := List.mem_filter.mpr ⟨mt4 _ (List.mem_of_getElem? (i := 174) rfl), rfl⟩
theorem q4_175 : (Jvm.Cond.instanceMethod ({ cls := "BeesSting", name := "row", desc := "(III)I" } : Jvm.MethodName)) ∈ gw := List.mem_filter.mpr ⟨mt4 _ (List.mem_of_getElem? (i := 175) rfl), rfl⟩
theorem q4_176 : (Jvm.Cond.selects "BeesSting" ({ cls := "BeesSting", name := "row", desc := "(III)I" } : Jvm.MethodName) ({ cls := "BeesSting", name := "row", desc := "(III)I" } : Jvm.MethodName)) ∈ gw := List.mem_filter.mpr ⟨mt4 _ (List.mem_of_getElem? (i := 176) rfl), rfl⟩
theorem q4_177 : (Jvm.Cond.code ({ cls := "BeesSting", name := "row", desc := "(III)I" } : Jvm.MethodName) prog_1_method_33_code (4 : Nat) (Option.some Jvm.ClassFile.FieldType.int)) ∈ gw := List.mem_filter.mpr ⟨mt4 _ (List.mem_of_getElem? (i := 177) rfl), rfl⟩
theorem q4_178 : (Jvm.Cond.methodLink "BeesStingLaw" (148 : Nat) ({ cls := "BeesSting", name := "put", desc := "(IIJ)I" } : Jvm.MethodName)) ∈ gw := List.mem_filter.mpr ⟨mt4 _ (List.mem_of_getElem? (i := 178) rfl), rfl⟩
theorem q4_179 : (Jvm.Cond.instanceMethod ({ cls := "BeesSting", name := "put", desc := "(IIJ)I" } : Jvm.MethodName)) ∈ gw := List.mem_filter.mpr ⟨mt4 _ (List.mem_of_getElem? (i := 179) rfl), rfl⟩
theorem q4_180 : (Jvm.Cond.selects "BeesSting" ({ cls := "BeesSting", name := "put", desc := "(IIJ)I" } : Jvm.MethodName) ({ cls := "BeesSting", name := "put", desc := "(IIJ)I" } : Jvm.MethodName)) ∈ gw := List.mem_filter.mpr ⟨mt4 _ (List.mem_of_getElem? (i := 180) rfl), rfl⟩
theorem q4_181 : (Jvm.Cond.code ({ cls := "BeesSting", name := "put", desc := "(IIJ)I" } : Jvm.MethodName) prog_1_method_34_code (6 : Nat) (Option.some Jvm.ClassFile.FieldType.int)) ∈ gw := List.mem_filter.mpr ⟨mt4 _ (List.mem_of_getElem? (i := 181) rfl), rfl⟩
theorem q4_182 : (Jvm.Cond.methodLink "BeesSting" (334 : Nat) ({ cls := "BeesSting$Shelves", name := "faultOfPlace", desc := "(II)I" } : Jvm.MethodName)) ∈ gw := List.mem_filter.mpr ⟨mt4 _ (List.mem_of_getElem? (i := 182) rfl), rfl⟩
theorem q4_183 : (Jvm.Cond.instanceMethod ({ cls := "BeesSting$Shelves", name := "faultOfPlace", desc := "(II)I" } : Jvm.MethodName)) ∈ gw := List.mem_filter.mpr ⟨mt4 _ (List.mem_of_getElem? (i := 183) rfl), rfl⟩
theorem q4_184 : (Jvm.Cond.selects "BeesSting$Shelves" ({ cls := "BeesSting$Shelves", name := "faultOfPlace", desc := "(II)I" } : Jvm.MethodName) ({ cls := "BeesSting$Shelves", name := "faultOfPlace", desc := "(II)I" } : Jvm.MethodName)) ∈ gw := List.mem_filter.mpr ⟨mt4 _ (List.mem_of_getElem? (i := 184) rfl), rfl⟩
theorem q4_185 : (Jvm.Cond.code ({ cls := "BeesSting$Shelves", name := "faultOfPlace", desc := "(II)I" } : Jvm.MethodName) prog_12_method_10_code (3 : Nat) (Option.some Jvm.ClassFile.FieldType.int)) ∈ gw := List.mem_filter.mpr ⟨mt4 _ (List.mem_of_getElem? (i := 185) rfl), rfl⟩
theorem q4_186 : (Jvm.Cond.methodLink "BeesSting$Shelves" (40 : Nat) ({ cls := "BeesSting$Shelves", name := "isShelf", desc := "(I)Z" } : Jvm.MethodName)) ∈ gw := List.mem_filter.mpr ⟨mt4 _ (List.mem_of_getElem? (i := 186) rfl), rfl⟩
theorem q4_187 : (Jvm.Cond.methodLink "BeesSting" (337 : Nat) ({ cls := "BeesSting$Shelves", name := "set", desc := "(IIJ)V" } : Jvm.MethodName)) ∈ gw := List.mem_filter.mpr ⟨mt4 _ (List.mem_of_getElem? (i := 187) rfl), rfl⟩
theorem q4_188 : (Jvm.Cond.instanceMethod ({ cls := "BeesSting$Shelves", name := "set", desc := "(IIJ)V" } : Jvm.MethodName)) ∈ gw := List.mem_filter.mpr ⟨mt4 _ (List.mem_of_getElem? (i := 188) rfl), rfl⟩
theorem q4_189 : (Jvm.Cond.selects "BeesSting$Shelves" ({ cls := "BeesSting$Shelves", name := "set", desc := "(IIJ)V" } : Jvm.MethodName) ({ cls := "BeesSting$Shelves", name := "set", desc := "(IIJ)V" } : Jvm.MethodName)) ∈ gw := List.mem_filter.mpr ⟨mt4 _ (List.mem_of_getElem? (i := 189) rfl), rfl⟩
theorem q4_190 : (Jvm.Cond.code ({ cls := "BeesSting$Shelves", name := "set", desc := "(IIJ)V" } : Jvm.MethodName) prog_12_method_12_code (5 : Nat) (Option.none : Option Jvm.ClassFile.FieldType)) ∈ gw := List.mem_filter.mpr ⟨mt4 _ (List.mem_of_getElem? (i := 190) rfl), rfl⟩
theorem q4_191 : (Jvm.Cond.methodLink "BeesSting$Shelves" (43 : Nat) ({ cls := "BeesSting$Shelves", name := "lowest", desc := "(IJ)J" } : Jvm.MethodName)) ∈ gw := List.mem_filter.mpr ⟨mt4 _ (List.mem_of_getElem? (i := 191) rfl), rfl⟩
theorem q4_192 : (Jvm.Cond.static ({ cls := "BeesSting$Shelves", name := "lowest", desc := "(IJ)J" } : Jvm.MethodName)) ∈ gw := List.mem_filter.mpr ⟨mt4 _ (List.mem_of_getElem? (i := 192) rfl), rfl⟩
theorem q4_193 : (Jvm.Cond.code ({ cls := "BeesSting$Shelves", name := "lowest", desc := "(IJ)J" } : Jvm.MethodName) prog_12_method_13_code (3 : Nat) (Option.some Jvm.ClassFile.FieldType.long)) ∈ gw := List.mem_filter.mpr ⟨mt4 _ (List.mem_of_getElem? (i := 193) rfl), rfl⟩
theorem q4_194 : (Jvm.Cond.methodLink "BeesStingLaw" (153 : Nat) ({ cls := "BeesSting", name := "element", desc := "(II)J" } : Jvm.MethodName)) ∈ gw := List.mem_filter.mpr ⟨mt4 _ (List.mem_of_getElem? (i := 194) rfl), rfl⟩
theorem q4_195 : (Jvm.Cond.instanceMethod ({ cls := "BeesSting", name := "element", desc := "(II)J" } : Jvm.MethodName)) ∈ gw := List.mem_filter.mpr ⟨mt4 _ (List.mem_of_getElem? (i := 195) rfl), rfl⟩
theorem q4_196 : (Jvm.Cond.selects "BeesSting" ({ cls := "BeesSting", name := "element", desc := "(II)J" } : Jvm.MethodName) ({ cls := "BeesSting", name := "element", desc := "(II)J" } : Jvm.MethodName)) ∈ gw := List.mem_filter.mpr ⟨mt4 _ (List.mem_of_getElem? (i := 196) rfl), rfl⟩
theorem q4_197 : (Jvm.Cond.code ({ cls := "BeesSting", name := "element", desc := "(II)J" } : Jvm.MethodName) prog_1_method_35_code (3 : Nat) (Option.some Jvm.ClassFile.FieldType.long)) ∈ gw := List.mem_filter.mpr ⟨mt4 _ (List.mem_of_getElem? (i := 197) rfl), rfl⟩
theorem q4_198 : (Jvm.Cond.constantLong "BeesSting" (343 : Nat) (-9223372036854775808 : Int64)) ∈ gw := List.mem_filter.mpr ⟨mt4 _ (List.mem_of_getElem? (i := 198) rfl), rfl⟩
theorem q4_199 : (Jvm.Cond.methodLink "BeesStingLaw" (158 : Nat) ({ cls := "BeesSting", name := "shift", desc := "(IIIII)I" } : Jvm.MethodName)) ∈ gw := List.mem_filter.mpr ⟨mt4 _ (List.mem_of_getElem? (i := 199) rfl), rfl⟩
theorem q4_200 : (Jvm.Cond.instanceMethod ({ cls := "BeesSting", name := "shift", desc := "(IIIII)I" } : Jvm.MethodName)) ∈ gw := List.mem_filter.mpr ⟨mt4 _ (List.mem_of_getElem? (i := 200) rfl), rfl⟩
theorem q4_201 : (Jvm.Cond.selects "BeesSting" ({ cls := "BeesSting", name := "shift", desc := "(IIIII)I" } : Jvm.MethodName) ({ cls := "BeesSting", name := "shift", desc := "(IIIII)I" } : Jvm.MethodName)) ∈ gw := List.mem_filter.mpr ⟨mt4 _ (List.mem_of_getElem? (i := 201) rfl), rfl⟩
theorem q4_202 : (Jvm.Cond.code ({ cls := "BeesSting", name := "shift", desc := "(IIIII)I" } : Jvm.MethodName) prog_1_method_36_code (6 : Nat) (Option.some Jvm.ClassFile.FieldType.int)) ∈ gw := List.mem_filter.mpr ⟨mt4 _ (List.mem_of_getElem? (i := 202) rfl), rfl⟩
theorem q4_203 : (Jvm.Cond.methodLink "BeesSting" (349 : Nat) ({ cls := "BeesSting$Shelves", name := "copy", desc := "(IIIII)I" } : Jvm.MethodName)) ∈ gw := List.mem_filter.mpr ⟨mt4 _ (List.mem_of_getElem? (i := 203) rfl), rfl⟩
theorem q4_204 : (Jvm.Cond.instanceMethod ({ cls := "BeesSting$Shelves", name := "copy", desc := "(IIIII)I" } : Jvm.MethodName)) ∈ gw := List.mem_filter.mpr ⟨mt4 _ (List.mem_of_getElem? (i := 204) rfl), rfl⟩
theorem q4_205 : (Jvm.Cond.selects "BeesSting$Shelves" ({ cls := "BeesSting$Shelves", name := "copy", desc := "(IIIII)I" } : Jvm.MethodName) ({ cls := "BeesSting$Shelves", name := "copy", desc := "(IIIII)I" } : Jvm.MethodName)) ∈ gw := List.mem_filter.mpr ⟨mt4 _ (List.mem_of_getElem? (i := 205) rfl), rfl⟩
theorem q4_206 : (Jvm.Cond.code ({ cls := "BeesSting$Shelves", name := "copy", desc := "(IIIII)I" } : Jvm.MethodName) prog_12_method_14_code (6 : Nat) (Option.some Jvm.ClassFile.FieldType.int)) ∈ gw := List.mem_filter.mpr ⟨mt4 _ (List.mem_of_getElem? (i := 206) rfl), rfl⟩
theorem q4_207 : (Jvm.Cond.methodLink "BeesSting$Shelves" (47 : Nat) ({ cls := "java/lang/System", name := "arraycopy", desc := "(Ljava/lang/Object;ILjava/lang/Object;II)V" } : Jvm.MethodName)) ∈ gw := List.mem_filter.mpr ⟨mt4 _ (List.mem_of_getElem? (i := 207) rfl), rfl⟩
theorem q4_208 : (Jvm.Cond.methodLink "BeesStingLaw" (163 : Nat) ({ cls := "BeesSting", name := "taken", desc := "(II)I" } : Jvm.MethodName)) ∈ gw := List.mem_filter.mpr ⟨mt4 _ (List.mem_of_getElem? (i := 208) rfl), rfl⟩
theorem q4_209 : (Jvm.Cond.instanceMethod ({ cls := "BeesSting", name := "taken", desc := "(II)I" } : Jvm.MethodName)) ∈ gw := List.mem_filter.mpr ⟨mt4 _ (List.mem_of_getElem? (i := 209) rfl), rfl⟩
theorem q4_210 : (Jvm.Cond.selects "BeesSting" ({ cls := "BeesSting", name := "taken", desc := "(II)I" } : Jvm.MethodName) ({ cls := "BeesSting", name := "taken", desc := "(II)I" } : Jvm.MethodName)) ∈ gw := List.mem_filter.mpr ⟨mt4 _ (List.mem_of_getElem? (i := 210) rfl), rfl⟩
theorem q4_211 : (Jvm.Cond.code ({ cls := "BeesSting", name := "taken", desc := "(II)I" } : Jvm.MethodName) prog_1_method_37_code (4 : Nat) (Option.some Jvm.ClassFile.FieldType.int)) ∈ gw := List.mem_filter.mpr ⟨mt4 _ (List.mem_of_getElem? (i := 211) rfl), rfl⟩
theorem q4_212 : (Jvm.Cond.methodLink "BeesSting" (353 : Nat) ({ cls := "BeesSting$Shelves", name := "bodyOn", desc := "(I)I" } : Jvm.MethodName)) ∈ gw := List.mem_filter.mpr ⟨mt4 _ (List.mem_of_getElem? (i := 212) rfl), rfl⟩
theorem q4_213 : (Jvm.Cond.instanceMethod ({ cls := "BeesSting$Shelves", name := "bodyOn", desc := "(I)I" } : Jvm.MethodName)) ∈ gw := List.mem_filter.mpr ⟨mt4 _ (List.mem_of_getElem? (i := 213) rfl), rfl⟩
theorem q4_214 : (Jvm.Cond.selects "BeesSting$Shelves" ({ cls := "BeesSting$Shelves", name := "bodyOn", desc := "(I)I" } : Jvm.MethodName) ({ cls := "BeesSting$Shelves", name := "bodyOn", desc := "(I)I" } : Jvm.MethodName)) ∈ gw := List.mem_filter.mpr ⟨mt4 _ (List.mem_of_getElem? (i := 214) rfl), rfl⟩
theorem q4_215 : (Jvm.Cond.code ({ cls := "BeesSting$Shelves", name := "bodyOn", desc := "(I)I" } : Jvm.MethodName) prog_12_method_5_code (2 : Nat) (Option.some Jvm.ClassFile.FieldType.int)) ∈ gw := List.mem_filter.mpr ⟨mt4 _ (List.mem_of_getElem? (i := 215) rfl), rfl⟩
theorem q4_216 : (Jvm.Cond.methodLink "BeesSting" (356 : Nat) ({ cls := "BeesSting$Acts", name := "kindOf", desc := "(I)I" } : Jvm.MethodName)) ∈ gw := List.mem_filter.mpr ⟨mt4 _ (List.mem_of_getElem? (i := 216) rfl), rfl⟩
theorem q4_217 : (Jvm.Cond.instanceMethod ({ cls := "BeesSting$Acts", name := "kindOf", desc := "(I)I" } : Jvm.MethodName)) ∈ gw := List.mem_filter.mpr ⟨mt4 _ (List.mem_of_getElem? (i := 217) rfl), rfl⟩
theorem q4_218 : (Jvm.Cond.selects "BeesSting$Acts" ({ cls := "BeesSting$Acts", name := "kindOf", desc := "(I)I" } : Jvm.MethodName) ({ cls := "BeesSting$Acts", name := "kindOf", desc := "(I)I" } : Jvm.MethodName)) ∈ gw := List.mem_filter.mpr ⟨mt4 _ (List.mem_of_getElem? (i := 218) rfl), rfl⟩
theorem q4_219 : (Jvm.Cond.code ({ cls := "BeesSting$Acts", name := "kindOf", desc := "(I)I" } : Jvm.MethodName) prog_2_method_5_code (2 : Nat) (Option.some Jvm.ClassFile.FieldType.int)) ∈ gw := List.mem_filter.mpr ⟨mt4 _ (List.mem_of_getElem? (i := 219) rfl), rfl⟩
theorem q4_220 : (Jvm.Cond.methodLink "BeesSting" (359 : Nat) ({ cls := "BeesSting$Acts", name := "isUnder", desc := "(II)Z" } : Jvm.MethodName)) ∈ gw := List.mem_filter.mpr ⟨mt4 _ (List.mem_of_getElem? (i := 220) rfl), rfl⟩
theorem q4_221 : (Jvm.Cond.static ({ cls := "BeesSting$Acts", name := "isUnder", desc := "(II)Z" } : Jvm.MethodName)) ∈ gw := List.mem_filter.mpr ⟨mt4 _ (List.mem_of_getElem? (i := 221) rfl), rfl⟩
theorem q4_222 : (Jvm.Cond.code ({ cls := "BeesSting$Acts", name := "isUnder", desc := "(II)Z" } : Jvm.MethodName) prog_2_method_3_code (4 : Nat) (Option.some Jvm.ClassFile.FieldType.boolean)) ∈ gw := List.mem_filter.mpr ⟨mt4 _ (List.mem_of_getElem? (i := 222) rfl), rfl⟩
theorem q4_223 : (Jvm.Cond.methodLink "BeesStingLaw" (167 : Nat) ({ cls := "BeesSting", name := "count", desc := "(I)I" } : Jvm.MethodName)) ∈ gw := List.mem_filter.mpr ⟨mt4 _ (List.mem_of_getElem? (i := 223) rfl), rfl⟩
theorem q4_224 : (Jvm.Cond.instanceMethod ({ cls := "BeesSting", name := "count", desc := "(I)I" } : Jvm.MethodName)) ∈ gw := List.mem_filter.mpr ⟨mt4 _ (List.mem_of_getElem? (i := 224) rfl), rfl⟩
theorem q4_225 : (Jvm.Cond.selects "BeesSting" ({ cls := "BeesSting", name := "count", desc := "(I)I" } : Jvm.MethodName) ({ cls := "BeesSting", name := "count", desc := "(I)I" } : Jvm.MethodName)) ∈ gw := List.mem_filter.mpr ⟨mt4 _ (List.mem_of_getElem? (i := 225) rfl), rfl⟩
theorem q4_226 : (Jvm.Cond.code ({ cls := "BeesSting", name := "count", desc := "(I)I" } : Jvm.MethodName) prog_1_method_38_code (2 : Nat) (Option.some Jvm.ClassFile.FieldType.int)) ∈ gw := List.mem_filter.mpr ⟨mt4 _ (List.mem_of_getElem? (i := 226) rfl), rfl⟩
theorem q4_227 : (Jvm.Cond.classLink "BeesStingLaw" (10 : Nat) "BeesStingModel") ∈ gw := List.mem_filter.mpr ⟨mt4 _ (List.mem_of_getElem? (i := 227) rfl), rfl⟩
theorem q4_228 : (Jvm.Cond.instantiable "BeesStingModel" (70 : Nat)) ∈ gw := List.mem_filter.mpr ⟨mt4 _ (List.mem_of_getElem? (i := 228) rfl), rfl⟩
theorem q4_229 : (Jvm.Cond.methodLink "BeesStingLaw" (12 : Nat) ({ cls := "BeesStingModel", name := "<init>", desc := "()V" } : Jvm.MethodName)) ∈ gw := List.mem_filter.mpr ⟨mt4 _ (List.mem_of_getElem? (i := 229) rfl), rfl⟩
theorem q4_230 : (Jvm.Cond.instanceMethod ({ cls := "BeesStingModel", name := "<init>", desc := "()V" } : Jvm.MethodName)) ∈ gw := List.mem_filter.mpr ⟨mt4 _ (List.mem_of_getElem? (i := 230) rfl), rfl⟩
theorem q4_231 : (Jvm.Cond.code ({ cls := "BeesStingModel", name := "<init>", desc := "()V" } : Jvm.MethodName) prog_14_method_1_code (1 : Nat) (Option.none : Option Jvm.ClassFile.FieldType)) ∈ gw := List.mem_filter.mpr ⟨mt4 _ (List.mem_of_getElem? (i := 231) rfl), rfl⟩
theorem q4_232 : (Jvm.Cond.methodLink "BeesStingModel" (1 : Nat) ({ cls := "java/lang/Object", name := "<init>", desc := "()V" } : Jvm.MethodName)) ∈ gw := List.mem_filter.mpr ⟨mt4 _ (List.mem_of_getElem? (i := 232) rfl), rfl⟩
theorem q4_233 : (Jvm.Cond.fieldLink "BeesStingModel" (123 : Nat) "BeesStingModel" "people1" "I") ∈ gw := List.mem_filter.mpr ⟨mt4 _ (List.mem_of_getElem? (i := 233) rfl), rfl⟩
theorem q4_234 : (Jvm.Cond.fieldLink "BeesStingModel" (7 : Nat) "BeesStingModel" "cellOf" "[I") ∈ gw := List.mem_filter.mpr ⟨mt4 _ (List.mem_of_getElem? (i := 234) rfl), rfl⟩
theorem q4_235 : (Jvm.Cond.fieldLink "BeesStingModel" (13 : Nat) "BeesStingModel" "cheek" "[I") ∈ gw := List.mem_filter.mpr ⟨mt4 _ (List.mem_of_getElem? (i := 235) rfl), rfl⟩
theorem q4_236 : (Jvm.Cond.fieldLink "BeesStingModel" (16 : Nat) "BeesStingModel" "pads" "[I") ∈ gw := List.mem_filter.mpr ⟨mt4 _ (List.mem_of_getElem? (i := 236) rfl), rfl⟩
theorem q4_237 : (Jvm.Cond.fieldLink "BeesStingModel" (19 : Nat) "BeesStingModel" "pay" "[I") ∈ gw := List.mem_filter.mpr ⟨mt4 _ (List.mem_of_getElem? (i := 237) rfl), rfl⟩
theorem q4_238 : (Jvm.Cond.fieldLink "BeesStingModel" (22 : Nat) "BeesStingModel" "told" "[I") ∈ gw := List.mem_filter.mpr ⟨mt4 _ (List.mem_of_getElem? (i := 238) rfl), rfl⟩
theorem q4_239 : (Jvm.Cond.fieldLink "BeesStingModel" (25 : Nat) "BeesStingModel" "liar" "I") ∈ gw := List.mem_filter.mpr ⟨mt4 _ (List.mem_of_getElem? (i := 239) rfl), rfl⟩
theorem q5_0 : (Jvm.Cond.fieldLink "BeesStingModel" (152 : Nat) "BeesStingModel" "doneMany" "I") ∈ gw := List.mem_filter.mpr ⟨mt5 _ (List.mem_of_getElem? (i := 0) rfl), rfl⟩
theorem q5_1 : (Jvm.Cond.fieldLink "BeesStingModel" (149 : Nat) "BeesStingModel" "undoneMany" "I") ∈ gw := List.mem_filter.mpr ⟨mt5 _ (List.mem_of_getElem? (i := 1) rfl), rfl⟩
theorem q5_2 : (Jvm.Cond.fieldLink "BeesStingModel" (29 : Nat) "BeesStingModel" "changeOf" "[I") ∈ gw := List.mem_filter.mpr ⟨mt5 _ (List.mem_of_getElem? (i := 2) rfl), rfl⟩
theorem q5_3 : (Jvm.Cond.fieldLink "BeesStingModel" (32 : Nat) "BeesStingModel" "changeAt" "[I") ∈ gw := List.mem_filter.mpr ⟨mt5 _ (List.mem_of_getElem? (i := 3) rfl), rfl⟩
theorem q5_4 : (Jvm.Cond.fieldLink "BeesStingModel" (35 : Nat) "BeesStingModel" "before" "[I") ∈ gw := List.mem_filter.mpr ⟨mt5 _ (List.mem_of_getElem? (i := 4) rfl), rfl⟩
theorem q5_5 : (Jvm.Cond.fieldLink "BeesStingModel" (38 : Nat) "BeesStingModel" "behind" "[I") ∈ gw := List.mem_filter.mpr ⟨mt5 _ (List.mem_of_getElem? (i := 5) rfl), rfl⟩
theorem q5_6 : (Jvm.Cond.fieldLink "BeesStingModel" (41 : Nat) "BeesStingModel" "tape" "[B") ∈ gw := List.mem_filter.mpr ⟨mt5 _ (List.mem_of_getElem? (i := 6) rfl), rfl⟩
theorem q5_7 : (Jvm.Cond.fieldLink "BeesStingModel" (169 : Nat) "BeesStingModel" "taped" "I") ∈ gw := List.mem_filter.mpr ⟨mt5 _ (List.mem_of_getElem? (i := 7) rfl), rfl⟩
theorem q5_8 : (Jvm.Cond.fieldLink "BeesStingModel" (172 : Nat) "BeesStingModel" "here" "I") ∈ gw := List.mem_filter.mpr ⟨mt5 _ (List.mem_of_getElem? (i := 8) rfl), rfl⟩
theorem q5_9 : (Jvm.Cond.fieldLink "BeesStingModel" (175 : Nat) "BeesStingModel" "fault" "I") ∈ gw := List.mem_filter.mpr ⟨mt5 _ (List.mem_of_getElem? (i := 9) rfl), rfl⟩
theorem q5_10 : (Jvm.Cond.fieldLink "BeesStingModel" (181 : Nat) "BeesStingModel" "open" "I") ∈ gw := List.mem_filter.mpr ⟨mt5 _ (List.mem_of_getElem? (i := 10) rfl), rfl⟩
theorem q5_11 : (Jvm.Cond.fieldLink "BeesStingModel" (178 : Nat) "BeesStingModel" "laid" "I") ∈ gw := List.mem_filter.mpr ⟨mt5 _ (List.mem_of_getElem? (i := 11) rfl), rfl⟩
theorem q5_12 : (Jvm.Cond.fieldLink "BeesStingModel" (45 : Nat) "BeesStingModel" "act" "[B") ∈ gw := List.mem_filter.mpr ⟨mt5 _ (List.mem_of_getElem? (i := 12) rfl), rfl⟩
theorem q5_13 : (Jvm.Cond.fieldLink "BeesStingModel" (48 : Nat) "BeesStingModel" "with" "[I") ∈ gw := List.mem_filter.mpr ⟨mt5 _ (List.mem_of_getElem? (i := 13) rfl), rfl⟩
theorem q5_14 : (Jvm.Cond.fieldLink "BeesStingModel" (51 : Nat) "BeesStingModel" "lineMany" "[I") ∈ gw := List.mem_filter.mpr ⟨mt5 _ (List.mem_of_getElem? (i := 14) rfl), rfl⟩
theorem q5_15 : (Jvm.Cond.fieldLink "BeesStingModel" (54 : Nat) "BeesStingModel" "testEnd" "[S") ∈ gw := List.mem_filter.mpr ⟨mt5 _ (List.mem_of_getElem? (i := 15) rfl), rfl⟩
theorem q5_16 : (Jvm.Cond.fieldLink "BeesStingModel" (58 : Nat) "BeesStingModel" "lineEnd" "[S") ∈ gw := List.mem_filter.mpr ⟨mt5 _ (List.mem_of_getElem? (i := 16) rfl), rfl⟩
theorem q5_17 : (Jvm.Cond.fieldLink "BeesStingModel" (61 : Nat) "BeesStingModel" "facts" "[I") ∈ gw := List.mem_filter.mpr ⟨mt5 _ (List.mem_of_getElem? (i := 17) rfl), rfl⟩
theorem q5_18 : (Jvm.Cond.fieldLink "BeesStingModel" (64 : Nat) "BeesStingModel" "pile" "[I") ∈ gw := List.mem_filter.mpr ⟨mt5 _ (List.mem_of_getElem? (i := 18) rfl), rfl⟩
theorem q5_19 : (Jvm.Cond.fieldLink "BeesStingModel" (236 : Nat) "BeesStingModel" "hasLaw" "Z") ∈ gw := List.mem_filter.mpr ⟨mt5 _ (List.mem_of_getElem? (i := 19) rfl), rfl⟩
theorem q5_20 : (Jvm.Cond.fieldLink "BeesStingModel" (240 : Nat) "BeesStingModel" "bee1" "I") ∈ gw := List.mem_filter.mpr ⟨mt5 _ (List.mem_of_getElem? (i := 20) rfl), rfl⟩
theorem q5_21 : (Jvm.Cond.fieldLink "BeesStingModel" (243 : Nat) "BeesStingModel" "liar1" "I") ∈ gw := List.mem_filter.mpr ⟨mt5 _ (List.mem_of_getElem? (i := 21) rfl), rfl⟩
theorem q5_22 : (Jvm.Cond.fieldLink "BeesStingModel" (246 : Nat) "BeesStingModel" "hour1" "I") ∈ gw := List.mem_filter.mpr ⟨mt5 _ (List.mem_of_getElem? (i := 22) rfl), rfl⟩
theorem q5_23 : (Jvm.Cond.fieldLink "BeesStingModel" (249 : Nat) "BeesStingModel" "lies1" "I") ∈ gw := List.mem_filter.mpr ⟨mt5 _ (List.mem_of_getElem? (i := 23) rfl), rfl⟩
theorem q5_24 : (Jvm.Cond.fieldLink "BeesStingModel" (67 : Nat) "BeesStingModel" "pads1" "[I") ∈ gw := List.mem_filter.mpr ⟨mt5 _ (List.mem_of_getElem? (i := 24) rfl), rfl⟩
theorem q5_25 : (Jvm.Cond.fieldLink "BeesStingModel" (267 : Nat) "BeesStingModel" "hurt1" "Z") ∈ gw := List.mem_filter.mpr ⟨mt5 _ (List.mem_of_getElem? (i := 25) rfl), rfl⟩
theorem q5_26 : (Jvm.Cond.fieldLink "BeesStingModel" (270 : Nat) "BeesStingModel" "loud1" "Z") ∈ gw := List.mem_filter.mpr ⟨mt5 _ (List.mem_of_getElem? (i := 26) rfl), rfl⟩
theorem q5_27 : (Jvm.Cond.fieldLink "BeesStingModel" (286 : Nat) "BeesStingModel" "loudBits" "I") ∈ gw := List.mem_filter.mpr ⟨mt5 _ (List.mem_of_getElem? (i := 27) rfl), rfl⟩
theorem q5_28 : (Jvm.Cond.fieldLink "BeesStingModel" (70 : Nat) "BeesStingModel" "stungOf" "[I") ∈ gw := List.mem_filter.mpr ⟨mt5 _ (List.mem_of_getElem? (i := 28) rfl), rfl⟩
theorem q5_29 : (Jvm.Cond.fieldLink "BeesStingModel" (73 : Nat) "BeesStingModel" "hurtOf" "[I") ∈ gw := List.mem_filter.mpr ⟨mt5 _ (List.mem_of_getElem? (i := 29) rfl), rfl⟩
theorem q5_30 : (Jvm.Cond.fieldLink "BeesStingModel" (76 : Nat) "BeesStingModel" "firstOf" "[I") ∈ gw := List.mem_filter.mpr ⟨mt5 _ (List.mem_of_getElem? (i := 30) rfl), rfl⟩
theorem q5_31 : (Jvm.Cond.fieldLink "BeesStingModel" (79 : Nat) "BeesStingModel" "placed" "[I") ∈ gw := List.mem_filter.mpr ⟨mt5 _ (List.mem_of_getElem? (i := 31) rfl), rfl⟩
theorem q5_32 : (Jvm.Cond.fieldLink "BeesStingModel" (82 : Nat) "BeesStingModel" "bestPlaced" "[I") ∈ gw := List.mem_filter.mpr ⟨mt5 _ (List.mem_of_getElem? (i := 32) rfl), rfl⟩
theorem q5_33 : (Jvm.Cond.fieldLink "BeesStingModel" (308 : Nat) "BeesStingModel" "ordersMany" "I") ∈ gw := List.mem_filter.mpr ⟨mt5 _ (List.mem_of_getElem? (i := 33) rfl), rfl⟩
theorem q5_34 : (Jvm.Cond.fieldLink "BeesStingModel" (314 : Nat) "BeesStingModel" "leastHurts" "I") ∈ gw := List.mem_filter.mpr ⟨mt5 _ (List.mem_of_getElem? (i := 34) rfl), rfl⟩
theorem q5_35 : (Jvm.Cond.fieldLink "BeesStingModel" (311 : Nat) "BeesStingModel" "quiets" "I") ∈ gw := List.mem_filter.mpr ⟨mt5 _ (List.mem_of_getElem? (i := 35) rfl), rfl⟩
theorem q5_36 : (Jvm.Cond.fieldLink "BeesStingModel" (321 : Nat) "BeesStingModel" "wordA" "I") ∈ gw := List.mem_filter.mpr ⟨mt5 _ (List.mem_of_getElem? (i := 36) rfl), rfl⟩
theorem q5_37 : (Jvm.Cond.fieldLink "BeesStingModel" (324 : Nat) "BeesStingModel" "wordB" "I") ∈ gw := List.mem_filter.mpr ⟨mt5 _ (List.mem_of_getElem? (i := 37) rfl), rfl⟩
theorem q5_38 : (Jvm.Cond.fieldLink "BeesStingModel" (368 : Nat) "BeesStingModel" "dayShelf" "I") ∈ gw := List.mem_filter.mpr ⟨mt5 _ (List.mem_of_getElem? (i := 38) rfl), rfl⟩
theorem q5_39 : (Jvm.Cond.fieldLink "BeesStingModel" (371 : Nat) "BeesStingModel" "toldShelf" "I") ∈ gw := List.mem_filter.mpr ⟨mt5 _ (List.mem_of_getElem? (i := 39) rfl), rfl⟩
theorem q5_40 : (Jvm.Cond.fieldLink "BeesStingModel" (353 : Nat) "BeesStingModel" "sayings" "I") ∈ gw := List.mem_filter.mpr ⟨mt5 _ (List.mem_of_getElem? (i := 40) rfl), rfl⟩
theorem q5_41 : (Jvm.Cond.fieldLink "BeesStingModel" (356 : Nat) "BeesStingModel" "waysMany" "I") ∈ gw := List.mem_filter.mpr ⟨mt5 _ (List.mem_of_getElem? (i := 41) rfl), rfl⟩
theorem q5_42 : (Jvm.Cond.fieldLink "BeesStingModel" (362 : Nat) "BeesStingModel" "fewest1" "I") ∈ gw := List.mem_filter.mpr ⟨mt5 _ (List.mem_of_getElem? (i := 42) rfl), rfl⟩
theorem q5_43 : (Jvm.Cond.fieldLink "BeesStingModel" (365 : Nat) "BeesStingModel" "fewestBits" "I") ∈ gw := List.mem_filter.mpr ⟨mt5 _ (List.mem_of_getElem? (i := 43) rfl), rfl⟩
theorem q5_44 : (Jvm.Cond.fieldLink "BeesStingModel" (359 : Nat) "BeesStingModel" "certain1" "I") ∈ gw := List.mem_filter.mpr ⟨mt5 _ (List.mem_of_getElem? (i := 44) rfl), rfl⟩
theorem q5_45 : (Jvm.Cond.fieldLink "BeesStingModel" (85 : Nat) "BeesStingModel" "ledOf" "[I") ∈ gw := List.mem_filter.mpr ⟨mt5 _ (List.mem_of_getElem? (i := 45) rfl), rfl⟩
theorem q5_46 : (Jvm.Cond.fieldLink "BeesStingModel" (381 : Nat) "BeesStingModel" "hasImage" "Z") ∈ gw := List.mem_filter.mpr ⟨mt5 _ (List.mem_of_getElem? (i := 46) rfl), rfl⟩
theorem q5_47 : (Jvm.Cond.fieldLink "BeesStingModel" (384 : Nat) "BeesStingModel" "keptMany" "I") ∈ gw := List.mem_filter.mpr ⟨mt5 _ (List.mem_of_getElem? (i := 47) rfl), rfl⟩
theorem q5_48 : (Jvm.Cond.fieldLink "BeesStingModel" (387 : Nat) "BeesStingModel" "keptBee" "I") ∈ gw := List.mem_filter.mpr ⟨mt5 _ (List.mem_of_getElem? (i := 48) rfl), rfl⟩
theorem q5_49 : (Jvm.Cond.fieldLink "BeesStingModel" (390 : Nat) "BeesStingModel" "keptHour" "I") ∈ gw := List.mem_filter.mpr ⟨mt5 _ (List.mem_of_getElem? (i := 49) rfl), rfl⟩
theorem q5_50 : (Jvm.Cond.fieldLink "BeesStingModel" (393 : Nat) "BeesStingModel" "keptLiar" "I") ∈ gw := List.mem_filter.mpr ⟨mt5 _ (List.mem_of_getElem? (i := 50) rfl), rfl⟩
theorem q5_51 : (Jvm.Cond.fieldLink "BeesStingModel" (88 : Nat) "BeesStingModel" "keptCell" "[I") ∈ gw := List.mem_filter.mpr ⟨mt5 _ (List.mem_of_getElem? (i := 51) rfl), rfl⟩
theorem q5_52 : (Jvm.Cond.fieldLink "BeesStingModel" (91 : Nat) "BeesStingModel" "keptPads" "[I") ∈ gw := List.mem_filter.mpr ⟨mt5 _ (List.mem_of_getElem? (i := 52) rfl), rfl⟩
theorem q5_53 : (Jvm.Cond.fieldLink "BeesStingModel" (94 : Nat) "BeesStingModel" "keptLed" "[I") ∈ gw := List.mem_filter.mpr ⟨mt5 _ (List.mem_of_getElem? (i := 53) rfl), rfl⟩
theorem q5_54 : (Jvm.Cond.fieldLink "BeesStingModel" (396 : Nat) "BeesStingModel" "bodies" "I") ∈ gw := List.mem_filter.mpr ⟨mt5 _ (List.mem_of_getElem? (i := 54) rfl), rfl⟩
theorem q5_55 : (Jvm.Cond.fieldLink "BeesStingModel" (97 : Nat) "BeesStingModel" "kind" "[I") ∈ gw := List.mem_filter.mpr ⟨mt5 _ (List.mem_of_getElem? (i := 55) rfl), rfl⟩
theorem q5_56 : (Jvm.Cond.fieldLink "BeesStingModel" (399 : Nat) "BeesStingModel" "traces" "I") ∈ gw := List.mem_filter.mpr ⟨mt5 _ (List.mem_of_getElem? (i := 56) rfl), rfl⟩
theorem q5_57 : (Jvm.Cond.fieldLink "BeesStingModel" (100 : Nat) "BeesStingModel" "traced" "[I") ∈ gw := List.mem_filter.mpr ⟨mt5 _ (List.mem_of_getElem? (i := 57) rfl), rfl⟩
theorem q5_58 : (Jvm.Cond.fieldLink "BeesStingModel" (103 : Nat) "BeesStingModel" "holds" "[I") ∈ gw := List.mem_filter.mpr ⟨mt5 _ (List.mem_of_getElem? (i := 58) rfl), rfl⟩
theorem q5_59 : (Jvm.Cond.fieldLink "BeesStingModel" (106 : Nat) "BeesStingModel" "size" "[I") ∈ gw := List.mem_filter.mpr ⟨mt5 _ (List.mem_of_getElem? (i := 59) rfl), rfl⟩
theorem q5_60 : (Jvm.Cond.fieldLink "BeesStingModel" (109 : Nat) "BeesStingModel" "elements" "[J") ∈ gw := List.mem_filter.mpr ⟨mt5 _ (List.mem_of_getElem? (i := 60) rfl), rfl⟩
theorem q5_61 : (Jvm.Cond.fieldLink "BeesStingModel" (113 : Nat) "BeesStingModel" "shifted" "[J") ∈ gw := List.mem_filter.mpr ⟨mt5 _ (List.mem_of_getElem? (i := 61) rfl), rfl⟩
theorem q5_62 : (Jvm.Cond.lays "BeesStingModel" "BeesStingModel" "code" "I") ∈ gw := List.mem_filter.mpr ⟨mt5 _ (List.mem_of_getElem? (i := 62) rfl), rfl⟩
theorem q5_63 : (Jvm.Cond.soleField "BeesStingModel" "code") ∈ gw := List.mem_filter.mpr ⟨mt5 _ (List.mem_of_getElem? (i := 63) rfl), rfl⟩
theorem q5_64 : (Jvm.Cond.lays "BeesStingModel" "BeesStingModel" "people1" "I") ∈ gw := List.mem_filter.mpr ⟨mt5 _ (List.mem_of_getElem? (i := 64) rfl), rfl⟩
theorem q5_65 : (Jvm.Cond.soleField "BeesStingModel" "people1") ∈ gw := List.mem_filter.mpr ⟨mt5 _ (List.mem_of_getElem? (i := 65) rfl), rfl⟩
theorem q5_66 : (Jvm.Cond.laysFinal "BeesStingModel" "BeesStingModel" "cellOf" "[I") ∈ gw := List.mem_filter.mpr ⟨mt5 _ (List.mem_of_getElem? (i := 66) rfl), rfl⟩
theorem q5_67 : (Jvm.Cond.soleField "BeesStingModel" "cellOf") ∈ gw := List.mem_filter.mpr ⟨mt5 _ (List.mem_of_getElem? (i := 67) rfl), rfl⟩
theorem q5_68 : (Jvm.Cond.laysFinal "BeesStingModel" "BeesStingModel" "cheek" "[I") ∈ gw := List.mem_filter.mpr ⟨mt5 _ (List.mem_of_getElem? (i := 68) rfl), rfl⟩
theorem q5_69 : (Jvm.Cond.soleField "BeesStingModel" "cheek") ∈ gw := List.mem_filter.mpr ⟨mt5 _ (List.mem_of_getElem? (i := 69) rfl), rfl⟩
theorem q5_70 : (Jvm.Cond.laysFinal "BeesStingModel" "BeesStingModel" "pads" "[I") ∈ gw := List.mem_filter.mpr ⟨mt5 _ (List.mem_of_getElem? (i := 70) rfl), rfl⟩
theorem q5_71 : (Jvm.Cond.soleField "BeesStingModel" "pads") ∈ gw := List.mem_filter.mpr ⟨mt5 _ (List.mem_of_getElem? (i := 71) rfl), rfl⟩
theorem q5_72 : (Jvm.Cond.laysFinal "BeesStingModel" "BeesStingModel" "pay" "[I") ∈ gw := List.mem_filter.mpr ⟨mt5 _ (List.mem_of_getElem? (i := 72) rfl), rfl⟩
theorem q5_73 : (Jvm.Cond.soleField "BeesStingModel" "pay") ∈ gw := List.mem_filter.mpr ⟨mt5 _ (List.mem_of_getElem? (i := 73) rfl), rfl⟩
theorem q5_74 : (Jvm.Cond.laysFinal "BeesStingModel" "BeesStingModel" "told" "[I") ∈ gw := List.mem_filter.mpr ⟨mt5 _ (List.mem_of_getElem? (i := 74) rfl), rfl⟩
theorem q5_75 : (Jvm.Cond.soleField "BeesStingModel" "told") ∈ gw := List.mem_filter.mpr ⟨mt5 _ (List.mem_of_getElem? (i := 75) rfl), rfl⟩
theorem q5_76 : (Jvm.Cond.lays "BeesStingModel" "BeesStingModel" "liar" "I") ∈ gw := List.mem_filter.mpr ⟨mt5 _ (List.mem_of_getElem? (i := 76) rfl), rfl⟩
theorem q5_77 : (Jvm.Cond.soleField "BeesStingModel" "liar") ∈ gw := List.mem_filter.mpr ⟨mt5 _ (List.mem_of_getElem? (i := 77) rfl), rfl⟩
theorem q5_78 : (Jvm.Cond.lays "BeesStingModel" "BeesStingModel" "doneMany" "I") ∈ gw := List.mem_filter.mpr ⟨mt5 _ (List.mem_of_getElem? (i := 78) rfl), rfl⟩
theorem q5_79 : (Jvm.Cond.soleField "BeesStingModel" "doneMany") ∈ gw := List.mem_filter.mpr ⟨mt5 _ (List.mem_of_getElem? (i := 79) rfl), rfl⟩
theorem q5_80 : (Jvm.Cond.lays "BeesStingModel" "BeesStingModel" "undoneMany" "I") ∈ gw := List.mem_filter.mpr ⟨mt5 _ (List.mem_of_getElem? (i := 80) rfl), rfl⟩
theorem q5_81 : (Jvm.Cond.soleField "BeesStingModel" "undoneMany") ∈ gw := List.mem_filter.mpr ⟨mt5 _ (List.mem_of_getElem? (i := 81) rfl), rfl⟩
theorem q5_82 : (Jvm.Cond.laysFinal "BeesStingModel" "BeesStingModel" "changeOf" "[I") ∈ gw := List.mem_filter.mpr ⟨mt5 _ (List.mem_of_getElem? (i := 82) rfl), rfl⟩
theorem q5_83 : (Jvm.Cond.soleField "BeesStingModel" "changeOf") ∈ gw := List.mem_filter.mpr ⟨mt5 _ (List.mem_of_getElem? (i := 83) rfl), rfl⟩
theorem q5_84 : (Jvm.Cond.laysFinal "BeesStingModel" "BeesStingModel" "changeAt" "[I") ∈ gw := List.mem_filter.mpr ⟨mt5 _ (List.mem_of_getElem? (i := 84) rfl), rfl⟩
theorem q5_85 : (Jvm.Cond.soleField "BeesStingModel" "changeAt") ∈ gw := List.mem_filter.mpr ⟨mt5 _ (List.mem_of_getElem? (i := 85) rfl), rfl⟩
theorem q5_86 : (Jvm.Cond.laysFinal "BeesStingModel" "BeesStingModel" "before" "[I") ∈ gw := List.mem_filter.mpr ⟨mt5 _ (List.mem_of_getElem? (i := 86) rfl), rfl⟩
theorem q5_87 : (Jvm.Cond.soleField "BeesStingModel" "before") ∈ gw := List.mem_filter.mpr ⟨mt5 _ (List.mem_of_getElem? (i := 87) rfl), rfl⟩
theorem q5_88 : (Jvm.Cond.laysFinal "BeesStingModel" "BeesStingModel" "behind" "[I") ∈ gw := List.mem_filter.mpr ⟨mt5 _ (List.mem_of_getElem? (i := 88) rfl), rfl⟩
theorem q5_89 : (Jvm.Cond.soleField "BeesStingModel" "behind") ∈ gw := List.mem_filter.mpr ⟨mt5 _ (List.mem_of_getElem? (i := 89) rfl), rfl⟩
theorem q5_90 : (Jvm.Cond.laysFinal "BeesStingModel" "BeesStingModel" "tape" "[B") ∈ gw := List.mem_filter.mpr ⟨mt5 _ (List.mem_of_getElem? (i := 90) rfl), rfl⟩
theorem q5_91 : (Jvm.Cond.soleField "BeesStingModel" "tape") ∈ gw := List.mem_filter.mpr ⟨mt5 _ (List.mem_of_getElem? (i := 91) rfl), rfl⟩
theorem q5_92 : (Jvm.Cond.lays "BeesStingModel" "BeesStingModel" "taped" "I") ∈ gw := List.mem_filter.mpr ⟨mt5 _ (List.mem_of_getElem? (i := 92) rfl), rfl⟩
theorem q5_93 : (Jvm.Cond.soleField "BeesStingModel" "taped") ∈ gw := List.mem_filter.mpr ⟨mt5 _ (List.mem_of_getElem? (i := 93) rfl), rfl⟩
theorem q5_94 : (Jvm.Cond.lays "BeesStingModel" "BeesStingModel" "here" "I") ∈ gw := List.mem_filter.mpr ⟨mt5 _ (List.mem_of_getElem? (i := 94) rfl), rfl⟩
theorem q5_95 : (Jvm.Cond.soleField "BeesStingModel" "here") ∈ gw := List.mem_filter.mpr ⟨mt5 _ (List.mem_of_getElem? (i := 95) rfl), rfl⟩
theorem q5_96 : (Jvm.Cond.lays "BeesStingModel" "BeesStingModel" "fault" "I") ∈ gw := List.mem_filter.mpr ⟨mt5 _ (List.mem_of_getElem? (i := 96) rfl), rfl⟩
theorem q5_97 : (Jvm.Cond.soleField "BeesStingModel" "fault") ∈ gw := List.mem_filter.mpr ⟨mt5 _ (List.mem_of_getElem? (i := 97) rfl), rfl⟩
theorem q5_98 : (Jvm.Cond.lays "BeesStingModel" "BeesStingModel" "open" "I") ∈ gw := List.mem_filter.mpr ⟨mt5 _ (List.mem_of_getElem? (i := 98) rfl), rfl⟩
theorem q5_99 : (Jvm.Cond.soleField "BeesStingModel" "open") ∈ gw := List.mem_filter.mpr ⟨mt5 _ (List.mem_of_getElem? (i := 99) rfl), rfl⟩
theorem q5_100 : (Jvm.Cond.lays "BeesStingModel" "BeesStingModel" "laid" "I") ∈ gw := List.mem_filter.mpr ⟨mt5 _ (List.mem_of_getElem? (i := 100) rfl), rfl⟩
theorem q5_101 : (Jvm.Cond.soleField "BeesStingModel" "laid") ∈ gw := List.mem_filter.mpr ⟨mt5 _ (List.mem_of_getElem? (i := 101) rfl), rfl⟩
theorem q5_102 : (Jvm.Cond.laysFinal "BeesStingModel" "BeesStingModel" "act" "[B") ∈ gw := List.mem_filter.mpr ⟨mt5 _ (List.mem_of_getElem? (i := 102) rfl), rfl⟩
theorem q5_103 : (Jvm.Cond.soleField "BeesStingModel" "act") ∈ gw := List.mem_filter.mpr ⟨mt5 _ (List.mem_of_getElem? (i := 103) rfl), rfl⟩
theorem q5_104 : (Jvm.Cond.laysFinal "BeesStingModel" "BeesStingModel" "with" "[I") ∈ gw := List.mem_filter.mpr ⟨mt5 _ (List.mem_of_getElem? (i := 104) rfl), rfl⟩
theorem q5_105 : (Jvm.Cond.soleField "BeesStingModel" "with") ∈ gw := List.mem_filter.mpr ⟨mt5 _ (List.mem_of_getElem? (i := 105) rfl), rfl⟩
theorem q5_106 : (Jvm.Cond.laysFinal "BeesStingModel" "BeesStingModel" "lineMany" "[I") ∈ gw := List.mem_filter.mpr ⟨mt5 _ (List.mem_of_getElem? (i := 106) rfl), rfl⟩
theorem q5_107 : (Jvm.Cond.soleField "BeesStingModel" "lineMany") ∈ gw := List.mem_filter.mpr ⟨mt5 _ (List.mem_of_getElem? (i := 107) rfl), rfl⟩
theorem q5_108 : (Jvm.Cond.laysFinal "BeesStingModel" "BeesStingModel" "testEnd" "[S") ∈ gw := List.mem_filter.mpr ⟨mt5 _ (List.mem_of_getElem? (i := 108) rfl), rfl⟩
theorem q5_109 : (Jvm.Cond.soleField "BeesStingModel" "testEnd") ∈ gw := List.mem_filter.mpr ⟨mt5 _ (List.mem_of_getElem? (i := 109) rfl), rfl⟩
theorem q5_110 : (Jvm.Cond.laysFinal "BeesStingModel" "BeesStingModel" "lineEnd" "[S") ∈ gw := List.mem_filter.mpr ⟨mt5 _ (List.mem_of_getElem? (i := 110) rfl), rfl⟩
theorem q5_111 : (Jvm.Cond.soleField "BeesStingModel" "lineEnd") ∈ gw := List.mem_filter.mpr ⟨mt5 _ (List.mem_of_getElem? (i := 111) rfl), rfl⟩
theorem q5_112 : (Jvm.Cond.laysFinal "BeesStingModel" "BeesStingModel" "facts" "[I") ∈ gw := List.mem_filter.mpr ⟨mt5 _ (List.mem_of_getElem? (i := 112) rfl), rfl⟩
theorem q5_113 : (Jvm.Cond.soleField "BeesStingModel" "facts") ∈ gw := List.mem_filter.mpr ⟨mt5 _ (List.mem_of_getElem? (i := 113) rfl), rfl⟩
theorem q5_114 : (Jvm.Cond.laysFinal "BeesStingModel" "BeesStingModel" "pile" "[I") ∈ gw := List.mem_filter.mpr ⟨mt5 _ (List.mem_of_getElem? (i := 114) rfl), rfl⟩
theorem q5_115 : (Jvm.Cond.soleField "BeesStingModel" "pile") ∈ gw := List.mem_filter.mpr ⟨mt5 _ (List.mem_of_getElem? (i := 115) rfl), rfl⟩
theorem q5_116 : (Jvm.Cond.lays "BeesStingModel" "BeesStingModel" "hasLaw" "Z") ∈ gw := List.mem_filter.mpr ⟨mt5 _ (List.mem_of_getElem? (i := 116) rfl), rfl⟩
theorem q5_117 : (Jvm.Cond.soleField "BeesStingModel" "hasLaw") ∈ gw := List.mem_filter.mpr ⟨mt5 _ (List.mem_of_getElem? (i := 117) rfl), rfl⟩
theorem q5_118 : (Jvm.Cond.lays "BeesStingModel" "BeesStingModel" "bee1" "I") ∈ gw := List.mem_filter.mpr ⟨mt5 _ (List.mem_of_getElem? (i := 118) rfl), rfl⟩
theorem q5_119 : (Jvm.Cond.soleField "BeesStingModel" "bee1") ∈ gw := List.mem_filter.mpr ⟨mt5 _ (List.mem_of_getElem? (i := 119) rfl), rfl⟩
theorem q5_120 : (Jvm.Cond.lays "BeesStingModel" "BeesStingModel" "liar1" "I") ∈ gw := List.mem_filter.mpr ⟨mt5 _ (List.mem_of_getElem? (i := 120) rfl), rfl⟩
theorem q5_121 : (Jvm.Cond.soleField "BeesStingModel" "liar1") ∈ gw := List.mem_filter.mpr ⟨mt5 _ (List.mem_of_getElem? (i := 121) rfl), rfl⟩
theorem q5_122 : (Jvm.Cond.lays "BeesStingModel" "BeesStingModel" "hour1" "I") ∈ gw := List.mem_filter.mpr ⟨mt5 _ (List.mem_of_getElem? (i := 122) rfl), rfl⟩
theorem q5_123 : (Jvm.Cond.soleField "BeesStingModel" "hour1") ∈ gw := List.mem_filter.mpr ⟨mt5 _ (List.mem_of_getElem? (i := 123) rfl), rfl⟩
theorem q5_124 : (Jvm.Cond.lays "BeesStingModel" "BeesStingModel" "lies1" "I") ∈ gw := List.mem_filter.mpr ⟨mt5 _ (List.mem_of_getElem? (i := 124) rfl), rfl⟩
theorem q5_125 : (Jvm.Cond.soleField "BeesStingModel" "lies1") ∈ gw := List.mem_filter.mpr ⟨mt5 _ (List.mem_of_getElem? (i := 125) rfl), rfl⟩
theorem q5_126 : (Jvm.Cond.laysFinal "BeesStingModel" "BeesStingModel" "pads1" "[I") ∈ gw := List.mem_filter.mpr ⟨mt5 _ (List.mem_of_getElem? (i := 126) rfl), rfl⟩
theorem q5_127 : (Jvm.Cond.soleField "BeesStingModel" "pads1") ∈ gw := List.mem_filter.mpr ⟨mt5 _ (List.mem_of_getElem? (i := 127) rfl), rfl⟩
theorem q5_128 : (Jvm.Cond.lays "BeesStingModel" "BeesStingModel" "hurt1" "Z") ∈ gw := List.mem_filter.mpr ⟨mt5 _ (List.mem_of_getElem? (i := 128) rfl), rfl⟩
theorem q5_129 : (Jvm.Cond.soleField "BeesStingModel" "hurt1") ∈ gw := List.mem_filter.mpr ⟨mt5 _ (List.mem_of_getElem? (i := 129) rfl), rfl⟩
theorem q5_130 : (Jvm.Cond.lays "BeesStingModel" "BeesStingModel" "loud1" "Z") ∈ gw := List.mem_filter.mpr ⟨mt5 _ (List.mem_of_getElem? (i := 130) rfl), rfl⟩
theorem q5_131 : (Jvm.Cond.soleField "BeesStingModel" "loud1") ∈ gw := List.mem_filter.mpr ⟨mt5 _ (List.mem_of_getElem? (i := 131) rfl), rfl⟩
theorem q5_132 : (Jvm.Cond.lays "BeesStingModel" "BeesStingModel" "loudBits" "I") ∈ gw := List.mem_filter.mpr ⟨mt5 _ (List.mem_of_getElem? (i := 132) rfl), rfl⟩
theorem q5_133 : (Jvm.Cond.soleField "BeesStingModel" "loudBits") ∈ gw := List.mem_filter.mpr ⟨mt5 _ (List.mem_of_getElem? (i := 133) rfl), rfl⟩
theorem q5_134 : (Jvm.Cond.laysFinal "BeesStingModel" "BeesStingModel" "stungOf" "[I") ∈ gw := List.mem_filter.mpr ⟨mt5 _ (List.mem_of_getElem? (i := 134) rfl), rfl⟩
theorem q5_135 : (Jvm.Cond.soleField "BeesStingModel" "stungOf") ∈ gw := List.mem_filter.mpr ⟨mt5 _ (List.mem_of_getElem? (i := 135) rfl), rfl⟩
theorem q5_136 : (Jvm.Cond.laysFinal "BeesStingModel" "BeesStingModel" "hurtOf" "[I") ∈ gw := List.mem_filter.mpr ⟨mt5 _ (List.mem_of_getElem? (i := 136) rfl), rfl⟩
theorem q5_137 : (Jvm.Cond.soleField "BeesStingModel" "hurtOf") ∈ gw := List.mem_filter.mpr ⟨mt5 _ (List.mem_of_getElem? (i := 137) rfl), rfl⟩
theorem q5_138 : (Jvm.Cond.laysFinal "BeesStingModel" "BeesStingModel" "firstOf" "[I") ∈ gw := List.mem_filter.mpr ⟨mt5 _ (List.mem_of_getElem? (i := 138) rfl), rfl⟩
theorem q5_139 : (Jvm.Cond.soleField "BeesStingModel" "firstOf") ∈ gw := List.mem_filter.mpr ⟨mt5 _ (List.mem_of_getElem? (i := 139) rfl), rfl⟩
theorem q5_140 : (Jvm.Cond.laysFinal "BeesStingModel" "BeesStingModel" "placed" "[I") ∈ gw := List.mem_filter.mpr ⟨mt5 _ (List.mem_of_getElem? (i := 140) rfl), rfl⟩
theorem q5_141 : (Jvm.Cond.soleField "BeesStingModel" "placed") ∈ gw := List.mem_filter.mpr ⟨mt5 _ (List.mem_of_getElem? (i := 141) rfl), rfl⟩
theorem q5_142 : (Jvm.Cond.laysFinal "BeesStingModel" "BeesStingModel" "bestPlaced" "[I") ∈ gw := List.mem_filter.mpr ⟨mt5 _ (List.mem_of_getElem? (i := 142) rfl), rfl⟩
theorem q5_143 : (Jvm.Cond.soleField "BeesStingModel" "bestPlaced") ∈ gw := List.mem_filter.mpr ⟨mt5 _ (List.mem_of_getElem? (i := 143) rfl), rfl⟩
theorem q5_144 : (Jvm.Cond.lays "BeesStingModel" "BeesStingModel" "ordersMany" "I") ∈ gw := List.mem_filter.mpr ⟨mt5 _ (List.mem_of_getElem? (i := 144) rfl), rfl⟩
theorem q5_145 : (Jvm.Cond.soleField "BeesStingModel" "ordersMany") ∈ gw := List.mem_filter.mpr ⟨mt5 _ (List.mem_of_getElem? (i := 145) rfl), rfl⟩
theorem q5_146 : (Jvm.Cond.lays "BeesStingModel" "BeesStingModel" "leastHurts" "I") ∈ gw := List.mem_filter.mpr ⟨mt5 _ (List.mem_of_getElem? (i := 146) rfl), rfl⟩
theorem q5_147 : (Jvm.Cond.soleField "BeesStingModel" "leastHurts") ∈ gw := List.mem_filter.mpr ⟨mt5 _ (List.mem_of_getElem? (i := 147) rfl), rfl⟩
theorem q5_148 : (Jvm.Cond.lays "BeesStingModel" "BeesStingModel" "quiets" "I") ∈ gw := List.mem_filter.mpr ⟨mt5 _ (List.mem_of_getElem? (i := 148) rfl), rfl⟩
theorem q5_149 : (Jvm.Cond.soleField "BeesStingModel" "quiets") ∈ gw := List.mem_filter.mpr ⟨mt5 _ (List.mem_of_getElem? (i := 149) rfl), rfl⟩
theorem q5_150 : (Jvm.Cond.lays "BeesStingModel" "BeesStingModel" "wordA" "I") ∈ gw := List.mem_filter.mpr ⟨mt5 _ (List.mem_of_getElem? (i := 150) rfl), rfl⟩
theorem q5_151 : (Jvm.Cond.soleField "BeesStingModel" "wordA") ∈ gw := List.mem_filter.mpr ⟨mt5 _ (List.mem_of_getElem? (i := 151) rfl), rfl⟩
theorem q5_152 : (Jvm.Cond.lays "BeesStingModel" "BeesStingModel" "wordB" "I") ∈ gw := List.mem_filter.mpr ⟨mt5 _ (List.mem_of_getElem? (i := 152) rfl), rfl⟩
theorem q5_153 : (Jvm.Cond.soleField "BeesStingModel" "wordB") ∈ gw := List.mem_filter.mpr ⟨mt5 _ (List.mem_of_getElem? (i := 153) rfl), rfl⟩
theorem q5_154 : (Jvm.Cond.lays "BeesStingModel" "BeesStingModel" "dayShelf" "I") ∈ gw := List.mem_filter.mpr ⟨mt5 _ (List.mem_of_getElem? (i := 154) rfl), rfl⟩
theorem q5_155 : (Jvm.Cond.soleField "BeesStingModel" "dayShelf") ∈ gw := List.mem_filter.mpr ⟨mt5 _ (List.mem_of_getElem? (i := 155) rfl), rfl⟩
theorem q5_156 : (Jvm.Cond.lays "BeesStingModel" "BeesStingModel" "toldShelf" "I") ∈ gw := List.mem_filter.mpr ⟨mt5 _ (List.mem_of_getElem? (i := 156) rfl), rfl⟩
theorem q5_157 : (Jvm.Cond.soleField "BeesStingModel" "toldShelf") ∈ gw := List.mem_filter.mpr ⟨mt5 _ (List.mem_of_getElem? (i := 157) rfl), rfl⟩
theorem q5_158 : (Jvm.Cond.lays "BeesStingModel" "BeesStingModel" "sayings" "I") ∈ gw := List.mem_filter.mpr ⟨mt5 _ (List.mem_of_getElem? (i := 158) rfl), rfl⟩
theorem q5_159 : (Jvm.Cond.soleField "BeesStingModel" "sayings") ∈ gw := List.mem_filter.mpr ⟨mt5 _ (List.mem_of_getElem? (i := 159) rfl), rfl⟩
theorem q5_160 : (Jvm.Cond.lays "BeesStingModel" "BeesStingModel" "waysMany" "I") ∈ gw := List.mem_filter.mpr ⟨mt5 _ (List.mem_of_getElem? (i := 160) rfl), rfl⟩
theorem q5_161 : (Jvm.Cond.soleField "BeesStingModel" "waysMany") ∈ gw := List.mem_filter.mpr ⟨mt5 _ (List.mem_of_getElem? (i := 161) rfl), rfl⟩
theorem q5_162 : (Jvm.Cond.lays "BeesStingModel" "BeesStingModel" "fewest1" "I") ∈ gw := List.mem_filter.mpr ⟨mt5 _ (List.mem_of_getElem? (i := 162) rfl), rfl⟩
theorem q5_163 : (Jvm.Cond.soleField "BeesStingModel" "fewest1") ∈ gw := List.mem_filter.mpr ⟨mt5 _ (List.mem_of_getElem? (i := 163) rfl), rfl⟩
theorem q5_164 : (Jvm.Cond.lays "BeesStingModel" "BeesStingModel" "fewestBits" "I") ∈ gw := List.mem_filter.mpr ⟨mt5 _ (List.mem_of_getElem? (i := 164) rfl), rfl⟩
theorem q5_165 : (Jvm.Cond.soleField "BeesStingModel" "fewestBits") ∈ gw := List.mem_filter.mpr ⟨mt5 _ (List.mem_of_getElem? (i := 165) rfl), rfl⟩
theorem q5_166 : (Jvm.Cond.lays "BeesStingModel" "BeesStingModel" "certain1" "I") ∈ gw := List.mem_filter.mpr ⟨mt5 _ (List.mem_of_getElem? (i := 166) rfl), rfl⟩
theorem q5_167 : (Jvm.Cond.soleField "BeesStingModel" "certain1") ∈ gw := List.mem_filter.mpr ⟨mt5 _ (List.mem_of_getElem? (i := 167) rfl), rfl⟩
theorem q5_168 : (Jvm.Cond.laysFinal "BeesStingModel" "BeesStingModel" "ledOf" "[I") ∈ gw := List.mem_filter.mpr ⟨mt5 _ (List.mem_of_getElem? (i := 168) rfl), rfl⟩
theorem q5_169 : (Jvm.Cond.soleField "BeesStingModel" "ledOf") ∈ gw := List.mem_filter.mpr ⟨mt5 _ (List.mem_of_getElem? (i := 169) rfl), rfl⟩
theorem q5_170 : (Jvm.Cond.lays "BeesStingModel" "BeesStingModel" "hasImage" "Z") ∈ gw := List.mem_filter.mpr ⟨mt5 _ (List.mem_of_getElem? (i := 170) rfl), rfl⟩
theorem q5_171 : (Jvm.Cond.soleField "BeesStingModel" "hasImage") ∈ gw := List.mem_filter.mpr ⟨mt5 _ (List.mem_of_getElem? (i := 171) rfl), rfl⟩
theorem q5_172 : (Jvm.Cond.lays "BeesStingModel" "BeesStingModel" "keptMany" "I") ∈ gw := List.mem_filter.mpr ⟨mt5 _ (List.mem_of_getElem? (i := 172) rfl), rfl⟩
theorem q5_173 : (Jvm.Cond.soleField "BeesStingModel" "keptMany") ∈ gw := List.mem_filter.mpr ⟨mt5 _ (List.mem_of_getElem? (i := 173) rfl), rfl⟩
theorem q5_174 : (Jvm.Cond.lays "BeesStingModel" "BeesStingModel" "keptBee" "I") ∈ gw := List.mem_filter.mpr ⟨mt5 _ (List.mem_of_getElem? (i := 174) rfl), rfl⟩
theorem q5_175 : (Jvm.Cond.soleField "BeesStingModel" "keptBee") ∈ gw := List.mem_filter.mpr ⟨mt5 _ (List.mem_of_getElem? (i := 175) rfl), rfl⟩
theorem q5_176 : (Jvm.Cond.lays "BeesStingModel" "BeesStingModel" "keptHour" "I") ∈ gw := List.mem_filter.mpr ⟨mt5 _ (List.mem_of_getElem? (i := 176) rfl), rfl⟩
theorem q5_177 : (Jvm.Cond.soleField "BeesStingModel" "keptHour") ∈ gw := List.mem_filter.mpr ⟨mt5 _ (List.mem_of_getElem? (i := 177) rfl), rfl⟩
theorem q5_178 : (Jvm.Cond.lays "BeesStingModel" "BeesStingModel" "keptLiar" "I") ∈ gw := List.mem_filter.mpr ⟨mt5 _ (List.mem_of_getElem? (i := 178) rfl), rfl⟩
theorem q5_179 : (Jvm.Cond.soleField "BeesStingModel" "keptLiar") ∈ gw := List.mem_filter.mpr ⟨mt5 _ (List.mem_of_getElem? (i := 179) rfl), rfl⟩
theorem q5_180 : (Jvm.Cond.laysFinal "BeesStingModel" "BeesStingModel" "keptCell" "[I") ∈ gw := List.mem_filter.mpr ⟨mt5 _ (List.mem_of_getElem? (i := 180) rfl), rfl⟩
theorem q5_181 : (Jvm.Cond.soleField "BeesStingModel" "keptCell") ∈ gw := List.mem_filter.mpr ⟨mt5 _ (List.mem_of_getElem? (i := 181) rfl), rfl⟩
theorem q5_182 : (Jvm.Cond.laysFinal "BeesStingModel" "BeesStingModel" "keptPads" "[I") ∈ gw := List.mem_filter.mpr ⟨mt5 _ (List.mem_of_getElem? (i := 182) rfl), rfl⟩
theorem q5_183 : (Jvm.Cond.soleField "BeesStingModel" "keptPads") ∈ gw := List.mem_filter.mpr ⟨mt5 _ (List.mem_of_getElem? (i := 183) rfl), rfl⟩
theorem q5_184 : (Jvm.Cond.laysFinal "BeesStingModel" "BeesStingModel" "keptLed" "[I") ∈ gw := List.mem_filter.mpr ⟨mt5 _ (List.mem_of_getElem? (i := 184) rfl), rfl⟩
theorem q5_185 : (Jvm.Cond.soleField "BeesStingModel" "keptLed") ∈ gw := List.mem_filter.mpr ⟨mt5 _ (List.mem_of_getElem? (i := 185) rfl), rfl⟩
theorem q5_186 : (Jvm.Cond.lays "BeesStingModel" "BeesStingModel" "bodies" "I") ∈ gw := List.mem_filter.mpr ⟨mt5 _ (List.mem_of_getElem? (i := 186) rfl), rfl⟩
theorem q5_187 : (Jvm.Cond.soleField "BeesStingModel" "bodies") ∈ gw := List.mem_filter.mpr ⟨mt5 _ (List.mem_of_getElem? (i := 187) rfl), rfl⟩
theorem q5_188 : (Jvm.Cond.laysFinal "BeesStingModel" "BeesStingModel" "kind" "[I") ∈ gw := List.mem_filter.mpr ⟨mt5 _ (List.mem_of_getElem? (i := 188) rfl), rfl⟩
theorem q5_189 : (Jvm.Cond.soleField "BeesStingModel" "kind") ∈ gw := List.mem_filter.mpr ⟨mt5 _ (List.mem_of_getElem? (i := 189) rfl), rfl⟩
theorem q5_190 : (Jvm.Cond.lays "BeesStingModel" "BeesStingModel" "traces" "I") ∈ gw := List.mem_filter.mpr ⟨mt5 _ (List.mem_of_getElem? (i := 190) rfl), rfl⟩
theorem q5_191 : (Jvm.Cond.soleField "BeesStingModel" "traces") ∈ gw := List.mem_filter.mpr ⟨mt5 _ (List.mem_of_getElem? (i := 191) rfl), rfl⟩
theorem q5_192 : (Jvm.Cond.laysFinal "BeesStingModel" "BeesStingModel" "traced" "[I") ∈ gw := List.mem_filter.mpr ⟨mt5 _ (List.mem_of_getElem? (i := 192) rfl), rfl⟩
theorem q5_193 : (Jvm.Cond.soleField "BeesStingModel" "traced") ∈ gw := List.mem_filter.mpr ⟨mt5 _ (List.mem_of_getElem? (i := 193) rfl), rfl⟩
theorem q5_194 : (Jvm.Cond.laysFinal "BeesStingModel" "BeesStingModel" "holds" "[I") ∈ gw := List.mem_filter.mpr ⟨mt5 _ (List.mem_of_getElem? (i := 194) rfl), rfl⟩
theorem q5_195 : (Jvm.Cond.soleField "BeesStingModel" "holds") ∈ gw := List.mem_filter.mpr ⟨mt5 _ (List.mem_of_getElem? (i := 195) rfl), rfl⟩
theorem q5_196 : (Jvm.Cond.laysFinal "BeesStingModel" "BeesStingModel" "size" "[I") ∈ gw := List.mem_filter.mpr ⟨mt5 _ (List.mem_of_getElem? (i := 196) rfl), rfl⟩
theorem q5_197 : (Jvm.Cond.soleField "BeesStingModel" "size") ∈ gw := List.mem_filter.mpr ⟨mt5 _ (List.mem_of_getElem? (i := 197) rfl), rfl⟩
theorem q5_198 : (Jvm.Cond.laysFinal "BeesStingModel" "BeesStingModel" "elements" "[J") ∈ gw := List.mem_filter.mpr ⟨mt5 _ (List.mem_of_getElem? (i := 198) rfl), rfl⟩
theorem q5_199 : (Jvm.Cond.soleField "BeesStingModel" "elements") ∈ gw := List.mem_filter.mpr ⟨mt5 _ (List.mem_of_getElem? (i := 199) rfl), rfl⟩
theorem q5_200 : (Jvm.Cond.laysFinal "BeesStingModel" "BeesStingModel" "shifted" "[J") ∈ gw := List.mem_filter.mpr ⟨mt5 _ (List.mem_of_getElem? (i := 200) rfl), rfl⟩
theorem q5_201 : (Jvm.Cond.soleField "BeesStingModel" "shifted") ∈ gw := List.mem_filter.mpr ⟨mt5 _ (List.mem_of_getElem? (i := 201) rfl), rfl⟩
theorem q5_202 : (Jvm.Cond.superclass "BeesStingModel" "java/lang/Object") ∈ gw := List.mem_filter.mpr ⟨mt5 _ (List.mem_of_getElem? (i := 202) rfl), rfl⟩
theorem q5_203 : (Jvm.Cond.arrayClass Jvm.ClassFile.FieldType.byte) ∈ gw := List.mem_filter.mpr ⟨mt5 _ (List.mem_of_getElem? (i := 203) rfl), rfl⟩
theorem q5_204 : (Jvm.Cond.arrayClass Jvm.ClassFile.FieldType.short) ∈ gw := List.mem_filter.mpr ⟨mt5 _ (List.mem_of_getElem? (i := 204) rfl), rfl⟩
theorem q5_205 : (Jvm.Cond.methodLink "BeesStingLaw" (17 : Nat) ({ cls := "BeesStingModel", name := "person", desc := "(I)I" } : Jvm.MethodName)) ∈ gw := List.mem_filter.mpr ⟨mt5 _ (List.mem_of_getElem? (i := 205) rfl), rfl⟩
theorem q5_206 : (Jvm.Cond.instanceMethod ({ cls := "BeesStingModel", name := "person", desc := "(I)I" } : Jvm.MethodName)) ∈ gw := List.mem_filter.mpr ⟨mt5 _ (List.mem_of_getElem? (i := 206) rfl), rfl⟩
theorem q5_207 : (Jvm.Cond.selects "BeesStingModel" ({ cls := "BeesStingModel", name := "person", desc := "(I)I" } : Jvm.MethodName) ({ cls := "BeesStingModel", name := "person", desc := "(I)I" } : Jvm.MethodName)) ∈ gw := List.mem_filter.mpr ⟨mt5 _ (List.mem_of_getElem? (i := 207) rfl), rfl⟩
theorem q5_208 : (Jvm.Cond.code ({ cls := "BeesStingModel", name := "person", desc := "(I)I" } : Jvm.MethodName) prog_14_method_11_code (2 : Nat) (Option.some Jvm.ClassFile.FieldType.int)) ∈ gw := List.mem_filter.mpr ⟨mt5 _ (List.mem_of_getElem? (i := 208) rfl), rfl⟩
theorem q5_209 : (Jvm.Cond.methodLink "BeesStingModel" (134 : Nat) ({ cls := "BeesStingModel", name := "isCell", desc := "(I)Z" } : Jvm.MethodName)) ∈ gw := List.mem_filter.mpr ⟨mt5 _ (List.mem_of_getElem? (i := 209) rfl), rfl⟩
theorem q5_210 : (Jvm.Cond.static ({ cls := "BeesStingModel", name := "isCell", desc := "(I)Z" } : Jvm.MethodName)) ∈ gw := List.mem_filter.mpr ⟨mt5 _ (List.mem_of_getElem? (i := 210) rfl), rfl⟩
theorem q5_211 : (Jvm.Cond.code ({ cls := "BeesStingModel", name := "isCell", desc := "(I)Z" } : Jvm.MethodName) prog_14_method_9_code (1 : Nat) (Option.some Jvm.ClassFile.FieldType.boolean)) ∈ gw := List.mem_filter.mpr ⟨mt5 _ (List.mem_of_getElem? (i := 211) rfl), rfl⟩
theorem q5_212 : (Jvm.Cond.methodLink "BeesStingModel" (126 : Nat) ({ cls := "BeesStingModel", name := "in", desc := "(III)Z" } : Jvm.MethodName)) ∈ gw := List.mem_filter.mpr ⟨mt5 _ (List.mem_of_getElem? (i := 212) rfl), rfl⟩
theorem q5_213 : (Jvm.Cond.static ({ cls := "BeesStingModel", name := "in", desc := "(III)Z" } : Jvm.MethodName)) ∈ gw := List.mem_filter.mpr ⟨mt5 _ (List.mem_of_getElem? (i := 213) rfl), rfl⟩
theorem q5_214 : (Jvm.Cond.code ({ cls := "BeesStingModel", name := "in", desc := "(III)Z" } : Jvm.MethodName) prog_14_method_3_code (3 : Nat) (Option.some Jvm.ClassFile.FieldType.boolean)) ∈ gw := List.mem_filter.mpr ⟨mt5 _ (List.mem_of_getElem? (i := 214) rfl), rfl⟩
theorem q5_215 : (Jvm.Cond.methodLink "BeesStingModel" (137 : Nat) ({ cls := "BeesStingModel", name := "addOne", desc := "(III)I" } : Jvm.MethodName)) ∈ gw := List.mem_filter.mpr ⟨mt5 _ (List.mem_of_getElem? (i := 215) rfl), rfl⟩
theorem q5_216 : (Jvm.Cond.privateMethod ({ cls := "BeesStingModel", name := "addOne", desc := "(III)I" } : Jvm.MethodName)) ∈ lw_tbl := mt5 _ (List.mem_of_getElem? (i := 216) rfl)
theorem q5_217 : (Jvm.Cond.instanceMethod ({ cls := "BeesStingModel", name := "addOne", desc := "(III)I" } : Jvm.MethodName)) ∈ gw := List.mem_filter.mpr ⟨mt5 _ (List.mem_of_getElem? (i := 217) rfl), rfl⟩
theorem q5_218 : (Jvm.Cond.code ({ cls := "BeesStingModel", name := "addOne", desc := "(III)I" } : Jvm.MethodName) prog_14_method_10_code (4 : Nat) (Option.some Jvm.ClassFile.FieldType.int)) ∈ gw := List.mem_filter.mpr ⟨mt5 _ (List.mem_of_getElem? (i := 218) rfl), rfl⟩
theorem q5_219 : (Jvm.Cond.methodLink "BeesStingLaw" (22 : Nat) ({ cls := "BeesStingModel", name := "people", desc := "(III)I" } : Jvm.MethodName)) ∈ gw := List.mem_filter.mpr ⟨mt5 _ (List.mem_of_getElem? (i := 219) rfl), rfl⟩
theorem q5_220 : (Jvm.Cond.instanceMethod ({ cls := "BeesStingModel", name := "people", desc := "(III)I" } : Jvm.MethodName)) ∈ gw := List.mem_filter.mpr ⟨mt5 _ (List.mem_of_getElem? (i := 220) rfl), rfl⟩
theorem q5_221 : (Jvm.Cond.selects "BeesStingModel" ({ cls := "BeesStingModel", name := "people", desc := "(III)I" } : Jvm.MethodName) ({ cls := "BeesStingModel", name := "people", desc := "(III)I" } : Jvm.MethodName)) ∈ gw := List.mem_filter.mpr ⟨mt5 _ (List.mem_of_getElem? (i := 221) rfl), rfl⟩
theorem q5_222 : (Jvm.Cond.code ({ cls := "BeesStingModel", name := "people", desc := "(III)I" } : Jvm.MethodName) prog_14_method_12_code (8 : Nat) (Option.some Jvm.ClassFile.FieldType.int)) ∈ gw := List.mem_filter.mpr ⟨mt5 _ (List.mem_of_getElem? (i := 222) rfl), rfl⟩
theorem q5_223 : (Jvm.Cond.methodLink "BeesStingModel" (141 : Nat) ({ cls := "BeesStingModel", name := "isShelf", desc := "(I)Z" } : Jvm.MethodName)) ∈ gw := List.mem_filter.mpr ⟨mt5 _ (List.mem_of_getElem? (i := 223) rfl), rfl⟩
theorem q5_224 : (Jvm.Cond.static ({ cls := "BeesStingModel", name := "isShelf", desc := "(I)Z" } : Jvm.MethodName)) ∈ gw := List.mem_filter.mpr ⟨mt5 _ (List.mem_of_getElem? (i := 224) rfl), rfl⟩
theorem q5_225 : (Jvm.Cond.code ({ cls := "BeesStingModel", name := "isShelf", desc := "(I)Z" } : Jvm.MethodName) prog_14_method_99_code (1 : Nat) (Option.some Jvm.ClassFile.FieldType.boolean)) ∈ gw := List.mem_filter.mpr ⟨mt5 _ (List.mem_of_getElem? (i := 225) rfl), rfl⟩
theorem q5_226 : (Jvm.Cond.constantLong "BeesStingModel" (144 : Nat) (2 : Int64)) ∈ gw := List.mem_filter.mpr ⟨mt5 _ (List.mem_of_getElem? (i := 226) rfl), rfl⟩
theorem q5_227 : (Jvm.Cond.methodLink "BeesStingLaw" (121 : Nat) ({ cls := "BeesStingModel", name := "undo", desc := "()I" } : Jvm.MethodName)) ∈ gw := List.mem_filter.mpr ⟨mt5 _ (List.mem_of_getElem? (i := 227) rfl), rfl⟩
theorem q5_228 : (Jvm.Cond.instanceMethod ({ cls := "BeesStingModel", name := "undo", desc := "()I" } : Jvm.MethodName)) ∈ gw := List.mem_filter.mpr ⟨mt5 _ (List.mem_of_getElem? (i := 228) rfl), rfl⟩
theorem q5_229 : (Jvm.Cond.selects "BeesStingModel" ({ cls := "BeesStingModel", name := "undo", desc := "()I" } : Jvm.MethodName) ({ cls := "BeesStingModel", name := "undo", desc := "()I" } : Jvm.MethodName)) ∈ gw := List.mem_filter.mpr ⟨mt5 _ (List.mem_of_getElem? (i := 229) rfl), rfl⟩
theorem q5_230 : (Jvm.Cond.code ({ cls := "BeesStingModel", name := "undo", desc := "()I" } : Jvm.MethodName) prog_14_method_16_code (1 : Nat) (Option.some Jvm.ClassFile.FieldType.int)) ∈ gw := List.mem_filter.mpr ⟨mt5 _ (List.mem_of_getElem? (i := 230) rfl), rfl⟩
theorem q5_231 : (Jvm.Cond.methodLink "BeesStingModel" (155 : Nat) ({ cls := "BeesStingModel", name := "lays", desc := "(III)V" } : Jvm.MethodName)) ∈ gw := List.mem_filter.mpr ⟨mt5 _ (List.mem_of_getElem? (i := 231) rfl), rfl⟩
theorem q5_232 : (Jvm.Cond.privateMethod ({ cls := "BeesStingModel", name := "lays", desc := "(III)V" } : Jvm.MethodName)) ∈ lw_tbl := mt5 _ (List.mem_of_getElem? (i := 232) rfl)
theorem q5_233 : (Jvm.Cond.instanceMethod ({ cls := "BeesStingModel", name := "lays", desc := "(III)V" } : Jvm.MethodName)) ∈ gw := List.mem_filter.mpr ⟨mt5 _ (List.mem_of_getElem? (i := 233) rfl), rfl⟩
theorem q5_234 : (Jvm.Cond.code ({ cls := "BeesStingModel", name := "lays", desc := "(III)V" } : Jvm.MethodName) prog_14_method_14_code (4 : Nat) (Option.none : Option Jvm.ClassFile.FieldType)) ∈ gw := List.mem_filter.mpr ⟨mt5 _ (List.mem_of_getElem? (i := 234) rfl), rfl⟩
theorem q5_235 : (Jvm.Cond.methodLink "BeesStingLaw" (125 : Nat) ({ cls := "BeesStingModel", name := "redo", desc := "()I" } : Jvm.MethodName)) ∈ gw := List.mem_filter.mpr ⟨mt5 _ (List.mem_of_getElem? (i := 235) rfl), rfl⟩
theorem q5_236 : (Jvm.Cond.instanceMethod ({ cls := "BeesStingModel", name := "redo", desc := "()I" } : Jvm.MethodName)) ∈ gw := List.mem_filter.mpr ⟨mt5 _ (List.mem_of_getElem? (i := 236) rfl), rfl⟩
theorem q5_237 : (Jvm.Cond.selects "BeesStingModel" ({ cls := "BeesStingModel", name := "redo", desc := "()I" } : Jvm.MethodName) ({ cls := "BeesStingModel", name := "redo", desc := "()I" } : Jvm.MethodName)) ∈ gw := List.mem_filter.mpr ⟨mt5 _ (List.mem_of_getElem? (i := 237) rfl), rfl⟩
theorem q5_238 : (Jvm.Cond.code ({ cls := "BeesStingModel", name := "redo", desc := "()I" } : Jvm.MethodName) prog_14_method_17_code (1 : Nat) (Option.some Jvm.ClassFile.FieldType.int)) ∈ gw := List.mem_filter.mpr ⟨mt5 _ (List.mem_of_getElem? (i := 238) rfl), rfl⟩
theorem q5_239 : (Jvm.Cond.methodLink "BeesStingLaw" (26 : Nat) ({ cls := "BeesStingModel", name := "mend", desc := "(III)I" } : Jvm.MethodName)) ∈ gw := List.mem_filter.mpr ⟨mt5 _ (List.mem_of_getElem? (i := 239) rfl), rfl⟩
theorem q6_0 : (Jvm.Cond.instanceMethod ({ cls := "BeesStingModel", name := "mend", desc := "(III)I" } : Jvm.MethodName)) ∈ gw := List.mem_filter.mpr ⟨mt6 _ (List.mem_of_getElem? (i := 0) rfl), rfl⟩
theorem q6_1 : (Jvm.Cond.selects "BeesStingModel" ({ cls := "BeesStingModel", name := "mend", desc := "(III)I" } : Jvm.MethodName) ({ cls := "BeesStingModel", name := "mend", desc := "(III)I" } : Jvm.MethodName)) ∈ gw := List.mem_filter.mpr ⟨mt6 _ (List.mem_of_getElem? (i := 1) rfl), rfl⟩
theorem q6_2 : (Jvm.Cond.code ({ cls := "BeesStingModel", name := "mend", desc := "(III)I" } : Jvm.MethodName) prog_14_method_20_code (4 : Nat) (Option.some Jvm.ClassFile.FieldType.int)) ∈ gw := List.mem_filter.mpr ⟨mt6 _ (List.mem_of_getElem? (i := 2) rfl), rfl⟩
theorem q6_3 : (Jvm.Cond.methodLink "BeesStingModel" (159 : Nat) ({ cls := "BeesStingModel", name := "isPlace", desc := "(II)Z" } : Jvm.MethodName)) ∈ gw := List.mem_filter.mpr ⟨mt6 _ (List.mem_of_getElem? (i := 3) rfl), rfl⟩
theorem q6_4 : (Jvm.Cond.privateMethod ({ cls := "BeesStingModel", name := "isPlace", desc := "(II)Z" } : Jvm.MethodName)) ∈ lw_tbl := mt6 _ (List.mem_of_getElem? (i := 4) rfl)
theorem q6_5 : (Jvm.Cond.instanceMethod ({ cls := "BeesStingModel", name := "isPlace", desc := "(II)Z" } : Jvm.MethodName)) ∈ gw := List.mem_filter.mpr ⟨mt6 _ (List.mem_of_getElem? (i := 5) rfl), rfl⟩
theorem q6_6 : (Jvm.Cond.code ({ cls := "BeesStingModel", name := "isPlace", desc := "(II)Z" } : Jvm.MethodName) prog_14_method_18_code (3 : Nat) (Option.some Jvm.ClassFile.FieldType.boolean)) ∈ gw := List.mem_filter.mpr ⟨mt6 _ (List.mem_of_getElem? (i := 6) rfl), rfl⟩
theorem q6_7 : (Jvm.Cond.methodLink "BeesStingModel" (130 : Nat) ({ cls := "BeesStingModel", name := "isOne", desc := "(I)Z" } : Jvm.MethodName)) ∈ gw := List.mem_filter.mpr ⟨mt6 _ (List.mem_of_getElem? (i := 7) rfl), rfl⟩
theorem q6_8 : (Jvm.Cond.privateMethod ({ cls := "BeesStingModel", name := "isOne", desc := "(I)Z" } : Jvm.MethodName)) ∈ lw_tbl := mt6 _ (List.mem_of_getElem? (i := 8) rfl)
theorem q6_9 : (Jvm.Cond.instanceMethod ({ cls := "BeesStingModel", name := "isOne", desc := "(I)Z" } : Jvm.MethodName)) ∈ gw := List.mem_filter.mpr ⟨mt6 _ (List.mem_of_getElem? (i := 9) rfl), rfl⟩
theorem q6_10 : (Jvm.Cond.code ({ cls := "BeesStingModel", name := "isOne", desc := "(I)Z" } : Jvm.MethodName) prog_14_method_7_code (2 : Nat) (Option.some Jvm.ClassFile.FieldType.boolean)) ∈ gw := List.mem_filter.mpr ⟨mt6 _ (List.mem_of_getElem? (i := 10) rfl), rfl⟩
theorem q6_11 : (Jvm.Cond.methodLink "BeesStingModel" (163 : Nat) ({ cls := "BeesStingModel", name := "mayHave", desc := "(II)Z" } : Jvm.MethodName)) ∈ gw := List.mem_filter.mpr ⟨mt6 _ (List.mem_of_getElem? (i := 11) rfl), rfl⟩
theorem q6_12 : (Jvm.Cond.static ({ cls := "BeesStingModel", name := "mayHave", desc := "(II)Z" } : Jvm.MethodName)) ∈ gw := List.mem_filter.mpr ⟨mt6 _ (List.mem_of_getElem? (i := 12) rfl), rfl⟩
theorem q6_13 : (Jvm.Cond.code ({ cls := "BeesStingModel", name := "mayHave", desc := "(II)Z" } : Jvm.MethodName) prog_14_method_19_code (2 : Nat) (Option.some Jvm.ClassFile.FieldType.boolean)) ∈ gw := List.mem_filter.mpr ⟨mt6 _ (List.mem_of_getElem? (i := 13) rfl), rfl⟩
theorem q6_14 : (Jvm.Cond.methodLink "BeesStingModel" (166 : Nat) ({ cls := "BeesStingModel", name := "changes", desc := "(III)I" } : Jvm.MethodName)) ∈ gw := List.mem_filter.mpr ⟨mt6 _ (List.mem_of_getElem? (i := 14) rfl), rfl⟩
theorem q6_15 : (Jvm.Cond.privateMethod ({ cls := "BeesStingModel", name := "changes", desc := "(III)I" } : Jvm.MethodName)) ∈ lw_tbl := mt6 _ (List.mem_of_getElem? (i := 15) rfl)
theorem q6_16 : (Jvm.Cond.instanceMethod ({ cls := "BeesStingModel", name := "changes", desc := "(III)I" } : Jvm.MethodName)) ∈ gw := List.mem_filter.mpr ⟨mt6 _ (List.mem_of_getElem? (i := 16) rfl), rfl⟩
theorem q6_17 : (Jvm.Cond.code ({ cls := "BeesStingModel", name := "changes", desc := "(III)I" } : Jvm.MethodName) prog_14_method_15_code (6 : Nat) (Option.some Jvm.ClassFile.FieldType.int)) ∈ gw := List.mem_filter.mpr ⟨mt6 _ (List.mem_of_getElem? (i := 17) rfl), rfl⟩
theorem q6_18 : (Jvm.Cond.methodLink "BeesStingModel" (146 : Nat) ({ cls := "BeesStingModel", name := "valueAt", desc := "(II)I" } : Jvm.MethodName)) ∈ gw := List.mem_filter.mpr ⟨mt6 _ (List.mem_of_getElem? (i := 18) rfl), rfl⟩
theorem q6_19 : (Jvm.Cond.privateMethod ({ cls := "BeesStingModel", name := "valueAt", desc := "(II)I" } : Jvm.MethodName)) ∈ lw_tbl := mt6 _ (List.mem_of_getElem? (i := 19) rfl)
theorem q6_20 : (Jvm.Cond.instanceMethod ({ cls := "BeesStingModel", name := "valueAt", desc := "(II)I" } : Jvm.MethodName)) ∈ gw := List.mem_filter.mpr ⟨mt6 _ (List.mem_of_getElem? (i := 20) rfl), rfl⟩
theorem q6_21 : (Jvm.Cond.code ({ cls := "BeesStingModel", name := "valueAt", desc := "(II)I" } : Jvm.MethodName) prog_14_method_13_code (3 : Nat) (Option.some Jvm.ClassFile.FieldType.int)) ∈ gw := List.mem_filter.mpr ⟨mt6 _ (List.mem_of_getElem? (i := 21) rfl), rfl⟩
theorem q6_22 : (Jvm.Cond.methodLink "BeesStingLaw" (31 : Nat) ({ cls := "BeesStingModel", name := "of", desc := "(II)I" } : Jvm.MethodName)) ∈ gw := List.mem_filter.mpr ⟨mt6 _ (List.mem_of_getElem? (i := 22) rfl), rfl⟩
theorem q6_23 : (Jvm.Cond.instanceMethod ({ cls := "BeesStingModel", name := "of", desc := "(II)I" } : Jvm.MethodName)) ∈ gw := List.mem_filter.mpr ⟨mt6 _ (List.mem_of_getElem? (i := 23) rfl), rfl⟩
theorem q6_24 : (Jvm.Cond.selects "BeesStingModel" ({ cls := "BeesStingModel", name := "of", desc := "(II)I" } : Jvm.MethodName) ({ cls := "BeesStingModel", name := "of", desc := "(II)I" } : Jvm.MethodName)) ∈ gw := List.mem_filter.mpr ⟨mt6 _ (List.mem_of_getElem? (i := 24) rfl), rfl⟩
theorem q6_25 : (Jvm.Cond.code ({ cls := "BeesStingModel", name := "of", desc := "(II)I" } : Jvm.MethodName) prog_14_method_21_code (3 : Nat) (Option.some Jvm.ClassFile.FieldType.int)) ∈ gw := List.mem_filter.mpr ⟨mt6 _ (List.mem_of_getElem? (i := 25) rfl), rfl⟩
theorem q6_26 : (Jvm.Cond.methodLink "BeesStingLaw" (35 : Nat) ({ cls := "BeesStingModel", name := "feed", desc := "(I)I" } : Jvm.MethodName)) ∈ gw := List.mem_filter.mpr ⟨mt6 _ (List.mem_of_getElem? (i := 26) rfl), rfl⟩
theorem q6_27 : (Jvm.Cond.instanceMethod ({ cls := "BeesStingModel", name := "feed", desc := "(I)I" } : Jvm.MethodName)) ∈ gw := List.mem_filter.mpr ⟨mt6 _ (List.mem_of_getElem? (i := 27) rfl), rfl⟩
theorem q6_28 : (Jvm.Cond.selects "BeesStingModel" ({ cls := "BeesStingModel", name := "feed", desc := "(I)I" } : Jvm.MethodName) ({ cls := "BeesStingModel", name := "feed", desc := "(I)I" } : Jvm.MethodName)) ∈ gw := List.mem_filter.mpr ⟨mt6 _ (List.mem_of_getElem? (i := 28) rfl), rfl⟩
theorem q6_29 : (Jvm.Cond.code ({ cls := "BeesStingModel", name := "feed", desc := "(I)I" } : Jvm.MethodName) prog_14_method_22_code (2 : Nat) (Option.some Jvm.ClassFile.FieldType.int)) ∈ gw := List.mem_filter.mpr ⟨mt6 _ (List.mem_of_getElem? (i := 29) rfl), rfl⟩
theorem q6_30 : (Jvm.Cond.methodLink "BeesStingLaw" (40 : Nat) ({ cls := "BeesStingModel", name := "law", desc := "()I" } : Jvm.MethodName)) ∈ gw := List.mem_filter.mpr ⟨mt6 _ (List.mem_of_getElem? (i := 30) rfl), rfl⟩
theorem q6_31 : (Jvm.Cond.instanceMethod ({ cls := "BeesStingModel", name := "law", desc := "()I" } : Jvm.MethodName)) ∈ gw := List.mem_filter.mpr ⟨mt6 _ (List.mem_of_getElem? (i := 31) rfl), rfl⟩
theorem q6_32 : (Jvm.Cond.selects "BeesStingModel" ({ cls := "BeesStingModel", name := "law", desc := "()I" } : Jvm.MethodName) ({ cls := "BeesStingModel", name := "law", desc := "()I" } : Jvm.MethodName)) ∈ gw := List.mem_filter.mpr ⟨mt6 _ (List.mem_of_getElem? (i := 32) rfl), rfl⟩
theorem q6_33 : (Jvm.Cond.code ({ cls := "BeesStingModel", name := "law", desc := "()I" } : Jvm.MethodName) prog_14_method_40_code (2 : Nat) (Option.some Jvm.ClassFile.FieldType.int)) ∈ gw := List.mem_filter.mpr ⟨mt6 _ (List.mem_of_getElem? (i := 33) rfl), rfl⟩
theorem q6_34 : (Jvm.Cond.methodLink "BeesStingModel" (233 : Nat) ({ cls := "BeesStingModel", name := "readText", desc := "(I)I" } : Jvm.MethodName)) ∈ gw := List.mem_filter.mpr ⟨mt6 _ (List.mem_of_getElem? (i := 34) rfl), rfl⟩
theorem q6_35 : (Jvm.Cond.privateMethod ({ cls := "BeesStingModel", name := "readText", desc := "(I)I" } : Jvm.MethodName)) ∈ lw_tbl := mt6 _ (List.mem_of_getElem? (i := 35) rfl)
theorem q6_36 : (Jvm.Cond.instanceMethod ({ cls := "BeesStingModel", name := "readText", desc := "(I)I" } : Jvm.MethodName)) ∈ gw := List.mem_filter.mpr ⟨mt6 _ (List.mem_of_getElem? (i := 36) rfl), rfl⟩
theorem q6_37 : (Jvm.Cond.code ({ cls := "BeesStingModel", name := "readText", desc := "(I)I" } : Jvm.MethodName) prog_14_method_36_code (3 : Nat) (Option.some Jvm.ClassFile.FieldType.int)) ∈ gw := List.mem_filter.mpr ⟨mt6 _ (List.mem_of_getElem? (i := 37) rfl), rfl⟩
theorem q6_38 : (Jvm.Cond.methodLink "BeesStingModel" (224 : Nat) ({ cls := "BeesStingModel", name := "line", desc := "()V" } : Jvm.MethodName)) ∈ gw := List.mem_filter.mpr ⟨mt6 _ (List.mem_of_getElem? (i := 38) rfl), rfl⟩
theorem q6_39 : (Jvm.Cond.privateMethod ({ cls := "BeesStingModel", name := "line", desc := "()V" } : Jvm.MethodName)) ∈ lw_tbl := mt6 _ (List.mem_of_getElem? (i := 39) rfl)
theorem q6_40 : (Jvm.Cond.instanceMethod ({ cls := "BeesStingModel", name := "line", desc := "()V" } : Jvm.MethodName)) ∈ gw := List.mem_filter.mpr ⟨mt6 _ (List.mem_of_getElem? (i := 40) rfl), rfl⟩
theorem q6_41 : (Jvm.Cond.code ({ cls := "BeesStingModel", name := "line", desc := "()V" } : Jvm.MethodName) prog_14_method_35_code (2 : Nat) (Option.none : Option Jvm.ClassFile.FieldType)) ∈ gw := List.mem_filter.mpr ⟨mt6 _ (List.mem_of_getElem? (i := 41) rfl), rfl⟩
theorem q6_42 : (Jvm.Cond.methodLink "BeesStingModel" (206 : Nat) ({ cls := "BeesStingModel", name := "either", desc := "()V" } : Jvm.MethodName)) ∈ gw := List.mem_filter.mpr ⟨mt6 _ (List.mem_of_getElem? (i := 42) rfl), rfl⟩
theorem q6_43 : (Jvm.Cond.privateMethod ({ cls := "BeesStingModel", name := "either", desc := "()V" } : Jvm.MethodName)) ∈ lw_tbl := mt6 _ (List.mem_of_getElem? (i := 43) rfl)
theorem q6_44 : (Jvm.Cond.instanceMethod ({ cls := "BeesStingModel", name := "either", desc := "()V" } : Jvm.MethodName)) ∈ gw := List.mem_filter.mpr ⟨mt6 _ (List.mem_of_getElem? (i := 44) rfl), rfl⟩
theorem q6_45 : (Jvm.Cond.code ({ cls := "BeesStingModel", name := "either", desc := "()V" } : Jvm.MethodName) prog_14_method_34_code (1 : Nat) (Option.none : Option Jvm.ClassFile.FieldType)) ∈ gw := List.mem_filter.mpr ⟨mt6 _ (List.mem_of_getElem? (i := 45) rfl), rfl⟩
theorem q6_46 : (Jvm.Cond.methodLink "BeesStingModel" (221 : Nat) ({ cls := "BeesStingModel", name := "both", desc := "()V" } : Jvm.MethodName)) ∈ gw := List.mem_filter.mpr ⟨mt6 _ (List.mem_of_getElem? (i := 46) rfl), rfl⟩
theorem q6_47 : (Jvm.Cond.privateMethod ({ cls := "BeesStingModel", name := "both", desc := "()V" } : Jvm.MethodName)) ∈ lw_tbl := mt6 _ (List.mem_of_getElem? (i := 47) rfl)
theorem q6_48 : (Jvm.Cond.instanceMethod ({ cls := "BeesStingModel", name := "both", desc := "()V" } : Jvm.MethodName)) ∈ gw := List.mem_filter.mpr ⟨mt6 _ (List.mem_of_getElem? (i := 48) rfl), rfl⟩
theorem q6_49 : (Jvm.Cond.code ({ cls := "BeesStingModel", name := "both", desc := "()V" } : Jvm.MethodName) prog_14_method_33_code (1 : Nat) (Option.none : Option Jvm.ClassFile.FieldType)) ∈ gw := List.mem_filter.mpr ⟨mt6 _ (List.mem_of_getElem? (i := 49) rfl), rfl⟩
theorem q6_50 : (Jvm.Cond.methodLink "BeesStingModel" (218 : Nat) ({ cls := "BeesStingModel", name := "compared", desc := "()V" } : Jvm.MethodName)) ∈ gw := List.mem_filter.mpr ⟨mt6 _ (List.mem_of_getElem? (i := 50) rfl), rfl⟩
theorem q6_51 : (Jvm.Cond.privateMethod ({ cls := "BeesStingModel", name := "compared", desc := "()V" } : Jvm.MethodName)) ∈ lw_tbl := mt6 _ (List.mem_of_getElem? (i := 51) rfl)
theorem q6_52 : (Jvm.Cond.instanceMethod ({ cls := "BeesStingModel", name := "compared", desc := "()V" } : Jvm.MethodName)) ∈ gw := List.mem_filter.mpr ⟨mt6 _ (List.mem_of_getElem? (i := 52) rfl), rfl⟩
theorem q6_53 : (Jvm.Cond.code ({ cls := "BeesStingModel", name := "compared", desc := "()V" } : Jvm.MethodName) prog_14_method_32_code (2 : Nat) (Option.none : Option Jvm.ClassFile.FieldType)) ∈ gw := List.mem_filter.mpr ⟨mt6 _ (List.mem_of_getElem? (i := 53) rfl), rfl⟩
theorem q6_54 : (Jvm.Cond.methodLink "BeesStingModel" (215 : Nat) ({ cls := "BeesStingModel", name := "sum", desc := "()V" } : Jvm.MethodName)) ∈ gw := List.mem_filter.mpr ⟨mt6 _ (List.mem_of_getElem? (i := 54) rfl), rfl⟩
theorem q6_55 : (Jvm.Cond.privateMethod ({ cls := "BeesStingModel", name := "sum", desc := "()V" } : Jvm.MethodName)) ∈ lw_tbl := mt6 _ (List.mem_of_getElem? (i := 55) rfl)
theorem q6_56 : (Jvm.Cond.instanceMethod ({ cls := "BeesStingModel", name := "sum", desc := "()V" } : Jvm.MethodName)) ∈ gw := List.mem_filter.mpr ⟨mt6 _ (List.mem_of_getElem? (i := 56) rfl), rfl⟩
theorem q6_57 : (Jvm.Cond.code ({ cls := "BeesStingModel", name := "sum", desc := "()V" } : Jvm.MethodName) prog_14_method_31_code (2 : Nat) (Option.none : Option Jvm.ClassFile.FieldType)) ∈ gw := List.mem_filter.mpr ⟨mt6 _ (List.mem_of_getElem? (i := 57) rfl), rfl⟩
theorem q6_58 : (Jvm.Cond.methodLink "BeesStingModel" (212 : Nat) ({ cls := "BeesStingModel", name := "product", desc := "()V" } : Jvm.MethodName)) ∈ gw := List.mem_filter.mpr ⟨mt6 _ (List.mem_of_getElem? (i := 58) rfl), rfl⟩
theorem q6_59 : (Jvm.Cond.privateMethod ({ cls := "BeesStingModel", name := "product", desc := "()V" } : Jvm.MethodName)) ∈ lw_tbl := mt6 _ (List.mem_of_getElem? (i := 59) rfl)
theorem q6_60 : (Jvm.Cond.instanceMethod ({ cls := "BeesStingModel", name := "product", desc := "()V" } : Jvm.MethodName)) ∈ gw := List.mem_filter.mpr ⟨mt6 _ (List.mem_of_getElem? (i := 60) rfl), rfl⟩
theorem q6_61 : (Jvm.Cond.code ({ cls := "BeesStingModel", name := "product", desc := "()V" } : Jvm.MethodName) prog_14_method_30_code (2 : Nat) (Option.none : Option Jvm.ClassFile.FieldType)) ∈ gw := List.mem_filter.mpr ⟨mt6 _ (List.mem_of_getElem? (i := 61) rfl), rfl⟩
theorem q6_62 : (Jvm.Cond.methodLink "BeesStingModel" (203 : Nat) ({ cls := "BeesStingModel", name := "operand", desc := "()V" } : Jvm.MethodName)) ∈ gw := List.mem_filter.mpr ⟨mt6 _ (List.mem_of_getElem? (i := 62) rfl), rfl⟩
theorem q6_63 : (Jvm.Cond.privateMethod ({ cls := "BeesStingModel", name := "operand", desc := "()V" } : Jvm.MethodName)) ∈ lw_tbl := mt6 _ (List.mem_of_getElem? (i := 63) rfl)
theorem q6_64 : (Jvm.Cond.instanceMethod ({ cls := "BeesStingModel", name := "operand", desc := "()V" } : Jvm.MethodName)) ∈ gw := List.mem_filter.mpr ⟨mt6 _ (List.mem_of_getElem? (i := 64) rfl), rfl⟩
theorem q6_65 : (Jvm.Cond.code ({ cls := "BeesStingModel", name := "operand", desc := "()V" } : Jvm.MethodName) prog_14_method_29_code (2 : Nat) (Option.none : Option Jvm.ClassFile.FieldType)) ∈ gw := List.mem_filter.mpr ⟨mt6 _ (List.mem_of_getElem? (i := 65) rfl), rfl⟩
theorem q6_66 : (Jvm.Cond.methodLink "BeesStingModel" (187 : Nat) ({ cls := "BeesStingModel", name := "look", desc := "()I" } : Jvm.MethodName)) ∈ gw := List.mem_filter.mpr ⟨mt6 _ (List.mem_of_getElem? (i := 66) rfl), rfl⟩
theorem q6_67 : (Jvm.Cond.privateMethod ({ cls := "BeesStingModel", name := "look", desc := "()I" } : Jvm.MethodName)) ∈ lw_tbl := mt6 _ (List.mem_of_getElem? (i := 67) rfl)
theorem q6_68 : (Jvm.Cond.instanceMethod ({ cls := "BeesStingModel", name := "look", desc := "()I" } : Jvm.MethodName)) ∈ gw := List.mem_filter.mpr ⟨mt6 _ (List.mem_of_getElem? (i := 68) rfl), rfl⟩
theorem q6_69 : (Jvm.Cond.code ({ cls := "BeesStingModel", name := "look", desc := "()I" } : Jvm.MethodName) prog_14_method_23_code (1 : Nat) (Option.some Jvm.ClassFile.FieldType.int)) ∈ gw := List.mem_filter.mpr ⟨mt6 _ (List.mem_of_getElem? (i := 69) rfl), rfl⟩
theorem q6_70 : (Jvm.Cond.methodLink "BeesStingModel" (195 : Nat) ({ cls := "BeesStingModel", name := "nameOf", desc := "(I)I" } : Jvm.MethodName)) ∈ gw := List.mem_filter.mpr ⟨mt6 _ (List.mem_of_getElem? (i := 70) rfl), rfl⟩
theorem q6_71 : (Jvm.Cond.static ({ cls := "BeesStingModel", name := "nameOf", desc := "(I)I" } : Jvm.MethodName)) ∈ gw := List.mem_filter.mpr ⟨mt6 _ (List.mem_of_getElem? (i := 71) rfl), rfl⟩
theorem q6_72 : (Jvm.Cond.code ({ cls := "BeesStingModel", name := "nameOf", desc := "(I)I" } : Jvm.MethodName) prog_14_method_26_code (1 : Nat) (Option.some Jvm.ClassFile.FieldType.int)) ∈ gw := List.mem_filter.mpr ⟨mt6 _ (List.mem_of_getElem? (i := 72) rfl), rfl⟩
theorem q6_73 : (Jvm.Cond.methodLink "BeesStingModel" (191 : Nat) ({ cls := "BeesStingModel", name := "addStep", desc := "(II)V" } : Jvm.MethodName)) ∈ gw := List.mem_filter.mpr ⟨mt6 _ (List.mem_of_getElem? (i := 73) rfl), rfl⟩
theorem q6_74 : (Jvm.Cond.privateMethod ({ cls := "BeesStingModel", name := "addStep", desc := "(II)V" } : Jvm.MethodName)) ∈ lw_tbl := mt6 _ (List.mem_of_getElem? (i := 74) rfl)
theorem q6_75 : (Jvm.Cond.instanceMethod ({ cls := "BeesStingModel", name := "addStep", desc := "(II)V" } : Jvm.MethodName)) ∈ gw := List.mem_filter.mpr ⟨mt6 _ (List.mem_of_getElem? (i := 75) rfl), rfl⟩
theorem q6_76 : (Jvm.Cond.code ({ cls := "BeesStingModel", name := "addStep", desc := "(II)V" } : Jvm.MethodName) prog_14_method_25_code (3 : Nat) (Option.none : Option Jvm.ClassFile.FieldType)) ∈ gw := List.mem_filter.mpr ⟨mt6 _ (List.mem_of_getElem? (i := 76) rfl), rfl⟩
theorem q6_77 : (Jvm.Cond.methodLink "BeesStingModel" (199 : Nat) ({ cls := "BeesStingModel", name := "opens", desc := "()Z" } : Jvm.MethodName)) ∈ gw := List.mem_filter.mpr ⟨mt6 _ (List.mem_of_getElem? (i := 77) rfl), rfl⟩
theorem q6_78 : (Jvm.Cond.privateMethod ({ cls := "BeesStingModel", name := "opens", desc := "()Z" } : Jvm.MethodName)) ∈ lw_tbl := mt6 _ (List.mem_of_getElem? (i := 78) rfl)
theorem q6_79 : (Jvm.Cond.instanceMethod ({ cls := "BeesStingModel", name := "opens", desc := "()Z" } : Jvm.MethodName)) ∈ gw := List.mem_filter.mpr ⟨mt6 _ (List.mem_of_getElem? (i := 79) rfl), rfl⟩
theorem q6_80 : (Jvm.Cond.code ({ cls := "BeesStingModel", name := "opens", desc := "()Z" } : Jvm.MethodName) prog_14_method_27_code (1 : Nat) (Option.some Jvm.ClassFile.FieldType.boolean)) ∈ gw := List.mem_filter.mpr ⟨mt6 _ (List.mem_of_getElem? (i := 80) rfl), rfl⟩
theorem q6_81 : (Jvm.Cond.methodLink "BeesStingModel" (184 : Nat) ({ cls := "BeesStingModel", name := "wrong", desc := "()V" } : Jvm.MethodName)) ∈ gw := List.mem_filter.mpr ⟨mt6 _ (List.mem_of_getElem? (i := 81) rfl), rfl⟩
theorem q6_82 : (Jvm.Cond.privateMethod ({ cls := "BeesStingModel", name := "wrong", desc := "()V" } : Jvm.MethodName)) ∈ lw_tbl := mt6 _ (List.mem_of_getElem? (i := 82) rfl)
theorem q6_83 : (Jvm.Cond.instanceMethod ({ cls := "BeesStingModel", name := "wrong", desc := "()V" } : Jvm.MethodName)) ∈ gw := List.mem_filter.mpr ⟨mt6 _ (List.mem_of_getElem? (i := 83) rfl), rfl⟩
theorem q6_84 : (Jvm.Cond.code ({ cls := "BeesStingModel", name := "wrong", desc := "()V" } : Jvm.MethodName) prog_14_method_24_code (1 : Nat) (Option.none : Option Jvm.ClassFile.FieldType)) ∈ gw := List.mem_filter.mpr ⟨mt6 _ (List.mem_of_getElem? (i := 84) rfl), rfl⟩
theorem q6_85 : (Jvm.Cond.methodLink "BeesStingModel" (209 : Nat) ({ cls := "BeesStingModel", name := "figure", desc := "()V" } : Jvm.MethodName)) ∈ gw := List.mem_filter.mpr ⟨mt6 _ (List.mem_of_getElem? (i := 85) rfl), rfl⟩
theorem q6_86 : (Jvm.Cond.privateMethod ({ cls := "BeesStingModel", name := "figure", desc := "()V" } : Jvm.MethodName)) ∈ lw_tbl := mt6 _ (List.mem_of_getElem? (i := 86) rfl)
theorem q6_87 : (Jvm.Cond.instanceMethod ({ cls := "BeesStingModel", name := "figure", desc := "()V" } : Jvm.MethodName)) ∈ gw := List.mem_filter.mpr ⟨mt6 _ (List.mem_of_getElem? (i := 87) rfl), rfl⟩
theorem q6_88 : (Jvm.Cond.code ({ cls := "BeesStingModel", name := "figure", desc := "()V" } : Jvm.MethodName) prog_14_method_28_code (3 : Nat) (Option.none : Option Jvm.ClassFile.FieldType)) ∈ gw := List.mem_filter.mpr ⟨mt6 _ (List.mem_of_getElem? (i := 88) rfl), rfl⟩
theorem q6_89 : (Jvm.Cond.methodLink "BeesStingLaw" (44 : Nat) ({ cls := "BeesStingModel", name := "loud", desc := "(I)I" } : Jvm.MethodName)) ∈ gw := List.mem_filter.mpr ⟨mt6 _ (List.mem_of_getElem? (i := 89) rfl), rfl⟩
theorem q6_90 : (Jvm.Cond.instanceMethod ({ cls := "BeesStingModel", name := "loud", desc := "(I)I" } : Jvm.MethodName)) ∈ gw := List.mem_filter.mpr ⟨mt6 _ (List.mem_of_getElem? (i := 90) rfl), rfl⟩
theorem q6_91 : (Jvm.Cond.selects "BeesStingModel" ({ cls := "BeesStingModel", name := "loud", desc := "(I)I" } : Jvm.MethodName) ({ cls := "BeesStingModel", name := "loud", desc := "(I)I" } : Jvm.MethodName)) ∈ gw := List.mem_filter.mpr ⟨mt6 _ (List.mem_of_getElem? (i := 91) rfl), rfl⟩
theorem q6_92 : (Jvm.Cond.code ({ cls := "BeesStingModel", name := "loud", desc := "(I)I" } : Jvm.MethodName) prog_14_method_47_code (2 : Nat) (Option.some Jvm.ClassFile.FieldType.int)) ∈ gw := List.mem_filter.mpr ⟨mt6 _ (List.mem_of_getElem? (i := 92) rfl), rfl⟩
theorem q6_93 : (Jvm.Cond.methodLink "BeesStingModel" (280 : Nat) ({ cls := "BeesStingModel", name := "layNow", desc := "(I)V" } : Jvm.MethodName)) ∈ gw := List.mem_filter.mpr ⟨mt6 _ (List.mem_of_getElem? (i := 93) rfl), rfl⟩
theorem q6_94 : (Jvm.Cond.privateMethod ({ cls := "BeesStingModel", name := "layNow", desc := "(I)V" } : Jvm.MethodName)) ∈ lw_tbl := mt6 _ (List.mem_of_getElem? (i := 94) rfl)
theorem q6_95 : (Jvm.Cond.instanceMethod ({ cls := "BeesStingModel", name := "layNow", desc := "(I)V" } : Jvm.MethodName)) ∈ gw := List.mem_filter.mpr ⟨mt6 _ (List.mem_of_getElem? (i := 95) rfl), rfl⟩
theorem q6_96 : (Jvm.Cond.code ({ cls := "BeesStingModel", name := "layNow", desc := "(I)V" } : Jvm.MethodName) prog_14_method_41_code (3 : Nat) (Option.none : Option Jvm.ClassFile.FieldType)) ∈ gw := List.mem_filter.mpr ⟨mt6 _ (List.mem_of_getElem? (i := 96) rfl), rfl⟩
theorem q6_97 : (Jvm.Cond.methodLink "BeesStingModel" (273 : Nat) ({ cls := "BeesStingModel", name := "loudOf", desc := "(I)I" } : Jvm.MethodName)) ∈ gw := List.mem_filter.mpr ⟨mt6 _ (List.mem_of_getElem? (i := 97) rfl), rfl⟩
theorem q6_98 : (Jvm.Cond.privateMethod ({ cls := "BeesStingModel", name := "loudOf", desc := "(I)I" } : Jvm.MethodName)) ∈ lw_tbl := mt6 _ (List.mem_of_getElem? (i := 98) rfl)
theorem q6_99 : (Jvm.Cond.instanceMethod ({ cls := "BeesStingModel", name := "loudOf", desc := "(I)I" } : Jvm.MethodName)) ∈ gw := List.mem_filter.mpr ⟨mt6 _ (List.mem_of_getElem? (i := 99) rfl), rfl⟩
theorem q6_100 : (Jvm.Cond.code ({ cls := "BeesStingModel", name := "loudOf", desc := "(I)I" } : Jvm.MethodName) prog_14_method_43_code (3 : Nat) (Option.some Jvm.ClassFile.FieldType.int)) ∈ gw := List.mem_filter.mpr ⟨mt6 _ (List.mem_of_getElem? (i := 100) rfl), rfl⟩
theorem q6_101 : (Jvm.Cond.methodLink "BeesStingModel" (252 : Nat) ({ cls := "BeesStingModel", name := "far", desc := "(II)I" } : Jvm.MethodName)) ∈ gw := List.mem_filter.mpr ⟨mt6 _ (List.mem_of_getElem? (i := 101) rfl), rfl⟩
theorem q6_102 : (Jvm.Cond.static ({ cls := "BeesStingModel", name := "far", desc := "(II)I" } : Jvm.MethodName)) ∈ gw := List.mem_filter.mpr ⟨mt6 _ (List.mem_of_getElem? (i := 102) rfl), rfl⟩
theorem q6_103 : (Jvm.Cond.code ({ cls := "BeesStingModel", name := "far", desc := "(II)I" } : Jvm.MethodName) prog_14_method_5_code (2 : Nat) (Option.some Jvm.ClassFile.FieldType.int)) ∈ gw := List.mem_filter.mpr ⟨mt6 _ (List.mem_of_getElem? (i := 103) rfl), rfl⟩
theorem q6_104 : (Jvm.Cond.methodLink "BeesStingModel" (119 : Nat) ({ cls := "BeesStingModel", name := "apart", desc := "(II)I" } : Jvm.MethodName)) ∈ gw := List.mem_filter.mpr ⟨mt6 _ (List.mem_of_getElem? (i := 104) rfl), rfl⟩
theorem q6_105 : (Jvm.Cond.static ({ cls := "BeesStingModel", name := "apart", desc := "(II)I" } : Jvm.MethodName)) ∈ gw := List.mem_filter.mpr ⟨mt6 _ (List.mem_of_getElem? (i := 105) rfl), rfl⟩
theorem q6_106 : (Jvm.Cond.code ({ cls := "BeesStingModel", name := "apart", desc := "(II)I" } : Jvm.MethodName) prog_14_method_4_code (2 : Nat) (Option.some Jvm.ClassFile.FieldType.int)) ∈ gw := List.mem_filter.mpr ⟨mt6 _ (List.mem_of_getElem? (i := 106) rfl), rfl⟩
theorem q6_107 : (Jvm.Cond.methodLink "BeesStingModel" (255 : Nat) ({ cls := "BeesStingModel", name := "within", desc := "(I)I" } : Jvm.MethodName)) ∈ gw := List.mem_filter.mpr ⟨mt6 _ (List.mem_of_getElem? (i := 107) rfl), rfl⟩
theorem q6_108 : (Jvm.Cond.privateMethod ({ cls := "BeesStingModel", name := "within", desc := "(I)I" } : Jvm.MethodName)) ∈ lw_tbl := mt6 _ (List.mem_of_getElem? (i := 108) rfl)
theorem q6_109 : (Jvm.Cond.instanceMethod ({ cls := "BeesStingModel", name := "within", desc := "(I)I" } : Jvm.MethodName)) ∈ gw := List.mem_filter.mpr ⟨mt6 _ (List.mem_of_getElem? (i := 109) rfl), rfl⟩
theorem q6_110 : (Jvm.Cond.code ({ cls := "BeesStingModel", name := "within", desc := "(I)I" } : Jvm.MethodName) prog_14_method_42_code (4 : Nat) (Option.some Jvm.ClassFile.FieldType.int)) ∈ gw := List.mem_filter.mpr ⟨mt6 _ (List.mem_of_getElem? (i := 110) rfl), rfl⟩
theorem q6_111 : (Jvm.Cond.methodLink "BeesStingModel" (258 : Nat) ({ cls := "BeesStingModel", name := "bitsOf", desc := "(I)I" } : Jvm.MethodName)) ∈ gw := List.mem_filter.mpr ⟨mt6 _ (List.mem_of_getElem? (i := 111) rfl), rfl⟩
theorem q6_112 : (Jvm.Cond.static ({ cls := "BeesStingModel", name := "bitsOf", desc := "(I)I" } : Jvm.MethodName)) ∈ gw := List.mem_filter.mpr ⟨mt6 _ (List.mem_of_getElem? (i := 112) rfl), rfl⟩
theorem q6_113 : (Jvm.Cond.code ({ cls := "BeesStingModel", name := "bitsOf", desc := "(I)I" } : Jvm.MethodName) prog_14_method_6_code (3 : Nat) (Option.some Jvm.ClassFile.FieldType.int)) ∈ gw := List.mem_filter.mpr ⟨mt6 _ (List.mem_of_getElem? (i := 113) rfl), rfl⟩
theorem q6_114 : (Jvm.Cond.methodLink "BeesStingModel" (261 : Nat) ({ cls := "BeesStingModel", name := "gives", desc := "(I)I" } : Jvm.MethodName)) ∈ gw := List.mem_filter.mpr ⟨mt6 _ (List.mem_of_getElem? (i := 114) rfl), rfl⟩
theorem q6_115 : (Jvm.Cond.privateMethod ({ cls := "BeesStingModel", name := "gives", desc := "(I)I" } : Jvm.MethodName)) ∈ lw_tbl := mt6 _ (List.mem_of_getElem? (i := 115) rfl)
theorem q6_116 : (Jvm.Cond.instanceMethod ({ cls := "BeesStingModel", name := "gives", desc := "(I)I" } : Jvm.MethodName)) ∈ gw := List.mem_filter.mpr ⟨mt6 _ (List.mem_of_getElem? (i := 116) rfl), rfl⟩
theorem q6_117 : (Jvm.Cond.code ({ cls := "BeesStingModel", name := "gives", desc := "(I)I" } : Jvm.MethodName) prog_14_method_39_code (4 : Nat) (Option.some Jvm.ClassFile.FieldType.int)) ∈ gw := List.mem_filter.mpr ⟨mt6 _ (List.mem_of_getElem? (i := 117) rfl), rfl⟩
theorem q6_118 : (Jvm.Cond.methodLink "BeesStingModel" (230 : Nat) ({ cls := "BeesStingModel", name := "worked", desc := "(III)I" } : Jvm.MethodName)) ∈ gw := List.mem_filter.mpr ⟨mt6 _ (List.mem_of_getElem? (i := 118) rfl), rfl⟩
theorem q6_119 : (Jvm.Cond.privateMethod ({ cls := "BeesStingModel", name := "worked", desc := "(III)I" } : Jvm.MethodName)) ∈ lw_tbl := mt6 _ (List.mem_of_getElem? (i := 119) rfl)
theorem q6_120 : (Jvm.Cond.instanceMethod ({ cls := "BeesStingModel", name := "worked", desc := "(III)I" } : Jvm.MethodName)) ∈ gw := List.mem_filter.mpr ⟨mt6 _ (List.mem_of_getElem? (i := 120) rfl), rfl⟩
theorem q6_121 : (Jvm.Cond.code ({ cls := "BeesStingModel", name := "worked", desc := "(III)I" } : Jvm.MethodName) prog_14_method_38_code (7 : Nat) (Option.some Jvm.ClassFile.FieldType.int)) ∈ gw := List.mem_filter.mpr ⟨mt6 _ (List.mem_of_getElem? (i := 121) rfl), rfl⟩
theorem q6_122 : (Jvm.Cond.methodLink "BeesStingModel" (227 : Nat) ({ cls := "BeesStingModel", name := "twoOf", desc := "(III)I" } : Jvm.MethodName)) ∈ gw := List.mem_filter.mpr ⟨mt6 _ (List.mem_of_getElem? (i := 122) rfl), rfl⟩
theorem q6_123 : (Jvm.Cond.static ({ cls := "BeesStingModel", name := "twoOf", desc := "(III)I" } : Jvm.MethodName)) ∈ gw := List.mem_filter.mpr ⟨mt6 _ (List.mem_of_getElem? (i := 123) rfl), rfl⟩
theorem q6_124 : (Jvm.Cond.code ({ cls := "BeesStingModel", name := "twoOf", desc := "(III)I" } : Jvm.MethodName) prog_14_method_37_code (3 : Nat) (Option.some Jvm.ClassFile.FieldType.int)) ∈ gw := List.mem_filter.mpr ⟨mt6 _ (List.mem_of_getElem? (i := 124) rfl), rfl⟩
theorem q6_125 : (Jvm.Cond.methodLink "BeesStingLaw" (48 : Nat) ({ cls := "BeesStingModel", name := "day", desc := "(III)I" } : Jvm.MethodName)) ∈ gw := List.mem_filter.mpr ⟨mt6 _ (List.mem_of_getElem? (i := 125) rfl), rfl⟩
theorem q6_126 : (Jvm.Cond.instanceMethod ({ cls := "BeesStingModel", name := "day", desc := "(III)I" } : Jvm.MethodName)) ∈ gw := List.mem_filter.mpr ⟨mt6 _ (List.mem_of_getElem? (i := 126) rfl), rfl⟩
theorem q6_127 : (Jvm.Cond.selects "BeesStingModel" ({ cls := "BeesStingModel", name := "day", desc := "(III)I" } : Jvm.MethodName) ({ cls := "BeesStingModel", name := "day", desc := "(III)I" } : Jvm.MethodName)) ∈ gw := List.mem_filter.mpr ⟨mt6 _ (List.mem_of_getElem? (i := 127) rfl), rfl⟩
theorem q6_128 : (Jvm.Cond.code ({ cls := "BeesStingModel", name := "day", desc := "(III)I" } : Jvm.MethodName) prog_14_method_53_code (4 : Nat) (Option.some Jvm.ClassFile.FieldType.int)) ∈ gw := List.mem_filter.mpr ⟨mt6 _ (List.mem_of_getElem? (i := 128) rfl), rfl⟩
theorem q6_129 : (Jvm.Cond.methodLink "BeesStingModel" (296 : Nat) ({ cls := "BeesStingModel", name := "areMany", desc := "(I)Z" } : Jvm.MethodName)) ∈ gw := List.mem_filter.mpr ⟨mt6 _ (List.mem_of_getElem? (i := 129) rfl), rfl⟩
theorem q6_130 : (Jvm.Cond.static ({ cls := "BeesStingModel", name := "areMany", desc := "(I)Z" } : Jvm.MethodName)) ∈ gw := List.mem_filter.mpr ⟨mt6 _ (List.mem_of_getElem? (i := 130) rfl), rfl⟩
theorem q6_131 : (Jvm.Cond.code ({ cls := "BeesStingModel", name := "areMany", desc := "(I)Z" } : Jvm.MethodName) prog_14_method_52_code (1 : Nat) (Option.some Jvm.ClassFile.FieldType.boolean)) ∈ gw := List.mem_filter.mpr ⟨mt6 _ (List.mem_of_getElem? (i := 131) rfl), rfl⟩
theorem q6_132 : (Jvm.Cond.methodLink "BeesStingModel" (299 : Nat) ({ cls := "BeesStingModel", name := "rowFault", desc := "(II)I" } : Jvm.MethodName)) ∈ gw := List.mem_filter.mpr ⟨mt6 _ (List.mem_of_getElem? (i := 132) rfl), rfl⟩
theorem q6_133 : (Jvm.Cond.privateMethod ({ cls := "BeesStingModel", name := "rowFault", desc := "(II)I" } : Jvm.MethodName)) ∈ lw_tbl := mt6 _ (List.mem_of_getElem? (i := 133) rfl)
theorem q6_134 : (Jvm.Cond.instanceMethod ({ cls := "BeesStingModel", name := "rowFault", desc := "(II)I" } : Jvm.MethodName)) ∈ gw := List.mem_filter.mpr ⟨mt6 _ (List.mem_of_getElem? (i := 134) rfl), rfl⟩
theorem q6_135 : (Jvm.Cond.code ({ cls := "BeesStingModel", name := "rowFault", desc := "(II)I" } : Jvm.MethodName) prog_14_method_48_code (3 : Nat) (Option.some Jvm.ClassFile.FieldType.int)) ∈ gw := List.mem_filter.mpr ⟨mt6 _ (List.mem_of_getElem? (i := 135) rfl), rfl⟩
theorem q6_136 : (Jvm.Cond.methodLink "BeesStingModel" (302 : Nat) ({ cls := "BeesStingModel", name := "goDay", desc := "(II)V" } : Jvm.MethodName)) ∈ gw := List.mem_filter.mpr ⟨mt6 _ (List.mem_of_getElem? (i := 136) rfl), rfl⟩
theorem q6_137 : (Jvm.Cond.privateMethod ({ cls := "BeesStingModel", name := "goDay", desc := "(II)V" } : Jvm.MethodName)) ∈ lw_tbl := mt6 _ (List.mem_of_getElem? (i := 137) rfl)
theorem q6_138 : (Jvm.Cond.instanceMethod ({ cls := "BeesStingModel", name := "goDay", desc := "(II)V" } : Jvm.MethodName)) ∈ gw := List.mem_filter.mpr ⟨mt6 _ (List.mem_of_getElem? (i := 138) rfl), rfl⟩
theorem q6_139 : (Jvm.Cond.code ({ cls := "BeesStingModel", name := "goDay", desc := "(II)V" } : Jvm.MethodName) prog_14_method_51_code (6 : Nat) (Option.none : Option Jvm.ClassFile.FieldType)) ∈ gw := List.mem_filter.mpr ⟨mt6 _ (List.mem_of_getElem? (i := 139) rfl), rfl⟩
theorem q6_140 : (Jvm.Cond.methodLink "BeesStingModel" (289 : Nat) ({ cls := "BeesStingModel", name := "longOf", desc := "(II)I" } : Jvm.MethodName)) ∈ gw := List.mem_filter.mpr ⟨mt6 _ (List.mem_of_getElem? (i := 140) rfl), rfl⟩
theorem q6_141 : (Jvm.Cond.privateMethod ({ cls := "BeesStingModel", name := "longOf", desc := "(II)I" } : Jvm.MethodName)) ∈ lw_tbl := mt6 _ (List.mem_of_getElem? (i := 141) rfl)
theorem q6_142 : (Jvm.Cond.instanceMethod ({ cls := "BeesStingModel", name := "longOf", desc := "(II)I" } : Jvm.MethodName)) ∈ gw := List.mem_filter.mpr ⟨mt6 _ (List.mem_of_getElem? (i := 142) rfl), rfl⟩
theorem q6_143 : (Jvm.Cond.code ({ cls := "BeesStingModel", name := "longOf", desc := "(II)I" } : Jvm.MethodName) prog_14_method_50_code (4 : Nat) (Option.some Jvm.ClassFile.FieldType.int)) ∈ gw := List.mem_filter.mpr ⟨mt6 _ (List.mem_of_getElem? (i := 143) rfl), rfl⟩
theorem q6_144 : (Jvm.Cond.methodLink "BeesStingModel" (283 : Nat) ({ cls := "BeesStingModel", name := "at", desc := "(II)I" } : Jvm.MethodName)) ∈ gw := List.mem_filter.mpr ⟨mt6 _ (List.mem_of_getElem? (i := 144) rfl), rfl⟩
theorem q6_145 : (Jvm.Cond.privateMethod ({ cls := "BeesStingModel", name := "at", desc := "(II)I" } : Jvm.MethodName)) ∈ lw_tbl := mt6 _ (List.mem_of_getElem? (i := 145) rfl)
theorem q6_146 : (Jvm.Cond.instanceMethod ({ cls := "BeesStingModel", name := "at", desc := "(II)I" } : Jvm.MethodName)) ∈ gw := List.mem_filter.mpr ⟨mt6 _ (List.mem_of_getElem? (i := 146) rfl), rfl⟩
theorem q6_147 : (Jvm.Cond.code ({ cls := "BeesStingModel", name := "at", desc := "(II)I" } : Jvm.MethodName) prog_14_method_49_code (3 : Nat) (Option.some Jvm.ClassFile.FieldType.int)) ∈ gw := List.mem_filter.mpr ⟨mt6 _ (List.mem_of_getElem? (i := 147) rfl), rfl⟩
theorem q6_148 : (Jvm.Cond.methodLink "BeesStingModel" (292 : Nat) ({ cls := "BeesStingModel", name := "goSaying", desc := "(IZ)I" } : Jvm.MethodName)) ∈ gw := List.mem_filter.mpr ⟨mt6 _ (List.mem_of_getElem? (i := 148) rfl), rfl⟩
theorem q6_149 : (Jvm.Cond.privateMethod ({ cls := "BeesStingModel", name := "goSaying", desc := "(IZ)I" } : Jvm.MethodName)) ∈ lw_tbl := mt6 _ (List.mem_of_getElem? (i := 149) rfl)
theorem q6_150 : (Jvm.Cond.instanceMethod ({ cls := "BeesStingModel", name := "goSaying", desc := "(IZ)I" } : Jvm.MethodName)) ∈ gw := List.mem_filter.mpr ⟨mt6 _ (List.mem_of_getElem? (i := 150) rfl), rfl⟩
theorem q6_151 : (Jvm.Cond.code ({ cls := "BeesStingModel", name := "goSaying", desc := "(IZ)I" } : Jvm.MethodName) prog_14_method_46_code (4 : Nat) (Option.some Jvm.ClassFile.FieldType.int)) ∈ gw := List.mem_filter.mpr ⟨mt6 _ (List.mem_of_getElem? (i := 151) rfl), rfl⟩
theorem q6_152 : (Jvm.Cond.methodLink "BeesStingModel" (276 : Nat) ({ cls := "BeesStingModel", name := "flies", desc := "(I)V" } : Jvm.MethodName)) ∈ gw := List.mem_filter.mpr ⟨mt6 _ (List.mem_of_getElem? (i := 152) rfl), rfl⟩
theorem q6_153 : (Jvm.Cond.privateMethod ({ cls := "BeesStingModel", name := "flies", desc := "(I)V" } : Jvm.MethodName)) ∈ lw_tbl := mt6 _ (List.mem_of_getElem? (i := 153) rfl)
theorem q6_154 : (Jvm.Cond.instanceMethod ({ cls := "BeesStingModel", name := "flies", desc := "(I)V" } : Jvm.MethodName)) ∈ gw := List.mem_filter.mpr ⟨mt6 _ (List.mem_of_getElem? (i := 154) rfl), rfl⟩
theorem q6_155 : (Jvm.Cond.code ({ cls := "BeesStingModel", name := "flies", desc := "(I)V" } : Jvm.MethodName) prog_14_method_45_code (5 : Nat) (Option.none : Option Jvm.ClassFile.FieldType)) ∈ gw := List.mem_filter.mpr ⟨mt6 _ (List.mem_of_getElem? (i := 155) rfl), rfl⟩
theorem q6_156 : (Jvm.Cond.methodLink "BeesStingModel" (264 : Nat) ({ cls := "BeesStingModel", name := "nearer", desc := "(III)I" } : Jvm.MethodName)) ∈ gw := List.mem_filter.mpr ⟨mt6 _ (List.mem_of_getElem? (i := 156) rfl), rfl⟩
theorem q6_157 : (Jvm.Cond.static ({ cls := "BeesStingModel", name := "nearer", desc := "(III)I" } : Jvm.MethodName)) ∈ gw := List.mem_filter.mpr ⟨mt6 _ (List.mem_of_getElem? (i := 157) rfl), rfl⟩
theorem q6_158 : (Jvm.Cond.code ({ cls := "BeesStingModel", name := "nearer", desc := "(III)I" } : Jvm.MethodName) prog_14_method_44_code (3 : Nat) (Option.some Jvm.ClassFile.FieldType.int)) ∈ gw := List.mem_filter.mpr ⟨mt6 _ (List.mem_of_getElem? (i := 158) rfl), rfl⟩
theorem q6_159 : (Jvm.Cond.methodLink "BeesStingLaw" (53 : Nat) ({ cls := "BeesStingModel", name := "stung", desc := "(IIII)I" } : Jvm.MethodName)) ∈ gw := List.mem_filter.mpr ⟨mt6 _ (List.mem_of_getElem? (i := 159) rfl), rfl⟩
theorem q6_160 : (Jvm.Cond.instanceMethod ({ cls := "BeesStingModel", name := "stung", desc := "(IIII)I" } : Jvm.MethodName)) ∈ gw := List.mem_filter.mpr ⟨mt6 _ (List.mem_of_getElem? (i := 160) rfl), rfl⟩
theorem q6_161 : (Jvm.Cond.selects "BeesStingModel" ({ cls := "BeesStingModel", name := "stung", desc := "(IIII)I" } : Jvm.MethodName) ({ cls := "BeesStingModel", name := "stung", desc := "(IIII)I" } : Jvm.MethodName)) ∈ gw := List.mem_filter.mpr ⟨mt6 _ (List.mem_of_getElem? (i := 161) rfl), rfl⟩
theorem q6_162 : (Jvm.Cond.code ({ cls := "BeesStingModel", name := "stung", desc := "(IIII)I" } : Jvm.MethodName) prog_14_method_54_code (5 : Nat) (Option.some Jvm.ClassFile.FieldType.int)) ∈ gw := List.mem_filter.mpr ⟨mt6 _ (List.mem_of_getElem? (i := 162) rfl), rfl⟩
theorem q6_163 : (Jvm.Cond.methodLink "BeesStingLaw" (57 : Nat) ({ cls := "BeesStingModel", name := "reach", desc := "()I" } : Jvm.MethodName)) ∈ gw := List.mem_filter.mpr ⟨mt6 _ (List.mem_of_getElem? (i := 163) rfl), rfl⟩
theorem q6_164 : (Jvm.Cond.instanceMethod ({ cls := "BeesStingModel", name := "reach", desc := "()I" } : Jvm.MethodName)) ∈ gw := List.mem_filter.mpr ⟨mt6 _ (List.mem_of_getElem? (i := 164) rfl), rfl⟩
theorem q6_165 : (Jvm.Cond.selects "BeesStingModel" ({ cls := "BeesStingModel", name := "reach", desc := "()I" } : Jvm.MethodName) ({ cls := "BeesStingModel", name := "reach", desc := "()I" } : Jvm.MethodName)) ∈ gw := List.mem_filter.mpr ⟨mt6 _ (List.mem_of_getElem? (i := 165) rfl), rfl⟩
theorem q6_166 : (Jvm.Cond.code ({ cls := "BeesStingModel", name := "reach", desc := "()I" } : Jvm.MethodName) prog_14_method_55_code (1 : Nat) (Option.some Jvm.ClassFile.FieldType.int)) ∈ gw := List.mem_filter.mpr ⟨mt6 _ (List.mem_of_getElem? (i := 166) rfl), rfl⟩
theorem q6_167 : (Jvm.Cond.methodLink "BeesStingLaw" (61 : Nat) ({ cls := "BeesStingModel", name := "soon", desc := "(I)I" } : Jvm.MethodName)) ∈ gw := List.mem_filter.mpr ⟨mt6 _ (List.mem_of_getElem? (i := 167) rfl), rfl⟩
theorem q6_168 : (Jvm.Cond.instanceMethod ({ cls := "BeesStingModel", name := "soon", desc := "(I)I" } : Jvm.MethodName)) ∈ gw := List.mem_filter.mpr ⟨mt6 _ (List.mem_of_getElem? (i := 168) rfl), rfl⟩
theorem q6_169 : (Jvm.Cond.selects "BeesStingModel" ({ cls := "BeesStingModel", name := "soon", desc := "(I)I" } : Jvm.MethodName) ({ cls := "BeesStingModel", name := "soon", desc := "(I)I" } : Jvm.MethodName)) ∈ gw := List.mem_filter.mpr ⟨mt6 _ (List.mem_of_getElem? (i := 169) rfl), rfl⟩
theorem q6_170 : (Jvm.Cond.code ({ cls := "BeesStingModel", name := "soon", desc := "(I)I" } : Jvm.MethodName) prog_14_method_57_code (2 : Nat) (Option.some Jvm.ClassFile.FieldType.int)) ∈ gw := List.mem_filter.mpr ⟨mt6 _ (List.mem_of_getElem? (i := 170) rfl), rfl⟩
theorem q6_171 : (Jvm.Cond.methodLink "BeesStingModel" (305 : Nat) ({ cls := "BeesStingModel", name := "stungBehind", desc := "(II)I" } : Jvm.MethodName)) ∈ gw := List.mem_filter.mpr ⟨mt6 _ (List.mem_of_getElem? (i := 171) rfl), rfl⟩
theorem q6_172 : (Jvm.Cond.privateMethod ({ cls := "BeesStingModel", name := "stungBehind", desc := "(II)I" } : Jvm.MethodName)) ∈ lw_tbl := mt6 _ (List.mem_of_getElem? (i := 172) rfl)
theorem q6_173 : (Jvm.Cond.instanceMethod ({ cls := "BeesStingModel", name := "stungBehind", desc := "(II)I" } : Jvm.MethodName)) ∈ gw := List.mem_filter.mpr ⟨mt6 _ (List.mem_of_getElem? (i := 173) rfl), rfl⟩
theorem q6_174 : (Jvm.Cond.code ({ cls := "BeesStingModel", name := "stungBehind", desc := "(II)I" } : Jvm.MethodName) prog_14_method_56_code (4 : Nat) (Option.some Jvm.ClassFile.FieldType.int)) ∈ gw := List.mem_filter.mpr ⟨mt6 _ (List.mem_of_getElem? (i := 174) rfl), rfl⟩
theorem q6_175 : (Jvm.Cond.methodLink "BeesStingLaw" (65 : Nat) ({ cls := "BeesStingModel", name := "passOn", desc := "(III)I" } : Jvm.MethodName)) ∈ gw := List.mem_filter.mpr ⟨mt6 _ (List.mem_of_getElem? (i := 175) rfl), rfl⟩
theorem q6_176 : (Jvm.Cond.instanceMethod ({ cls := "BeesStingModel", name := "passOn", desc := "(III)I" } : Jvm.MethodName)) ∈ gw := List.mem_filter.mpr ⟨mt6 _ (List.mem_of_getElem? (i := 176) rfl), rfl⟩
theorem q6_177 : (Jvm.Cond.selects "BeesStingModel" ({ cls := "BeesStingModel", name := "passOn", desc := "(III)I" } : Jvm.MethodName) ({ cls := "BeesStingModel", name := "passOn", desc := "(III)I" } : Jvm.MethodName)) ∈ gw := List.mem_filter.mpr ⟨mt6 _ (List.mem_of_getElem? (i := 177) rfl), rfl⟩
theorem q6_178 : (Jvm.Cond.code ({ cls := "BeesStingModel", name := "passOn", desc := "(III)I" } : Jvm.MethodName) prog_14_method_58_code (8 : Nat) (Option.some Jvm.ClassFile.FieldType.int)) ∈ gw := List.mem_filter.mpr ⟨mt6 _ (List.mem_of_getElem? (i := 178) rfl), rfl⟩
theorem q6_179 : (Jvm.Cond.methodLink "BeesStingLaw" (69 : Nat) ({ cls := "BeesStingModel", name := "orders", desc := "(II)I" } : Jvm.MethodName)) ∈ gw := List.mem_filter.mpr ⟨mt6 _ (List.mem_of_getElem? (i := 179) rfl), rfl⟩
theorem q6_180 : (Jvm.Cond.instanceMethod ({ cls := "BeesStingModel", name := "orders", desc := "(II)I" } : Jvm.MethodName)) ∈ gw := List.mem_filter.mpr ⟨mt6 _ (List.mem_of_getElem? (i := 180) rfl), rfl⟩
theorem q6_181 : (Jvm.Cond.selects "BeesStingModel" ({ cls := "BeesStingModel", name := "orders", desc := "(II)I" } : Jvm.MethodName) ({ cls := "BeesStingModel", name := "orders", desc := "(II)I" } : Jvm.MethodName)) ∈ gw := List.mem_filter.mpr ⟨mt6 _ (List.mem_of_getElem? (i := 181) rfl), rfl⟩
theorem q6_182 : (Jvm.Cond.code ({ cls := "BeesStingModel", name := "orders", desc := "(II)I" } : Jvm.MethodName) prog_14_method_60_code (3 : Nat) (Option.some Jvm.ClassFile.FieldType.int)) ∈ gw := List.mem_filter.mpr ⟨mt6 _ (List.mem_of_getElem? (i := 182) rfl), rfl⟩
theorem q6_183 : (Jvm.Cond.methodLink "BeesStingModel" (317 : Nat) ({ cls := "BeesStingModel", name := "goOrders", desc := "(IIII)V" } : Jvm.MethodName)) ∈ gw := List.mem_filter.mpr ⟨mt6 _ (List.mem_of_getElem? (i := 183) rfl), rfl⟩
theorem q6_184 : (Jvm.Cond.privateMethod ({ cls := "BeesStingModel", name := "goOrders", desc := "(IIII)V" } : Jvm.MethodName)) ∈ lw_tbl := mt6 _ (List.mem_of_getElem? (i := 184) rfl)
theorem q6_185 : (Jvm.Cond.instanceMethod ({ cls := "BeesStingModel", name := "goOrders", desc := "(IIII)V" } : Jvm.MethodName)) ∈ gw := List.mem_filter.mpr ⟨mt6 _ (List.mem_of_getElem? (i := 185) rfl), rfl⟩
theorem q6_186 : (Jvm.Cond.code ({ cls := "BeesStingModel", name := "goOrders", desc := "(IIII)V" } : Jvm.MethodName) prog_14_method_59_code (12 : Nat) (Option.none : Option Jvm.ClassFile.FieldType)) ∈ gw := List.mem_filter.mpr ⟨mt6 _ (List.mem_of_getElem? (i := 186) rfl), rfl⟩
theorem q6_187 : (Jvm.Cond.methodLink "BeesStingLaw" (73 : Nat) ({ cls := "BeesStingModel", name := "stand", desc := "(III)I" } : Jvm.MethodName)) ∈ gw := List.mem_filter.mpr ⟨mt6 _ (List.mem_of_getElem? (i := 187) rfl), rfl⟩
theorem q6_188 : (Jvm.Cond.instanceMethod ({ cls := "BeesStingModel", name := "stand", desc := "(III)I" } : Jvm.MethodName)) ∈ gw := List.mem_filter.mpr ⟨mt6 _ (List.mem_of_getElem? (i := 188) rfl), rfl⟩
theorem q6_189 : (Jvm.Cond.selects "BeesStingModel" ({ cls := "BeesStingModel", name := "stand", desc := "(III)I" } : Jvm.MethodName) ({ cls := "BeesStingModel", name := "stand", desc := "(III)I" } : Jvm.MethodName)) ∈ gw := List.mem_filter.mpr ⟨mt6 _ (List.mem_of_getElem? (i := 189) rfl), rfl⟩
theorem q6_190 : (Jvm.Cond.code ({ cls := "BeesStingModel", name := "stand", desc := "(III)I" } : Jvm.MethodName) prog_14_method_61_code (8 : Nat) (Option.some Jvm.ClassFile.FieldType.int)) ∈ gw := List.mem_filter.mpr ⟨mt6 _ (List.mem_of_getElem? (i := 190) rfl), rfl⟩
theorem q6_191 : (Jvm.Cond.methodLink "BeesStingLaw" (77 : Nat) ({ cls := "BeesStingModel", name := "lastWord", desc := "(III)I" } : Jvm.MethodName)) ∈ gw := List.mem_filter.mpr ⟨mt6 _ (List.mem_of_getElem? (i := 191) rfl), rfl⟩
theorem q6_192 : (Jvm.Cond.instanceMethod ({ cls := "BeesStingModel", name := "lastWord", desc := "(III)I" } : Jvm.MethodName)) ∈ gw := List.mem_filter.mpr ⟨mt6 _ (List.mem_of_getElem? (i := 192) rfl), rfl⟩
theorem q6_193 : (Jvm.Cond.selects "BeesStingModel" ({ cls := "BeesStingModel", name := "lastWord", desc := "(III)I" } : Jvm.MethodName) ({ cls := "BeesStingModel", name := "lastWord", desc := "(III)I" } : Jvm.MethodName)) ∈ gw := List.mem_filter.mpr ⟨mt6 _ (List.mem_of_getElem? (i := 193) rfl), rfl⟩
theorem q6_194 : (Jvm.Cond.code ({ cls := "BeesStingModel", name := "lastWord", desc := "(III)I" } : Jvm.MethodName) prog_14_method_67_code (7 : Nat) (Option.some Jvm.ClassFile.FieldType.int)) ∈ gw := List.mem_filter.mpr ⟨mt6 _ (List.mem_of_getElem? (i := 194) rfl), rfl⟩
theorem q6_195 : (Jvm.Cond.methodLink "BeesStingModel" (344 : Nat) ({ cls := "BeesStingModel", name := "areTwo", desc := "(I)Z" } : Jvm.MethodName)) ∈ gw := List.mem_filter.mpr ⟨mt6 _ (List.mem_of_getElem? (i := 195) rfl), rfl⟩
theorem q6_196 : (Jvm.Cond.privateMethod ({ cls := "BeesStingModel", name := "areTwo", desc := "(I)Z" } : Jvm.MethodName)) ∈ lw_tbl := mt6 _ (List.mem_of_getElem? (i := 196) rfl)
theorem q6_197 : (Jvm.Cond.instanceMethod ({ cls := "BeesStingModel", name := "areTwo", desc := "(I)Z" } : Jvm.MethodName)) ∈ gw := List.mem_filter.mpr ⟨mt6 _ (List.mem_of_getElem? (i := 197) rfl), rfl⟩
theorem q6_198 : (Jvm.Cond.code ({ cls := "BeesStingModel", name := "areTwo", desc := "(I)Z" } : Jvm.MethodName) prog_14_method_8_code (2 : Nat) (Option.some Jvm.ClassFile.FieldType.boolean)) ∈ gw := List.mem_filter.mpr ⟨mt6 _ (List.mem_of_getElem? (i := 198) rfl), rfl⟩
theorem q6_199 : (Jvm.Cond.methodLink "BeesStingModel" (337 : Nat) ({ cls := "BeesStingModel", name := "lastBy", desc := "(IZIZ)I" } : Jvm.MethodName)) ∈ gw := List.mem_filter.mpr ⟨mt6 _ (List.mem_of_getElem? (i := 199) rfl), rfl⟩
theorem q6_200 : (Jvm.Cond.privateMethod ({ cls := "BeesStingModel", name := "lastBy", desc := "(IZIZ)I" } : Jvm.MethodName)) ∈ lw_tbl := mt6 _ (List.mem_of_getElem? (i := 200) rfl)
theorem q6_201 : (Jvm.Cond.instanceMethod ({ cls := "BeesStingModel", name := "lastBy", desc := "(IZIZ)I" } : Jvm.MethodName)) ∈ gw := List.mem_filter.mpr ⟨mt6 _ (List.mem_of_getElem? (i := 201) rfl), rfl⟩
theorem q6_202 : (Jvm.Cond.code ({ cls := "BeesStingModel", name := "lastBy", desc := "(IZIZ)I" } : Jvm.MethodName) prog_14_method_65_code (12 : Nat) (Option.some Jvm.ClassFile.FieldType.int)) ∈ gw := List.mem_filter.mpr ⟨mt6 _ (List.mem_of_getElem? (i := 202) rfl), rfl⟩
theorem q6_203 : (Jvm.Cond.methodLink "BeesStingModel" (327 : Nat) ({ cls := "BeesStingModel", name := "bitOf", desc := "(I)I" } : Jvm.MethodName)) ∈ gw := List.mem_filter.mpr ⟨mt6 _ (List.mem_of_getElem? (i := 203) rfl), rfl⟩
theorem q6_204 : (Jvm.Cond.privateMethod ({ cls := "BeesStingModel", name := "bitOf", desc := "(I)I" } : Jvm.MethodName)) ∈ lw_tbl := mt6 _ (List.mem_of_getElem? (i := 204) rfl)
theorem q6_205 : (Jvm.Cond.instanceMethod ({ cls := "BeesStingModel", name := "bitOf", desc := "(I)I" } : Jvm.MethodName)) ∈ gw := List.mem_filter.mpr ⟨mt6 _ (List.mem_of_getElem? (i := 205) rfl), rfl⟩
theorem q6_206 : (Jvm.Cond.code ({ cls := "BeesStingModel", name := "bitOf", desc := "(I)I" } : Jvm.MethodName) prog_14_method_62_code (2 : Nat) (Option.some Jvm.ClassFile.FieldType.int)) ∈ gw := List.mem_filter.mpr ⟨mt6 _ (List.mem_of_getElem? (i := 206) rfl), rfl⟩
theorem q6_207 : (Jvm.Cond.methodLink "BeesStingModel" (330 : Nat) ({ cls := "BeesStingModel", name := "lastOf", desc := "(IZI)I" } : Jvm.MethodName)) ∈ gw := List.mem_filter.mpr ⟨mt6 _ (List.mem_of_getElem? (i := 207) rfl), rfl⟩
theorem q6_208 : (Jvm.Cond.privateMethod ({ cls := "BeesStingModel", name := "lastOf", desc := "(IZI)I" } : Jvm.MethodName)) ∈ lw_tbl := mt6 _ (List.mem_of_getElem? (i := 208) rfl)
theorem q6_209 : (Jvm.Cond.instanceMethod ({ cls := "BeesStingModel", name := "lastOf", desc := "(IZI)I" } : Jvm.MethodName)) ∈ gw := List.mem_filter.mpr ⟨mt6 _ (List.mem_of_getElem? (i := 209) rfl), rfl⟩
theorem q6_210 : (Jvm.Cond.code ({ cls := "BeesStingModel", name := "lastOf", desc := "(IZI)I" } : Jvm.MethodName) prog_14_method_66_code (9 : Nat) (Option.some Jvm.ClassFile.FieldType.int)) ∈ gw := List.mem_filter.mpr ⟨mt6 _ (List.mem_of_getElem? (i := 210) rfl), rfl⟩
theorem q6_211 : (Jvm.Cond.methodLink "BeesStingModel" (334 : Nat) ({ cls := "BeesStingModel", name := "lastStill", desc := "(I)I" } : Jvm.MethodName)) ∈ gw := List.mem_filter.mpr ⟨mt6 _ (List.mem_of_getElem? (i := 211) rfl), rfl⟩
theorem q6_212 : (Jvm.Cond.privateMethod ({ cls := "BeesStingModel", name := "lastStill", desc := "(I)I" } : Jvm.MethodName)) ∈ lw_tbl := mt6 _ (List.mem_of_getElem? (i := 212) rfl)
theorem q6_213 : (Jvm.Cond.instanceMethod ({ cls := "BeesStingModel", name := "lastStill", desc := "(I)I" } : Jvm.MethodName)) ∈ gw := List.mem_filter.mpr ⟨mt6 _ (List.mem_of_getElem? (i := 213) rfl), rfl⟩
theorem q6_214 : (Jvm.Cond.code ({ cls := "BeesStingModel", name := "lastStill", desc := "(I)I" } : Jvm.MethodName) prog_14_method_64_code (5 : Nat) (Option.some Jvm.ClassFile.FieldType.int)) ∈ gw := List.mem_filter.mpr ⟨mt6 _ (List.mem_of_getElem? (i := 214) rfl), rfl⟩
theorem q6_215 : (Jvm.Cond.methodLink "BeesStingModel" (341 : Nat) ({ cls := "BeesStingModel", name := "likes", desc := "(II)I" } : Jvm.MethodName)) ∈ gw := List.mem_filter.mpr ⟨mt6 _ (List.mem_of_getElem? (i := 215) rfl), rfl⟩
theorem q6_216 : (Jvm.Cond.static ({ cls := "BeesStingModel", name := "likes", desc := "(II)I" } : Jvm.MethodName)) ∈ gw := List.mem_filter.mpr ⟨mt6 _ (List.mem_of_getElem? (i := 216) rfl), rfl⟩
theorem q6_217 : (Jvm.Cond.code ({ cls := "BeesStingModel", name := "likes", desc := "(II)I" } : Jvm.MethodName) prog_14_method_63_code (2 : Nat) (Option.some Jvm.ClassFile.FieldType.int)) ∈ gw := List.mem_filter.mpr ⟨mt6 _ (List.mem_of_getElem? (i := 217) rfl), rfl⟩
theorem q6_218 : (Jvm.Cond.methodLink "BeesStingLaw" (81 : Nat) ({ cls := "BeesStingModel", name := "crier", desc := "(II)I" } : Jvm.MethodName)) ∈ gw := List.mem_filter.mpr ⟨mt6 _ (List.mem_of_getElem? (i := 218) rfl), rfl⟩
theorem q6_219 : (Jvm.Cond.instanceMethod ({ cls := "BeesStingModel", name := "crier", desc := "(II)I" } : Jvm.MethodName)) ∈ gw := List.mem_filter.mpr ⟨mt6 _ (List.mem_of_getElem? (i := 219) rfl), rfl⟩
theorem q6_220 : (Jvm.Cond.selects "BeesStingModel" ({ cls := "BeesStingModel", name := "crier", desc := "(II)I" } : Jvm.MethodName) ({ cls := "BeesStingModel", name := "crier", desc := "(II)I" } : Jvm.MethodName)) ∈ gw := List.mem_filter.mpr ⟨mt6 _ (List.mem_of_getElem? (i := 220) rfl), rfl⟩
theorem q6_221 : (Jvm.Cond.code ({ cls := "BeesStingModel", name := "crier", desc := "(II)I" } : Jvm.MethodName) prog_14_method_69_code (5 : Nat) (Option.some Jvm.ClassFile.FieldType.int)) ∈ gw := List.mem_filter.mpr ⟨mt6 _ (List.mem_of_getElem? (i := 221) rfl), rfl⟩
theorem q6_222 : (Jvm.Cond.methodLink "BeesStingModel" (347 : Nat) ({ cls := "BeesStingModel", name := "reach", desc := "()I" } : Jvm.MethodName)) ∈ gw := List.mem_filter.mpr ⟨mt6 _ (List.mem_of_getElem? (i := 222) rfl), rfl⟩
theorem q6_223 : (Jvm.Cond.methodLink "BeesStingModel" (350 : Nat) ({ cls := "BeesStingModel", name := "takes", desc := "(I)I" } : Jvm.MethodName)) ∈ gw := List.mem_filter.mpr ⟨mt6 _ (List.mem_of_getElem? (i := 223) rfl), rfl⟩
theorem q6_224 : (Jvm.Cond.privateMethod ({ cls := "BeesStingModel", name := "takes", desc := "(I)I" } : Jvm.MethodName)) ∈ lw_tbl := mt6 _ (List.mem_of_getElem? (i := 224) rfl)
theorem q6_225 : (Jvm.Cond.instanceMethod ({ cls := "BeesStingModel", name := "takes", desc := "(I)I" } : Jvm.MethodName)) ∈ gw := List.mem_filter.mpr ⟨mt6 _ (List.mem_of_getElem? (i := 225) rfl), rfl⟩
theorem q6_226 : (Jvm.Cond.code ({ cls := "BeesStingModel", name := "takes", desc := "(I)I" } : Jvm.MethodName) prog_14_method_68_code (2 : Nat) (Option.some Jvm.ClassFile.FieldType.int)) ∈ gw := List.mem_filter.mpr ⟨mt6 _ (List.mem_of_getElem? (i := 226) rfl), rfl⟩
theorem q6_227 : (Jvm.Cond.methodLink "BeesStingLaw" (85 : Nat) ({ cls := "BeesStingModel", name := "keepNear", desc := "(I)I" } : Jvm.MethodName)) ∈ gw := List.mem_filter.mpr ⟨mt6 _ (List.mem_of_getElem? (i := 227) rfl), rfl⟩
theorem q6_228 : (Jvm.Cond.instanceMethod ({ cls := "BeesStingModel", name := "keepNear", desc := "(I)I" } : Jvm.MethodName)) ∈ gw := List.mem_filter.mpr ⟨mt6 _ (List.mem_of_getElem? (i := 228) rfl), rfl⟩
theorem q6_229 : (Jvm.Cond.selects "BeesStingModel" ({ cls := "BeesStingModel", name := "keepNear", desc := "(I)I" } : Jvm.MethodName) ({ cls := "BeesStingModel", name := "keepNear", desc := "(I)I" } : Jvm.MethodName)) ∈ gw := List.mem_filter.mpr ⟨mt6 _ (List.mem_of_getElem? (i := 229) rfl), rfl⟩
theorem q6_230 : (Jvm.Cond.code ({ cls := "BeesStingModel", name := "keepNear", desc := "(I)I" } : Jvm.MethodName) prog_14_method_70_code (6 : Nat) (Option.some Jvm.ClassFile.FieldType.int)) ∈ gw := List.mem_filter.mpr ⟨mt6 _ (List.mem_of_getElem? (i := 230) rfl), rfl⟩
theorem q6_231 : (Jvm.Cond.methodLink "BeesStingLaw" (89 : Nat) ({ cls := "BeesStingModel", name := "heard", desc := "(III)I" } : Jvm.MethodName)) ∈ gw := List.mem_filter.mpr ⟨mt6 _ (List.mem_of_getElem? (i := 231) rfl), rfl⟩
theorem q6_232 : (Jvm.Cond.instanceMethod ({ cls := "BeesStingModel", name := "heard", desc := "(III)I" } : Jvm.MethodName)) ∈ gw := List.mem_filter.mpr ⟨mt6 _ (List.mem_of_getElem? (i := 232) rfl), rfl⟩
theorem q6_233 : (Jvm.Cond.selects "BeesStingModel" ({ cls := "BeesStingModel", name := "heard", desc := "(III)I" } : Jvm.MethodName) ({ cls := "BeesStingModel", name := "heard", desc := "(III)I" } : Jvm.MethodName)) ∈ gw := List.mem_filter.mpr ⟨mt6 _ (List.mem_of_getElem? (i := 233) rfl), rfl⟩
theorem q6_234 : (Jvm.Cond.code ({ cls := "BeesStingModel", name := "heard", desc := "(III)I" } : Jvm.MethodName) prog_14_method_73_code (4 : Nat) (Option.some Jvm.ClassFile.FieldType.int)) ∈ gw := List.mem_filter.mpr ⟨mt6 _ (List.mem_of_getElem? (i := 234) rfl), rfl⟩
theorem q6_235 : (Jvm.Cond.methodLink "BeesStingModel" (377 : Nat) ({ cls := "BeesStingModel", name := "goHeard", desc := "(II)V" } : Jvm.MethodName)) ∈ gw := List.mem_filter.mpr ⟨mt6 _ (List.mem_of_getElem? (i := 235) rfl), rfl⟩
theorem q6_236 : (Jvm.Cond.privateMethod ({ cls := "BeesStingModel", name := "goHeard", desc := "(II)V" } : Jvm.MethodName)) ∈ lw_tbl := mt6 _ (List.mem_of_getElem? (i := 236) rfl)
theorem q6_237 : (Jvm.Cond.instanceMethod ({ cls := "BeesStingModel", name := "goHeard", desc := "(II)V" } : Jvm.MethodName)) ∈ gw := List.mem_filter.mpr ⟨mt6 _ (List.mem_of_getElem? (i := 237) rfl), rfl⟩
theorem q6_238 : (Jvm.Cond.code ({ cls := "BeesStingModel", name := "goHeard", desc := "(II)V" } : Jvm.MethodName) prog_14_method_72_code (10 : Nat) (Option.none : Option Jvm.ClassFile.FieldType)) ∈ gw := List.mem_filter.mpr ⟨mt6 _ (List.mem_of_getElem? (i := 238) rfl), rfl⟩
theorem q6_239 : (Jvm.Cond.methodLink "BeesStingModel" (374 : Nat) ({ cls := "BeesStingModel", name := "whoseCell", desc := "()I" } : Jvm.MethodName)) ∈ gw := List.mem_filter.mpr ⟨mt6 _ (List.mem_of_getElem? (i := 239) rfl), rfl⟩
theorem q7_0 : (Jvm.Cond.privateMethod ({ cls := "BeesStingModel", name := "whoseCell", desc := "()I" } : Jvm.MethodName)) ∈ lw_tbl := mt7 _ (List.mem_of_getElem? (i := 0) rfl)
theorem q7_1 : (Jvm.Cond.instanceMethod ({ cls := "BeesStingModel", name := "whoseCell", desc := "()I" } : Jvm.MethodName)) ∈ gw := List.mem_filter.mpr ⟨mt7 _ (List.mem_of_getElem? (i := 1) rfl), rfl⟩
theorem q7_2 : (Jvm.Cond.code ({ cls := "BeesStingModel", name := "whoseCell", desc := "()I" } : Jvm.MethodName) prog_14_method_71_code (2 : Nat) (Option.some Jvm.ClassFile.FieldType.int)) ∈ gw := List.mem_filter.mpr ⟨mt7 _ (List.mem_of_getElem? (i := 2) rfl), rfl⟩
theorem q7_3 : (Jvm.Cond.methodLink "BeesStingLaw" (93 : Nat) ({ cls := "BeesStingModel", name := "drawn", desc := "(III)I" } : Jvm.MethodName)) ∈ gw := List.mem_filter.mpr ⟨mt7 _ (List.mem_of_getElem? (i := 3) rfl), rfl⟩
theorem q7_4 : (Jvm.Cond.instanceMethod ({ cls := "BeesStingModel", name := "drawn", desc := "(III)I" } : Jvm.MethodName)) ∈ gw := List.mem_filter.mpr ⟨mt7 _ (List.mem_of_getElem? (i := 4) rfl), rfl⟩
theorem q7_5 : (Jvm.Cond.selects "BeesStingModel" ({ cls := "BeesStingModel", name := "drawn", desc := "(III)I" } : Jvm.MethodName) ({ cls := "BeesStingModel", name := "drawn", desc := "(III)I" } : Jvm.MethodName)) ∈ gw := List.mem_filter.mpr ⟨mt7 _ (List.mem_of_getElem? (i := 5) rfl), rfl⟩
theorem q7_6 : (Jvm.Cond.code ({ cls := "BeesStingModel", name := "drawn", desc := "(III)I" } : Jvm.MethodName) prog_14_method_74_code (11 : Nat) (Option.some Jvm.ClassFile.FieldType.int)) ∈ gw := List.mem_filter.mpr ⟨mt7 _ (List.mem_of_getElem? (i := 6) rfl), rfl⟩
theorem q7_7 : (Jvm.Cond.constant "BeesStingModel" (380 : Nat) (1103515245 : Int32)) ∈ gw := List.mem_filter.mpr ⟨mt7 _ (List.mem_of_getElem? (i := 7) rfl), rfl⟩
theorem q7_8 : (Jvm.Cond.methodLink "BeesStingLaw" (97 : Nat) ({ cls := "BeesStingModel", name := "say", desc := "(II)I" } : Jvm.MethodName)) ∈ gw := List.mem_filter.mpr ⟨mt7 _ (List.mem_of_getElem? (i := 8) rfl), rfl⟩
theorem q7_9 : (Jvm.Cond.instanceMethod ({ cls := "BeesStingModel", name := "say", desc := "(II)I" } : Jvm.MethodName)) ∈ gw := List.mem_filter.mpr ⟨mt7 _ (List.mem_of_getElem? (i := 9) rfl), rfl⟩
theorem q7_10 : (Jvm.Cond.selects "BeesStingModel" ({ cls := "BeesStingModel", name := "say", desc := "(II)I" } : Jvm.MethodName) ({ cls := "BeesStingModel", name := "say", desc := "(II)I" } : Jvm.MethodName)) ∈ gw := List.mem_filter.mpr ⟨mt7 _ (List.mem_of_getElem? (i := 10) rfl), rfl⟩
theorem q7_11 : (Jvm.Cond.code ({ cls := "BeesStingModel", name := "say", desc := "(II)I" } : Jvm.MethodName) prog_14_method_75_code (5 : Nat) (Option.some Jvm.ClassFile.FieldType.int)) ∈ gw := List.mem_filter.mpr ⟨mt7 _ (List.mem_of_getElem? (i := 11) rfl), rfl⟩
theorem q7_12 : (Jvm.Cond.methodLink "BeesStingLaw" (101 : Nat) ({ cls := "BeesStingModel", name := "go", desc := "(II)I" } : Jvm.MethodName)) ∈ gw := List.mem_filter.mpr ⟨mt7 _ (List.mem_of_getElem? (i := 12) rfl), rfl⟩
theorem q7_13 : (Jvm.Cond.instanceMethod ({ cls := "BeesStingModel", name := "go", desc := "(II)I" } : Jvm.MethodName)) ∈ gw := List.mem_filter.mpr ⟨mt7 _ (List.mem_of_getElem? (i := 13) rfl), rfl⟩
theorem q7_14 : (Jvm.Cond.selects "BeesStingModel" ({ cls := "BeesStingModel", name := "go", desc := "(II)I" } : Jvm.MethodName) ({ cls := "BeesStingModel", name := "go", desc := "(II)I" } : Jvm.MethodName)) ∈ gw := List.mem_filter.mpr ⟨mt7 _ (List.mem_of_getElem? (i := 14) rfl), rfl⟩
theorem q7_15 : (Jvm.Cond.code ({ cls := "BeesStingModel", name := "go", desc := "(II)I" } : Jvm.MethodName) prog_14_method_76_code (4 : Nat) (Option.some Jvm.ClassFile.FieldType.int)) ∈ gw := List.mem_filter.mpr ⟨mt7 _ (List.mem_of_getElem? (i := 15) rfl), rfl⟩
theorem q7_16 : (Jvm.Cond.methodLink "BeesStingLaw" (105 : Nat) ({ cls := "BeesStingModel", name := "pad", desc := "(I)I" } : Jvm.MethodName)) ∈ gw := List.mem_filter.mpr ⟨mt7 _ (List.mem_of_getElem? (i := 16) rfl), rfl⟩
theorem q7_17 : (Jvm.Cond.instanceMethod ({ cls := "BeesStingModel", name := "pad", desc := "(I)I" } : Jvm.MethodName)) ∈ gw := List.mem_filter.mpr ⟨mt7 _ (List.mem_of_getElem? (i := 17) rfl), rfl⟩
theorem q7_18 : (Jvm.Cond.selects "BeesStingModel" ({ cls := "BeesStingModel", name := "pad", desc := "(I)I" } : Jvm.MethodName) ({ cls := "BeesStingModel", name := "pad", desc := "(I)I" } : Jvm.MethodName)) ∈ gw := List.mem_filter.mpr ⟨mt7 _ (List.mem_of_getElem? (i := 18) rfl), rfl⟩
theorem q7_19 : (Jvm.Cond.code ({ cls := "BeesStingModel", name := "pad", desc := "(I)I" } : Jvm.MethodName) prog_14_method_77_code (2 : Nat) (Option.some Jvm.ClassFile.FieldType.int)) ∈ gw := List.mem_filter.mpr ⟨mt7 _ (List.mem_of_getElem? (i := 19) rfl), rfl⟩
theorem q7_20 : (Jvm.Cond.methodLink "BeesStingLaw" (109 : Nat) ({ cls := "BeesStingModel", name := "led", desc := "(I)I" } : Jvm.MethodName)) ∈ gw := List.mem_filter.mpr ⟨mt7 _ (List.mem_of_getElem? (i := 20) rfl), rfl⟩
theorem q7_21 : (Jvm.Cond.instanceMethod ({ cls := "BeesStingModel", name := "led", desc := "(I)I" } : Jvm.MethodName)) ∈ gw := List.mem_filter.mpr ⟨mt7 _ (List.mem_of_getElem? (i := 21) rfl), rfl⟩
theorem q7_22 : (Jvm.Cond.selects "BeesStingModel" ({ cls := "BeesStingModel", name := "led", desc := "(I)I" } : Jvm.MethodName) ({ cls := "BeesStingModel", name := "led", desc := "(I)I" } : Jvm.MethodName)) ∈ gw := List.mem_filter.mpr ⟨mt7 _ (List.mem_of_getElem? (i := 22) rfl), rfl⟩
theorem q7_23 : (Jvm.Cond.code ({ cls := "BeesStingModel", name := "led", desc := "(I)I" } : Jvm.MethodName) prog_14_method_78_code (2 : Nat) (Option.some Jvm.ClassFile.FieldType.int)) ∈ gw := List.mem_filter.mpr ⟨mt7 _ (List.mem_of_getElem? (i := 23) rfl), rfl⟩
theorem q7_24 : (Jvm.Cond.methodLink "BeesStingLaw" (113 : Nat) ({ cls := "BeesStingModel", name := "image", desc := "()I" } : Jvm.MethodName)) ∈ gw := List.mem_filter.mpr ⟨mt7 _ (List.mem_of_getElem? (i := 24) rfl), rfl⟩
theorem q7_25 : (Jvm.Cond.instanceMethod ({ cls := "BeesStingModel", name := "image", desc := "()I" } : Jvm.MethodName)) ∈ gw := List.mem_filter.mpr ⟨mt7 _ (List.mem_of_getElem? (i := 25) rfl), rfl⟩
theorem q7_26 : (Jvm.Cond.selects "BeesStingModel" ({ cls := "BeesStingModel", name := "image", desc := "()I" } : Jvm.MethodName) ({ cls := "BeesStingModel", name := "image", desc := "()I" } : Jvm.MethodName)) ∈ gw := List.mem_filter.mpr ⟨mt7 _ (List.mem_of_getElem? (i := 26) rfl), rfl⟩
theorem q7_27 : (Jvm.Cond.code ({ cls := "BeesStingModel", name := "image", desc := "()I" } : Jvm.MethodName) prog_14_method_79_code (2 : Nat) (Option.some Jvm.ClassFile.FieldType.int)) ∈ gw := List.mem_filter.mpr ⟨mt7 _ (List.mem_of_getElem? (i := 27) rfl), rfl⟩
theorem q7_28 : (Jvm.Cond.methodLink "BeesStingLaw" (117 : Nat) ({ cls := "BeesStingModel", name := "back", desc := "()I" } : Jvm.MethodName)) ∈ gw := List.mem_filter.mpr ⟨mt7 _ (List.mem_of_getElem? (i := 28) rfl), rfl⟩
theorem q7_29 : (Jvm.Cond.instanceMethod ({ cls := "BeesStingModel", name := "back", desc := "()I" } : Jvm.MethodName)) ∈ gw := List.mem_filter.mpr ⟨mt7 _ (List.mem_of_getElem? (i := 29) rfl), rfl⟩
theorem q7_30 : (Jvm.Cond.selects "BeesStingModel" ({ cls := "BeesStingModel", name := "back", desc := "()I" } : Jvm.MethodName) ({ cls := "BeesStingModel", name := "back", desc := "()I" } : Jvm.MethodName)) ∈ gw := List.mem_filter.mpr ⟨mt7 _ (List.mem_of_getElem? (i := 30) rfl), rfl⟩
theorem q7_31 : (Jvm.Cond.code ({ cls := "BeesStingModel", name := "back", desc := "()I" } : Jvm.MethodName) prog_14_method_80_code (2 : Nat) (Option.some Jvm.ClassFile.FieldType.int)) ∈ gw := List.mem_filter.mpr ⟨mt7 _ (List.mem_of_getElem? (i := 31) rfl), rfl⟩
theorem q7_32 : (Jvm.Cond.methodLink "BeesStingLaw" (137 : Nat) ({ cls := "BeesStingModel", name := "trace", desc := "(I)I" } : Jvm.MethodName)) ∈ gw := List.mem_filter.mpr ⟨mt7 _ (List.mem_of_getElem? (i := 32) rfl), rfl⟩
theorem q7_33 : (Jvm.Cond.instanceMethod ({ cls := "BeesStingModel", name := "trace", desc := "(I)I" } : Jvm.MethodName)) ∈ gw := List.mem_filter.mpr ⟨mt7 _ (List.mem_of_getElem? (i := 33) rfl), rfl⟩
theorem q7_34 : (Jvm.Cond.selects "BeesStingModel" ({ cls := "BeesStingModel", name := "trace", desc := "(I)I" } : Jvm.MethodName) ({ cls := "BeesStingModel", name := "trace", desc := "(I)I" } : Jvm.MethodName)) ∈ gw := List.mem_filter.mpr ⟨mt7 _ (List.mem_of_getElem? (i := 34) rfl), rfl⟩
theorem q7_35 : (Jvm.Cond.code ({ cls := "BeesStingModel", name := "trace", desc := "(I)I" } : Jvm.MethodName) prog_14_method_83_code (2 : Nat) (Option.some Jvm.ClassFile.FieldType.int)) ∈ gw := List.mem_filter.mpr ⟨mt7 _ (List.mem_of_getElem? (i := 35) rfl), rfl⟩
theorem q7_36 : (Jvm.Cond.methodLink "BeesStingLaw" (129 : Nat) ({ cls := "BeesStingModel", name := "body", desc := "(I)I" } : Jvm.MethodName)) ∈ gw := List.mem_filter.mpr ⟨mt7 _ (List.mem_of_getElem? (i := 36) rfl), rfl⟩
theorem q7_37 : (Jvm.Cond.instanceMethod ({ cls := "BeesStingModel", name := "body", desc := "(I)I" } : Jvm.MethodName)) ∈ gw := List.mem_filter.mpr ⟨mt7 _ (List.mem_of_getElem? (i := 37) rfl), rfl⟩
theorem q7_38 : (Jvm.Cond.selects "BeesStingModel" ({ cls := "BeesStingModel", name := "body", desc := "(I)I" } : Jvm.MethodName) ({ cls := "BeesStingModel", name := "body", desc := "(I)I" } : Jvm.MethodName)) ∈ gw := List.mem_filter.mpr ⟨mt7 _ (List.mem_of_getElem? (i := 38) rfl), rfl⟩
theorem q7_39 : (Jvm.Cond.code ({ cls := "BeesStingModel", name := "body", desc := "(I)I" } : Jvm.MethodName) prog_14_method_84_code (2 : Nat) (Option.some Jvm.ClassFile.FieldType.int)) ∈ gw := List.mem_filter.mpr ⟨mt7 _ (List.mem_of_getElem? (i := 39) rfl), rfl⟩
theorem q7_40 : (Jvm.Cond.methodLink "BeesStingLaw" (133 : Nat) ({ cls := "BeesStingModel", name := "act", desc := "(III)I" } : Jvm.MethodName)) ∈ gw := List.mem_filter.mpr ⟨mt7 _ (List.mem_of_getElem? (i := 40) rfl), rfl⟩
theorem q7_41 : (Jvm.Cond.instanceMethod ({ cls := "BeesStingModel", name := "act", desc := "(III)I" } : Jvm.MethodName)) ∈ gw := List.mem_filter.mpr ⟨mt7 _ (List.mem_of_getElem? (i := 41) rfl), rfl⟩
theorem q7_42 : (Jvm.Cond.selects "BeesStingModel" ({ cls := "BeesStingModel", name := "act", desc := "(III)I" } : Jvm.MethodName) ({ cls := "BeesStingModel", name := "act", desc := "(III)I" } : Jvm.MethodName)) ∈ gw := List.mem_filter.mpr ⟨mt7 _ (List.mem_of_getElem? (i := 42) rfl), rfl⟩
theorem q7_43 : (Jvm.Cond.code ({ cls := "BeesStingModel", name := "act", desc := "(III)I" } : Jvm.MethodName) prog_14_method_97_code (4 : Nat) (Option.some Jvm.ClassFile.FieldType.int)) ∈ gw := List.mem_filter.mpr ⟨mt7 _ (List.mem_of_getElem? (i := 43) rfl), rfl⟩
theorem q7_44 : (Jvm.Cond.methodLink "BeesStingModel" (438 : Nat) ({ cls := "BeesStingModel", name := "isBody", desc := "(I)Z" } : Jvm.MethodName)) ∈ gw := List.mem_filter.mpr ⟨mt7 _ (List.mem_of_getElem? (i := 44) rfl), rfl⟩
theorem q7_45 : (Jvm.Cond.privateMethod ({ cls := "BeesStingModel", name := "isBody", desc := "(I)Z" } : Jvm.MethodName)) ∈ lw_tbl := mt7 _ (List.mem_of_getElem? (i := 45) rfl)
theorem q7_46 : (Jvm.Cond.instanceMethod ({ cls := "BeesStingModel", name := "isBody", desc := "(I)Z" } : Jvm.MethodName)) ∈ gw := List.mem_filter.mpr ⟨mt7 _ (List.mem_of_getElem? (i := 46) rfl), rfl⟩
theorem q7_47 : (Jvm.Cond.code ({ cls := "BeesStingModel", name := "isBody", desc := "(I)Z" } : Jvm.MethodName) prog_14_method_81_code (2 : Nat) (Option.some Jvm.ClassFile.FieldType.boolean)) ∈ gw := List.mem_filter.mpr ⟨mt7 _ (List.mem_of_getElem? (i := 47) rfl), rfl⟩
theorem q7_48 : (Jvm.Cond.methodLink "BeesStingModel" (414 : Nat) ({ cls := "BeesStingModel", name := "flying", desc := "(II)I" } : Jvm.MethodName)) ∈ gw := List.mem_filter.mpr ⟨mt7 _ (List.mem_of_getElem? (i := 48) rfl), rfl⟩
theorem q7_49 : (Jvm.Cond.privateMethod ({ cls := "BeesStingModel", name := "flying", desc := "(II)I" } : Jvm.MethodName)) ∈ lw_tbl := mt7 _ (List.mem_of_getElem? (i := 49) rfl)
theorem q7_50 : (Jvm.Cond.instanceMethod ({ cls := "BeesStingModel", name := "flying", desc := "(II)I" } : Jvm.MethodName)) ∈ gw := List.mem_filter.mpr ⟨mt7 _ (List.mem_of_getElem? (i := 50) rfl), rfl⟩
theorem q7_51 : (Jvm.Cond.code ({ cls := "BeesStingModel", name := "flying", desc := "(II)I" } : Jvm.MethodName) prog_14_method_88_code (3 : Nat) (Option.some Jvm.ClassFile.FieldType.int)) ∈ gw := List.mem_filter.mpr ⟨mt7 _ (List.mem_of_getElem? (i := 51) rfl), rfl⟩
theorem q7_52 : (Jvm.Cond.methodLink "BeesStingModel" (408 : Nat) ({ cls := "BeesStingModel", name := "isUnder", desc := "(II)Z" } : Jvm.MethodName)) ∈ gw := List.mem_filter.mpr ⟨mt7 _ (List.mem_of_getElem? (i := 52) rfl), rfl⟩
theorem q7_53 : (Jvm.Cond.static ({ cls := "BeesStingModel", name := "isUnder", desc := "(II)Z" } : Jvm.MethodName)) ∈ gw := List.mem_filter.mpr ⟨mt7 _ (List.mem_of_getElem? (i := 53) rfl), rfl⟩
theorem q7_54 : (Jvm.Cond.code ({ cls := "BeesStingModel", name := "isUnder", desc := "(II)Z" } : Jvm.MethodName) prog_14_method_85_code (2 : Nat) (Option.some Jvm.ClassFile.FieldType.boolean)) ∈ gw := List.mem_filter.mpr ⟨mt7 _ (List.mem_of_getElem? (i := 54) rfl), rfl⟩
theorem q7_55 : (Jvm.Cond.methodLink "BeesStingModel" (402 : Nat) ({ cls := "BeesStingModel", name := "ran", desc := "(I)V" } : Jvm.MethodName)) ∈ gw := List.mem_filter.mpr ⟨mt7 _ (List.mem_of_getElem? (i := 55) rfl), rfl⟩
theorem q7_56 : (Jvm.Cond.privateMethod ({ cls := "BeesStingModel", name := "ran", desc := "(I)V" } : Jvm.MethodName)) ∈ lw_tbl := mt7 _ (List.mem_of_getElem? (i := 56) rfl)
theorem q7_57 : (Jvm.Cond.instanceMethod ({ cls := "BeesStingModel", name := "ran", desc := "(I)V" } : Jvm.MethodName)) ∈ gw := List.mem_filter.mpr ⟨mt7 _ (List.mem_of_getElem? (i := 57) rfl), rfl⟩
theorem q7_58 : (Jvm.Cond.code ({ cls := "BeesStingModel", name := "ran", desc := "(I)V" } : Jvm.MethodName) prog_14_method_82_code (2 : Nat) (Option.none : Option Jvm.ClassFile.FieldType)) ∈ gw := List.mem_filter.mpr ⟨mt7 _ (List.mem_of_getElem? (i := 58) rfl), rfl⟩
theorem q7_59 : (Jvm.Cond.methodLink "BeesStingModel" (405 : Nat) ({ cls := "BeesStingModel", name := "plainFlies", desc := "(II)I" } : Jvm.MethodName)) ∈ gw := List.mem_filter.mpr ⟨mt7 _ (List.mem_of_getElem? (i := 59) rfl), rfl⟩
theorem q7_60 : (Jvm.Cond.privateMethod ({ cls := "BeesStingModel", name := "plainFlies", desc := "(II)I" } : Jvm.MethodName)) ∈ lw_tbl := mt7 _ (List.mem_of_getElem? (i := 60) rfl)
theorem q7_61 : (Jvm.Cond.instanceMethod ({ cls := "BeesStingModel", name := "plainFlies", desc := "(II)I" } : Jvm.MethodName)) ∈ gw := List.mem_filter.mpr ⟨mt7 _ (List.mem_of_getElem? (i := 61) rfl), rfl⟩
theorem q7_62 : (Jvm.Cond.code ({ cls := "BeesStingModel", name := "plainFlies", desc := "(II)I" } : Jvm.MethodName) prog_14_method_86_code (3 : Nat) (Option.some Jvm.ClassFile.FieldType.int)) ∈ gw := List.mem_filter.mpr ⟨mt7 _ (List.mem_of_getElem? (i := 62) rfl), rfl⟩
theorem q7_63 : (Jvm.Cond.methodLink "BeesStingModel" (411 : Nat) ({ cls := "BeesStingModel", name := "coatFlies", desc := "(II)I" } : Jvm.MethodName)) ∈ gw := List.mem_filter.mpr ⟨mt7 _ (List.mem_of_getElem? (i := 63) rfl), rfl⟩
theorem q7_64 : (Jvm.Cond.privateMethod ({ cls := "BeesStingModel", name := "coatFlies", desc := "(II)I" } : Jvm.MethodName)) ∈ lw_tbl := mt7 _ (List.mem_of_getElem? (i := 64) rfl)
theorem q7_65 : (Jvm.Cond.instanceMethod ({ cls := "BeesStingModel", name := "coatFlies", desc := "(II)I" } : Jvm.MethodName)) ∈ gw := List.mem_filter.mpr ⟨mt7 _ (List.mem_of_getElem? (i := 65) rfl), rfl⟩
theorem q7_66 : (Jvm.Cond.code ({ cls := "BeesStingModel", name := "coatFlies", desc := "(II)I" } : Jvm.MethodName) prog_14_method_87_code (3 : Nat) (Option.some Jvm.ClassFile.FieldType.int)) ∈ gw := List.mem_filter.mpr ⟨mt7 _ (List.mem_of_getElem? (i := 66) rfl), rfl⟩
theorem q7_67 : (Jvm.Cond.methodLink "BeesStingModel" (432 : Nat) ({ cls := "BeesStingModel", name := "stinging", desc := "(II)I" } : Jvm.MethodName)) ∈ gw := List.mem_filter.mpr ⟨mt7 _ (List.mem_of_getElem? (i := 67) rfl), rfl⟩
theorem q7_68 : (Jvm.Cond.privateMethod ({ cls := "BeesStingModel", name := "stinging", desc := "(II)I" } : Jvm.MethodName)) ∈ lw_tbl := mt7 _ (List.mem_of_getElem? (i := 68) rfl)
theorem q7_69 : (Jvm.Cond.instanceMethod ({ cls := "BeesStingModel", name := "stinging", desc := "(II)I" } : Jvm.MethodName)) ∈ gw := List.mem_filter.mpr ⟨mt7 _ (List.mem_of_getElem? (i := 69) rfl), rfl⟩
theorem q7_70 : (Jvm.Cond.code ({ cls := "BeesStingModel", name := "stinging", desc := "(II)I" } : Jvm.MethodName) prog_14_method_91_code (4 : Nat) (Option.some Jvm.ClassFile.FieldType.int)) ∈ gw := List.mem_filter.mpr ⟨mt7 _ (List.mem_of_getElem? (i := 70) rfl), rfl⟩
theorem q7_71 : (Jvm.Cond.methodLink "BeesStingModel" (420 : Nat) ({ cls := "BeesStingModel", name := "brookStings", desc := "(II)I" } : Jvm.MethodName)) ∈ gw := List.mem_filter.mpr ⟨mt7 _ (List.mem_of_getElem? (i := 71) rfl), rfl⟩
theorem q7_72 : (Jvm.Cond.privateMethod ({ cls := "BeesStingModel", name := "brookStings", desc := "(II)I" } : Jvm.MethodName)) ∈ lw_tbl := mt7 _ (List.mem_of_getElem? (i := 72) rfl)
theorem q7_73 : (Jvm.Cond.instanceMethod ({ cls := "BeesStingModel", name := "brookStings", desc := "(II)I" } : Jvm.MethodName)) ∈ gw := List.mem_filter.mpr ⟨mt7 _ (List.mem_of_getElem? (i := 73) rfl), rfl⟩
theorem q7_74 : (Jvm.Cond.code ({ cls := "BeesStingModel", name := "brookStings", desc := "(II)I" } : Jvm.MethodName) prog_14_method_90_code (3 : Nat) (Option.some Jvm.ClassFile.FieldType.int)) ∈ gw := List.mem_filter.mpr ⟨mt7 _ (List.mem_of_getElem? (i := 74) rfl), rfl⟩
theorem q7_75 : (Jvm.Cond.methodLink "BeesStingModel" (417 : Nat) ({ cls := "BeesStingModel", name := "plainStings", desc := "(II)I" } : Jvm.MethodName)) ∈ gw := List.mem_filter.mpr ⟨mt7 _ (List.mem_of_getElem? (i := 75) rfl), rfl⟩
theorem q7_76 : (Jvm.Cond.privateMethod ({ cls := "BeesStingModel", name := "plainStings", desc := "(II)I" } : Jvm.MethodName)) ∈ lw_tbl := mt7 _ (List.mem_of_getElem? (i := 76) rfl)
theorem q7_77 : (Jvm.Cond.instanceMethod ({ cls := "BeesStingModel", name := "plainStings", desc := "(II)I" } : Jvm.MethodName)) ∈ gw := List.mem_filter.mpr ⟨mt7 _ (List.mem_of_getElem? (i := 77) rfl), rfl⟩
theorem q7_78 : (Jvm.Cond.code ({ cls := "BeesStingModel", name := "plainStings", desc := "(II)I" } : Jvm.MethodName) prog_14_method_89_code (3 : Nat) (Option.some Jvm.ClassFile.FieldType.int)) ∈ gw := List.mem_filter.mpr ⟨mt7 _ (List.mem_of_getElem? (i := 78) rfl), rfl⟩
theorem q7_79 : (Jvm.Cond.methodLink "BeesStingModel" (423 : Nat) ({ cls := "BeesStingModel", name := "settling", desc := "(II)I" } : Jvm.MethodName)) ∈ gw := List.mem_filter.mpr ⟨mt7 _ (List.mem_of_getElem? (i := 79) rfl), rfl⟩
theorem q7_80 : (Jvm.Cond.privateMethod ({ cls := "BeesStingModel", name := "settling", desc := "(II)I" } : Jvm.MethodName)) ∈ lw_tbl := mt7 _ (List.mem_of_getElem? (i := 80) rfl)
theorem q7_81 : (Jvm.Cond.instanceMethod ({ cls := "BeesStingModel", name := "settling", desc := "(II)I" } : Jvm.MethodName)) ∈ gw := List.mem_filter.mpr ⟨mt7 _ (List.mem_of_getElem? (i := 81) rfl), rfl⟩
theorem q7_82 : (Jvm.Cond.code ({ cls := "BeesStingModel", name := "settling", desc := "(II)I" } : Jvm.MethodName) prog_14_method_94_code (4 : Nat) (Option.some Jvm.ClassFile.FieldType.int)) ∈ gw := List.mem_filter.mpr ⟨mt7 _ (List.mem_of_getElem? (i := 82) rfl), rfl⟩
theorem q7_83 : (Jvm.Cond.methodLink "BeesStingModel" (429 : Nat) ({ cls := "BeesStingModel", name := "courtSettles", desc := "(II)I" } : Jvm.MethodName)) ∈ gw := List.mem_filter.mpr ⟨mt7 _ (List.mem_of_getElem? (i := 83) rfl), rfl⟩
theorem q7_84 : (Jvm.Cond.privateMethod ({ cls := "BeesStingModel", name := "courtSettles", desc := "(II)I" } : Jvm.MethodName)) ∈ lw_tbl := mt7 _ (List.mem_of_getElem? (i := 84) rfl)
theorem q7_85 : (Jvm.Cond.instanceMethod ({ cls := "BeesStingModel", name := "courtSettles", desc := "(II)I" } : Jvm.MethodName)) ∈ gw := List.mem_filter.mpr ⟨mt7 _ (List.mem_of_getElem? (i := 85) rfl), rfl⟩
theorem q7_86 : (Jvm.Cond.code ({ cls := "BeesStingModel", name := "courtSettles", desc := "(II)I" } : Jvm.MethodName) prog_14_method_93_code (3 : Nat) (Option.some Jvm.ClassFile.FieldType.int)) ∈ gw := List.mem_filter.mpr ⟨mt7 _ (List.mem_of_getElem? (i := 86) rfl), rfl⟩
theorem q7_87 : (Jvm.Cond.methodLink "BeesStingModel" (426 : Nat) ({ cls := "BeesStingModel", name := "plainSettles", desc := "(II)I" } : Jvm.MethodName)) ∈ gw := List.mem_filter.mpr ⟨mt7 _ (List.mem_of_getElem? (i := 87) rfl), rfl⟩
theorem q7_88 : (Jvm.Cond.privateMethod ({ cls := "BeesStingModel", name := "plainSettles", desc := "(II)I" } : Jvm.MethodName)) ∈ lw_tbl := mt7 _ (List.mem_of_getElem? (i := 88) rfl)
theorem q7_89 : (Jvm.Cond.instanceMethod ({ cls := "BeesStingModel", name := "plainSettles", desc := "(II)I" } : Jvm.MethodName)) ∈ gw := List.mem_filter.mpr ⟨mt7 _ (List.mem_of_getElem? (i := 89) rfl), rfl⟩
theorem q7_90 : (Jvm.Cond.code ({ cls := "BeesStingModel", name := "plainSettles", desc := "(II)I" } : Jvm.MethodName) prog_14_method_92_code (3 : Nat) (Option.some Jvm.ClassFile.FieldType.int)) ∈ gw := List.mem_filter.mpr ⟨mt7 _ (List.mem_of_getElem? (i := 90) rfl), rfl⟩
theorem q7_91 : (Jvm.Cond.methodLink "BeesStingModel" (441 : Nat) ({ cls := "BeesStingModel", name := "telling", desc := "(II)I" } : Jvm.MethodName)) ∈ gw := List.mem_filter.mpr ⟨mt7 _ (List.mem_of_getElem? (i := 91) rfl), rfl⟩
theorem q7_92 : (Jvm.Cond.privateMethod ({ cls := "BeesStingModel", name := "telling", desc := "(II)I" } : Jvm.MethodName)) ∈ lw_tbl := mt7 _ (List.mem_of_getElem? (i := 92) rfl)
theorem q7_93 : (Jvm.Cond.instanceMethod ({ cls := "BeesStingModel", name := "telling", desc := "(II)I" } : Jvm.MethodName)) ∈ gw := List.mem_filter.mpr ⟨mt7 _ (List.mem_of_getElem? (i := 93) rfl), rfl⟩
theorem q7_94 : (Jvm.Cond.code ({ cls := "BeesStingModel", name := "telling", desc := "(II)I" } : Jvm.MethodName) prog_14_method_96_code (3 : Nat) (Option.some Jvm.ClassFile.FieldType.int)) ∈ gw := List.mem_filter.mpr ⟨mt7 _ (List.mem_of_getElem? (i := 94) rfl), rfl⟩
theorem q7_95 : (Jvm.Cond.methodLink "BeesStingModel" (435 : Nat) ({ cls := "BeesStingModel", name := "plainTells", desc := "(II)I" } : Jvm.MethodName)) ∈ gw := List.mem_filter.mpr ⟨mt7 _ (List.mem_of_getElem? (i := 95) rfl), rfl⟩
theorem q7_96 : (Jvm.Cond.privateMethod ({ cls := "BeesStingModel", name := "plainTells", desc := "(II)I" } : Jvm.MethodName)) ∈ lw_tbl := mt7 _ (List.mem_of_getElem? (i := 96) rfl)
theorem q7_97 : (Jvm.Cond.instanceMethod ({ cls := "BeesStingModel", name := "plainTells", desc := "(II)I" } : Jvm.MethodName)) ∈ gw := List.mem_filter.mpr ⟨mt7 _ (List.mem_of_getElem? (i := 97) rfl), rfl⟩
theorem q7_98 : (Jvm.Cond.code ({ cls := "BeesStingModel", name := "plainTells", desc := "(II)I" } : Jvm.MethodName) prog_14_method_95_code (4 : Nat) (Option.some Jvm.ClassFile.FieldType.int)) ∈ gw := List.mem_filter.mpr ⟨mt7 _ (List.mem_of_getElem? (i := 98) rfl), rfl⟩
theorem q7_99 : (Jvm.Cond.methodLink "BeesStingLaw" (170 : Nat) ({ cls := "BeesStingModel", name := "count", desc := "(I)I" } : Jvm.MethodName)) ∈ gw := List.mem_filter.mpr ⟨mt7 _ (List.mem_of_getElem? (i := 99) rfl), rfl⟩
theorem q7_100 : (Jvm.Cond.instanceMethod ({ cls := "BeesStingModel", name := "count", desc := "(I)I" } : Jvm.MethodName)) ∈ gw := List.mem_filter.mpr ⟨mt7 _ (List.mem_of_getElem? (i := 100) rfl), rfl⟩
theorem q7_101 : (Jvm.Cond.selects "BeesStingModel" ({ cls := "BeesStingModel", name := "count", desc := "(I)I" } : Jvm.MethodName) ({ cls := "BeesStingModel", name := "count", desc := "(I)I" } : Jvm.MethodName)) ∈ gw := List.mem_filter.mpr ⟨mt7 _ (List.mem_of_getElem? (i := 101) rfl), rfl⟩
theorem q7_102 : (Jvm.Cond.code ({ cls := "BeesStingModel", name := "count", desc := "(I)I" } : Jvm.MethodName) prog_14_method_98_code (2 : Nat) (Option.some Jvm.ClassFile.FieldType.int)) ∈ gw := List.mem_filter.mpr ⟨mt7 _ (List.mem_of_getElem? (i := 102) rfl), rfl⟩
theorem q7_103 : (Jvm.Cond.methodLink "BeesStingLaw" (141 : Nat) ({ cls := "BeesStingModel", name := "keep", desc := "(II)I" } : Jvm.MethodName)) ∈ gw := List.mem_filter.mpr ⟨mt7 _ (List.mem_of_getElem? (i := 103) rfl), rfl⟩
theorem q7_104 : (Jvm.Cond.instanceMethod ({ cls := "BeesStingModel", name := "keep", desc := "(II)I" } : Jvm.MethodName)) ∈ gw := List.mem_filter.mpr ⟨mt7 _ (List.mem_of_getElem? (i := 104) rfl), rfl⟩
theorem q7_105 : (Jvm.Cond.selects "BeesStingModel" ({ cls := "BeesStingModel", name := "keep", desc := "(II)I" } : Jvm.MethodName) ({ cls := "BeesStingModel", name := "keep", desc := "(II)I" } : Jvm.MethodName)) ∈ gw := List.mem_filter.mpr ⟨mt7 _ (List.mem_of_getElem? (i := 105) rfl), rfl⟩
theorem q7_106 : (Jvm.Cond.code ({ cls := "BeesStingModel", name := "keep", desc := "(II)I" } : Jvm.MethodName) prog_14_method_100_code (3 : Nat) (Option.some Jvm.ClassFile.FieldType.int)) ∈ gw := List.mem_filter.mpr ⟨mt7 _ (List.mem_of_getElem? (i := 106) rfl), rfl⟩
theorem q7_107 : (Jvm.Cond.methodLink "BeesStingLaw" (145 : Nat) ({ cls := "BeesStingModel", name := "row", desc := "(III)I" } : Jvm.MethodName)) ∈ gw := List.mem_filter.mpr ⟨mt7 _ (List.mem_of_getElem? (i := 107) rfl), rfl⟩
theorem q7_108 : (Jvm.Cond.instanceMethod ({ cls := "BeesStingModel", name := "row", desc := "(III)I" } : Jvm.MethodName)) ∈ gw := List.mem_filter.mpr ⟨mt7 _ (List.mem_of_getElem? (i := 108) rfl), rfl⟩
theorem q7_109 : (Jvm.Cond.selects "BeesStingModel" ({ cls := "BeesStingModel", name := "row", desc := "(III)I" } : Jvm.MethodName) ({ cls := "BeesStingModel", name := "row", desc := "(III)I" } : Jvm.MethodName)) ∈ gw := List.mem_filter.mpr ⟨mt7 _ (List.mem_of_getElem? (i := 109) rfl), rfl⟩
theorem q7_110 : (Jvm.Cond.code ({ cls := "BeesStingModel", name := "row", desc := "(III)I" } : Jvm.MethodName) prog_14_method_101_code (5 : Nat) (Option.some Jvm.ClassFile.FieldType.int)) ∈ gw := List.mem_filter.mpr ⟨mt7 _ (List.mem_of_getElem? (i := 110) rfl), rfl⟩
theorem q7_111 : (Jvm.Cond.methodLink "BeesStingLaw" (152 : Nat) ({ cls := "BeesStingModel", name := "put", desc := "(IIJ)I" } : Jvm.MethodName)) ∈ gw := List.mem_filter.mpr ⟨mt7 _ (List.mem_of_getElem? (i := 111) rfl), rfl⟩
theorem q7_112 : (Jvm.Cond.instanceMethod ({ cls := "BeesStingModel", name := "put", desc := "(IIJ)I" } : Jvm.MethodName)) ∈ gw := List.mem_filter.mpr ⟨mt7 _ (List.mem_of_getElem? (i := 112) rfl), rfl⟩
theorem q7_113 : (Jvm.Cond.selects "BeesStingModel" ({ cls := "BeesStingModel", name := "put", desc := "(IIJ)I" } : Jvm.MethodName) ({ cls := "BeesStingModel", name := "put", desc := "(IIJ)I" } : Jvm.MethodName)) ∈ gw := List.mem_filter.mpr ⟨mt7 _ (List.mem_of_getElem? (i := 113) rfl), rfl⟩
theorem q7_114 : (Jvm.Cond.code ({ cls := "BeesStingModel", name := "put", desc := "(IIJ)I" } : Jvm.MethodName) prog_14_method_103_code (7 : Nat) (Option.some Jvm.ClassFile.FieldType.int)) ∈ gw := List.mem_filter.mpr ⟨mt7 _ (List.mem_of_getElem? (i := 114) rfl), rfl⟩
theorem q7_115 : (Jvm.Cond.methodLink "BeesStingModel" (444 : Nat) ({ cls := "BeesStingModel", name := "whyNoPlace", desc := "(II)I" } : Jvm.MethodName)) ∈ gw := List.mem_filter.mpr ⟨mt7 _ (List.mem_of_getElem? (i := 115) rfl), rfl⟩
theorem q7_116 : (Jvm.Cond.privateMethod ({ cls := "BeesStingModel", name := "whyNoPlace", desc := "(II)I" } : Jvm.MethodName)) ∈ lw_tbl := mt7 _ (List.mem_of_getElem? (i := 116) rfl)
theorem q7_117 : (Jvm.Cond.instanceMethod ({ cls := "BeesStingModel", name := "whyNoPlace", desc := "(II)I" } : Jvm.MethodName)) ∈ gw := List.mem_filter.mpr ⟨mt7 _ (List.mem_of_getElem? (i := 117) rfl), rfl⟩
theorem q7_118 : (Jvm.Cond.code ({ cls := "BeesStingModel", name := "whyNoPlace", desc := "(II)I" } : Jvm.MethodName) prog_14_method_102_code (3 : Nat) (Option.some Jvm.ClassFile.FieldType.int)) ∈ gw := List.mem_filter.mpr ⟨mt7 _ (List.mem_of_getElem? (i := 118) rfl), rfl⟩
theorem q7_119 : (Jvm.Cond.methodLink "BeesStingLaw" (157 : Nat) ({ cls := "BeesStingModel", name := "element", desc := "(II)J" } : Jvm.MethodName)) ∈ gw := List.mem_filter.mpr ⟨mt7 _ (List.mem_of_getElem? (i := 119) rfl), rfl⟩
theorem q7_120 : (Jvm.Cond.instanceMethod ({ cls := "BeesStingModel", name := "element", desc := "(II)J" } : Jvm.MethodName)) ∈ gw := List.mem_filter.mpr ⟨mt7 _ (List.mem_of_getElem? (i := 120) rfl), rfl⟩
theorem q7_121 : (Jvm.Cond.selects "BeesStingModel" ({ cls := "BeesStingModel", name := "element", desc := "(II)J" } : Jvm.MethodName) ({ cls := "BeesStingModel", name := "element", desc := "(II)J" } : Jvm.MethodName)) ∈ gw := List.mem_filter.mpr ⟨mt7 _ (List.mem_of_getElem? (i := 121) rfl), rfl⟩
theorem q7_122 : (Jvm.Cond.code ({ cls := "BeesStingModel", name := "element", desc := "(II)J" } : Jvm.MethodName) prog_14_method_104_code (3 : Nat) (Option.some Jvm.ClassFile.FieldType.long)) ∈ gw := List.mem_filter.mpr ⟨mt7 _ (List.mem_of_getElem? (i := 122) rfl), rfl⟩
theorem q7_123 : (Jvm.Cond.constantLong "BeesStingModel" (449 : Nat) (-9223372036854775808 : Int64)) ∈ gw := List.mem_filter.mpr ⟨mt7 _ (List.mem_of_getElem? (i := 123) rfl), rfl⟩
theorem q7_124 : (Jvm.Cond.methodLink "BeesStingLaw" (162 : Nat) ({ cls := "BeesStingModel", name := "shift", desc := "(IIIII)I" } : Jvm.MethodName)) ∈ gw := List.mem_filter.mpr ⟨mt7 _ (List.mem_of_getElem? (i := 124) rfl), rfl⟩
theorem q7_125 : (Jvm.Cond.instanceMethod ({ cls := "BeesStingModel", name := "shift", desc := "(IIIII)I" } : Jvm.MethodName)) ∈ gw := List.mem_filter.mpr ⟨mt7 _ (List.mem_of_getElem? (i := 125) rfl), rfl⟩
theorem q7_126 : (Jvm.Cond.selects "BeesStingModel" ({ cls := "BeesStingModel", name := "shift", desc := "(IIIII)I" } : Jvm.MethodName) ({ cls := "BeesStingModel", name := "shift", desc := "(IIIII)I" } : Jvm.MethodName)) ∈ gw := List.mem_filter.mpr ⟨mt7 _ (List.mem_of_getElem? (i := 126) rfl), rfl⟩
theorem q7_127 : (Jvm.Cond.code ({ cls := "BeesStingModel", name := "shift", desc := "(IIIII)I" } : Jvm.MethodName) prog_14_method_105_code (7 : Nat) (Option.some Jvm.ClassFile.FieldType.int)) ∈ gw := List.mem_filter.mpr ⟨mt7 _ (List.mem_of_getElem? (i := 127) rfl), rfl⟩
theorem q7_128 : (Jvm.Cond.methodLink "BeesStingLaw" (166 : Nat) ({ cls := "BeesStingModel", name := "taken", desc := "(II)I" } : Jvm.MethodName)) ∈ gw := List.mem_filter.mpr ⟨mt7 _ (List.mem_of_getElem? (i := 128) rfl), rfl⟩
theorem q7_129 : (Jvm.Cond.instanceMethod ({ cls := "BeesStingModel", name := "taken", desc := "(II)I" } : Jvm.MethodName)) ∈ gw := List.mem_filter.mpr ⟨mt7 _ (List.mem_of_getElem? (i := 129) rfl), rfl⟩
theorem q7_130 : (Jvm.Cond.selects "BeesStingModel" ({ cls := "BeesStingModel", name := "taken", desc := "(II)I" } : Jvm.MethodName) ({ cls := "BeesStingModel", name := "taken", desc := "(II)I" } : Jvm.MethodName)) ∈ gw := List.mem_filter.mpr ⟨mt7 _ (List.mem_of_getElem? (i := 130) rfl), rfl⟩
theorem q7_131 : (Jvm.Cond.code ({ cls := "BeesStingModel", name := "taken", desc := "(II)I" } : Jvm.MethodName) prog_14_method_106_code (3 : Nat) (Option.some Jvm.ClassFile.FieldType.int)) ∈ gw := List.mem_filter.mpr ⟨mt7 _ (List.mem_of_getElem? (i := 131) rfl), rfl⟩
theorem q7_132 : (Jvm.Cond.constantLong "BeesStingLaw" (146 : Nat) (4294967295 : Int64)) ∈ gw := List.mem_filter.mpr ⟨mt7 _ (List.mem_of_getElem? (i := 132) rfl), rfl⟩
theorem qs0 : Cond.selects "BeesSting" ⟨"BeesSting", "join", "(III)I"⟩ ⟨"BeesSting", "join", "(III)I"⟩ ∈ gw := List.mem_filter.mpr ⟨List.mem_append_left _ (List.mem_map.mpr ⟨(⟨"BeesSting", "join", "(III)I"⟩, 15), by unfold lw_privs; exact List.mem_append_left _ (List.mem_of_getElem? (i := 0) rfl), rfl⟩), rfl⟩
theorem qs1 : Cond.selects "BeesSting$Parish" ⟨"BeesSting$Parish", "lookAround", "()V"⟩ ⟨"BeesSting$Parish", "lookAround", "()V"⟩ ∈ gw := List.mem_filter.mpr ⟨List.mem_append_left _ (List.mem_map.mpr ⟨(⟨"BeesSting$Parish", "lookAround", "()V"⟩, 7), by unfold lw_privs; exact List.mem_append_left _ (List.mem_of_getElem? (i := 1) rfl), rfl⟩), rfl⟩
theorem qs2 : Cond.selects "BeesSting" ⟨"BeesSting", "comes", "(IJ)Z"⟩ ⟨"BeesSting", "comes", "(IJ)Z"⟩ ∈ gw := List.mem_filter.mpr ⟨List.mem_append_left _ (List.mem_map.mpr ⟨(⟨"BeesSting", "comes", "(IJ)Z"⟩, 15), by unfold lw_privs; exact List.mem_append_left _ (List.mem_of_getElem? (i := 2) rfl), rfl⟩), rfl⟩
theorem qs3 : Cond.selects "BeesSting$Shelves" ⟨"BeesSting$Shelves", "isRow", "(I)Z"⟩ ⟨"BeesSting$Shelves", "isRow", "(I)Z"⟩ ∈ gw := List.mem_filter.mpr ⟨List.mem_append_left _ (List.mem_map.mpr ⟨(⟨"BeesSting$Shelves", "isRow", "(I)Z"⟩, 3), by unfold lw_privs; exact List.mem_append_left _ (List.mem_of_getElem? (i := 3) rfl), rfl⟩), rfl⟩
theorem qs4 : Cond.selects "BeesSting" ⟨"BeesSting", "isTold", "(II)Z"⟩ ⟨"BeesSting", "isTold", "(II)Z"⟩ ∈ gw := List.mem_filter.mpr ⟨List.mem_append_left _ (List.mem_map.mpr ⟨(⟨"BeesSting", "isTold", "(II)Z"⟩, 15), by unfold lw_privs; exact List.mem_append_left _ (List.mem_of_getElem? (i := 4) rfl), rfl⟩), rfl⟩
theorem qs5 : Cond.selects "BeesSting" ⟨"BeesSting", "told", "(II)I"⟩ ⟨"BeesSting", "told", "(II)I"⟩ ∈ gw := List.mem_filter.mpr ⟨List.mem_append_left _ (List.mem_map.mpr ⟨(⟨"BeesSting", "told", "(II)I"⟩, 15), by unfold lw_privs; exact List.mem_append_left _ (List.mem_of_getElem? (i := 5) rfl), rfl⟩), rfl⟩
theorem qs6 : Cond.selects "BeesSting" ⟨"BeesSting", "tell", "(III)V"⟩ ⟨"BeesSting", "tell", "(III)V"⟩ ∈ gw := List.mem_filter.mpr ⟨List.mem_append_left _ (List.mem_map.mpr ⟨(⟨"BeesSting", "tell", "(III)V"⟩, 15), by unfold lw_privs; exact List.mem_append_left _ (List.mem_of_getElem? (i := 6) rfl), rfl⟩), rfl⟩
theorem qs7 : Cond.selects "BeesSting$LawReader" ⟨"BeesSting$LawReader", "readLine", "()Z"⟩ ⟨"BeesSting$LawReader", "readLine", "()Z"⟩ ∈ gw := List.mem_filter.mpr ⟨List.mem_append_left _ (List.mem_map.mpr ⟨(⟨"BeesSting$LawReader", "readLine", "()Z"⟩, 5), by unfold lw_privs; exact List.mem_append_left _ (List.mem_of_getElem? (i := 7) rfl), rfl⟩), rfl⟩
theorem qs8 : Cond.selects "BeesSting$LawReader" ⟨"BeesSting$LawReader", "readEither", "(I)Z"⟩ ⟨"BeesSting$LawReader", "readEither", "(I)Z"⟩ ∈ gw := List.mem_filter.mpr ⟨List.mem_append_left _ (List.mem_map.mpr ⟨(⟨"BeesSting$LawReader", "readEither", "(I)Z"⟩, 5), by unfold lw_privs; exact List.mem_append_left _ (List.mem_of_getElem? (i := 8) rfl), rfl⟩), rfl⟩
theorem qs9 : Cond.selects "BeesSting$LawReader" ⟨"BeesSting$LawReader", "readBoth", "(I)Z"⟩ ⟨"BeesSting$LawReader", "readBoth", "(I)Z"⟩ ∈ gw := List.mem_filter.mpr ⟨List.mem_append_left _ (List.mem_map.mpr ⟨(⟨"BeesSting$LawReader", "readBoth", "(I)Z"⟩, 5), by unfold lw_privs; exact List.mem_append_left _ (List.mem_of_getElem? (i := 9) rfl), rfl⟩), rfl⟩
theorem qs10 : Cond.selects "BeesSting$LawReader" ⟨"BeesSting$LawReader", "readCompared", "(I)Z"⟩ ⟨"BeesSting$LawReader", "readCompared", "(I)Z"⟩ ∈ gw := List.mem_filter.mpr ⟨List.mem_append_left _ (List.mem_map.mpr ⟨(⟨"BeesSting$LawReader", "readCompared", "(I)Z"⟩, 5), by unfold lw_privs; exact List.mem_append_left _ (List.mem_of_getElem? (i := 10) rfl), rfl⟩), rfl⟩
theorem qs11 : Cond.selects "BeesSting$LawReader" ⟨"BeesSting$LawReader", "readSum", "(I)Z"⟩ ⟨"BeesSting$LawReader", "readSum", "(I)Z"⟩ ∈ gw := List.mem_filter.mpr ⟨List.mem_append_left _ (List.mem_map.mpr ⟨(⟨"BeesSting$LawReader", "readSum", "(I)Z"⟩, 5), by unfold lw_privs; exact List.mem_append_left _ (List.mem_of_getElem? (i := 11) rfl), rfl⟩), rfl⟩
theorem qs12 : Cond.selects "BeesSting$LawReader" ⟨"BeesSting$LawReader", "readProduct", "(I)Z"⟩ ⟨"BeesSting$LawReader", "readProduct", "(I)Z"⟩ ∈ gw := List.mem_filter.mpr ⟨List.mem_append_left _ (List.mem_map.mpr ⟨(⟨"BeesSting$LawReader", "readProduct", "(I)Z"⟩, 5), by unfold lw_privs; exact List.mem_append_left _ (List.mem_of_getElem? (i := 12) rfl), rfl⟩), rfl⟩
theorem qs13 : Cond.selects "BeesSting$LawReader" ⟨"BeesSting$LawReader", "readOne", "(I)Z"⟩ ⟨"BeesSting$LawReader", "readOne", "(I)Z"⟩ ∈ gw := List.mem_filter.mpr ⟨List.mem_append_left _ (List.mem_map.mpr ⟨(⟨"BeesSting$LawReader", "readOne", "(I)Z"⟩, 5), by unfold lw_privs; exact List.mem_append_left _ (List.mem_of_getElem? (i := 13) rfl), rfl⟩), rfl⟩
theorem qs14 : Cond.selects "BeesSting$LawReader" ⟨"BeesSting$LawReader", "sign", "()I"⟩ ⟨"BeesSting$LawReader", "sign", "()I"⟩ ∈ gw := List.mem_filter.mpr ⟨List.mem_append_left _ (List.mem_map.mpr ⟨(⟨"BeesSting$LawReader", "sign", "()I"⟩, 5), by unfold lw_privs; exact List.mem_append_left _ (List.mem_of_getElem? (i := 14) rfl), rfl⟩), rfl⟩
theorem qs15 : Cond.selects "BeesSting$LawReader" ⟨"BeesSting$LawReader", "readNumber", "()Z"⟩ ⟨"BeesSting$LawReader", "readNumber", "()Z"⟩ ∈ gw := List.mem_filter.mpr ⟨List.mem_append_left _ (List.mem_map.mpr ⟨(⟨"BeesSting$LawReader", "readNumber", "()Z"⟩, 5), by unfold lw_privs; exact List.mem_append_left _ (List.mem_of_getElem? (i := 15) rfl), rfl⟩), rfl⟩
theorem qs16 : Cond.selects "BeesSting$LawReader" ⟨"BeesSting$LawReader", "write", "(I)Z"⟩ ⟨"BeesSting$LawReader", "write", "(I)Z"⟩ ∈ gw := List.mem_filter.mpr ⟨List.mem_append_left _ (List.mem_map.mpr ⟨(⟨"BeesSting$LawReader", "write", "(I)Z"⟩, 5), by unfold lw_privs; exact List.mem_append_right _ (List.mem_append_left _ (List.mem_of_getElem? (i := 0) rfl)), rfl⟩), rfl⟩
theorem qs17 : Cond.selects "BeesSting$LawReader" ⟨"BeesSting$LawReader", "passes", "(I)Z"⟩ ⟨"BeesSting$LawReader", "passes", "(I)Z"⟩ ∈ gw := List.mem_filter.mpr ⟨List.mem_append_left _ (List.mem_map.mpr ⟨(⟨"BeesSting$LawReader", "passes", "(I)Z"⟩, 5), by unfold lw_privs; exact List.mem_append_right _ (List.mem_append_left _ (List.mem_of_getElem? (i := 1) rfl)), rfl⟩), rfl⟩
theorem qs18 : Cond.selects "BeesSting$Law" ⟨"BeesSting$Law", "worth", "()I"⟩ ⟨"BeesSting$Law", "worth", "()I"⟩ ∈ gw := List.mem_filter.mpr ⟨List.mem_append_left _ (List.mem_map.mpr ⟨(⟨"BeesSting$Law", "worth", "()I"⟩, 8), by unfold lw_privs; exact List.mem_append_right _ (List.mem_append_left _ (List.mem_of_getElem? (i := 2) rfl)), rfl⟩), rfl⟩
theorem qs19 : Cond.selects "BeesSting" ⟨"BeesSting", "openDay", "(I)I"⟩ ⟨"BeesSting", "openDay", "(I)I"⟩ ∈ gw := List.mem_filter.mpr ⟨List.mem_append_left _ (List.mem_map.mpr ⟨(⟨"BeesSting", "openDay", "(I)I"⟩, 15), by unfold lw_privs; exact List.mem_append_right _ (List.mem_append_left _ (List.mem_of_getElem? (i := 3) rfl)), rfl⟩), rfl⟩
theorem qs20 : Cond.selects "BeesSting" ⟨"BeesSting", "think", "(I)I"⟩ ⟨"BeesSting", "think", "(I)I"⟩ ∈ gw := List.mem_filter.mpr ⟨List.mem_append_left _ (List.mem_map.mpr ⟨(⟨"BeesSting", "think", "(I)I"⟩, 15), by unfold lw_privs; exact List.mem_append_right _ (List.mem_append_left _ (List.mem_of_getElem? (i := 4) rfl)), rfl⟩), rfl⟩
theorem qs21 : Cond.selects "BeesSting$Orders" ⟨"BeesSting$Orders", "take", "(I)V"⟩ ⟨"BeesSting$Orders", "take", "(I)V"⟩ ∈ gw := List.mem_filter.mpr ⟨List.mem_append_left _ (List.mem_map.mpr ⟨(⟨"BeesSting$Orders", "take", "(I)V"⟩, 6), by unfold lw_privs; exact List.mem_append_right _ (List.mem_append_left _ (List.mem_of_getElem? (i := 5) rfl)), rfl⟩), rfl⟩
theorem qs22 : Cond.selects "BeesSting" ⟨"BeesSting", "isSpared", "(I)Z"⟩ ⟨"BeesSting", "isSpared", "(I)Z"⟩ ∈ gw := List.mem_filter.mpr ⟨List.mem_append_left _ (List.mem_map.mpr ⟨(⟨"BeesSting", "isSpared", "(I)Z"⟩, 15), by unfold lw_privs; exact List.mem_append_right _ (List.mem_append_left _ (List.mem_of_getElem? (i := 6) rfl)), rfl⟩), rfl⟩
theorem qs23 : Cond.selects "BeesSting$LastWord" ⟨"BeesSting$LastWord", "stillness", "(LBeesSting$Flight;)I"⟩ ⟨"BeesSting$LastWord", "stillness", "(LBeesSting$Flight;)I"⟩ ∈ gw := List.mem_filter.mpr ⟨List.mem_append_left _ (List.mem_map.mpr ⟨(⟨"BeesSting$LastWord", "stillness", "(LBeesSting$Flight;)I"⟩, 6), by unfold lw_privs; exact List.mem_append_right _ (List.mem_append_left _ (List.mem_of_getElem? (i := 7) rfl)), rfl⟩), rfl⟩
theorem qs24 : Cond.selects "BeesSting$LastWord" ⟨"BeesSting$LastWord", "bit", "(I)I"⟩ ⟨"BeesSting$LastWord", "bit", "(I)I"⟩ ∈ gw := List.mem_filter.mpr ⟨List.mem_append_left _ (List.mem_map.mpr ⟨(⟨"BeesSting$LastWord", "bit", "(I)I"⟩, 6), by unfold lw_privs; exact List.mem_append_right _ (List.mem_append_left _ (List.mem_of_getElem? (i := 8) rfl)), rfl⟩), rfl⟩
theorem qs25 : Cond.selects "BeesSting$Heard" ⟨"BeesSting$Heard", "take", "(I)V"⟩ ⟨"BeesSting$Heard", "take", "(I)V"⟩ ∈ gw := List.mem_filter.mpr ⟨List.mem_append_left _ (List.mem_map.mpr ⟨(⟨"BeesSting$Heard", "take", "(I)V"⟩, 9), by unfold lw_privs; exact List.mem_append_right _ (List.mem_append_left _ (List.mem_of_getElem? (i := 9) rfl)), rfl⟩), rfl⟩
theorem qs26 : Cond.selects "BeesSting$Acts" ⟨"BeesSting$Acts", "self", "(III)I"⟩ ⟨"BeesSting$Acts", "self", "(III)I"⟩ ∈ gw := List.mem_filter.mpr ⟨List.mem_append_left _ (List.mem_map.mpr ⟨(⟨"BeesSting$Acts", "self", "(III)I"⟩, 5), by unfold lw_privs; exact List.mem_append_right _ (List.mem_append_left _ (List.mem_of_getElem? (i := 10) rfl)), rfl⟩), rfl⟩
theorem qs27 : Cond.selects "BeesSting$Acts" ⟨"BeesSting$Acts", "from", "(IIII)I"⟩ ⟨"BeesSting$Acts", "from", "(IIII)I"⟩ ∈ gw := List.mem_filter.mpr ⟨List.mem_append_left _ (List.mem_map.mpr ⟨(⟨"BeesSting$Acts", "from", "(IIII)I"⟩, 5), by unfold lw_privs; exact List.mem_append_right _ (List.mem_append_left _ (List.mem_of_getElem? (i := 11) rfl)), rfl⟩), rfl⟩
theorem qs28 : Cond.selects "BeesSting$Acts" ⟨"BeesSting$Acts", "run", "(III)I"⟩ ⟨"BeesSting$Acts", "run", "(III)I"⟩ ∈ gw := List.mem_filter.mpr ⟨List.mem_append_left _ (List.mem_map.mpr ⟨(⟨"BeesSting$Acts", "run", "(III)I"⟩, 5), by unfold lw_privs; exact List.mem_append_right _ (List.mem_append_left _ (List.mem_of_getElem? (i := 12) rfl)), rfl⟩), rfl⟩
theorem qs29 : Cond.selects "BeesStingModel" ⟨"BeesStingModel", "addOne", "(III)I"⟩ ⟨"BeesStingModel", "addOne", "(III)I"⟩ ∈ gw := List.mem_filter.mpr ⟨List.mem_append_left _ (List.mem_map.mpr ⟨(⟨"BeesStingModel", "addOne", "(III)I"⟩, 70), by unfold lw_privs; exact List.mem_append_right _ (List.mem_append_left _ (List.mem_of_getElem? (i := 13) rfl)), rfl⟩), rfl⟩
theorem qs30 : Cond.selects "BeesStingModel" ⟨"BeesStingModel", "lays", "(III)V"⟩ ⟨"BeesStingModel", "lays", "(III)V"⟩ ∈ gw := List.mem_filter.mpr ⟨List.mem_append_left _ (List.mem_map.mpr ⟨(⟨"BeesStingModel", "lays", "(III)V"⟩, 70), by unfold lw_privs; exact List.mem_append_right _ (List.mem_append_left _ (List.mem_of_getElem? (i := 14) rfl)), rfl⟩), rfl⟩
theorem qs31 : Cond.selects "BeesStingModel" ⟨"BeesStingModel", "isPlace", "(II)Z"⟩ ⟨"BeesStingModel", "isPlace", "(II)Z"⟩ ∈ gw := List.mem_filter.mpr ⟨List.mem_append_left _ (List.mem_map.mpr ⟨(⟨"BeesStingModel", "isPlace", "(II)Z"⟩, 70), by unfold lw_privs; exact List.mem_append_right _ (List.mem_append_left _ (List.mem_of_getElem? (i := 15) rfl)), rfl⟩), rfl⟩
theorem qs32 : Cond.selects "BeesStingModel" ⟨"BeesStingModel", "isOne", "(I)Z"⟩ ⟨"BeesStingModel", "isOne", "(I)Z"⟩ ∈ gw := List.mem_filter.mpr ⟨List.mem_append_left _ (List.mem_map.mpr ⟨(⟨"BeesStingModel", "isOne", "(I)Z"⟩, 70), by unfold lw_privs; exact List.mem_append_right _ (List.mem_append_right _ (List.mem_append_left _ (List.mem_of_getElem? (i := 0) rfl))), rfl⟩), rfl⟩
theorem qs33 : Cond.selects "BeesStingModel" ⟨"BeesStingModel", "changes", "(III)I"⟩ ⟨"BeesStingModel", "changes", "(III)I"⟩ ∈ gw := List.mem_filter.mpr ⟨List.mem_append_left _ (List.mem_map.mpr ⟨(⟨"BeesStingModel", "changes", "(III)I"⟩, 70), by unfold lw_privs; exact List.mem_append_right _ (List.mem_append_right _ (List.mem_append_left _ (List.mem_of_getElem? (i := 1) rfl))), rfl⟩), rfl⟩
theorem qs34 : Cond.selects "BeesStingModel" ⟨"BeesStingModel", "valueAt", "(II)I"⟩ ⟨"BeesStingModel", "valueAt", "(II)I"⟩ ∈ gw := List.mem_filter.mpr ⟨List.mem_append_left _ (List.mem_map.mpr ⟨(⟨"BeesStingModel", "valueAt", "(II)I"⟩, 70), by unfold lw_privs; exact List.mem_append_right _ (List.mem_append_right _ (List.mem_append_left _ (List.mem_of_getElem? (i := 2) rfl))), rfl⟩), rfl⟩
theorem qs35 : Cond.selects "BeesStingModel" ⟨"BeesStingModel", "readText", "(I)I"⟩ ⟨"BeesStingModel", "readText", "(I)I"⟩ ∈ gw := List.mem_filter.mpr ⟨List.mem_append_left _ (List.mem_map.mpr ⟨(⟨"BeesStingModel", "readText", "(I)I"⟩, 70), by unfold lw_privs; exact List.mem_append_right _ (List.mem_append_right _ (List.mem_append_left _ (List.mem_of_getElem? (i := 3) rfl))), rfl⟩), rfl⟩
theorem qs36 : Cond.selects "BeesStingModel" ⟨"BeesStingModel", "line", "()V"⟩ ⟨"BeesStingModel", "line", "()V"⟩ ∈ gw := List.mem_filter.mpr ⟨List.mem_append_left _ (List.mem_map.mpr ⟨(⟨"BeesStingModel", "line", "()V"⟩, 70), by unfold lw_privs; exact List.mem_append_right _ (List.mem_append_right _ (List.mem_append_left _ (List.mem_of_getElem? (i := 4) rfl))), rfl⟩), rfl⟩
theorem qs37 : Cond.selects "BeesStingModel" ⟨"BeesStingModel", "either", "()V"⟩ ⟨"BeesStingModel", "either", "()V"⟩ ∈ gw := List.mem_filter.mpr ⟨List.mem_append_left _ (List.mem_map.mpr ⟨(⟨"BeesStingModel", "either", "()V"⟩, 70), by unfold lw_privs; exact List.mem_append_right _ (List.mem_append_right _ (List.mem_append_left _ (List.mem_of_getElem? (i := 5) rfl))), rfl⟩), rfl⟩
theorem qs38 : Cond.selects "BeesStingModel" ⟨"BeesStingModel", "both", "()V"⟩ ⟨"BeesStingModel", "both", "()V"⟩ ∈ gw := List.mem_filter.mpr ⟨List.mem_append_left _ (List.mem_map.mpr ⟨(⟨"BeesStingModel", "both", "()V"⟩, 70), by unfold lw_privs; exact List.mem_append_right _ (List.mem_append_right _ (List.mem_append_left _ (List.mem_of_getElem? (i := 6) rfl))), rfl⟩), rfl⟩
theorem qs39 : Cond.selects "BeesStingModel" ⟨"BeesStingModel", "compared", "()V"⟩ ⟨"BeesStingModel", "compared", "()V"⟩ ∈ gw := List.mem_filter.mpr ⟨List.mem_append_left _ (List.mem_map.mpr ⟨(⟨"BeesStingModel", "compared", "()V"⟩, 70), by unfold lw_privs; exact List.mem_append_right _ (List.mem_append_right _ (List.mem_append_left _ (List.mem_of_getElem? (i := 7) rfl))), rfl⟩), rfl⟩
theorem qs40 : Cond.selects "BeesStingModel" ⟨"BeesStingModel", "sum", "()V"⟩ ⟨"BeesStingModel", "sum", "()V"⟩ ∈ gw := List.mem_filter.mpr ⟨List.mem_append_left _ (List.mem_map.mpr ⟨(⟨"BeesStingModel", "sum", "()V"⟩, 70), by unfold lw_privs; exact List.mem_append_right _ (List.mem_append_right _ (List.mem_append_left _ (List.mem_of_getElem? (i := 8) rfl))), rfl⟩), rfl⟩
theorem qs41 : Cond.selects "BeesStingModel" ⟨"BeesStingModel", "product", "()V"⟩ ⟨"BeesStingModel", "product", "()V"⟩ ∈ gw := List.mem_filter.mpr ⟨List.mem_append_left _ (List.mem_map.mpr ⟨(⟨"BeesStingModel", "product", "()V"⟩, 70), by unfold lw_privs; exact List.mem_append_right _ (List.mem_append_right _ (List.mem_append_left _ (List.mem_of_getElem? (i := 9) rfl))), rfl⟩), rfl⟩
theorem qs42 : Cond.selects "BeesStingModel" ⟨"BeesStingModel", "operand", "()V"⟩ ⟨"BeesStingModel", "operand", "()V"⟩ ∈ gw := List.mem_filter.mpr ⟨List.mem_append_left _ (List.mem_map.mpr ⟨(⟨"BeesStingModel", "operand", "()V"⟩, 70), by unfold lw_privs; exact List.mem_append_right _ (List.mem_append_right _ (List.mem_append_left _ (List.mem_of_getElem? (i := 10) rfl))), rfl⟩), rfl⟩
theorem qs43 : Cond.selects "BeesStingModel" ⟨"BeesStingModel", "look", "()I"⟩ ⟨"BeesStingModel", "look", "()I"⟩ ∈ gw := List.mem_filter.mpr ⟨List.mem_append_left _ (List.mem_map.mpr ⟨(⟨"BeesStingModel", "look", "()I"⟩, 70), by unfold lw_privs; exact List.mem_append_right _ (List.mem_append_right _ (List.mem_append_left _ (List.mem_of_getElem? (i := 11) rfl))), rfl⟩), rfl⟩
theorem qs44 : Cond.selects "BeesStingModel" ⟨"BeesStingModel", "addStep", "(II)V"⟩ ⟨"BeesStingModel", "addStep", "(II)V"⟩ ∈ gw := List.mem_filter.mpr ⟨List.mem_append_left _ (List.mem_map.mpr ⟨(⟨"BeesStingModel", "addStep", "(II)V"⟩, 70), by unfold lw_privs; exact List.mem_append_right _ (List.mem_append_right _ (List.mem_append_left _ (List.mem_of_getElem? (i := 12) rfl))), rfl⟩), rfl⟩
theorem qs45 : Cond.selects "BeesStingModel" ⟨"BeesStingModel", "opens", "()Z"⟩ ⟨"BeesStingModel", "opens", "()Z"⟩ ∈ gw := List.mem_filter.mpr ⟨List.mem_append_left _ (List.mem_map.mpr ⟨(⟨"BeesStingModel", "opens", "()Z"⟩, 70), by unfold lw_privs; exact List.mem_append_right _ (List.mem_append_right _ (List.mem_append_left _ (List.mem_of_getElem? (i := 13) rfl))), rfl⟩), rfl⟩
theorem qs46 : Cond.selects "BeesStingModel" ⟨"BeesStingModel", "wrong", "()V"⟩ ⟨"BeesStingModel", "wrong", "()V"⟩ ∈ gw := List.mem_filter.mpr ⟨List.mem_append_left _ (List.mem_map.mpr ⟨(⟨"BeesStingModel", "wrong", "()V"⟩, 70), by unfold lw_privs; exact List.mem_append_right _ (List.mem_append_right _ (List.mem_append_left _ (List.mem_of_getElem? (i := 14) rfl))), rfl⟩), rfl⟩
theorem qs47 : Cond.selects "BeesStingModel" ⟨"BeesStingModel", "figure", "()V"⟩ ⟨"BeesStingModel", "figure", "()V"⟩ ∈ gw := List.mem_filter.mpr ⟨List.mem_append_left _ (List.mem_map.mpr ⟨(⟨"BeesStingModel", "figure", "()V"⟩, 70), by unfold lw_privs; exact List.mem_append_right _ (List.mem_append_right _ (List.mem_append_left _ (List.mem_of_getElem? (i := 15) rfl))), rfl⟩), rfl⟩
theorem qs48 : Cond.selects "BeesStingModel" ⟨"BeesStingModel", "layNow", "(I)V"⟩ ⟨"BeesStingModel", "layNow", "(I)V"⟩ ∈ gw := List.mem_filter.mpr ⟨List.mem_append_left _ (List.mem_map.mpr ⟨(⟨"BeesStingModel", "layNow", "(I)V"⟩, 70), by unfold lw_privs; exact List.mem_append_right _ (List.mem_append_right _ (List.mem_append_right _ (List.mem_append_left _ (List.mem_of_getElem? (i := 0) rfl)))), rfl⟩), rfl⟩
theorem qs49 : Cond.selects "BeesStingModel" ⟨"BeesStingModel", "loudOf", "(I)I"⟩ ⟨"BeesStingModel", "loudOf", "(I)I"⟩ ∈ gw := List.mem_filter.mpr ⟨List.mem_append_left _ (List.mem_map.mpr ⟨(⟨"BeesStingModel", "loudOf", "(I)I"⟩, 70), by unfold lw_privs; exact List.mem_append_right _ (List.mem_append_right _ (List.mem_append_right _ (List.mem_append_left _ (List.mem_of_getElem? (i := 1) rfl)))), rfl⟩), rfl⟩
theorem qs50 : Cond.selects "BeesStingModel" ⟨"BeesStingModel", "within", "(I)I"⟩ ⟨"BeesStingModel", "within", "(I)I"⟩ ∈ gw := List.mem_filter.mpr ⟨List.mem_append_left _ (List.mem_map.mpr ⟨(⟨"BeesStingModel", "within", "(I)I"⟩, 70), by unfold lw_privs; exact List.mem_append_right _ (List.mem_append_right _ (List.mem_append_right _ (List.mem_append_left _ (List.mem_of_getElem? (i := 2) rfl)))), rfl⟩), rfl⟩
theorem qs51 : Cond.selects "BeesStingModel" ⟨"BeesStingModel", "gives", "(I)I"⟩ ⟨"BeesStingModel", "gives", "(I)I"⟩ ∈ gw := List.mem_filter.mpr ⟨List.mem_append_left _ (List.mem_map.mpr ⟨(⟨"BeesStingModel", "gives", "(I)I"⟩, 70), by unfold lw_privs; exact List.mem_append_right _ (List.mem_append_right _ (List.mem_append_right _ (List.mem_append_left _ (List.mem_of_getElem? (i := 3) rfl)))), rfl⟩), rfl⟩
theorem qs52 : Cond.selects "BeesStingModel" ⟨"BeesStingModel", "worked", "(III)I"⟩ ⟨"BeesStingModel", "worked", "(III)I"⟩ ∈ gw := List.mem_filter.mpr ⟨List.mem_append_left _ (List.mem_map.mpr ⟨(⟨"BeesStingModel", "worked", "(III)I"⟩, 70), by unfold lw_privs; exact List.mem_append_right _ (List.mem_append_right _ (List.mem_append_right _ (List.mem_append_left _ (List.mem_of_getElem? (i := 4) rfl)))), rfl⟩), rfl⟩
theorem qs53 : Cond.selects "BeesStingModel" ⟨"BeesStingModel", "rowFault", "(II)I"⟩ ⟨"BeesStingModel", "rowFault", "(II)I"⟩ ∈ gw := List.mem_filter.mpr ⟨List.mem_append_left _ (List.mem_map.mpr ⟨(⟨"BeesStingModel", "rowFault", "(II)I"⟩, 70), by unfold lw_privs; exact List.mem_append_right _ (List.mem_append_right _ (List.mem_append_right _ (List.mem_append_left _ (List.mem_of_getElem? (i := 5) rfl)))), rfl⟩), rfl⟩
theorem qs54 : Cond.selects "BeesStingModel" ⟨"BeesStingModel", "goDay", "(II)V"⟩ ⟨"BeesStingModel", "goDay", "(II)V"⟩ ∈ gw := List.mem_filter.mpr ⟨List.mem_append_left _ (List.mem_map.mpr ⟨(⟨"BeesStingModel", "goDay", "(II)V"⟩, 70), by unfold lw_privs; exact List.mem_append_right _ (List.mem_append_right _ (List.mem_append_right _ (List.mem_append_left _ (List.mem_of_getElem? (i := 6) rfl)))), rfl⟩), rfl⟩
theorem qs55 : Cond.selects "BeesStingModel" ⟨"BeesStingModel", "longOf", "(II)I"⟩ ⟨"BeesStingModel", "longOf", "(II)I"⟩ ∈ gw := List.mem_filter.mpr ⟨List.mem_append_left _ (List.mem_map.mpr ⟨(⟨"BeesStingModel", "longOf", "(II)I"⟩, 70), by unfold lw_privs; exact List.mem_append_right _ (List.mem_append_right _ (List.mem_append_right _ (List.mem_append_left _ (List.mem_of_getElem? (i := 7) rfl)))), rfl⟩), rfl⟩
theorem qs56 : Cond.selects "BeesStingModel" ⟨"BeesStingModel", "at", "(II)I"⟩ ⟨"BeesStingModel", "at", "(II)I"⟩ ∈ gw := List.mem_filter.mpr ⟨List.mem_append_left _ (List.mem_map.mpr ⟨(⟨"BeesStingModel", "at", "(II)I"⟩, 70), by unfold lw_privs; exact List.mem_append_right _ (List.mem_append_right _ (List.mem_append_right _ (List.mem_append_left _ (List.mem_of_getElem? (i := 8) rfl)))), rfl⟩), rfl⟩
theorem qs57 : Cond.selects "BeesStingModel" ⟨"BeesStingModel", "goSaying", "(IZ)I"⟩ ⟨"BeesStingModel", "goSaying", "(IZ)I"⟩ ∈ gw := List.mem_filter.mpr ⟨List.mem_append_left _ (List.mem_map.mpr ⟨(⟨"BeesStingModel", "goSaying", "(IZ)I"⟩, 70), by unfold lw_privs; exact List.mem_append_right _ (List.mem_append_right _ (List.mem_append_right _ (List.mem_append_left _ (List.mem_of_getElem? (i := 9) rfl)))), rfl⟩), rfl⟩
theorem qs58 : Cond.selects "BeesStingModel" ⟨"BeesStingModel", "flies", "(I)V"⟩ ⟨"BeesStingModel", "flies", "(I)V"⟩ ∈ gw := List.mem_filter.mpr ⟨List.mem_append_left _ (List.mem_map.mpr ⟨(⟨"BeesStingModel", "flies", "(I)V"⟩, 70), by unfold lw_privs; exact List.mem_append_right _ (List.mem_append_right _ (List.mem_append_right _ (List.mem_append_left _ (List.mem_of_getElem? (i := 10) rfl)))), rfl⟩), rfl⟩
theorem qs59 : Cond.selects "BeesStingModel" ⟨"BeesStingModel", "stungBehind", "(II)I"⟩ ⟨"BeesStingModel", "stungBehind", "(II)I"⟩ ∈ gw := List.mem_filter.mpr ⟨List.mem_append_left _ (List.mem_map.mpr ⟨(⟨"BeesStingModel", "stungBehind", "(II)I"⟩, 70), by unfold lw_privs; exact List.mem_append_right _ (List.mem_append_right _ (List.mem_append_right _ (List.mem_append_left _ (List.mem_of_getElem? (i := 11) rfl)))), rfl⟩), rfl⟩
theorem qs60 : Cond.selects "BeesStingModel" ⟨"BeesStingModel", "goOrders", "(IIII)V"⟩ ⟨"BeesStingModel", "goOrders", "(IIII)V"⟩ ∈ gw := List.mem_filter.mpr ⟨List.mem_append_left _ (List.mem_map.mpr ⟨(⟨"BeesStingModel", "goOrders", "(IIII)V"⟩, 70), by unfold lw_privs; exact List.mem_append_right _ (List.mem_append_right _ (List.mem_append_right _ (List.mem_append_left _ (List.mem_of_getElem? (i := 12) rfl)))), rfl⟩), rfl⟩
theorem qs61 : Cond.selects "BeesStingModel" ⟨"BeesStingModel", "areTwo", "(I)Z"⟩ ⟨"BeesStingModel", "areTwo", "(I)Z"⟩ ∈ gw := List.mem_filter.mpr ⟨List.mem_append_left _ (List.mem_map.mpr ⟨(⟨"BeesStingModel", "areTwo", "(I)Z"⟩, 70), by unfold lw_privs; exact List.mem_append_right _ (List.mem_append_right _ (List.mem_append_right _ (List.mem_append_left _ (List.mem_of_getElem? (i := 13) rfl)))), rfl⟩), rfl⟩
theorem qs62 : Cond.selects "BeesStingModel" ⟨"BeesStingModel", "lastBy", "(IZIZ)I"⟩ ⟨"BeesStingModel", "lastBy", "(IZIZ)I"⟩ ∈ gw := List.mem_filter.mpr ⟨List.mem_append_left _ (List.mem_map.mpr ⟨(⟨"BeesStingModel", "lastBy", "(IZIZ)I"⟩, 70), by unfold lw_privs; exact List.mem_append_right _ (List.mem_append_right _ (List.mem_append_right _ (List.mem_append_left _ (List.mem_of_getElem? (i := 14) rfl)))), rfl⟩), rfl⟩
theorem qs63 : Cond.selects "BeesStingModel" ⟨"BeesStingModel", "bitOf", "(I)I"⟩ ⟨"BeesStingModel", "bitOf", "(I)I"⟩ ∈ gw := List.mem_filter.mpr ⟨List.mem_append_left _ (List.mem_map.mpr ⟨(⟨"BeesStingModel", "bitOf", "(I)I"⟩, 70), by unfold lw_privs; exact List.mem_append_right _ (List.mem_append_right _ (List.mem_append_right _ (List.mem_append_left _ (List.mem_of_getElem? (i := 15) rfl)))), rfl⟩), rfl⟩
theorem qs64 : Cond.selects "BeesStingModel" ⟨"BeesStingModel", "lastOf", "(IZI)I"⟩ ⟨"BeesStingModel", "lastOf", "(IZI)I"⟩ ∈ gw := List.mem_filter.mpr ⟨List.mem_append_left _ (List.mem_map.mpr ⟨(⟨"BeesStingModel", "lastOf", "(IZI)I"⟩, 70), by unfold lw_privs; exact List.mem_append_right _ (List.mem_append_right _ (List.mem_append_right _ (List.mem_append_right _ (List.mem_append_left _ (List.mem_of_getElem? (i := 0) rfl))))), rfl⟩), rfl⟩
theorem qs65 : Cond.selects "BeesStingModel" ⟨"BeesStingModel", "lastStill", "(I)I"⟩ ⟨"BeesStingModel", "lastStill", "(I)I"⟩ ∈ gw := List.mem_filter.mpr ⟨List.mem_append_left _ (List.mem_map.mpr ⟨(⟨"BeesStingModel", "lastStill", "(I)I"⟩, 70), by unfold lw_privs; exact List.mem_append_right _ (List.mem_append_right _ (List.mem_append_right _ (List.mem_append_right _ (List.mem_append_left _ (List.mem_of_getElem? (i := 1) rfl))))), rfl⟩), rfl⟩
theorem qs66 : Cond.selects "BeesStingModel" ⟨"BeesStingModel", "takes", "(I)I"⟩ ⟨"BeesStingModel", "takes", "(I)I"⟩ ∈ gw := List.mem_filter.mpr ⟨List.mem_append_left _ (List.mem_map.mpr ⟨(⟨"BeesStingModel", "takes", "(I)I"⟩, 70), by unfold lw_privs; exact List.mem_append_right _ (List.mem_append_right _ (List.mem_append_right _ (List.mem_append_right _ (List.mem_append_left _ (List.mem_of_getElem? (i := 2) rfl))))), rfl⟩), rfl⟩
theorem qs67 : Cond.selects "BeesStingModel" ⟨"BeesStingModel", "goHeard", "(II)V"⟩ ⟨"BeesStingModel", "goHeard", "(II)V"⟩ ∈ gw := List.mem_filter.mpr ⟨List.mem_append_left _ (List.mem_map.mpr ⟨(⟨"BeesStingModel", "goHeard", "(II)V"⟩, 70), by unfold lw_privs; exact List.mem_append_right _ (List.mem_append_right _ (List.mem_append_right _ (List.mem_append_right _ (List.mem_append_left _ (List.mem_of_getElem? (i := 3) rfl))))), rfl⟩), rfl⟩
theorem qs68 : Cond.selects "BeesStingModel" ⟨"BeesStingModel", "whoseCell", "()I"⟩ ⟨"BeesStingModel", "whoseCell", "()I"⟩ ∈ gw := List.mem_filter.mpr ⟨List.mem_append_left _ (List.mem_map.mpr ⟨(⟨"BeesStingModel", "whoseCell", "()I"⟩, 70), by unfold lw_privs; exact List.mem_append_right _ (List.mem_append_right _ (List.mem_append_right _ (List.mem_append_right _ (List.mem_append_left _ (List.mem_of_getElem? (i := 4) rfl))))), rfl⟩), rfl⟩
theorem qs69 : Cond.selects "BeesStingModel" ⟨"BeesStingModel", "isBody", "(I)Z"⟩ ⟨"BeesStingModel", "isBody", "(I)Z"⟩ ∈ gw := List.mem_filter.mpr ⟨List.mem_append_left _ (List.mem_map.mpr ⟨(⟨"BeesStingModel", "isBody", "(I)Z"⟩, 70), by unfold lw_privs; exact List.mem_append_right _ (List.mem_append_right _ (List.mem_append_right _ (List.mem_append_right _ (List.mem_append_left _ (List.mem_of_getElem? (i := 5) rfl))))), rfl⟩), rfl⟩
theorem qs70 : Cond.selects "BeesStingModel" ⟨"BeesStingModel", "flying", "(II)I"⟩ ⟨"BeesStingModel", "flying", "(II)I"⟩ ∈ gw := List.mem_filter.mpr ⟨List.mem_append_left _ (List.mem_map.mpr ⟨(⟨"BeesStingModel", "flying", "(II)I"⟩, 70), by unfold lw_privs; exact List.mem_append_right _ (List.mem_append_right _ (List.mem_append_right _ (List.mem_append_right _ (List.mem_append_left _ (List.mem_of_getElem? (i := 6) rfl))))), rfl⟩), rfl⟩
theorem qs71 : Cond.selects "BeesStingModel" ⟨"BeesStingModel", "ran", "(I)V"⟩ ⟨"BeesStingModel", "ran", "(I)V"⟩ ∈ gw := List.mem_filter.mpr ⟨List.mem_append_left _ (List.mem_map.mpr ⟨(⟨"BeesStingModel", "ran", "(I)V"⟩, 70), by unfold lw_privs; exact List.mem_append_right _ (List.mem_append_right _ (List.mem_append_right _ (List.mem_append_right _ (List.mem_append_left _ (List.mem_of_getElem? (i := 7) rfl))))), rfl⟩), rfl⟩
theorem qs72 : Cond.selects "BeesStingModel" ⟨"BeesStingModel", "plainFlies", "(II)I"⟩ ⟨"BeesStingModel", "plainFlies", "(II)I"⟩ ∈ gw := List.mem_filter.mpr ⟨List.mem_append_left _ (List.mem_map.mpr ⟨(⟨"BeesStingModel", "plainFlies", "(II)I"⟩, 70), by unfold lw_privs; exact List.mem_append_right _ (List.mem_append_right _ (List.mem_append_right _ (List.mem_append_right _ (List.mem_append_left _ (List.mem_of_getElem? (i := 8) rfl))))), rfl⟩), rfl⟩
theorem qs73 : Cond.selects "BeesStingModel" ⟨"BeesStingModel", "coatFlies", "(II)I"⟩ ⟨"BeesStingModel", "coatFlies", "(II)I"⟩ ∈ gw := List.mem_filter.mpr ⟨List.mem_append_left _ (List.mem_map.mpr ⟨(⟨"BeesStingModel", "coatFlies", "(II)I"⟩, 70), by unfold lw_privs; exact List.mem_append_right _ (List.mem_append_right _ (List.mem_append_right _ (List.mem_append_right _ (List.mem_append_left _ (List.mem_of_getElem? (i := 9) rfl))))), rfl⟩), rfl⟩
theorem qs74 : Cond.selects "BeesStingModel" ⟨"BeesStingModel", "stinging", "(II)I"⟩ ⟨"BeesStingModel", "stinging", "(II)I"⟩ ∈ gw := List.mem_filter.mpr ⟨List.mem_append_left _ (List.mem_map.mpr ⟨(⟨"BeesStingModel", "stinging", "(II)I"⟩, 70), by unfold lw_privs; exact List.mem_append_right _ (List.mem_append_right _ (List.mem_append_right _ (List.mem_append_right _ (List.mem_append_left _ (List.mem_of_getElem? (i := 10) rfl))))), rfl⟩), rfl⟩
theorem qs75 : Cond.selects "BeesStingModel" ⟨"BeesStingModel", "brookStings", "(II)I"⟩ ⟨"BeesStingModel", "brookStings", "(II)I"⟩ ∈ gw := List.mem_filter.mpr ⟨List.mem_append_left _ (List.mem_map.mpr ⟨(⟨"BeesStingModel", "brookStings", "(II)I"⟩, 70), by unfold lw_privs; exact List.mem_append_right _ (List.mem_append_right _ (List.mem_append_right _ (List.mem_append_right _ (List.mem_append_left _ (List.mem_of_getElem? (i := 11) rfl))))), rfl⟩), rfl⟩
theorem qs76 : Cond.selects "BeesStingModel" ⟨"BeesStingModel", "plainStings", "(II)I"⟩ ⟨"BeesStingModel", "plainStings", "(II)I"⟩ ∈ gw := List.mem_filter.mpr ⟨List.mem_append_left _ (List.mem_map.mpr ⟨(⟨"BeesStingModel", "plainStings", "(II)I"⟩, 70), by unfold lw_privs; exact List.mem_append_right _ (List.mem_append_right _ (List.mem_append_right _ (List.mem_append_right _ (List.mem_append_left _ (List.mem_of_getElem? (i := 12) rfl))))), rfl⟩), rfl⟩
theorem qs77 : Cond.selects "BeesStingModel" ⟨"BeesStingModel", "settling", "(II)I"⟩ ⟨"BeesStingModel", "settling", "(II)I"⟩ ∈ gw := List.mem_filter.mpr ⟨List.mem_append_left _ (List.mem_map.mpr ⟨(⟨"BeesStingModel", "settling", "(II)I"⟩, 70), by unfold lw_privs; exact List.mem_append_right _ (List.mem_append_right _ (List.mem_append_right _ (List.mem_append_right _ (List.mem_append_left _ (List.mem_of_getElem? (i := 13) rfl))))), rfl⟩), rfl⟩
theorem qs78 : Cond.selects "BeesStingModel" ⟨"BeesStingModel", "courtSettles", "(II)I"⟩ ⟨"BeesStingModel", "courtSettles", "(II)I"⟩ ∈ gw := List.mem_filter.mpr ⟨List.mem_append_left _ (List.mem_map.mpr ⟨(⟨"BeesStingModel", "courtSettles", "(II)I"⟩, 70), by unfold lw_privs; exact List.mem_append_right _ (List.mem_append_right _ (List.mem_append_right _ (List.mem_append_right _ (List.mem_append_left _ (List.mem_of_getElem? (i := 14) rfl))))), rfl⟩), rfl⟩
theorem qs79 : Cond.selects "BeesStingModel" ⟨"BeesStingModel", "plainSettles", "(II)I"⟩ ⟨"BeesStingModel", "plainSettles", "(II)I"⟩ ∈ gw := List.mem_filter.mpr ⟨List.mem_append_left _ (List.mem_map.mpr ⟨(⟨"BeesStingModel", "plainSettles", "(II)I"⟩, 70), by unfold lw_privs; exact List.mem_append_right _ (List.mem_append_right _ (List.mem_append_right _ (List.mem_append_right _ (List.mem_append_left _ (List.mem_of_getElem? (i := 15) rfl))))), rfl⟩), rfl⟩
theorem qs80 : Cond.selects "BeesStingModel" ⟨"BeesStingModel", "telling", "(II)I"⟩ ⟨"BeesStingModel", "telling", "(II)I"⟩ ∈ gw := List.mem_filter.mpr ⟨List.mem_append_left _ (List.mem_map.mpr ⟨(⟨"BeesStingModel", "telling", "(II)I"⟩, 70), by unfold lw_privs; exact List.mem_append_right _ (List.mem_append_right _ (List.mem_append_right _ (List.mem_append_right _ (List.mem_append_right _ ((List.mem_of_getElem? (i := 0) rfl)))))), rfl⟩), rfl⟩
theorem qs81 : Cond.selects "BeesStingModel" ⟨"BeesStingModel", "plainTells", "(II)I"⟩ ⟨"BeesStingModel", "plainTells", "(II)I"⟩ ∈ gw := List.mem_filter.mpr ⟨List.mem_append_left _ (List.mem_map.mpr ⟨(⟨"BeesStingModel", "plainTells", "(II)I"⟩, 70), by unfold lw_privs; exact List.mem_append_right _ (List.mem_append_right _ (List.mem_append_right _ (List.mem_append_right _ (List.mem_append_right _ ((List.mem_of_getElem? (i := 1) rfl)))))), rfl⟩), rfl⟩
theorem qs82 : Cond.selects "BeesStingModel" ⟨"BeesStingModel", "whyNoPlace", "(II)I"⟩ ⟨"BeesStingModel", "whyNoPlace", "(II)I"⟩ ∈ gw := List.mem_filter.mpr ⟨List.mem_append_left _ (List.mem_map.mpr ⟨(⟨"BeesStingModel", "whyNoPlace", "(II)I"⟩, 70), by unfold lw_privs; exact List.mem_append_right _ (List.mem_append_right _ (List.mem_append_right _ (List.mem_append_right _ (List.mem_append_right _ ((List.mem_of_getElem? (i := 2) rfl)))))), rfl⟩), rfl⟩
end
section
def RX0 : String := "BeesSting$Acts"
def TX0 : u_T := fun k => match k with
  | 0 => ("BeesSting$Acts", "kind", "[I", true)
  | 1 => ("BeesSting$Acts", "made", "I", false)
  | 2 => ("BeesSting$Acts", "traced", "[I", true)
  | 3 => ("BeesSting$Acts", "ran", "I", false)
  | _ => ("BeesSting$Acts", "number", "I", false)
def tyX0 : Nat → FieldType := fun k => match k with
  | 0 => .array .int
  | 1 => .int
  | 2 => .array .int
  | 3 => .int
  | _ => .int
abbrev wsX00 : List Cond := u_ws RX0 TX0 5
theorem nmX0 : ∀ a, a < 5 → ∀ b, b < 5 → a ≠ b → (TX0 a).2.1 ≠ (TX0 b).2.1 := by decide +kernel
theorem tyX0_ok : ∀ k, k < 5 → parseFieldDescriptor (TX0 k).2.2.1 = some (tyX0 k) := by decide +kernel
abbrev cX0_init : ByteArray := prog_2_method_1_code
def yX0_init : MethodName := ⟨RX0, "<init>", "()V"⟩
abbrev cX0_isKind : ByteArray := prog_2_method_2_code
def yX0_isKind : MethodName := ⟨RX0, "isKind", "(I)Z"⟩
abbrev cX0_isUnder : ByteArray := prog_2_method_3_code
def yX0_isUnder : MethodName := ⟨RX0, "isUnder", "(II)Z"⟩
abbrev cX0_has : ByteArray := prog_2_method_4_code
def yX0_has : MethodName := ⟨RX0, "has", "(I)Z"⟩
abbrev cX0_kindOf : ByteArray := prog_2_method_5_code
def yX0_kindOf : MethodName := ⟨RX0, "kindOf", "(I)I"⟩
abbrev cX0_make : ByteArray := prog_2_method_6_code
def yX0_make : MethodName := ⟨RX0, "make", "(I)I"⟩
abbrev cX0_kept : ByteArray := prog_2_method_7_code
def yX0_kept : MethodName := ⟨RX0, "kept", "()I"⟩
abbrev cX0_perform : ByteArray := prog_2_method_8_code
def yX0_perform : MethodName := ⟨RX0, "perform", "(III)I"⟩
abbrev cX0_self : ByteArray := prog_2_method_9_code
def yX0_self : MethodName := ⟨RX0, "self", "(III)I"⟩
abbrev cX0_from : ByteArray := prog_2_method_10_code
def yX0_from : MethodName := ⟨RX0, "from", "(IIII)I"⟩
abbrev cX0_bodyOf : ByteArray := prog_2_method_11_code
def yX0_bodyOf : MethodName := ⟨RX0, "bodyOf", "(II)I"⟩
abbrev cX0_run : ByteArray := prog_2_method_12_code
def yX0_run : MethodName := ⟨RX0, "run", "(III)I"⟩
def RX1 : String := "BeesSting$Changes"
def TX1 : u_T := fun k => match k with
  | 0 => ("BeesSting$Changes", "number", "[I", true)
  | 1 => ("BeesSting$Changes", "what", "[I", true)
  | 2 => ("BeesSting$Changes", "was", "[I", true)
  | 3 => ("BeesSting$Changes", "becomes", "[I", true)
  | 4 => ("BeesSting$Changes", "done", "I", false)
  | _ => ("BeesSting$Changes", "all", "I", false)
def tyX1 : Nat → FieldType := fun k => match k with
  | 0 => .array .int
  | 1 => .array .int
  | 2 => .array .int
  | 3 => .array .int
  | 4 => .int
  | _ => .int
abbrev wsX10 : List Cond := u_ws RX1 TX1 6
theorem nmX1 : ∀ a, a < 6 → ∀ b, b < 6 → a ≠ b → (TX1 a).2.1 ≠ (TX1 b).2.1 := by decide +kernel
theorem tyX1_ok : ∀ k, k < 6 → parseFieldDescriptor (TX1 k).2.2.1 = some (tyX1 k) := by decide +kernel
abbrev cX1_init : ByteArray := prog_3_method_1_code
def yX1_init : MethodName := ⟨RX1, "<init>", "()V"⟩
abbrev cX1_add : ByteArray := prog_3_method_2_code
def yX1_add : MethodName := ⟨RX1, "add", "(IIII)V"⟩
abbrev cX1_dropOldest : ByteArray := prog_3_method_3_code
def yX1_dropOldest : MethodName := ⟨RX1, "dropOldest", "([I)V"⟩
def RX2 : String := "BeesSting$Day"
def TX2 : u_T := fun k => match k with
  | 0 => ("BeesSting$Day", "saying", "[I", true)
  | _ => ("BeesSting$Day", "size", "I", false)
def tyX2 : Nat → FieldType := fun k => match k with
  | 0 => .array .int
  | _ => .int
abbrev wsX20 : List Cond := u_ws RX2 TX2 2
theorem nmX2 : ∀ a, a < 2 → ∀ b, b < 2 → a ≠ b → (TX2 a).2.1 ≠ (TX2 b).2.1 := by decide +kernel
theorem tyX2_ok : ∀ k, k < 2 → parseFieldDescriptor (TX2 k).2.2.1 = some (tyX2 k) := by decide +kernel
abbrev cX2_init : ByteArray := prog_4_method_1_code
def yX2_init : MethodName := ⟨RX2, "<init>", "()V"⟩
abbrev cX2_read : ByteArray := prog_4_method_2_code
def yX2_read : MethodName := ⟨RX2, "read", "(LBeesSting$Shelves;II)V"⟩
abbrev cX2_who : ByteArray := prog_4_method_3_code
def yX2_who : MethodName := ⟨RX2, "who", "(I)I"⟩
abbrev cX2_isLie : ByteArray := prog_4_method_4_code
def yX2_isLie : MethodName := ⟨RX2, "isLie", "(I)Z"⟩
def RX3 : String := "BeesSting$Flight"
def TX3 : u_T := fun k => match k with
  | 0 => ("BeesSting$Flight", "parish", "LBeesSting$Parish;", true)
  | 1 => ("BeesSting$Flight", "law", "LBeesSting$Law;", true)
  | 2 => ("BeesSting$Flight", "pads", "[I", true)
  | 3 => ("BeesSting$Flight", "hour", "I", false)
  | 4 => ("BeesSting$Flight", "swarm", "I", false)
  | 5 => ("BeesSting$Flight", "liar", "I", false)
  | 6 => ("BeesSting$Flight", "sayings", "I", false)
  | 7 => ("BeesSting$Flight", "lies", "I", false)
  | 8 => ("BeesSting$Flight", "louds", "I", false)
  | 9 => ("BeesSting$Flight", "stings", "I", false)
  | _ => ("BeesSting$Flight", "hurts", "I", false)
def tyX3 : Nat → FieldType := fun k => match k with
  | 0 => .object "BeesSting$Parish"
  | 1 => .object "BeesSting$Law"
  | 2 => .array .int
  | 3 => .int
  | 4 => .int
  | 5 => .int
  | 6 => .int
  | 7 => .int
  | 8 => .int
  | 9 => .int
  | _ => .int
abbrev wsX30 : List Cond := u_ws RX3 TX3 11
theorem nmX3 : ∀ a, a < 11 → ∀ b, b < 11 → a ≠ b → (TX3 a).2.1 ≠ (TX3 b).2.1 := by decide +kernel
theorem tyX3_ok : ∀ k, k < 11 → parseFieldDescriptor (TX3 k).2.2.1 = some (tyX3 k) := by decide +kernel
abbrev cX3_init : ByteArray := prog_5_method_1_code
def yX3_init : MethodName := ⟨RX3, "<init>", "(LBeesSting$Parish;LBeesSting$Law;)V"⟩
abbrev cX3_follow : ByteArray := prog_5_method_2_code
def yX3_follow : MethodName := ⟨RX3, "follow", "(LBeesSting$Flight;I)V"⟩
abbrev cX3_begin : ByteArray := prog_5_method_3_code
def yX3_begin : MethodName := ⟨RX3, "begin", "(LBeesSting$Flight;)V"⟩
abbrev cX3_utter : ByteArray := prog_5_method_4_code
def yX3_utter : MethodName := ⟨RX3, "utter", "(IZ)I"⟩
abbrev cX3_passHour : ByteArray := prog_5_method_5_code
def yX3_passHour : MethodName := ⟨RX3, "passHour", "()I"⟩
abbrev cX3_flown : ByteArray := prog_5_method_6_code
def yX3_flown : MethodName := ⟨RX3, "flown", "(III)I"⟩
abbrev cX3_nearer : ByteArray := prog_5_method_7_code
def yX3_nearer : MethodName := ⟨RX3, "nearer", "(III)I"⟩
def RX4 : String := "BeesSting$Heard"
def TX4 : u_T := fun k => match k with
  | 0 => ("BeesSting$Heard", "flights", "[LBeesSting$Flight;", true)
  | 1 => ("BeesSting$Heard", "day", "LBeesSting$Day;", true)
  | 2 => ("BeesSting$Heard", "parish", "LBeesSting$Parish;", true)
  | 3 => ("BeesSting$Heard", "seen", "[I", true)
  | 4 => ("BeesSting$Heard", "known", "I", false)
  | 5 => ("BeesSting$Heard", "ways", "I", false)
  | 6 => ("BeesSting$Heard", "fewest", "I", false)
  | 7 => ("BeesSting$Heard", "which", "I", false)
  | _ => ("BeesSting$Heard", "certain", "I", false)
def tyX4 : Nat → FieldType := fun k => match k with
  | 0 => .array (.object "BeesSting$Flight")
  | 1 => .object "BeesSting$Day"
  | 2 => .object "BeesSting$Parish"
  | 3 => .array .int
  | 4 => .int
  | 5 => .int
  | 6 => .int
  | 7 => .int
  | _ => .int
abbrev wsX40 : List Cond := u_ws RX4 TX4 9
theorem nmX4 : ∀ a, a < 9 → ∀ b, b < 9 → a ≠ b → (TX4 a).2.1 ≠ (TX4 b).2.1 := by decide +kernel
theorem tyX4_ok : ∀ k, k < 9 → parseFieldDescriptor (TX4 k).2.2.1 = some (tyX4 k) := by decide +kernel
abbrev cX4_init : ByteArray := prog_6_method_1_code
def yX4_init : MethodName := ⟨RX4, "<init>", "([LBeesSting$Flight;LBeesSting$Day;LBeesSting$Parish;)V"⟩
abbrev cX4_listen : ByteArray := prog_6_method_2_code
def yX4_listen : MethodName := ⟨RX4, "listen", "(LBeesSting$Flight;LBeesSting$Shelves;I)V"⟩
abbrev cX4_guess : ByteArray := prog_6_method_3_code
def yX4_guess : MethodName := ⟨RX4, "guess", "(LBeesSting$Heard;II)V"⟩
abbrev cX4_take : ByteArray := prog_6_method_4_code
def yX4_take : MethodName := ⟨RX4, "take", "(I)V"⟩
def RX5 : String := "BeesSting$LastWord"
def TX5 : u_T := fun k => match k with
  | 0 => ("BeesSting$LastWord", "flights", "[LBeesSting$Flight;", true)
  | 1 => ("BeesSting$LastWord", "first", "I", false)
  | 2 => ("BeesSting$LastWord", "other", "I", false)
  | 3 => ("BeesSting$LastWord", "turns", "I", false)
  | 4 => ("BeesSting$LastWord", "stings", "I", false)
  | _ => ("BeesSting$LastWord", "opening", "I", false)
def tyX5 : Nat → FieldType := fun k => match k with
  | 0 => .array (.object "BeesSting$Flight")
  | 1 => .int
  | 2 => .int
  | 3 => .int
  | 4 => .int
  | _ => .int
abbrev wsX50 : List Cond := u_ws RX5 TX5 6
theorem nmX5 : ∀ a, a < 6 → ∀ b, b < 6 → a ≠ b → (TX5 a).2.1 ≠ (TX5 b).2.1 := by decide +kernel
theorem tyX5_ok : ∀ k, k < 6 → parseFieldDescriptor (TX5 k).2.2.1 = some (tyX5 k) := by decide +kernel
abbrev cX5_init : ByteArray := prog_7_method_1_code
def yX5_init : MethodName := ⟨RX5, "<init>", "([LBeesSting$Flight;)V"⟩
abbrev cX5_talk : ByteArray := prog_7_method_2_code
def yX5_talk : MethodName := ⟨RX5, "talk", "(LBeesSting$Flight;III)V"⟩
abbrev cX5_play : ByteArray := prog_7_method_3_code
def yX5_play : MethodName := ⟨RX5, "play", "(LBeesSting$LastWord;II)I"⟩
abbrev cX5_stillness : ByteArray := prog_7_method_4_code
def yX5_stillness : MethodName := ⟨RX5, "stillness", "(LBeesSting$Flight;)I"⟩
abbrev cX5_bit : ByteArray := prog_7_method_5_code
def yX5_bit : MethodName := ⟨RX5, "bit", "(I)I"⟩
abbrev cX5_liking : ByteArray := prog_7_method_6_code
def yX5_liking : MethodName := ⟨RX5, "liking", "(IZ)I"⟩
def RX6 : String := "BeesSting$Law"
def TX6 : u_T := fun k => match k with
  | 0 => ("BeesSting$Law", "tape", "[I", true)
  | 1 => ("BeesSting$Law", "fed", "I", false)
  | 2 => ("BeesSting$Law", "reader", "LBeesSting$LawReader;", true)
  | 3 => ("BeesSting$Law", "stack", "[I", true)
  | 4 => ("BeesSting$Law", "named", "[I", true)
  | 5 => ("BeesSting$Law", "code", "[I", false)
  | 6 => ("BeesSting$Law", "spare", "[I", false)
  | _ => ("BeesSting$Law", "size", "I", false)
def tyX6 : Nat → FieldType := fun k => match k with
  | 0 => .array .int
  | 1 => .int
  | 2 => .object "BeesSting$LawReader"
  | 3 => .array .int
  | 4 => .array .int
  | 5 => .array .int
  | 6 => .array .int
  | _ => .int
abbrev wsX60 : List Cond := u_ws RX6 TX6 8
theorem nmX6 : ∀ a, a < 8 → ∀ b, b < 8 → a ≠ b → (TX6 a).2.1 ≠ (TX6 b).2.1 := by decide +kernel
theorem tyX6_ok : ∀ k, k < 8 → parseFieldDescriptor (TX6 k).2.2.1 = some (tyX6 k) := by decide +kernel
abbrev cX6_init : ByteArray := prog_8_method_1_code
def yX6_init : MethodName := ⟨RX6, "<init>", "()V"⟩
abbrev cX6_takeLetter : ByteArray := prog_8_method_2_code
def yX6_takeLetter : MethodName := ⟨RX6, "takeLetter", "(I)I"⟩
abbrev cX6_takeText : ByteArray := prog_8_method_3_code
def yX6_takeText : MethodName := ⟨RX6, "takeText", "()I"⟩
abbrev cX6_loudness : ByteArray := prog_8_method_4_code
def yX6_loudness : MethodName := ⟨RX6, "loudness", "(LBeesSting$Flight;I)I"⟩
abbrev cX6_worth : ByteArray := prog_8_method_5_code
def yX6_worth : MethodName := ⟨RX6, "worth", "()I"⟩
abbrev cX6_joined : ByteArray := prog_8_method_6_code
def yX6_joined : MethodName := ⟨RX6, "joined", "(III)I"⟩
def RX7 : String := "BeesSting$LawReader"
def TX7 : u_T := fun k => match k with
  | 0 => ("BeesSting$LawReader", "text", "[I", false)
  | 1 => ("BeesSting$LawReader", "code", "[I", false)
  | 2 => ("BeesSting$LawReader", "length", "I", false)
  | 3 => ("BeesSting$LawReader", "at", "I", false)
  | _ => ("BeesSting$LawReader", "size", "I", false)
def tyX7 : Nat → FieldType := fun k => match k with
  | 0 => .array .int
  | 1 => .array .int
  | 2 => .int
  | 3 => .int
  | _ => .int
abbrev wsX70 : List Cond := u_ws RX7 TX7 5
theorem nmX7 : ∀ a, a < 5 → ∀ b, b < 5 → a ≠ b → (TX7 a).2.1 ≠ (TX7 b).2.1 := by decide +kernel
theorem tyX7_ok : ∀ k, k < 5 → parseFieldDescriptor (TX7 k).2.2.1 = some (tyX7 k) := by decide +kernel
abbrev cX7_init : ByteArray := prog_9_method_1_code
def yX7_init : MethodName := ⟨RX7, "<init>", "()V"⟩
abbrev cX7_nameOf : ByteArray := prog_9_method_2_code
def yX7_nameOf : MethodName := ⟨RX7, "nameOf", "(I)I"⟩
abbrev cX7_read : ByteArray := prog_9_method_3_code
def yX7_read : MethodName := ⟨RX7, "read", "([II[I)Z"⟩
abbrev cX7_readLine : ByteArray := prog_9_method_4_code
def yX7_readLine : MethodName := ⟨RX7, "readLine", "()Z"⟩
abbrev cX7_readEither : ByteArray := prog_9_method_5_code
def yX7_readEither : MethodName := ⟨RX7, "readEither", "(I)Z"⟩
abbrev cX7_readBoth : ByteArray := prog_9_method_6_code
def yX7_readBoth : MethodName := ⟨RX7, "readBoth", "(I)Z"⟩
abbrev cX7_readCompared : ByteArray := prog_9_method_7_code
def yX7_readCompared : MethodName := ⟨RX7, "readCompared", "(I)Z"⟩
abbrev cX7_readSum : ByteArray := prog_9_method_8_code
def yX7_readSum : MethodName := ⟨RX7, "readSum", "(I)Z"⟩
abbrev cX7_readProduct : ByteArray := prog_9_method_9_code
def yX7_readProduct : MethodName := ⟨RX7, "readProduct", "(I)Z"⟩
abbrev cX7_readOne : ByteArray := prog_9_method_10_code
def yX7_readOne : MethodName := ⟨RX7, "readOne", "(I)Z"⟩
abbrev cX7_readNumber : ByteArray := prog_9_method_11_code
def yX7_readNumber : MethodName := ⟨RX7, "readNumber", "()Z"⟩
abbrev cX7_isDigit : ByteArray := prog_9_method_12_code
def yX7_isDigit : MethodName := ⟨RX7, "isDigit", "(I)Z"⟩
abbrev cX7_sign : ByteArray := prog_9_method_13_code
def yX7_sign : MethodName := ⟨RX7, "sign", "()I"⟩
abbrev cX7_passes : ByteArray := prog_9_method_14_code
def yX7_passes : MethodName := ⟨RX7, "passes", "(I)Z"⟩
abbrev cX7_write : ByteArray := prog_9_method_15_code
def yX7_write : MethodName := ⟨RX7, "write", "(I)Z"⟩
def RX8 : String := "BeesSting$Orders"
def TX8 : u_T := fun k => match k with
  | 0 => ("BeesSting$Orders", "flights", "[LBeesSting$Flight;", true)
  | 1 => ("BeesSting$Orders", "day", "LBeesSting$Day;", true)
  | 2 => ("BeesSting$Orders", "tried", "[I", true)
  | 3 => ("BeesSting$Orders", "best", "[I", true)
  | 4 => ("BeesSting$Orders", "fewest", "I", false)
  | _ => ("BeesSting$Orders", "quiet", "I", false)
def tyX8 : Nat → FieldType := fun k => match k with
  | 0 => .array (.object "BeesSting$Flight")
  | 1 => .object "BeesSting$Day"
  | 2 => .array .int
  | 3 => .array .int
  | 4 => .int
  | _ => .int
abbrev wsX80 : List Cond := u_ws RX8 TX8 6
theorem nmX8 : ∀ a, a < 6 → ∀ b, b < 6 → a ≠ b → (TX8 a).2.1 ≠ (TX8 b).2.1 := by decide +kernel
theorem tyX8_ok : ∀ k, k < 6 → parseFieldDescriptor (TX8 k).2.2.1 = some (tyX8 k) := by decide +kernel
abbrev cX8_init : ByteArray := prog_10_method_1_code
def yX8_init : MethodName := ⟨RX8, "<init>", "([LBeesSting$Flight;LBeesSting$Day;)V"⟩
abbrev cX8_tryAll : ByteArray := prog_10_method_2_code
def yX8_tryAll : MethodName := ⟨RX8, "tryAll", "(LBeesSting$Flight;)V"⟩
abbrev cX8_placeOf : ByteArray := prog_10_method_3_code
def yX8_placeOf : MethodName := ⟨RX8, "placeOf", "(I)I"⟩
abbrev cX8_arrange : ByteArray := prog_10_method_4_code
def yX8_arrange : MethodName := ⟨RX8, "arrange", "(LBeesSting$Orders;II)V"⟩
abbrev cX8_take : ByteArray := prog_10_method_5_code
def yX8_take : MethodName := ⟨RX8, "take", "(I)V"⟩
def RX9 : String := "BeesSting$Parish"
def TX9 : u_T := fun k => match k with
  | 0 => ("BeesSting$Parish", "people", "I", false)
  | 1 => ("BeesSting$Parish", "mile", "I", false)
  | 2 => ("BeesSting$Parish", "pace", "I", false)
  | 3 => ("BeesSting$Parish", "cell", "[I", true)
  | 4 => ("BeesSting$Parish", "cheek", "[I", true)
  | 5 => ("BeesSting$Parish", "pay", "[I", true)
  | _ => ("BeesSting$Parish", "near", "[I", true)
def tyX9 : Nat → FieldType := fun k => match k with
  | 0 => .int
  | 1 => .int
  | 2 => .int
  | 3 => .array .int
  | 4 => .array .int
  | 5 => .array .int
  | _ => .array .int
abbrev wsX90 : List Cond := u_ws RX9 TX9 7
theorem nmX9 : ∀ a, a < 7 → ∀ b, b < 7 → a ≠ b → (TX9 a).2.1 ≠ (TX9 b).2.1 := by decide +kernel
theorem tyX9_ok : ∀ k, k < 7 → parseFieldDescriptor (TX9 k).2.2.1 = some (tyX9 k) := by decide +kernel
abbrev cX9_init : ByteArray := prog_11_method_1_code
def yX9_init : MethodName := ⟨RX9, "<init>", "()V"⟩
abbrev cX9_has : ByteArray := prog_11_method_2_code
def yX9_has : MethodName := ⟨RX9, "has", "(I)Z"⟩
abbrev cX9_join : ByteArray := prog_11_method_3_code
def yX9_join : MethodName := ⟨RX9, "join", "(II)I"⟩
abbrev cX9_place : ByteArray := prog_11_method_4_code
def yX9_place : MethodName := ⟨RX9, "place", "(II)V"⟩
abbrev cX9_setMile : ByteArray := prog_11_method_5_code
def yX9_setMile : MethodName := ⟨RX9, "setMile", "(I)V"⟩
abbrev cX9_lookAround : ByteArray := prog_11_method_6_code
def yX9_lookAround : MethodName := ⟨RX9, "lookAround", "()V"⟩
abbrev cX9_within : ByteArray := prog_11_method_7_code
def yX9_within : MethodName := ⟨RX9, "within", "(I)I"⟩
abbrev cX9_isNearer : ByteArray := prog_11_method_8_code
def yX9_isNearer : MethodName := ⟨RX9, "isNearer", "(III)Z"⟩
abbrev cX9_whoseCell : ByteArray := prog_11_method_9_code
def yX9_whoseCell : MethodName := ⟨RX9, "whoseCell", "(I)I"⟩
abbrev cX9_apart : ByteArray := prog_11_method_10_code
def yX9_apart : MethodName := ⟨RX9, "apart", "(II)I"⟩
def RX10 : String := "BeesSting$Shelves"
def TX10 : u_T := fun k => match k with
  | 0 => ("BeesSting$Shelves", "sort", "[I", true)
  | 1 => ("BeesSting$Shelves", "size", "[I", true)
  | _ => ("BeesSting$Shelves", "rows", "[[J", true)
def tyX10 : Nat → FieldType := fun k => match k with
  | 0 => .array .int
  | 1 => .array .int
  | _ => .array (.array .long)
abbrev wsX100 : List Cond := u_ws RX10 TX10 3
theorem nmX10 : ∀ a, a < 3 → ∀ b, b < 3 → a ≠ b → (TX10 a).2.1 ≠ (TX10 b).2.1 := by decide +kernel
theorem tyX10_ok : ∀ k, k < 3 → parseFieldDescriptor (TX10 k).2.2.1 = some (tyX10 k) := by decide +kernel
abbrev cX10_init : ByteArray := prog_12_method_1_code
def yX10_init : MethodName := ⟨RX10, "<init>", "()V"⟩
abbrev cX10_isShelf : ByteArray := prog_12_method_2_code
def yX10_isShelf : MethodName := ⟨RX10, "isShelf", "(I)Z"⟩
abbrev cX10_isEmpty : ByteArray := prog_12_method_3_code
def yX10_isEmpty : MethodName := ⟨RX10, "isEmpty", "(I)Z"⟩
abbrev cX10_holdsRow : ByteArray := prog_12_method_4_code
def yX10_holdsRow : MethodName := ⟨RX10, "holdsRow", "(II)Z"⟩
abbrev cX10_bodyOn : ByteArray := prog_12_method_5_code
def yX10_bodyOn : MethodName := ⟨RX10, "bodyOn", "(I)I"⟩
abbrev cX10_sizeOf : ByteArray := prog_12_method_6_code
def yX10_sizeOf : MethodName := ⟨RX10, "sizeOf", "(I)I"⟩
abbrev cX10_isRow : ByteArray := prog_12_method_7_code
def yX10_isRow : MethodName := ⟨RX10, "isRow", "(I)Z"⟩
abbrev cX10_lay : ByteArray := prog_12_method_8_code
def yX10_lay : MethodName := ⟨RX10, "lay", "(III)V"⟩
abbrev cX10_faultOfBytes : ByteArray := prog_12_method_9_code
def yX10_faultOfBytes : MethodName := ⟨RX10, "faultOfBytes", "(II)I"⟩
abbrev cX10_faultOfPlace : ByteArray := prog_12_method_10_code
def yX10_faultOfPlace : MethodName := ⟨RX10, "faultOfPlace", "(II)I"⟩
abbrev cX10_get : ByteArray := prog_12_method_11_code
def yX10_get : MethodName := ⟨RX10, "get", "(II)J"⟩
abbrev cX10_set : ByteArray := prog_12_method_12_code
def yX10_set : MethodName := ⟨RX10, "set", "(IIJ)V"⟩
abbrev cX10_lowest : ByteArray := prog_12_method_13_code
def yX10_lowest : MethodName := ⟨RX10, "lowest", "(IJ)J"⟩
abbrev cX10_copy : ByteArray := prog_12_method_14_code
def yX10_copy : MethodName := ⟨RX10, "copy", "(IIIII)I"⟩
def RX11 : String := "BeesSting"
def TX11 : u_T := fun k => match k with
  | 0 => ("BeesSting", "parish", "LBeesSting$Parish;", true)
  | 1 => ("BeesSting", "rules", "LBeesSting$Law;", true)
  | 2 => ("BeesSting", "deed", "LBeesSting$Flight;", true)
  | 3 => ("BeesSting", "thought", "LBeesSting$Flight;", true)
  | 4 => ("BeesSting", "further", "LBeesSting$Flight;", true)
  | 5 => ("BeesSting", "today", "LBeesSting$Day;", true)
  | 6 => ("BeesSting", "arranging", "LBeesSting$Orders;", true)
  | 7 => ("BeesSting", "talking", "LBeesSting$LastWord;", true)
  | 8 => ("BeesSting", "hearing", "LBeesSting$Heard;", true)
  | 9 => ("BeesSting", "changes", "LBeesSting$Changes;", true)
  | 10 => ("BeesSting", "shelves", "LBeesSting$Shelves;", true)
  | 11 => ("BeesSting", "acts", "LBeesSting$Acts;", true)
  | 12 => ("BeesSting", "keptFlight", "LBeesSting$Flight;", true)
  | 13 => ("BeesSting", "keptCells", "[I", true)
  | _ => ("BeesSting", "keptPeople", "I", false)
def tyX11 : Nat → FieldType := fun k => match k with
  | 0 => .object "BeesSting$Parish"
  | 1 => .object "BeesSting$Law"
  | 2 => .object "BeesSting$Flight"
  | 3 => .object "BeesSting$Flight"
  | 4 => .object "BeesSting$Flight"
  | 5 => .object "BeesSting$Day"
  | 6 => .object "BeesSting$Orders"
  | 7 => .object "BeesSting$LastWord"
  | 8 => .object "BeesSting$Heard"
  | 9 => .object "BeesSting$Changes"
  | 10 => .object "BeesSting$Shelves"
  | 11 => .object "BeesSting$Acts"
  | 12 => .object "BeesSting$Flight"
  | 13 => .array .int
  | _ => .int
abbrev wsX110 : List Cond := u_ws RX11 TX11 15
theorem nmX11 : ∀ a, a < 15 → ∀ b, b < 15 → a ≠ b → (TX11 a).2.1 ≠ (TX11 b).2.1 := by decide +kernel
theorem tyX11_ok : ∀ k, k < 15 → parseFieldDescriptor (TX11 k).2.2.1 = some (tyX11 k) := by decide +kernel
abbrev cX11_init : ByteArray := prog_1_method_1_code
def yX11_init : MethodName := ⟨RX11, "<init>", "()V"⟩
abbrev cX11_person : ByteArray := prog_1_method_2_code
def yX11_person : MethodName := ⟨RX11, "person", "(I)I"⟩
abbrev cX11_people : ByteArray := prog_1_method_3_code
def yX11_people : MethodName := ⟨RX11, "people", "(III)I"⟩
abbrev cX11_mend : ByteArray := prog_1_method_4_code
def yX11_mend : MethodName := ⟨RX11, "mend", "(III)I"⟩
abbrev cX11_of : ByteArray := prog_1_method_5_code
def yX11_of : MethodName := ⟨RX11, "of", "(II)I"⟩
abbrev cX11_feed : ByteArray := prog_1_method_6_code
def yX11_feed : MethodName := ⟨RX11, "feed", "(I)I"⟩
abbrev cX11_law : ByteArray := prog_1_method_7_code
def yX11_law : MethodName := ⟨RX11, "law", "()I"⟩
abbrev cX11_loud : ByteArray := prog_1_method_8_code
def yX11_loud : MethodName := ⟨RX11, "loud", "(I)I"⟩
abbrev cX11_day : ByteArray := prog_1_method_9_code
def yX11_day : MethodName := ⟨RX11, "day", "(III)I"⟩
abbrev cX11_stung : ByteArray := prog_1_method_10_code
def yX11_stung : MethodName := ⟨RX11, "stung", "(IIII)I"⟩
abbrev cX11_reach : ByteArray := prog_1_method_11_code
def yX11_reach : MethodName := ⟨RX11, "reach", "()I"⟩
abbrev cX11_soon : ByteArray := prog_1_method_12_code
def yX11_soon : MethodName := ⟨RX11, "soon", "(I)I"⟩
abbrev cX11_passOn : ByteArray := prog_1_method_13_code
def yX11_passOn : MethodName := ⟨RX11, "passOn", "(III)I"⟩
abbrev cX11_orders : ByteArray := prog_1_method_14_code
def yX11_orders : MethodName := ⟨RX11, "orders", "(II)I"⟩
abbrev cX11_stand : ByteArray := prog_1_method_15_code
def yX11_stand : MethodName := ⟨RX11, "stand", "(III)I"⟩
abbrev cX11_lastWord : ByteArray := prog_1_method_16_code
def yX11_lastWord : MethodName := ⟨RX11, "lastWord", "(III)I"⟩
abbrev cX11_crier : ByteArray := prog_1_method_17_code
def yX11_crier : MethodName := ⟨RX11, "crier", "(II)I"⟩
abbrev cX11_keepNear : ByteArray := prog_1_method_18_code
def yX11_keepNear : MethodName := ⟨RX11, "keepNear", "(I)I"⟩
abbrev cX11_heard : ByteArray := prog_1_method_19_code
def yX11_heard : MethodName := ⟨RX11, "heard", "(III)I"⟩
abbrev cX11_drawn : ByteArray := prog_1_method_20_code
def yX11_drawn : MethodName := ⟨RX11, "drawn", "(III)I"⟩
abbrev cX11_say : ByteArray := prog_1_method_21_code
def yX11_say : MethodName := ⟨RX11, "say", "(II)I"⟩
abbrev cX11_go : ByteArray := prog_1_method_22_code
def yX11_go : MethodName := ⟨RX11, "go", "(II)I"⟩
abbrev cX11_pad : ByteArray := prog_1_method_23_code
def yX11_pad : MethodName := ⟨RX11, "pad", "(I)I"⟩
abbrev cX11_led : ByteArray := prog_1_method_24_code
def yX11_led : MethodName := ⟨RX11, "led", "(I)I"⟩
abbrev cX11_image : ByteArray := prog_1_method_25_code
def yX11_image : MethodName := ⟨RX11, "image", "()I"⟩
abbrev cX11_back : ByteArray := prog_1_method_26_code
def yX11_back : MethodName := ⟨RX11, "back", "()I"⟩
abbrev cX11_undo : ByteArray := prog_1_method_27_code
def yX11_undo : MethodName := ⟨RX11, "undo", "()I"⟩
abbrev cX11_redo : ByteArray := prog_1_method_28_code
def yX11_redo : MethodName := ⟨RX11, "redo", "()I"⟩
abbrev cX11_body : ByteArray := prog_1_method_29_code
def yX11_body : MethodName := ⟨RX11, "body", "(I)I"⟩
abbrev cX11_act : ByteArray := prog_1_method_30_code
def yX11_act : MethodName := ⟨RX11, "act", "(III)I"⟩
abbrev cX11_trace : ByteArray := prog_1_method_31_code
def yX11_trace : MethodName := ⟨RX11, "trace", "(I)I"⟩
abbrev cX11_keep : ByteArray := prog_1_method_32_code
def yX11_keep : MethodName := ⟨RX11, "keep", "(II)I"⟩
abbrev cX11_row : ByteArray := prog_1_method_33_code
def yX11_row : MethodName := ⟨RX11, "row", "(III)I"⟩
abbrev cX11_put : ByteArray := prog_1_method_34_code
def yX11_put : MethodName := ⟨RX11, "put", "(IIJ)I"⟩
abbrev cX11_element : ByteArray := prog_1_method_35_code
def yX11_element : MethodName := ⟨RX11, "element", "(II)J"⟩
abbrev cX11_shift : ByteArray := prog_1_method_36_code
def yX11_shift : MethodName := ⟨RX11, "shift", "(IIIII)I"⟩
abbrev cX11_taken : ByteArray := prog_1_method_37_code
def yX11_taken : MethodName := ⟨RX11, "taken", "(II)I"⟩
abbrev cX11_count : ByteArray := prog_1_method_38_code
def yX11_count : MethodName := ⟨RX11, "count", "(I)I"⟩
abbrev cX11_isCell : ByteArray := prog_1_method_39_code
def yX11_isCell : MethodName := ⟨RX11, "isCell", "(I)Z"⟩
abbrev cX11_join : ByteArray := prog_1_method_40_code
def yX11_join : MethodName := ⟨RX11, "join", "(III)I"⟩
abbrev cX11_comes : ByteArray := prog_1_method_41_code
def yX11_comes : MethodName := ⟨RX11, "comes", "(IJ)Z"⟩
abbrev cX11_isTold : ByteArray := prog_1_method_42_code
def yX11_isTold : MethodName := ⟨RX11, "isTold", "(II)Z"⟩
abbrev cX11_told : ByteArray := prog_1_method_43_code
def yX11_told : MethodName := ⟨RX11, "told", "(II)I"⟩
abbrev cX11_tell : ByteArray := prog_1_method_44_code
def yX11_tell : MethodName := ⟨RX11, "tell", "(III)V"⟩
abbrev cX11_openDay : ByteArray := prog_1_method_45_code
def yX11_openDay : MethodName := ⟨RX11, "openDay", "(I)I"⟩
abbrev cX11_think : ByteArray := prog_1_method_46_code
def yX11_think : MethodName := ⟨RX11, "think", "(I)I"⟩
abbrev cX11_isSpared : ByteArray := prog_1_method_47_code
def yX11_isSpared : MethodName := ⟨RX11, "isSpared", "(I)Z"⟩
abbrev cX11_stungBehind : ByteArray := prog_1_method_48_code
def yX11_stungBehind : MethodName := ⟨RX11, "stungBehind", "(LBeesSting$Flight;I)I"⟩
def RX12 : String := "BeesStingModel"
def TX12 : u_T := fun k => match k with
  | 0 => ("BeesStingModel", "code", "I", false)
  | 1 => ("BeesStingModel", "people1", "I", false)
  | 2 => ("BeesStingModel", "cellOf", "[I", true)
  | 3 => ("BeesStingModel", "cheek", "[I", true)
  | 4 => ("BeesStingModel", "pads", "[I", true)
  | 5 => ("BeesStingModel", "pay", "[I", true)
  | 6 => ("BeesStingModel", "told", "[I", true)
  | 7 => ("BeesStingModel", "liar", "I", false)
  | 8 => ("BeesStingModel", "doneMany", "I", false)
  | 9 => ("BeesStingModel", "undoneMany", "I", false)
  | 10 => ("BeesStingModel", "changeOf", "[I", true)
  | 11 => ("BeesStingModel", "changeAt", "[I", true)
  | 12 => ("BeesStingModel", "before", "[I", true)
  | 13 => ("BeesStingModel", "behind", "[I", true)
  | 14 => ("BeesStingModel", "tape", "[B", true)
  | 15 => ("BeesStingModel", "taped", "I", false)
  | 16 => ("BeesStingModel", "here", "I", false)
  | 17 => ("BeesStingModel", "fault", "I", false)
  | 18 => ("BeesStingModel", "open", "I", false)
  | 19 => ("BeesStingModel", "laid", "I", false)
  | 20 => ("BeesStingModel", "act", "[B", true)
  | 21 => ("BeesStingModel", "with", "[I", true)
  | 22 => ("BeesStingModel", "lineMany", "[I", true)
  | 23 => ("BeesStingModel", "testEnd", "[S", true)
  | 24 => ("BeesStingModel", "lineEnd", "[S", true)
  | 25 => ("BeesStingModel", "facts", "[I", true)
  | 26 => ("BeesStingModel", "pile", "[I", true)
  | 27 => ("BeesStingModel", "hasLaw", "Z", false)
  | 28 => ("BeesStingModel", "bee1", "I", false)
  | 29 => ("BeesStingModel", "liar1", "I", false)
  | 30 => ("BeesStingModel", "hour1", "I", false)
  | 31 => ("BeesStingModel", "lies1", "I", false)
  | 32 => ("BeesStingModel", "pads1", "[I", true)
  | 33 => ("BeesStingModel", "hurt1", "Z", false)
  | 34 => ("BeesStingModel", "loud1", "Z", false)
  | 35 => ("BeesStingModel", "loudBits", "I", false)
  | 36 => ("BeesStingModel", "stungOf", "[I", true)
  | 37 => ("BeesStingModel", "hurtOf", "[I", true)
  | 38 => ("BeesStingModel", "firstOf", "[I", true)
  | 39 => ("BeesStingModel", "placed", "[I", true)
  | 40 => ("BeesStingModel", "bestPlaced", "[I", true)
  | 41 => ("BeesStingModel", "ordersMany", "I", false)
  | 42 => ("BeesStingModel", "leastHurts", "I", false)
  | 43 => ("BeesStingModel", "quiets", "I", false)
  | 44 => ("BeesStingModel", "wordA", "I", false)
  | 45 => ("BeesStingModel", "wordB", "I", false)
  | 46 => ("BeesStingModel", "dayShelf", "I", false)
  | 47 => ("BeesStingModel", "toldShelf", "I", false)
  | 48 => ("BeesStingModel", "sayings", "I", false)
  | 49 => ("BeesStingModel", "waysMany", "I", false)
  | 50 => ("BeesStingModel", "fewest1", "I", false)
  | 51 => ("BeesStingModel", "fewestBits", "I", false)
  | 52 => ("BeesStingModel", "certain1", "I", false)
  | 53 => ("BeesStingModel", "ledOf", "[I", true)
  | 54 => ("BeesStingModel", "hasImage", "Z", false)
  | 55 => ("BeesStingModel", "keptMany", "I", false)
  | 56 => ("BeesStingModel", "keptBee", "I", false)
  | 57 => ("BeesStingModel", "keptHour", "I", false)
  | 58 => ("BeesStingModel", "keptLiar", "I", false)
  | 59 => ("BeesStingModel", "keptCell", "[I", true)
  | 60 => ("BeesStingModel", "keptPads", "[I", true)
  | 61 => ("BeesStingModel", "keptLed", "[I", true)
  | 62 => ("BeesStingModel", "bodies", "I", false)
  | 63 => ("BeesStingModel", "kind", "[I", true)
  | 64 => ("BeesStingModel", "traces", "I", false)
  | 65 => ("BeesStingModel", "traced", "[I", true)
  | 66 => ("BeesStingModel", "holds", "[I", true)
  | 67 => ("BeesStingModel", "size", "[I", true)
  | 68 => ("BeesStingModel", "elements", "[J", true)
  | _ => ("BeesStingModel", "shifted", "[J", true)
def tyX12 : Nat → FieldType := fun k => match k with
  | 0 => .int
  | 1 => .int
  | 2 => .array .int
  | 3 => .array .int
  | 4 => .array .int
  | 5 => .array .int
  | 6 => .array .int
  | 7 => .int
  | 8 => .int
  | 9 => .int
  | 10 => .array .int
  | 11 => .array .int
  | 12 => .array .int
  | 13 => .array .int
  | 14 => .array .byte
  | 15 => .int
  | 16 => .int
  | 17 => .int
  | 18 => .int
  | 19 => .int
  | 20 => .array .byte
  | 21 => .array .int
  | 22 => .array .int
  | 23 => .array .short
  | 24 => .array .short
  | 25 => .array .int
  | 26 => .array .int
  | 27 => .boolean
  | 28 => .int
  | 29 => .int
  | 30 => .int
  | 31 => .int
  | 32 => .array .int
  | 33 => .boolean
  | 34 => .boolean
  | 35 => .int
  | 36 => .array .int
  | 37 => .array .int
  | 38 => .array .int
  | 39 => .array .int
  | 40 => .array .int
  | 41 => .int
  | 42 => .int
  | 43 => .int
  | 44 => .int
  | 45 => .int
  | 46 => .int
  | 47 => .int
  | 48 => .int
  | 49 => .int
  | 50 => .int
  | 51 => .int
  | 52 => .int
  | 53 => .array .int
  | 54 => .boolean
  | 55 => .int
  | 56 => .int
  | 57 => .int
  | 58 => .int
  | 59 => .array .int
  | 60 => .array .int
  | 61 => .array .int
  | 62 => .int
  | 63 => .array .int
  | 64 => .int
  | 65 => .array .int
  | 66 => .array .int
  | 67 => .array .int
  | 68 => .array .long
  | _ => .array .long
abbrev wsX120 : List Cond := u_ws RX12 TX12 70
theorem nmX12 : ∀ a, a < 70 → ∀ b, b < 70 → a ≠ b → (TX12 a).2.1 ≠ (TX12 b).2.1 := by decide +kernel
theorem tyX12_ok : ∀ k, k < 70 → parseFieldDescriptor (TX12 k).2.2.1 = some (tyX12 k) := by decide +kernel
abbrev cX12_init : ByteArray := prog_14_method_1_code
def yX12_init : MethodName := ⟨RX12, "<init>", "()V"⟩
abbrev cX12_in : ByteArray := prog_14_method_3_code
def yX12_in : MethodName := ⟨RX12, "in", "(III)Z"⟩
abbrev cX12_apart : ByteArray := prog_14_method_4_code
def yX12_apart : MethodName := ⟨RX12, "apart", "(II)I"⟩
abbrev cX12_far : ByteArray := prog_14_method_5_code
def yX12_far : MethodName := ⟨RX12, "far", "(II)I"⟩
abbrev cX12_bitsOf : ByteArray := prog_14_method_6_code
def yX12_bitsOf : MethodName := ⟨RX12, "bitsOf", "(I)I"⟩
abbrev cX12_isOne : ByteArray := prog_14_method_7_code
def yX12_isOne : MethodName := ⟨RX12, "isOne", "(I)Z"⟩
abbrev cX12_areTwo : ByteArray := prog_14_method_8_code
def yX12_areTwo : MethodName := ⟨RX12, "areTwo", "(I)Z"⟩
abbrev cX12_isCell : ByteArray := prog_14_method_9_code
def yX12_isCell : MethodName := ⟨RX12, "isCell", "(I)Z"⟩
abbrev cX12_addOne : ByteArray := prog_14_method_10_code
def yX12_addOne : MethodName := ⟨RX12, "addOne", "(III)I"⟩
abbrev cX12_person : ByteArray := prog_14_method_11_code
def yX12_person : MethodName := ⟨RX12, "person", "(I)I"⟩
abbrev cX12_people : ByteArray := prog_14_method_12_code
def yX12_people : MethodName := ⟨RX12, "people", "(III)I"⟩
abbrev cX12_valueAt : ByteArray := prog_14_method_13_code
def yX12_valueAt : MethodName := ⟨RX12, "valueAt", "(II)I"⟩
abbrev cX12_lays : ByteArray := prog_14_method_14_code
def yX12_lays : MethodName := ⟨RX12, "lays", "(III)V"⟩
abbrev cX12_changes : ByteArray := prog_14_method_15_code
def yX12_changes : MethodName := ⟨RX12, "changes", "(III)I"⟩
abbrev cX12_undo : ByteArray := prog_14_method_16_code
def yX12_undo : MethodName := ⟨RX12, "undo", "()I"⟩
abbrev cX12_redo : ByteArray := prog_14_method_17_code
def yX12_redo : MethodName := ⟨RX12, "redo", "()I"⟩
abbrev cX12_isPlace : ByteArray := prog_14_method_18_code
def yX12_isPlace : MethodName := ⟨RX12, "isPlace", "(II)Z"⟩
abbrev cX12_mayHave : ByteArray := prog_14_method_19_code
def yX12_mayHave : MethodName := ⟨RX12, "mayHave", "(II)Z"⟩
abbrev cX12_mend : ByteArray := prog_14_method_20_code
def yX12_mend : MethodName := ⟨RX12, "mend", "(III)I"⟩
abbrev cX12_of : ByteArray := prog_14_method_21_code
def yX12_of : MethodName := ⟨RX12, "of", "(II)I"⟩
abbrev cX12_feed : ByteArray := prog_14_method_22_code
def yX12_feed : MethodName := ⟨RX12, "feed", "(I)I"⟩
abbrev cX12_look : ByteArray := prog_14_method_23_code
def yX12_look : MethodName := ⟨RX12, "look", "()I"⟩
abbrev cX12_wrong : ByteArray := prog_14_method_24_code
def yX12_wrong : MethodName := ⟨RX12, "wrong", "()V"⟩
abbrev cX12_addStep : ByteArray := prog_14_method_25_code
def yX12_addStep : MethodName := ⟨RX12, "addStep", "(II)V"⟩
abbrev cX12_nameOf : ByteArray := prog_14_method_26_code
def yX12_nameOf : MethodName := ⟨RX12, "nameOf", "(I)I"⟩
abbrev cX12_opens : ByteArray := prog_14_method_27_code
def yX12_opens : MethodName := ⟨RX12, "opens", "()Z"⟩
abbrev cX12_figure : ByteArray := prog_14_method_28_code
def yX12_figure : MethodName := ⟨RX12, "figure", "()V"⟩
abbrev cX12_operand : ByteArray := prog_14_method_29_code
def yX12_operand : MethodName := ⟨RX12, "operand", "()V"⟩
abbrev cX12_product : ByteArray := prog_14_method_30_code
def yX12_product : MethodName := ⟨RX12, "product", "()V"⟩
abbrev cX12_sum : ByteArray := prog_14_method_31_code
def yX12_sum : MethodName := ⟨RX12, "sum", "()V"⟩
abbrev cX12_compared : ByteArray := prog_14_method_32_code
def yX12_compared : MethodName := ⟨RX12, "compared", "()V"⟩
abbrev cX12_both : ByteArray := prog_14_method_33_code
def yX12_both : MethodName := ⟨RX12, "both", "()V"⟩
abbrev cX12_either : ByteArray := prog_14_method_34_code
def yX12_either : MethodName := ⟨RX12, "either", "()V"⟩
abbrev cX12_line : ByteArray := prog_14_method_35_code
def yX12_line : MethodName := ⟨RX12, "line", "()V"⟩
abbrev cX12_readText : ByteArray := prog_14_method_36_code
def yX12_readText : MethodName := ⟨RX12, "readText", "(I)I"⟩
abbrev cX12_twoOf : ByteArray := prog_14_method_37_code
def yX12_twoOf : MethodName := ⟨RX12, "twoOf", "(III)I"⟩
abbrev cX12_worked : ByteArray := prog_14_method_38_code
def yX12_worked : MethodName := ⟨RX12, "worked", "(III)I"⟩
abbrev cX12_gives : ByteArray := prog_14_method_39_code
def yX12_gives : MethodName := ⟨RX12, "gives", "(I)I"⟩
abbrev cX12_law : ByteArray := prog_14_method_40_code
def yX12_law : MethodName := ⟨RX12, "law", "()I"⟩
abbrev cX12_layNow : ByteArray := prog_14_method_41_code
def yX12_layNow : MethodName := ⟨RX12, "layNow", "(I)V"⟩
abbrev cX12_within : ByteArray := prog_14_method_42_code
def yX12_within : MethodName := ⟨RX12, "within", "(I)I"⟩
abbrev cX12_loudOf : ByteArray := prog_14_method_43_code
def yX12_loudOf : MethodName := ⟨RX12, "loudOf", "(I)I"⟩
abbrev cX12_nearer : ByteArray := prog_14_method_44_code
def yX12_nearer : MethodName := ⟨RX12, "nearer", "(III)I"⟩
abbrev cX12_flies : ByteArray := prog_14_method_45_code
def yX12_flies : MethodName := ⟨RX12, "flies", "(I)V"⟩
abbrev cX12_goSaying : ByteArray := prog_14_method_46_code
def yX12_goSaying : MethodName := ⟨RX12, "goSaying", "(IZ)I"⟩
abbrev cX12_loud : ByteArray := prog_14_method_47_code
def yX12_loud : MethodName := ⟨RX12, "loud", "(I)I"⟩
abbrev cX12_rowFault : ByteArray := prog_14_method_48_code
def yX12_rowFault : MethodName := ⟨RX12, "rowFault", "(II)I"⟩
abbrev cX12_at : ByteArray := prog_14_method_49_code
def yX12_at : MethodName := ⟨RX12, "at", "(II)I"⟩
abbrev cX12_longOf : ByteArray := prog_14_method_50_code
def yX12_longOf : MethodName := ⟨RX12, "longOf", "(II)I"⟩
abbrev cX12_goDay : ByteArray := prog_14_method_51_code
def yX12_goDay : MethodName := ⟨RX12, "goDay", "(II)V"⟩
abbrev cX12_areMany : ByteArray := prog_14_method_52_code
def yX12_areMany : MethodName := ⟨RX12, "areMany", "(I)Z"⟩
abbrev cX12_day : ByteArray := prog_14_method_53_code
def yX12_day : MethodName := ⟨RX12, "day", "(III)I"⟩
abbrev cX12_stung : ByteArray := prog_14_method_54_code
def yX12_stung : MethodName := ⟨RX12, "stung", "(IIII)I"⟩
abbrev cX12_reach : ByteArray := prog_14_method_55_code
def yX12_reach : MethodName := ⟨RX12, "reach", "()I"⟩
abbrev cX12_stungBehind : ByteArray := prog_14_method_56_code
def yX12_stungBehind : MethodName := ⟨RX12, "stungBehind", "(II)I"⟩
abbrev cX12_soon : ByteArray := prog_14_method_57_code
def yX12_soon : MethodName := ⟨RX12, "soon", "(I)I"⟩
abbrev cX12_passOn : ByteArray := prog_14_method_58_code
def yX12_passOn : MethodName := ⟨RX12, "passOn", "(III)I"⟩
abbrev cX12_goOrders : ByteArray := prog_14_method_59_code
def yX12_goOrders : MethodName := ⟨RX12, "goOrders", "(IIII)V"⟩
abbrev cX12_orders : ByteArray := prog_14_method_60_code
def yX12_orders : MethodName := ⟨RX12, "orders", "(II)I"⟩
abbrev cX12_stand : ByteArray := prog_14_method_61_code
def yX12_stand : MethodName := ⟨RX12, "stand", "(III)I"⟩
abbrev cX12_bitOf : ByteArray := prog_14_method_62_code
def yX12_bitOf : MethodName := ⟨RX12, "bitOf", "(I)I"⟩
abbrev cX12_likes : ByteArray := prog_14_method_63_code
def yX12_likes : MethodName := ⟨RX12, "likes", "(II)I"⟩
abbrev cX12_lastStill : ByteArray := prog_14_method_64_code
def yX12_lastStill : MethodName := ⟨RX12, "lastStill", "(I)I"⟩
abbrev cX12_lastBy : ByteArray := prog_14_method_65_code
def yX12_lastBy : MethodName := ⟨RX12, "lastBy", "(IZIZ)I"⟩
abbrev cX12_lastOf : ByteArray := prog_14_method_66_code
def yX12_lastOf : MethodName := ⟨RX12, "lastOf", "(IZI)I"⟩
abbrev cX12_lastWord : ByteArray := prog_14_method_67_code
def yX12_lastWord : MethodName := ⟨RX12, "lastWord", "(III)I"⟩
abbrev cX12_takes : ByteArray := prog_14_method_68_code
def yX12_takes : MethodName := ⟨RX12, "takes", "(I)I"⟩
abbrev cX12_crier : ByteArray := prog_14_method_69_code
def yX12_crier : MethodName := ⟨RX12, "crier", "(II)I"⟩
abbrev cX12_keepNear : ByteArray := prog_14_method_70_code
def yX12_keepNear : MethodName := ⟨RX12, "keepNear", "(I)I"⟩
abbrev cX12_whoseCell : ByteArray := prog_14_method_71_code
def yX12_whoseCell : MethodName := ⟨RX12, "whoseCell", "()I"⟩
abbrev cX12_goHeard : ByteArray := prog_14_method_72_code
def yX12_goHeard : MethodName := ⟨RX12, "goHeard", "(II)V"⟩
abbrev cX12_heard : ByteArray := prog_14_method_73_code
def yX12_heard : MethodName := ⟨RX12, "heard", "(III)I"⟩
abbrev cX12_drawn : ByteArray := prog_14_method_74_code
def yX12_drawn : MethodName := ⟨RX12, "drawn", "(III)I"⟩
abbrev cX12_say : ByteArray := prog_14_method_75_code
def yX12_say : MethodName := ⟨RX12, "say", "(II)I"⟩
abbrev cX12_go : ByteArray := prog_14_method_76_code
def yX12_go : MethodName := ⟨RX12, "go", "(II)I"⟩
abbrev cX12_pad : ByteArray := prog_14_method_77_code
def yX12_pad : MethodName := ⟨RX12, "pad", "(I)I"⟩
abbrev cX12_led : ByteArray := prog_14_method_78_code
def yX12_led : MethodName := ⟨RX12, "led", "(I)I"⟩
abbrev cX12_image : ByteArray := prog_14_method_79_code
def yX12_image : MethodName := ⟨RX12, "image", "()I"⟩
abbrev cX12_back : ByteArray := prog_14_method_80_code
def yX12_back : MethodName := ⟨RX12, "back", "()I"⟩
abbrev cX12_isBody : ByteArray := prog_14_method_81_code
def yX12_isBody : MethodName := ⟨RX12, "isBody", "(I)Z"⟩
abbrev cX12_ran : ByteArray := prog_14_method_82_code
def yX12_ran : MethodName := ⟨RX12, "ran", "(I)V"⟩
abbrev cX12_trace : ByteArray := prog_14_method_83_code
def yX12_trace : MethodName := ⟨RX12, "trace", "(I)I"⟩
abbrev cX12_body : ByteArray := prog_14_method_84_code
def yX12_body : MethodName := ⟨RX12, "body", "(I)I"⟩
abbrev cX12_isUnder : ByteArray := prog_14_method_85_code
def yX12_isUnder : MethodName := ⟨RX12, "isUnder", "(II)Z"⟩
abbrev cX12_plainFlies : ByteArray := prog_14_method_86_code
def yX12_plainFlies : MethodName := ⟨RX12, "plainFlies", "(II)I"⟩
abbrev cX12_coatFlies : ByteArray := prog_14_method_87_code
def yX12_coatFlies : MethodName := ⟨RX12, "coatFlies", "(II)I"⟩
abbrev cX12_flying : ByteArray := prog_14_method_88_code
def yX12_flying : MethodName := ⟨RX12, "flying", "(II)I"⟩
abbrev cX12_plainStings : ByteArray := prog_14_method_89_code
def yX12_plainStings : MethodName := ⟨RX12, "plainStings", "(II)I"⟩
abbrev cX12_brookStings : ByteArray := prog_14_method_90_code
def yX12_brookStings : MethodName := ⟨RX12, "brookStings", "(II)I"⟩
abbrev cX12_stinging : ByteArray := prog_14_method_91_code
def yX12_stinging : MethodName := ⟨RX12, "stinging", "(II)I"⟩
abbrev cX12_plainSettles : ByteArray := prog_14_method_92_code
def yX12_plainSettles : MethodName := ⟨RX12, "plainSettles", "(II)I"⟩
abbrev cX12_courtSettles : ByteArray := prog_14_method_93_code
def yX12_courtSettles : MethodName := ⟨RX12, "courtSettles", "(II)I"⟩
abbrev cX12_settling : ByteArray := prog_14_method_94_code
def yX12_settling : MethodName := ⟨RX12, "settling", "(II)I"⟩
abbrev cX12_plainTells : ByteArray := prog_14_method_95_code
def yX12_plainTells : MethodName := ⟨RX12, "plainTells", "(II)I"⟩
abbrev cX12_telling : ByteArray := prog_14_method_96_code
def yX12_telling : MethodName := ⟨RX12, "telling", "(II)I"⟩
abbrev cX12_act : ByteArray := prog_14_method_97_code
def yX12_act : MethodName := ⟨RX12, "act", "(III)I"⟩
abbrev cX12_count : ByteArray := prog_14_method_98_code
def yX12_count : MethodName := ⟨RX12, "count", "(I)I"⟩
abbrev cX12_isShelf : ByteArray := prog_14_method_99_code
def yX12_isShelf : MethodName := ⟨RX12, "isShelf", "(I)Z"⟩
abbrev cX12_keep : ByteArray := prog_14_method_100_code
def yX12_keep : MethodName := ⟨RX12, "keep", "(II)I"⟩
abbrev cX12_row : ByteArray := prog_14_method_101_code
def yX12_row : MethodName := ⟨RX12, "row", "(III)I"⟩
abbrev cX12_whyNoPlace : ByteArray := prog_14_method_102_code
def yX12_whyNoPlace : MethodName := ⟨RX12, "whyNoPlace", "(II)I"⟩
abbrev cX12_put : ByteArray := prog_14_method_103_code
def yX12_put : MethodName := ⟨RX12, "put", "(IIJ)I"⟩
abbrev cX12_element : ByteArray := prog_14_method_104_code
def yX12_element : MethodName := ⟨RX12, "element", "(II)J"⟩
abbrev cX12_shift : ByteArray := prog_14_method_105_code
def yX12_shift : MethodName := ⟨RX12, "shift", "(IIIII)I"⟩
abbrev cX12_taken : ByteArray := prog_14_method_106_code
def yX12_taken : MethodName := ⟨RX12, "taken", "(II)I"⟩
def RJ6 : String := "java/lang/Integer"
def TJ6 : u_T := fun k => match k with
  | _ => ("", "", "", false)
def tyJ6 : Nat → FieldType := fun k => match k with
  | _ => .int
abbrev cJ6_bitCount_0f7a4 : ByteArray := prog_15_method_49_code
def yJ6_bitCount_0f7a4 : MethodName := ⟨RJ6, "bitCount", "(I)I"⟩
def RJ9 : String := "java/lang/Math"
def TJ9 : u_T := fun k => match k with
  | _ => ("", "", "", false)
def tyJ9 : Nat → FieldType := fun k => match k with
  | _ => .int
abbrev cJ9_max_7cf53 : ByteArray := prog_16_method_65_code
def yJ9_max_7cf53 : MethodName := ⟨RJ9, "max", "(II)I"⟩
abbrev cJ9_min_7cf53 : ByteArray := prog_16_method_69_code
def yJ9_min_7cf53 : MethodName := ⟨RJ9, "min", "(II)I"⟩
def RJ10 : String := "java/lang/System"
def TJ10 : u_T := fun k => match k with
  | _ => ("", "", "", false)
def tyJ10 : Nat → FieldType := fun k => match k with
  | _ => .int
def RJ7 : String := "java/util/Arrays"
def TJ7 : u_T := fun k => match k with
  | _ => ("", "", "", false)
def tyJ7 : Nat → FieldType := fun k => match k with
  | _ => .int
abbrev cJ7_fill_d0a16 : ByteArray := prog_18_method_101_code
def yJ7_fill_d0a16 : MethodName := ⟨RJ7, "fill", "([JJ)V"⟩
def RL : String := "BeesStingLaw"
abbrev cL_law : ByteArray := code
def yL_law : MethodName := ⟨RL, "law", "([I)Z"⟩
abbrev vwCl : List vw_C := [(RX0, TX0, 5), (RX1, TX1, 6), (RX2, TX2, 2), (RX3, TX3, 11), (RX4, TX4, 9), (RX5, TX5, 6), (RX6, TX6, 8), (RX7, TX7, 5), (RX8, TX8, 6), (RX9, TX9, 7), (RX10, TX10, 3), (RX11, TX11, 15), (RX12, TX12, 70)]
end
section
/-! own library: numbers, words, calls in one fixed world -/
theorem i_bd (x : Int32) : -2147483648 ≤ x.toInt ∧ x.toInt ≤ 2147483647 := ⟨by have := Int32.le_toInt x; simpa using this, by have := Int32.toInt_lt x; omega⟩
theorem i_bmod {z : Int} (h1 : -2147483648 ≤ z) (h2 : z ≤ 2147483647) : z.bmod (2 ^ 32) = z := by
  unfold Int.bmod; simp only []; split <;> omega
theorem i_add {x y : Int32} (h1 : -2147483648 ≤ x.toInt + y.toInt) (h2 : x.toInt + y.toInt ≤ 2147483647) : (x + y).toInt = x.toInt + y.toInt := by
  rw [Int32.toInt_add]; exact i_bmod h1 h2
theorem i_sub {x y : Int32} (h1 : -2147483648 ≤ x.toInt - y.toInt) (h2 : x.toInt - y.toInt ≤ 2147483647) : (x - y).toInt = x.toInt - y.toInt := by
  rw [Int32.toInt_sub]; exact i_bmod h1 h2
theorem i_mul {x y : Int32} (h1 : -2147483648 ≤ x.toInt * y.toInt) (h2 : x.toInt * y.toInt ≤ 2147483647) : (x * y).toInt = x.toInt * y.toInt := by
  rw [Int32.toInt_mul]; exact i_bmod h1 h2
theorem i_neg {x : Int32} (h : -2147483648 < x.toInt) : (-x).toInt = -x.toInt := by
  rw [Int32.toInt_neg]; exact i_bmod (by have := i_bd x; omega) (by omega)
theorem i_div {x y : Int32} (hx : 0 ≤ x.toInt) (hy : 0 < y.toInt) : (x / y).toInt = x.toInt / y.toInt := by
  rw [Int32.toInt_div, Int.tdiv_eq_ediv_of_nonneg hx]
  have h1 := Int.ediv_le_self y.toInt hx
  have h2 := Int.ediv_nonneg hx (Int.le_of_lt hy)
  have := i_bd x
  exact i_bmod (by omega) (by omega)
theorem i_rem {x y : Int32} (hx : 0 ≤ x.toInt) (hy : 0 < y.toInt) : (x - x / y * y).toInt = x.toInt % y.toInt := by
  have h1 := i_div hx hy
  have h2 := Int.emod_add_mul_ediv x.toInt y.toInt
  have h3 := Int.emod_nonneg x.toInt (Int.ne_of_gt hy)
  have h4 := Int.ediv_nonneg hx (Int.le_of_lt hy)
  have hb := i_bd x
  have h6 : 0 ≤ x.toInt / y.toInt * y.toInt := Int.mul_nonneg h4 (Int.le_of_lt hy)
  have h7 : y.toInt * (x.toInt / y.toInt) = x.toInt / y.toInt * y.toInt := Int.mul_comm _ _
  have h5 : (x / y * y).toInt = x.toInt / y.toInt * y.toInt := by
    rw [i_mul, h1]
    · rw [h1]; omega
    · rw [h1]; omega
  rw [i_sub, h5]
  · omega
  · rw [h5]; omega
  · rw [h5]; omega
theorem i_lt {x y : Int32} (h : x < y) : x.toInt < y.toInt := Int32.lt_iff_toInt_lt.mp h
theorem i_nlt {x y : Int32} (h : ¬ x < y) : y.toInt ≤ x.toInt := Int.not_lt.mp fun q => h (Int32.lt_iff_toInt_lt.mpr q)
theorem i_le {x y : Int32} (h : x ≤ y) : x.toInt ≤ y.toInt := Int32.le_iff_toInt_le.mp h
theorem i_nle {x y : Int32} (h : ¬ x ≤ y) : y.toInt < x.toInt := Int.not_le.mp fun q => h (Int32.le_iff_toInt_le.mpr q)
theorem i_eq {x y : Int32} (h : x = y) : x.toInt = y.toInt := by rw [h]
theorem i_ne {x y : Int32} (h : ¬ x = y) : x.toInt ≠ y.toInt := fun q => h (Int32.toInt_inj.mp q)
theorem i_inj {x y : Int32} (h : x.toInt = y.toInt) : x = y := Int32.toInt_inj.mp h
theorem i_nat {x : Int32} : x.toNatClampNeg = x.toInt.toNat := rfl
theorem i_in {x : Int32} {n : Nat} (h1 : 0 ≤ x.toInt) (h2 : x.toInt < n) : vp_in x n := vp_in_iff.mpr ⟨h1, h2⟩
theorem i_mk (z : Int) (h1 : -2147483648 ≤ z) (h2 : z ≤ 2147483647) : ∃ x : Int32, x.toInt = z := ⟨Int32.ofInt z, by rw [Int32.toInt_ofInt]; exact i_bmod h1 h2⟩
/-- which words a call of y needs, the link apart -/
def CalI (y : MethodName) (C : String) (bytes : ByteArray) (maxL : Nat) (ret : Option FieldType) (n : Nat) : Prop :=
  Cond.instanceMethod y ∈ gw ∧ Cond.selects C y y ∈ gw ∧ Cond.initialized y.cls ∈ gw ∧ Cond.code y bytes maxL ret ∈ gw ∧ (y.cls = C ∧ y.cls ≠ "java/lang/invoke/MethodHandle" ∧ y.cls ≠ "java/lang/invoke/VarHandle" ∧ (parseMethodDescriptor y.desc).map (fun d => d.parameters.length) = some n)
def CalS (y : MethodName) (bytes : ByteArray) (maxL : Nat) (ret : Option FieldType) (n : Nat) : Prop :=
  Cond.static y ∈ gw ∧ Cond.initialized y.cls ∈ gw ∧ Cond.code y bytes maxL ret ∈ gw ∧ (y.cls ≠ "java/lang/invoke/MethodHandle" ∧ y.cls ≠ "java/lang/invoke/VarHandle" ∧ (parseMethodDescriptor y.desc).map (fun d => d.parameters.length) = some n)
theorem gw_good {w : Cond} (h : w ∈ gw) : (w.onTables && w.keeps) = true ∨ ∃ ty, w = .arrayClass ty := good_of_word (List.mem_filter.mp h).2
theorem gw_in (w : Cond) (h : w ∈ gw) : w ∈ lw_tbl := (List.mem_filter.mp h).1
theorem gw_ws {y : MethodName} {bytes : ByteArray} {maxL : Nat} {ret : Option FieldType} (h : Cond.code y bytes maxL ret ∈ gw) : GoodIn gw (Cond.code y bytes maxL ret :: gw) := fun w hw => by
  rcases List.mem_cons.mp hw with rfl | hw
  · exact ⟨h, gw_good h⟩
  · exact ⟨hw, gw_good hw⟩
section OwnCalls
variable {p : Program} {l : Launch} {e : Env} {R : Room} {s : State} {m : MethodId} {args : Array Value} {below : List Frame} {meth : Method} {c : Code} {H : Heap} {locs : List Loc} {cells slots : Nat} {Q : State → Prop}
variable {cc bytes : ByteArray} {pc nL maxL n index : Nat} {ls : Array Slot} {rest st0 As : List Value} {A : Nat → Prop} {own C : String} {y : MethodName} {ret : Option FieldType} {rm : Room} {b : Nat}
theorem cwg_V (hg : ∀ w ∈ gw, w.before args s = true) (hc : CalI y C bytes maxL ret n) (hl : Cond.methodLink own index y ∈ gw) (hr : rm.cells = 0 ∧ rm.slots = 0) (hR : rm.frames + 1 ≤ R.frames ∧ 8 + (maxL + 11) + rm.locals ≤ R.locals) : CallW R s args own C index y bytes maxL ret (Cond.code y bytes maxL ret :: gw) rm 0 0 n := by
  obtain ⟨h1, h2, h3, h4, hC, hd⟩ := hc
  exact ⟨callB_of n hg (gw_ws h4) rfl hr.1 hr.2 (hg _ h3) (hg _ hl) hd hR, hg _ h1, hg _ h2⟩
theorem cwg_S (hg : ∀ w ∈ gw, w.before args s = true) (hc : CalS y bytes maxL ret n) (hl : Cond.methodLink own index y ∈ gw) (hr : rm.cells = 0 ∧ rm.slots = 0) (hR : rm.frames + 1 ≤ R.frames ∧ 8 + (maxL + 11) + rm.locals ≤ R.locals) : CallB R s args own index y bytes maxL ret (Cond.code y bytes maxL ret :: gw) rm 0 0 n ∧ (Cond.static y).before args s = true := by
  obtain ⟨h1, h3, h4, hd⟩ := hc
  exact ⟨callB_of n hg (gw_ws h4) rfl hr.1 hr.2 (hg _ h3) (hg _ hl) hd hR, hg _ h1⟩
/-- the three static tables -/
def zf (l : List Int32) : Nat → Value := fun j => .int (l.getD j 0)
def zMost : List Int32 := [255, 12, 9, 99, 255, 20, 23, 9]
def zLeast : List Int32 := [0, 0, 0, 0, 0, 1, 0, 1]
def zAbove : List Int32 := [-1, 0, 0, 2, 1, 5, 0, 6]
def ZS (A : Nat → Prop) (U : State) : Prop := ∃ t0 t1 t2 : Nat, (va_Z "BeesSting" "MOST" "[I" (.ref t0) A U U.heap ∧ va_T .int t0 8 (zf zMost) A U U.heap) ∧ (va_Z "BeesSting" "LEAST" "[I" (.ref t1) A U U.heap ∧ va_T .int t1 8 (zf zLeast) A U U.heap) ∧ (va_Z "BeesSting$Acts" "ABOVE" "[I" (.ref t2) A U U.heap ∧ va_T .int t2 8 (zf zAbove) A U U.heap)
theorem ZS.to {U : State} (h : ZS A s) (hS : va_S A s.heap H locs) (hU : U.heap = H) (hW : s.vm.Alike U.vm) : ZS A U := by
  obtain ⟨t0, t1, t2, ⟨a0, b0⟩, ⟨a1, b1⟩, ⟨a2, b2⟩⟩ := h
  have hq : ∀ a : Nat, a < s.heap.size → ¬ A a → U.heap[a]? = s.heap[a]? := fun a h1 h2 => by rw [hU]; exact hS.2.1 a h1 h2
  exact ⟨t0, t1, t2, ⟨va_Z.moved hW (a0.kept hq), va_T.moved hW (b0.kept hq)⟩, ⟨va_Z.moved hW (a1.kept hq), va_T.moved hW (b1.kept hq)⟩, ⟨va_Z.moved hW (a2.kept hq), va_T.moved hW (b2.kept hq)⟩⟩
def XPre (D : va_G) (tys : List (ClassId × FieldType)) (ws : va_W) (A : Nat → Prop) : State → Prop := fun U => va_P D vwCl ws U.heap ∧ va_K D vwCl tys U ∧ va_D A ws ∧ ZS A U
def XPo (D : va_G) {σ : Type} (f : σ → va_W) (A : Nat → Prop) : σ → State → Prop := fun u t => va_P D vwCl (f u) t.heap ∧ va_D A (f u)
theorem xpre_blind {D : va_G} {tys : List (ClassId × FieldType)} {ws : va_W} {av : List Value} : FrameBlind (va_Pc av (XPre D tys ws A)) := fun a U g mk q => by
  obtain ⟨q0, qP, qK, qD, qZ⟩ := q
  exact ⟨q0, qP, va_K.moved (u := U) (U := U.calling g mk a) (Vm.Alike.refl U.vm) qK, qD, ZS.to (U := U.calling g mk a) (locs := []) qZ va_S.rf rfl (Vm.Alike.refl U.vm)⟩
theorem xpre_now {D : va_G} {tys : List (ClassId × FieldType)} {ws : va_W} {av : List Value} (hK : va_K D vwCl tys s) (hP : va_P D vwCl ws H) (hD : va_D A ws) (hS : va_S A s.heap H locs) (hZ : ZS A s) : ∀ U : State, U.heap = H → s.WarmedH U.vm → va_Pc av (XPre D tys ws A) av.toArray U := fun U hU hW =>
  ⟨rfl, by rw [hU]; exact hP, va_K.moved hW.alike hK, hD, hZ.to hS hU hW.alike⟩
variable {D : va_G} {tys : List (ClassId × FieldType)} {ws : va_W} {σ : Type} {f : σ → va_W}
theorem cV_i {post : Int32 → σ → Prop} (S : CallFix p m c cc nL s args gw own) (hM : Met l y (Cond.code y bytes maxL ret :: gw) rm (va_Pc (.ref b :: As) (XPre D tys ws A)) (va_Qi post (XPo D f A) A) 0 0 A) (hc : CalI y C bytes maxL ret n) (hl : Cond.methodLink own index y ∈ gw) (hr : rm.cells = 0 ∧ rm.slots = 0) (hR : rm.frames + 1 ≤ R.frames ∧ 8 + (maxL + 11) + rm.locals ≤ R.locals)
    (hb : ∃ cellB : Cell, H[b]? = some cellB ∧ cellB.vm.isStatics = false ∧ s.vm.findClass C = some cellB.cls) (hK : va_K D vwCl tys s) (hP : va_P D vwCl ws H) (hD : va_D A ws) (hS : va_S A s.heap H locs) (hZ : ZS A s) (hn : As.length = n) (hsize : ls.size = nL) (hst : st0 = As.reverse ++ .ref b :: rest) (hW : (rest.map fun v => v.category).sum ≤ 8) (hf : cells ≤ R.cells ∧ slots ≤ R.slots) (hdg : decode cc pc = .ok (.invokevirtual index, 3))
    (kk : ∀ (r : Int32) (u : σ) (H1 : Heap) (locs1 : List Loc), post r u → va_P D vwCl (f u) H1 → va_D A (f u) → va_S A s.heap H1 locs1 → W p l e R s m args below meth c H1 locs1 cells slots Q (F0 m (pc + 3) ls (.int r :: rest))) : W p l e R s m args below meth c H locs cells slots Q (F0 m pc ls st0) :=
  va_calli (va_runV S hM (cwg_V S.2.2.2.2 hc hl hr hR) ⟨xpre_blind, hb, xpre_now hK hP hD hS hZ⟩ rfl hn hsize hst (lv_room hW) hdg hf) hS (fun q _ h => h) (fun q h => h) (fun r u t H1 locs1 ht _ hw hB _ _ hS1 => kk r u H1 locs1 hw (ht ▸ hB.1) hB.2 hS1)
theorem cV_v {post : σ → Prop} (S : CallFix p m c cc nL s args gw own) (hM : Met l y (Cond.code y bytes maxL ret :: gw) rm (va_Pc (.ref b :: As) (XPre D tys ws A)) (va_Qv post (XPo D f A) A) 0 0 A) (hc : CalI y C bytes maxL ret n) (hl : Cond.methodLink own index y ∈ gw) (hr : rm.cells = 0 ∧ rm.slots = 0) (hR : rm.frames + 1 ≤ R.frames ∧ 8 + (maxL + 11) + rm.locals ≤ R.locals)
    (hb : ∃ cellB : Cell, H[b]? = some cellB ∧ cellB.vm.isStatics = false ∧ s.vm.findClass C = some cellB.cls) (hK : va_K D vwCl tys s) (hP : va_P D vwCl ws H) (hD : va_D A ws) (hS : va_S A s.heap H locs) (hZ : ZS A s) (hn : As.length = n) (hsize : ls.size = nL) (hst : st0 = As.reverse ++ .ref b :: rest) (hW : (rest.map fun v => v.category).sum ≤ 8) (hf : cells ≤ R.cells ∧ slots ≤ R.slots) (hdg : decode cc pc = .ok (.invokevirtual index, 3))
    (kk : ∀ (u : σ) (H1 : Heap) (locs1 : List Loc), post u → va_P D vwCl (f u) H1 → va_D A (f u) → va_S A s.heap H1 locs1 → W p l e R s m args below meth c H1 locs1 cells slots Q (F0 m (pc + 3) ls rest)) : W p l e R s m args below meth c H locs cells slots Q (F0 m pc ls st0) :=
  va_callv (va_runV S hM (cwg_V S.2.2.2.2 hc hl hr hR) ⟨xpre_blind, hb, xpre_now hK hP hD hS hZ⟩ rfl hn hsize hst (lv_room hW) hdg hf) hS (fun q _ h => h) (fun q h => h) (fun u t H1 locs1 ht _ hw hB _ _ hS1 => kk u H1 locs1 hw (ht ▸ hB.1) hB.2 hS1)
theorem cV_ro {post : Int32 → Prop} (S : CallFix p m c cc nL s args gw own) (hM : Met l y (Cond.code y bytes maxL ret :: gw) rm (va_Pc (.ref b :: As) (XPre D tys ws A)) (vp_Si post) 0 0 (fun _ => False)) (hc : CalI y C bytes maxL ret n) (hl : Cond.methodLink own index y ∈ gw) (hr : rm.cells = 0 ∧ rm.slots = 0) (hR : rm.frames + 1 ≤ R.frames ∧ 8 + (maxL + 11) + rm.locals ≤ R.locals)
    (hb : ∃ cellB : Cell, H[b]? = some cellB ∧ cellB.vm.isStatics = false ∧ s.vm.findClass C = some cellB.cls) (hK : va_K D vwCl tys s) (hP : va_P D vwCl ws H) (hD : va_D A ws) (hS : va_S A s.heap H locs) (hZ : ZS A s) (hn : As.length = n) (hsize : ls.size = nL) (hst : st0 = As.reverse ++ .ref b :: rest) (hW : (rest.map fun v => v.category).sum ≤ 8) (hf : cells ≤ R.cells ∧ slots ≤ R.slots) (hdg : decode cc pc = .ok (.invokevirtual index, 3))
    (kk : ∀ (r : Int32), post r → W p l e R s m args below meth c H locs cells slots Q (F0 m (pc + 3) ls (.int r :: rest))) : W p l e R s m args below meth c H locs cells slots Q (F0 m pc ls st0) :=
  vp_callSi (W.runV S hM (cwg_V S.2.2.2.2 hc hl hr hR) ⟨xpre_blind, hb, xpre_now hK hP hD hS hZ⟩ rfl hn hsize hst (lv_room hW) hdg hf) kk
theorem cV_rol {post : Int64 → Prop} (S : CallFix p m c cc nL s args gw own) (hM : Met l y (Cond.code y bytes maxL ret :: gw) rm (va_Pc (.ref b :: As) (XPre D tys ws A)) (vp_Sl post) 0 0 (fun _ => False)) (hc : CalI y C bytes maxL ret n) (hl : Cond.methodLink own index y ∈ gw) (hr : rm.cells = 0 ∧ rm.slots = 0) (hR : rm.frames + 1 ≤ R.frames ∧ 8 + (maxL + 11) + rm.locals ≤ R.locals)
    (hb : ∃ cellB : Cell, H[b]? = some cellB ∧ cellB.vm.isStatics = false ∧ s.vm.findClass C = some cellB.cls) (hK : va_K D vwCl tys s) (hP : va_P D vwCl ws H) (hD : va_D A ws) (hS : va_S A s.heap H locs) (hZ : ZS A s) (hn : As.length = n) (hsize : ls.size = nL) (hst : st0 = As.reverse ++ .ref b :: rest) (hW : (rest.map fun v => v.category).sum ≤ 8) (hf : cells ≤ R.cells ∧ slots ≤ R.slots) (hdg : decode cc pc = .ok (.invokevirtual index, 3))
    (kk : ∀ (r : Int64), post r → W p l e R s m args below meth c H locs cells slots Q (F0 m (pc + 3) ls (.long r :: rest))) : W p l e R s m args below meth c H locs cells slots Q (F0 m pc ls st0) :=
  vp_callSl (W.runV S hM (cwg_V S.2.2.2.2 hc hl hr hR) ⟨xpre_blind, hb, xpre_now hK hP hD hS hZ⟩ rfl hn hsize hst (lv_room hW) hdg hf) kk
theorem cS_i {post : Int32 → σ → Prop} (S : CallFix p m c cc nL s args gw own) (hM : Met l y (Cond.code y bytes maxL ret :: gw) rm (va_Pc As (XPre D tys ws A)) (va_Qi post (XPo D f A) A) 0 0 A) (hc : CalS y bytes maxL ret n) (hl : Cond.methodLink own index y ∈ gw) (hr : rm.cells = 0 ∧ rm.slots = 0) (hR : rm.frames + 1 ≤ R.frames ∧ 8 + (maxL + 11) + rm.locals ≤ R.locals)
    (hK : va_K D vwCl tys s) (hP : va_P D vwCl ws H) (hD : va_D A ws) (hS : va_S A s.heap H locs) (hZ : ZS A s) (hn : As.length = n) (hsize : ls.size = nL) (hst : st0 = As.reverse ++ rest) (hW : (rest.map fun v => v.category).sum ≤ 8) (hf : cells ≤ R.cells ∧ slots ≤ R.slots) (hdg : decode cc pc = .ok (.invokestatic index, 3))
    (kk : ∀ (r : Int32) (u : σ) (H1 : Heap) (locs1 : List Loc), post r u → va_P D vwCl (f u) H1 → va_D A (f u) → va_S A s.heap H1 locs1 → W p l e R s m args below meth c H1 locs1 cells slots Q (F0 m (pc + 3) ls (.int r :: rest))) : W p l e R s m args below meth c H locs cells slots Q (F0 m pc ls st0) :=
  va_calli (va_runS S hM (cwg_S S.2.2.2.2 hc hl hr hR) ⟨xpre_blind, xpre_now hK hP hD hS hZ⟩ rfl hn hsize hst (lv_room hW) hdg hf) hS (fun q _ h => h) (fun q h => h) (fun r u t H1 locs1 ht _ hw hB _ _ hS1 => kk r u H1 locs1 hw (ht ▸ hB.1) hB.2 hS1)
theorem cS_v {post : σ → Prop} (S : CallFix p m c cc nL s args gw own) (hM : Met l y (Cond.code y bytes maxL ret :: gw) rm (va_Pc As (XPre D tys ws A)) (va_Qv post (XPo D f A) A) 0 0 A) (hc : CalS y bytes maxL ret n) (hl : Cond.methodLink own index y ∈ gw) (hr : rm.cells = 0 ∧ rm.slots = 0) (hR : rm.frames + 1 ≤ R.frames ∧ 8 + (maxL + 11) + rm.locals ≤ R.locals)
    (hK : va_K D vwCl tys s) (hP : va_P D vwCl ws H) (hD : va_D A ws) (hS : va_S A s.heap H locs) (hZ : ZS A s) (hn : As.length = n) (hsize : ls.size = nL) (hst : st0 = As.reverse ++ rest) (hW : (rest.map fun v => v.category).sum ≤ 8) (hf : cells ≤ R.cells ∧ slots ≤ R.slots) (hdg : decode cc pc = .ok (.invokestatic index, 3))
    (kk : ∀ (u : σ) (H1 : Heap) (locs1 : List Loc), post u → va_P D vwCl (f u) H1 → va_D A (f u) → va_S A s.heap H1 locs1 → W p l e R s m args below meth c H1 locs1 cells slots Q (F0 m (pc + 3) ls rest)) : W p l e R s m args below meth c H locs cells slots Q (F0 m pc ls st0) :=
  va_callv (va_runS S hM (cwg_S S.2.2.2.2 hc hl hr hR) ⟨xpre_blind, xpre_now hK hP hD hS hZ⟩ rfl hn hsize hst (lv_room hW) hdg hf) hS (fun q _ h => h) (fun q h => h) (fun u t H1 locs1 ht _ hw hB _ _ hS1 => kk u H1 locs1 hw (ht ▸ hB.1) hB.2 hS1)
/-- a static method of numbers alone -/
theorem cS_p {post : Int32 → Prop} (S : CallFix p m c cc nL s args gw own) (hM : Met l y (Cond.code y bytes maxL ret :: gw) rm (fun v _ => v = As.toArray) (vp_Si post) 0 0 (fun _ => False)) (hc : CalS y bytes maxL ret n) (hl : Cond.methodLink own index y ∈ gw) (hr : rm.cells = 0 ∧ rm.slots = 0) (hR : rm.frames + 1 ≤ R.frames ∧ 8 + (maxL + 11) + rm.locals ≤ R.locals)
    (hn : As.length = n) (hsize : ls.size = nL) (hst : st0 = As.reverse ++ rest) (hW : (rest.map fun v => v.category).sum ≤ 8) (hf : cells ≤ R.cells ∧ slots ≤ R.slots) (hdg : decode cc pc = .ok (.invokestatic index, 3))
    (kk : ∀ (r : Int32), post r → W p l e R s m args below meth c H locs cells slots Q (F0 m (pc + 3) ls (.int r :: rest))) : W p l e R s m args below meth c H locs cells slots Q (F0 m pc ls st0) :=
  vp_callSi (W.runS S hM (cwg_S S.2.2.2.2 hc hl hr hR) preEq rfl hn hsize hst (lv_room hW) hdg hf) kk
theorem cS_pl {post : Int64 → Prop} (S : CallFix p m c cc nL s args gw own) (hM : Met l y (Cond.code y bytes maxL ret :: gw) rm (fun v _ => v = As.toArray) (vp_Sl post) 0 0 (fun _ => False)) (hc : CalS y bytes maxL ret n) (hl : Cond.methodLink own index y ∈ gw) (hr : rm.cells = 0 ∧ rm.slots = 0) (hR : rm.frames + 1 ≤ R.frames ∧ 8 + (maxL + 11) + rm.locals ≤ R.locals)
    (hn : As.length = n) (hsize : ls.size = nL) (hst : st0 = As.reverse ++ rest) (hW : (rest.map fun v => v.category).sum ≤ 8) (hf : cells ≤ R.cells ∧ slots ≤ R.slots) (hdg : decode cc pc = .ok (.invokestatic index, 3))
    (kk : ∀ (r : Int64), post r → W p l e R s m args below meth c H locs cells slots Q (F0 m (pc + 3) ls (.long r :: rest))) : W p l e R s m args below meth c H locs cells slots Q (F0 m pc ls st0) :=
  vp_callSl (W.runS S hM (cwg_S S.2.2.2.2 hc hl hr hR) preEq rfl hn hsize hst (lv_room hW) hdg hf) kk
end OwnCalls
end
section
abbrev TY (cs : Nat → ClassId) : List (ClassId × FieldType) := [(cs 0, .int), (cs 1, .long), (cs 2, .object "BeesSting$Flight"), (cs 3, .array .long), (cs 4, .short), (cs 5, .byte)]
theorem us0 : ∀ w ∈ u_ws RX0 TX0 5, w ∈ gw := List.forall_mem_cons.mpr ⟨q1_91, List.forall_mem_cons.mpr ⟨q1_93, List.forall_mem_cons.mpr ⟨q1_95, List.forall_mem_cons.mpr ⟨q1_97, List.forall_mem_cons.mpr ⟨q1_99, fun _ h => absurd h List.not_mem_nil⟩⟩⟩⟩⟩
theorem us1 : ∀ w ∈ u_ws RX1 TX1 6, w ∈ gw := List.forall_mem_cons.mpr ⟨q1_44, List.forall_mem_cons.mpr ⟨q1_46, List.forall_mem_cons.mpr ⟨q1_48, List.forall_mem_cons.mpr ⟨q1_50, List.forall_mem_cons.mpr ⟨q1_52, List.forall_mem_cons.mpr ⟨q1_54, fun _ h => absurd h List.not_mem_nil⟩⟩⟩⟩⟩⟩
theorem us2 : ∀ w ∈ u_ws RX2 TX2 2, w ∈ gw := List.forall_mem_cons.mpr ⟨q1_209, List.forall_mem_cons.mpr ⟨q1_211, fun _ h => absurd h List.not_mem_nil⟩⟩
theorem us3 : ∀ w ∈ u_ws RX3 TX3 11, w ∈ gw := List.forall_mem_cons.mpr ⟨q2_8, List.forall_mem_cons.mpr ⟨q2_10, List.forall_mem_cons.mpr ⟨q2_12, List.forall_mem_cons.mpr ⟨q2_14, List.forall_mem_cons.mpr ⟨q2_16, List.forall_mem_cons.mpr ⟨q2_18, List.forall_mem_cons.mpr ⟨q2_20, List.forall_mem_cons.mpr ⟨q2_22, List.forall_mem_cons.mpr ⟨q2_24, List.forall_mem_cons.mpr ⟨q2_26, List.forall_mem_cons.mpr ⟨q2_28, fun _ h => absurd h List.not_mem_nil⟩⟩⟩⟩⟩⟩⟩⟩⟩⟩⟩
theorem us4 : ∀ w ∈ u_ws RX4 TX4 9, w ∈ gw := List.forall_mem_cons.mpr ⟨q2_104, List.forall_mem_cons.mpr ⟨q2_106, List.forall_mem_cons.mpr ⟨q2_108, List.forall_mem_cons.mpr ⟨q2_110, List.forall_mem_cons.mpr ⟨q2_112, List.forall_mem_cons.mpr ⟨q2_114, List.forall_mem_cons.mpr ⟨q2_116, List.forall_mem_cons.mpr ⟨q2_118, List.forall_mem_cons.mpr ⟨q2_120, fun _ h => absurd h List.not_mem_nil⟩⟩⟩⟩⟩⟩⟩⟩⟩
theorem us5 : ∀ w ∈ u_ws RX5 TX5 6, w ∈ gw := List.forall_mem_cons.mpr ⟨q2_72, List.forall_mem_cons.mpr ⟨q2_74, List.forall_mem_cons.mpr ⟨q2_76, List.forall_mem_cons.mpr ⟨q2_78, List.forall_mem_cons.mpr ⟨q2_80, List.forall_mem_cons.mpr ⟨q2_82, fun _ h => absurd h List.not_mem_nil⟩⟩⟩⟩⟩⟩
theorem us6 : ∀ w ∈ u_ws RX6 TX6 8, w ∈ gw := List.forall_mem_cons.mpr ⟨q1_181, List.forall_mem_cons.mpr ⟨q1_183, List.forall_mem_cons.mpr ⟨q1_185, List.forall_mem_cons.mpr ⟨q1_187, List.forall_mem_cons.mpr ⟨q1_189, List.forall_mem_cons.mpr ⟨q1_191, List.forall_mem_cons.mpr ⟨q1_193, List.forall_mem_cons.mpr ⟨q1_195, fun _ h => absurd h List.not_mem_nil⟩⟩⟩⟩⟩⟩⟩⟩
theorem us7 : ∀ w ∈ u_ws RX7 TX7 5, w ∈ gw := List.forall_mem_cons.mpr ⟨q1_161, List.forall_mem_cons.mpr ⟨q1_163, List.forall_mem_cons.mpr ⟨q1_165, List.forall_mem_cons.mpr ⟨q1_167, List.forall_mem_cons.mpr ⟨q1_169, fun _ h => absurd h List.not_mem_nil⟩⟩⟩⟩⟩
theorem us8 : ∀ w ∈ u_ws RX8 TX8 6, w ∈ gw := List.forall_mem_cons.mpr ⟨q2_45, List.forall_mem_cons.mpr ⟨q2_47, List.forall_mem_cons.mpr ⟨q2_49, List.forall_mem_cons.mpr ⟨q2_51, List.forall_mem_cons.mpr ⟨q2_53, List.forall_mem_cons.mpr ⟨q2_55, fun _ h => absurd h List.not_mem_nil⟩⟩⟩⟩⟩⟩
theorem us9 : ∀ w ∈ u_ws RX9 TX9 7, w ∈ gw := List.forall_mem_cons.mpr ⟨q1_127, List.forall_mem_cons.mpr ⟨q1_129, List.forall_mem_cons.mpr ⟨q1_131, List.forall_mem_cons.mpr ⟨q1_133, List.forall_mem_cons.mpr ⟨q1_135, List.forall_mem_cons.mpr ⟨q1_137, List.forall_mem_cons.mpr ⟨q1_139, fun _ h => absurd h List.not_mem_nil⟩⟩⟩⟩⟩⟩⟩
theorem us10 : ∀ w ∈ u_ws RX10 TX10 3, w ∈ gw := List.forall_mem_cons.mpr ⟨q1_69, List.forall_mem_cons.mpr ⟨q1_71, List.forall_mem_cons.mpr ⟨q1_73, fun _ h => absurd h List.not_mem_nil⟩⟩⟩
theorem us11 : ∀ w ∈ u_ws RX11 TX11 15, w ∈ gw := List.forall_mem_cons.mpr ⟨q2_138, List.forall_mem_cons.mpr ⟨q2_140, List.forall_mem_cons.mpr ⟨q2_142, List.forall_mem_cons.mpr ⟨q2_144, List.forall_mem_cons.mpr ⟨q2_146, List.forall_mem_cons.mpr ⟨q2_148, List.forall_mem_cons.mpr ⟨q2_150, List.forall_mem_cons.mpr ⟨q2_152, List.forall_mem_cons.mpr ⟨q2_154, List.forall_mem_cons.mpr ⟨q2_156, List.forall_mem_cons.mpr ⟨q2_158, List.forall_mem_cons.mpr ⟨q2_160, List.forall_mem_cons.mpr ⟨q2_162, List.forall_mem_cons.mpr ⟨q2_164, List.forall_mem_cons.mpr ⟨q2_166, fun _ h => absurd h List.not_mem_nil⟩⟩⟩⟩⟩⟩⟩⟩⟩⟩⟩⟩⟩⟩⟩
theorem us12 : ∀ w ∈ u_ws RX12 TX12 70, w ∈ gw := List.forall_mem_cons.mpr ⟨q5_62, List.forall_mem_cons.mpr ⟨q5_64, List.forall_mem_cons.mpr ⟨q5_66, List.forall_mem_cons.mpr ⟨q5_68, List.forall_mem_cons.mpr ⟨q5_70, List.forall_mem_cons.mpr ⟨q5_72, List.forall_mem_cons.mpr ⟨q5_74, List.forall_mem_cons.mpr ⟨q5_76, List.forall_mem_cons.mpr ⟨q5_78, List.forall_mem_cons.mpr ⟨q5_80, List.forall_mem_cons.mpr ⟨q5_82, List.forall_mem_cons.mpr ⟨q5_84, List.forall_mem_cons.mpr ⟨q5_86, List.forall_mem_cons.mpr ⟨q5_88, List.forall_mem_cons.mpr ⟨q5_90, List.forall_mem_cons.mpr ⟨q5_92, List.forall_mem_cons.mpr ⟨q5_94, List.forall_mem_cons.mpr ⟨q5_96, List.forall_mem_cons.mpr ⟨q5_98, List.forall_mem_cons.mpr ⟨q5_100, List.forall_mem_cons.mpr ⟨q5_102, List.forall_mem_cons.mpr ⟨q5_104, List.forall_mem_cons.mpr ⟨q5_106, List.forall_mem_cons.mpr ⟨q5_108, List.forall_mem_cons.mpr ⟨q5_110, List.forall_mem_cons.mpr ⟨q5_112, List.forall_mem_cons.mpr ⟨q5_114, List.forall_mem_cons.mpr ⟨q5_116, List.forall_mem_cons.mpr ⟨q5_118, List.forall_mem_cons.mpr ⟨q5_120, List.forall_mem_cons.mpr ⟨q5_122, List.forall_mem_cons.mpr ⟨q5_124, List.forall_mem_cons.mpr ⟨q5_126, List.forall_mem_cons.mpr ⟨q5_128, List.forall_mem_cons.mpr ⟨q5_130, List.forall_mem_cons.mpr ⟨q5_132, List.forall_mem_cons.mpr ⟨q5_134, List.forall_mem_cons.mpr ⟨q5_136, List.forall_mem_cons.mpr ⟨q5_138, List.forall_mem_cons.mpr ⟨q5_140, List.forall_mem_cons.mpr ⟨q5_142, List.forall_mem_cons.mpr ⟨q5_144, List.forall_mem_cons.mpr ⟨q5_146, List.forall_mem_cons.mpr ⟨q5_148, List.forall_mem_cons.mpr ⟨q5_150, List.forall_mem_cons.mpr ⟨q5_152, List.forall_mem_cons.mpr ⟨q5_154, List.forall_mem_cons.mpr ⟨q5_156, List.forall_mem_cons.mpr ⟨q5_158, List.forall_mem_cons.mpr ⟨q5_160, List.forall_mem_cons.mpr ⟨q5_162, List.forall_mem_cons.mpr ⟨q5_164, List.forall_mem_cons.mpr ⟨q5_166, List.forall_mem_cons.mpr ⟨q5_168, List.forall_mem_cons.mpr ⟨q5_170, List.forall_mem_cons.mpr ⟨q5_172, List.forall_mem_cons.mpr ⟨q5_174, List.forall_mem_cons.mpr ⟨q5_176, List.forall_mem_cons.mpr ⟨q5_178, List.forall_mem_cons.mpr ⟨q5_180, List.forall_mem_cons.mpr ⟨q5_182, List.forall_mem_cons.mpr ⟨q5_184, List.forall_mem_cons.mpr ⟨q5_186, List.forall_mem_cons.mpr ⟨q5_188, List.forall_mem_cons.mpr ⟨q5_190, List.forall_mem_cons.mpr ⟨q5_192, List.forall_mem_cons.mpr ⟨q5_194, List.forall_mem_cons.mpr ⟨q5_196, List.forall_mem_cons.mpr ⟨q5_198, List.forall_mem_cons.mpr ⟨q5_200, fun _ h => absurd h List.not_mem_nil⟩⟩⟩⟩⟩⟩⟩⟩⟩⟩⟩⟩⟩⟩⟩⟩⟩⟩⟩⟩⟩⟩⟩⟩⟩⟩⟩⟩⟩⟩⟩⟩⟩⟩⟩⟩⟩⟩⟩⟩⟩⟩⟩⟩⟩⟩⟩⟩⟩⟩⟩⟩⟩⟩⟩⟩⟩⟩⟩⟩⟩⟩⟩⟩⟩⟩⟩⟩⟩⟩
abbrev CWt := (Nat → Nat) × (Nat → Nat) × (Nat → Int32) × (Nat → Nat → Int32) × (Nat → Nat → Int64) × (Nat → Nat → Int32) × (Nat → Nat → Int32)
def CW (cs : Nat → ClassId) (ad fa fq rv : Nat → Nat) (v : Nat → Int32) (a : Nat → Nat → Int32) (w : Nat → Nat → Int64) (fv fp : Nat → Nat → Int32) : va_W := [
  (ad 0, .inr (11, [.ref (ad 1), .ref (ad 2), .ref (fa 14), .ref (fa 15), .ref (fa 16), .ref (ad 3), .ref (ad 4), .ref (ad 5), .ref (ad 6), .ref (ad 7), .ref (ad 8), .ref (ad 9), .ref (fa 17), .ref (ad 39), .int (v 0)])),
  (ad 1, .inr (9, [.int (v 1), .int (v 2), .int (v 3), .ref (ad 11), .ref (ad 12), .ref (ad 13), .ref (ad 14)])),
  (ad 2, .inr (6, [.ref (ad 15), .int (v 4), .ref (ad 10), .ref (ad 16), .ref (ad 17), .ref (ad 18), .ref (ad 19), .int (v 5)])),
  (ad 3, .inr (2, [.ref (ad 20), .int (v 6)])),
  (ad 4, .inr (8, [.ref (ad 40), .ref (ad 3), .ref (ad 21), .ref (ad 22), .int (v 7), .int (v 8)])),
  (ad 5, .inr (5, [.ref (ad 40), .int (v 9), .int (v 10), .int (v 11), .int (v 12), .int (v 13)])),
  (ad 6, .inr (4, [.ref (ad 40), .ref (ad 3), .ref (ad 1), .ref (ad 23), .int (v 14), .int (v 15), .int (v 16), .int (v 17), .int (v 18)])),
  (ad 7, .inr (1, [.ref (ad 24), .ref (ad 25), .ref (ad 26), .ref (ad 27), .int (v 19), .int (v 20)])),
  (ad 8, .inr (10, [.ref (ad 28), .ref (ad 29), .ref (ad 30)])),
  (ad 9, .inr (0, [.ref (ad 37), .int (v 21), .ref (ad 38), .int (v 22), .int (v 23)])),
  (ad 10, .inr (7, [.ref (rv 0), .ref (rv 1), .int (v 24), .int (v 25), .int (v 26)])),
  (ad 11, .inl (cs 0, 8, .inl (a 11))),
  (ad 12, .inl (cs 0, 8, .inl (a 12))),
  (ad 13, .inl (cs 0, 8, .inl (a 13))),
  (ad 14, .inl (cs 0, 8, .inl (a 14))),
  (ad 15, .inl (cs 0, 120, .inl (a 15))),
  (ad 16, .inl (cs 0, 121, .inl (a 16))),
  (ad 17, .inl (cs 0, 6, .inl (a 17))),
  (ad 18, .inl (cs 0, 256, .inl (a 18))),
  (ad 19, .inl (cs 0, 256, .inl (a 19))),
  (ad 20, .inl (cs 0, 24, .inl (a 20))),
  (ad 21, .inl (cs 0, 7, .inl (a 21))),
  (ad 22, .inl (cs 0, 7, .inl (a 22))),
  (ad 23, .inl (cs 0, 12, .inl (a 23))),
  (ad 24, .inl (cs 0, 40, .inl (a 24))),
  (ad 25, .inl (cs 0, 40, .inl (a 25))),
  (ad 26, .inl (cs 0, 40, .inl (a 26))),
  (ad 27, .inl (cs 0, 40, .inl (a 27))),
  (ad 28, .inl (cs 0, 6, .inl (a 28))),
  (ad 29, .inl (cs 0, 6, .inl (a 29))),
  (ad 30, .inl (cs 3, 6, .inr (.inr (.inr (.inr (fun j => if j < 6 then some (ad (31 + j)) else none)))))),
  (ad 31, .inl (cs 1, 60, .inr (.inl (w 0)))),
  (ad 32, .inl (cs 1, 60, .inr (.inl (w 1)))),
  (ad 33, .inl (cs 1, 60, .inr (.inl (w 2)))),
  (ad 34, .inl (cs 1, 60, .inr (.inl (w 3)))),
  (ad 35, .inl (cs 1, 60, .inr (.inl (w 4)))),
  (ad 36, .inl (cs 1, 60, .inr (.inl (w 5)))),
  (ad 37, .inl (cs 0, 50, .inl (a 37))),
  (ad 38, .inl (cs 0, 24, .inl (a 38))),
  (ad 39, .inl (cs 0, 8, .inl (a 39))),
  (ad 40, .inl (cs 2, 14, .inr (.inr (.inr (.inr (fun j => if j < 14 then some (fa j) else none)))))),
  (fa 0, .inr (3, [.ref (ad 1), .ref (ad 2), .ref (fq 0), .int (fv 0 0), .int (fv 0 1), .int (fv 0 2), .int (fv 0 3), .int (fv 0 4), .int (fv 0 5), .int (fv 0 6), .int (fv 0 7)])),
  (fq 0, .inl (cs 0, 8, .inl (fp 0))),
  (fa 1, .inr (3, [.ref (ad 1), .ref (ad 2), .ref (fq 1), .int (fv 1 0), .int (fv 1 1), .int (fv 1 2), .int (fv 1 3), .int (fv 1 4), .int (fv 1 5), .int (fv 1 6), .int (fv 1 7)])),
  (fq 1, .inl (cs 0, 8, .inl (fp 1))),
  (fa 2, .inr (3, [.ref (ad 1), .ref (ad 2), .ref (fq 2), .int (fv 2 0), .int (fv 2 1), .int (fv 2 2), .int (fv 2 3), .int (fv 2 4), .int (fv 2 5), .int (fv 2 6), .int (fv 2 7)])),
  (fq 2, .inl (cs 0, 8, .inl (fp 2))),
  (fa 3, .inr (3, [.ref (ad 1), .ref (ad 2), .ref (fq 3), .int (fv 3 0), .int (fv 3 1), .int (fv 3 2), .int (fv 3 3), .int (fv 3 4), .int (fv 3 5), .int (fv 3 6), .int (fv 3 7)])),
  (fq 3, .inl (cs 0, 8, .inl (fp 3))),
  (fa 4, .inr (3, [.ref (ad 1), .ref (ad 2), .ref (fq 4), .int (fv 4 0), .int (fv 4 1), .int (fv 4 2), .int (fv 4 3), .int (fv 4 4), .int (fv 4 5), .int (fv 4 6), .int (fv 4 7)])),
  (fq 4, .inl (cs 0, 8, .inl (fp 4))),
  (fa 5, .inr (3, [.ref (ad 1), .ref (ad 2), .ref (fq 5), .int (fv 5 0), .int (fv 5 1), .int (fv 5 2), .int (fv 5 3), .int (fv 5 4), .int (fv 5 5), .int (fv 5 6), .int (fv 5 7)])),
  (fq 5, .inl (cs 0, 8, .inl (fp 5))),
  (fa 6, .inr (3, [.ref (ad 1), .ref (ad 2), .ref (fq 6), .int (fv 6 0), .int (fv 6 1), .int (fv 6 2), .int (fv 6 3), .int (fv 6 4), .int (fv 6 5), .int (fv 6 6), .int (fv 6 7)])),
  (fq 6, .inl (cs 0, 8, .inl (fp 6))),
  (fa 7, .inr (3, [.ref (ad 1), .ref (ad 2), .ref (fq 7), .int (fv 7 0), .int (fv 7 1), .int (fv 7 2), .int (fv 7 3), .int (fv 7 4), .int (fv 7 5), .int (fv 7 6), .int (fv 7 7)])),
  (fq 7, .inl (cs 0, 8, .inl (fp 7))),
  (fa 8, .inr (3, [.ref (ad 1), .ref (ad 2), .ref (fq 8), .int (fv 8 0), .int (fv 8 1), .int (fv 8 2), .int (fv 8 3), .int (fv 8 4), .int (fv 8 5), .int (fv 8 6), .int (fv 8 7)])),
  (fq 8, .inl (cs 0, 8, .inl (fp 8))),
  (fa 9, .inr (3, [.ref (ad 1), .ref (ad 2), .ref (fq 9), .int (fv 9 0), .int (fv 9 1), .int (fv 9 2), .int (fv 9 3), .int (fv 9 4), .int (fv 9 5), .int (fv 9 6), .int (fv 9 7)])),
  (fq 9, .inl (cs 0, 8, .inl (fp 9))),
  (fa 10, .inr (3, [.ref (ad 1), .ref (ad 2), .ref (fq 10), .int (fv 10 0), .int (fv 10 1), .int (fv 10 2), .int (fv 10 3), .int (fv 10 4), .int (fv 10 5), .int (fv 10 6), .int (fv 10 7)])),
  (fq 10, .inl (cs 0, 8, .inl (fp 10))),
  (fa 11, .inr (3, [.ref (ad 1), .ref (ad 2), .ref (fq 11), .int (fv 11 0), .int (fv 11 1), .int (fv 11 2), .int (fv 11 3), .int (fv 11 4), .int (fv 11 5), .int (fv 11 6), .int (fv 11 7)])),
  (fq 11, .inl (cs 0, 8, .inl (fp 11))),
  (fa 12, .inr (3, [.ref (ad 1), .ref (ad 2), .ref (fq 12), .int (fv 12 0), .int (fv 12 1), .int (fv 12 2), .int (fv 12 3), .int (fv 12 4), .int (fv 12 5), .int (fv 12 6), .int (fv 12 7)])),
  (fq 12, .inl (cs 0, 8, .inl (fp 12))),
  (fa 13, .inr (3, [.ref (ad 1), .ref (ad 2), .ref (fq 13), .int (fv 13 0), .int (fv 13 1), .int (fv 13 2), .int (fv 13 3), .int (fv 13 4), .int (fv 13 5), .int (fv 13 6), .int (fv 13 7)])),
  (fq 13, .inl (cs 0, 8, .inl (fp 13))),
  (fa 14, .inr (3, [.ref (ad 1), .ref (ad 2), .ref (fq 14), .int (fv 14 0), .int (fv 14 1), .int (fv 14 2), .int (fv 14 3), .int (fv 14 4), .int (fv 14 5), .int (fv 14 6), .int (fv 14 7)])),
  (fq 14, .inl (cs 0, 8, .inl (fp 14))),
  (fa 15, .inr (3, [.ref (ad 1), .ref (ad 2), .ref (fq 15), .int (fv 15 0), .int (fv 15 1), .int (fv 15 2), .int (fv 15 3), .int (fv 15 4), .int (fv 15 5), .int (fv 15 6), .int (fv 15 7)])),
  (fq 15, .inl (cs 0, 8, .inl (fp 15))),
  (fa 16, .inr (3, [.ref (ad 1), .ref (ad 2), .ref (fq 16), .int (fv 16 0), .int (fv 16 1), .int (fv 16 2), .int (fv 16 3), .int (fv 16 4), .int (fv 16 5), .int (fv 16 6), .int (fv 16 7)])),
  (fq 16, .inl (cs 0, 8, .inl (fp 16))),
  (fa 17, .inr (3, [.ref (ad 1), .ref (ad 2), .ref (fq 17), .int (fv 17 0), .int (fv 17 1), .int (fv 17 2), .int (fv 17 3), .int (fv 17 4), .int (fv 17 5), .int (fv 17 6), .int (fv 17 7)])),
  (fq 17, .inl (cs 0, 8, .inl (fp 17)))]
def CWf (cs : Nat → ClassId) (fa fq : Nat → Nat) (z : CWt) : va_W := CW cs z.1 fa fq z.2.1 z.2.2.1 z.2.2.2.1 z.2.2.2.2.1 z.2.2.2.2.2.1 z.2.2.2.2.2.2
section CWrows
variable {p : Program} {l : Launch} {e : Env} {R : Room} {s : State} {m : MethodId} {args : Array Value} {below : List Frame} {meth : Method} {c : Code} {H : Heap} {locs : List Loc} {cells slots : Nat} {Q : State → Prop}
variable {cc : ByteArray} {pc index : Nat} {ls : Array Slot} {rest : List Value} {A : Nat → Prop} {H0 : Heap} {own : String} {D : va_G} {cs : Nat → ClassId}
variable {ad fa fq rv : Nat → Nat} {v : Nat → Int32} {a : Nat → Nat → Int32} {w : Nat → Nat → Int64} {fv fp : Nat → Nat → Int32}
theorem gf_main_keptPeople (hx : p.tables.exec = Jvm.exec) (hb : c.code = cc) (hg : ∀ w ∈ gw, w.before args s = true) (hown : s.vm.findClass own = some m.cls) (hK : va_K D vwCl (TY cs) s) (hP : va_P D vwCl (CW cs ad fa fq rv v a w fv fp) H) {x : Int32} (hv : v 0 = x) (hl : (Cond.fieldLink own index "BeesSting" "keptPeople" "I").before args s = true) (hdg : decode cc pc = .ok (.getfield index, 3)) (kk : W p l e R s m args below meth c H locs cells slots Q (F0 m (pc + 3) ls (.int x :: rest))) : W p l e R s m args below meth c H locs cells slots Q (F0 m (pc) ls (.ref (ad 0) :: rest)) := by
  subst hv
  exact va_get (ci := 11) (C := RX11) (T := TX11) (N := 15) hx hb hg us11 hown hK hP 0 rfl rfl 14 (by decide) hl (fun _ h9 => h9) rfl hdg kk
theorem pf_main_keptPeople (hx : p.tables.exec = Jvm.exec) (hb : c.code = cc) (hg : ∀ w ∈ gw, w.before args s = true) (hown : s.vm.findClass own = some m.cls) (hK : va_K D vwCl (TY cs) s) (hP : va_P D vwCl (CW cs ad fa fq rv v a w fv fp) H) (hD : va_D A (CW cs ad fa fq rv v a w fv fp)) (hS : va_S A H0 H locs) {x : Int32} (hl : (Cond.fieldLink own index "BeesSting" "keptPeople" "I").before args s = true) (hdg : decode cc pc = .ok (.putfield index, 3)) (kk : ∀ (H1 : Heap) (l1 : List Loc), va_P D vwCl (CW cs ad fa fq rv (va_up v 0 x) a w fv fp) H1 → va_D A (CW cs ad fa fq rv (va_up v 0 x) a w fv fp) → va_S A H0 H1 l1 → W p l e R s m args below meth c H1 l1 cells slots Q (F0 m (pc + 3) ls (rest))) : W p l e R s m args below meth c H locs cells slots Q (F0 m (pc) ls (.int x :: .ref (ad 0) :: rest)) :=
  va_put (ci := 11) (ty := .int) (C := RX11) (T := TX11) (N := 15) hx hb hg us11 tyX11 tyX11_ok nmX11 hown hK hP hD hS 0 rfl rfl 14 (by decide) hl (fun _ h9 => h9) rfl (by decide +kernel) rfl rfl (Nat.le_of_ble_eq_true rfl) hdg (fun H1 l1 q1 q2 q3 => kk H1 l1 q1 q2 q3)
theorem gf_parish_people (hx : p.tables.exec = Jvm.exec) (hb : c.code = cc) (hg : ∀ w ∈ gw, w.before args s = true) (hown : s.vm.findClass own = some m.cls) (hK : va_K D vwCl (TY cs) s) (hP : va_P D vwCl (CW cs ad fa fq rv v a w fv fp) H) {x : Int32} (hv : v 1 = x) (hl : (Cond.fieldLink own index "BeesSting$Parish" "people" "I").before args s = true) (hdg : decode cc pc = .ok (.getfield index, 3)) (kk : W p l e R s m args below meth c H locs cells slots Q (F0 m (pc + 3) ls (.int x :: rest))) : W p l e R s m args below meth c H locs cells slots Q (F0 m (pc) ls (.ref (ad 1) :: rest)) := by
  subst hv
  exact va_get (ci := 9) (C := RX9) (T := TX9) (N := 7) hx hb hg us9 hown hK hP 1 rfl rfl 0 (by decide) hl (fun _ h9 => h9) rfl hdg kk
theorem pf_parish_people (hx : p.tables.exec = Jvm.exec) (hb : c.code = cc) (hg : ∀ w ∈ gw, w.before args s = true) (hown : s.vm.findClass own = some m.cls) (hK : va_K D vwCl (TY cs) s) (hP : va_P D vwCl (CW cs ad fa fq rv v a w fv fp) H) (hD : va_D A (CW cs ad fa fq rv v a w fv fp)) (hS : va_S A H0 H locs) {x : Int32} (hl : (Cond.fieldLink own index "BeesSting$Parish" "people" "I").before args s = true) (hdg : decode cc pc = .ok (.putfield index, 3)) (kk : ∀ (H1 : Heap) (l1 : List Loc), va_P D vwCl (CW cs ad fa fq rv (va_up v 1 x) a w fv fp) H1 → va_D A (CW cs ad fa fq rv (va_up v 1 x) a w fv fp) → va_S A H0 H1 l1 → W p l e R s m args below meth c H1 l1 cells slots Q (F0 m (pc + 3) ls (rest))) : W p l e R s m args below meth c H locs cells slots Q (F0 m (pc) ls (.int x :: .ref (ad 1) :: rest)) :=
  va_put (ci := 9) (ty := .int) (C := RX9) (T := TX9) (N := 7) hx hb hg us9 tyX9 tyX9_ok nmX9 hown hK hP hD hS 1 rfl rfl 0 (by decide) hl (fun _ h9 => h9) rfl (by decide +kernel) rfl rfl (Nat.le_of_ble_eq_true rfl) hdg (fun H1 l1 q1 q2 q3 => kk H1 l1 q1 q2 q3)
theorem gf_parish_mile (hx : p.tables.exec = Jvm.exec) (hb : c.code = cc) (hg : ∀ w ∈ gw, w.before args s = true) (hown : s.vm.findClass own = some m.cls) (hK : va_K D vwCl (TY cs) s) (hP : va_P D vwCl (CW cs ad fa fq rv v a w fv fp) H) {x : Int32} (hv : v 2 = x) (hl : (Cond.fieldLink own index "BeesSting$Parish" "mile" "I").before args s = true) (hdg : decode cc pc = .ok (.getfield index, 3)) (kk : W p l e R s m args below meth c H locs cells slots Q (F0 m (pc + 3) ls (.int x :: rest))) : W p l e R s m args below meth c H locs cells slots Q (F0 m (pc) ls (.ref (ad 1) :: rest)) := by
  subst hv
  exact va_get (ci := 9) (C := RX9) (T := TX9) (N := 7) hx hb hg us9 hown hK hP 1 rfl rfl 1 (by decide) hl (fun _ h9 => h9) rfl hdg kk
theorem pf_parish_mile (hx : p.tables.exec = Jvm.exec) (hb : c.code = cc) (hg : ∀ w ∈ gw, w.before args s = true) (hown : s.vm.findClass own = some m.cls) (hK : va_K D vwCl (TY cs) s) (hP : va_P D vwCl (CW cs ad fa fq rv v a w fv fp) H) (hD : va_D A (CW cs ad fa fq rv v a w fv fp)) (hS : va_S A H0 H locs) {x : Int32} (hl : (Cond.fieldLink own index "BeesSting$Parish" "mile" "I").before args s = true) (hdg : decode cc pc = .ok (.putfield index, 3)) (kk : ∀ (H1 : Heap) (l1 : List Loc), va_P D vwCl (CW cs ad fa fq rv (va_up v 2 x) a w fv fp) H1 → va_D A (CW cs ad fa fq rv (va_up v 2 x) a w fv fp) → va_S A H0 H1 l1 → W p l e R s m args below meth c H1 l1 cells slots Q (F0 m (pc + 3) ls (rest))) : W p l e R s m args below meth c H locs cells slots Q (F0 m (pc) ls (.int x :: .ref (ad 1) :: rest)) :=
  va_put (ci := 9) (ty := .int) (C := RX9) (T := TX9) (N := 7) hx hb hg us9 tyX9 tyX9_ok nmX9 hown hK hP hD hS 1 rfl rfl 1 (by decide) hl (fun _ h9 => h9) rfl (by decide +kernel) rfl rfl (Nat.le_of_ble_eq_true rfl) hdg (fun H1 l1 q1 q2 q3 => kk H1 l1 q1 q2 q3)
theorem gf_parish_pace (hx : p.tables.exec = Jvm.exec) (hb : c.code = cc) (hg : ∀ w ∈ gw, w.before args s = true) (hown : s.vm.findClass own = some m.cls) (hK : va_K D vwCl (TY cs) s) (hP : va_P D vwCl (CW cs ad fa fq rv v a w fv fp) H) {x : Int32} (hv : v 3 = x) (hl : (Cond.fieldLink own index "BeesSting$Parish" "pace" "I").before args s = true) (hdg : decode cc pc = .ok (.getfield index, 3)) (kk : W p l e R s m args below meth c H locs cells slots Q (F0 m (pc + 3) ls (.int x :: rest))) : W p l e R s m args below meth c H locs cells slots Q (F0 m (pc) ls (.ref (ad 1) :: rest)) := by
  subst hv
  exact va_get (ci := 9) (C := RX9) (T := TX9) (N := 7) hx hb hg us9 hown hK hP 1 rfl rfl 2 (by decide) hl (fun _ h9 => h9) rfl hdg kk
theorem pf_parish_pace (hx : p.tables.exec = Jvm.exec) (hb : c.code = cc) (hg : ∀ w ∈ gw, w.before args s = true) (hown : s.vm.findClass own = some m.cls) (hK : va_K D vwCl (TY cs) s) (hP : va_P D vwCl (CW cs ad fa fq rv v a w fv fp) H) (hD : va_D A (CW cs ad fa fq rv v a w fv fp)) (hS : va_S A H0 H locs) {x : Int32} (hl : (Cond.fieldLink own index "BeesSting$Parish" "pace" "I").before args s = true) (hdg : decode cc pc = .ok (.putfield index, 3)) (kk : ∀ (H1 : Heap) (l1 : List Loc), va_P D vwCl (CW cs ad fa fq rv (va_up v 3 x) a w fv fp) H1 → va_D A (CW cs ad fa fq rv (va_up v 3 x) a w fv fp) → va_S A H0 H1 l1 → W p l e R s m args below meth c H1 l1 cells slots Q (F0 m (pc + 3) ls (rest))) : W p l e R s m args below meth c H locs cells slots Q (F0 m (pc) ls (.int x :: .ref (ad 1) :: rest)) :=
  va_put (ci := 9) (ty := .int) (C := RX9) (T := TX9) (N := 7) hx hb hg us9 tyX9 tyX9_ok nmX9 hown hK hP hD hS 1 rfl rfl 2 (by decide) hl (fun _ h9 => h9) rfl (by decide +kernel) rfl rfl (Nat.le_of_ble_eq_true rfl) hdg (fun H1 l1 q1 q2 q3 => kk H1 l1 q1 q2 q3)
theorem gf_rules_fed (hx : p.tables.exec = Jvm.exec) (hb : c.code = cc) (hg : ∀ w ∈ gw, w.before args s = true) (hown : s.vm.findClass own = some m.cls) (hK : va_K D vwCl (TY cs) s) (hP : va_P D vwCl (CW cs ad fa fq rv v a w fv fp) H) {x : Int32} (hv : v 4 = x) (hl : (Cond.fieldLink own index "BeesSting$Law" "fed" "I").before args s = true) (hdg : decode cc pc = .ok (.getfield index, 3)) (kk : W p l e R s m args below meth c H locs cells slots Q (F0 m (pc + 3) ls (.int x :: rest))) : W p l e R s m args below meth c H locs cells slots Q (F0 m (pc) ls (.ref (ad 2) :: rest)) := by
  subst hv
  exact va_get (ci := 6) (C := RX6) (T := TX6) (N := 8) hx hb hg us6 hown hK hP 2 rfl rfl 1 (by decide) hl (fun _ h9 => h9) rfl hdg kk
theorem pf_rules_fed (hx : p.tables.exec = Jvm.exec) (hb : c.code = cc) (hg : ∀ w ∈ gw, w.before args s = true) (hown : s.vm.findClass own = some m.cls) (hK : va_K D vwCl (TY cs) s) (hP : va_P D vwCl (CW cs ad fa fq rv v a w fv fp) H) (hD : va_D A (CW cs ad fa fq rv v a w fv fp)) (hS : va_S A H0 H locs) {x : Int32} (hl : (Cond.fieldLink own index "BeesSting$Law" "fed" "I").before args s = true) (hdg : decode cc pc = .ok (.putfield index, 3)) (kk : ∀ (H1 : Heap) (l1 : List Loc), va_P D vwCl (CW cs ad fa fq rv (va_up v 4 x) a w fv fp) H1 → va_D A (CW cs ad fa fq rv (va_up v 4 x) a w fv fp) → va_S A H0 H1 l1 → W p l e R s m args below meth c H1 l1 cells slots Q (F0 m (pc + 3) ls (rest))) : W p l e R s m args below meth c H locs cells slots Q (F0 m (pc) ls (.int x :: .ref (ad 2) :: rest)) :=
  va_put (ci := 6) (ty := .int) (C := RX6) (T := TX6) (N := 8) hx hb hg us6 tyX6 tyX6_ok nmX6 hown hK hP hD hS 2 rfl rfl 1 (by decide) hl (fun _ h9 => h9) rfl (by decide +kernel) rfl rfl (Nat.le_of_ble_eq_true rfl) hdg (fun H1 l1 q1 q2 q3 => kk H1 l1 q1 q2 q3)
theorem gf_rules_size (hx : p.tables.exec = Jvm.exec) (hb : c.code = cc) (hg : ∀ w ∈ gw, w.before args s = true) (hown : s.vm.findClass own = some m.cls) (hK : va_K D vwCl (TY cs) s) (hP : va_P D vwCl (CW cs ad fa fq rv v a w fv fp) H) {x : Int32} (hv : v 5 = x) (hl : (Cond.fieldLink own index "BeesSting$Law" "size" "I").before args s = true) (hdg : decode cc pc = .ok (.getfield index, 3)) (kk : W p l e R s m args below meth c H locs cells slots Q (F0 m (pc + 3) ls (.int x :: rest))) : W p l e R s m args below meth c H locs cells slots Q (F0 m (pc) ls (.ref (ad 2) :: rest)) := by
  subst hv
  exact va_get (ci := 6) (C := RX6) (T := TX6) (N := 8) hx hb hg us6 hown hK hP 2 rfl rfl 7 (by decide) hl (fun _ h9 => h9) rfl hdg kk
theorem pf_rules_size (hx : p.tables.exec = Jvm.exec) (hb : c.code = cc) (hg : ∀ w ∈ gw, w.before args s = true) (hown : s.vm.findClass own = some m.cls) (hK : va_K D vwCl (TY cs) s) (hP : va_P D vwCl (CW cs ad fa fq rv v a w fv fp) H) (hD : va_D A (CW cs ad fa fq rv v a w fv fp)) (hS : va_S A H0 H locs) {x : Int32} (hl : (Cond.fieldLink own index "BeesSting$Law" "size" "I").before args s = true) (hdg : decode cc pc = .ok (.putfield index, 3)) (kk : ∀ (H1 : Heap) (l1 : List Loc), va_P D vwCl (CW cs ad fa fq rv (va_up v 5 x) a w fv fp) H1 → va_D A (CW cs ad fa fq rv (va_up v 5 x) a w fv fp) → va_S A H0 H1 l1 → W p l e R s m args below meth c H1 l1 cells slots Q (F0 m (pc + 3) ls (rest))) : W p l e R s m args below meth c H locs cells slots Q (F0 m (pc) ls (.int x :: .ref (ad 2) :: rest)) :=
  va_put (ci := 6) (ty := .int) (C := RX6) (T := TX6) (N := 8) hx hb hg us6 tyX6 tyX6_ok nmX6 hown hK hP hD hS 2 rfl rfl 7 (by decide) hl (fun _ h9 => h9) rfl (by decide +kernel) rfl rfl (Nat.le_of_ble_eq_true rfl) hdg (fun H1 l1 q1 q2 q3 => kk H1 l1 q1 q2 q3)
theorem gf_today_size (hx : p.tables.exec = Jvm.exec) (hb : c.code = cc) (hg : ∀ w ∈ gw, w.before args s = true) (hown : s.vm.findClass own = some m.cls) (hK : va_K D vwCl (TY cs) s) (hP : va_P D vwCl (CW cs ad fa fq rv v a w fv fp) H) {x : Int32} (hv : v 6 = x) (hl : (Cond.fieldLink own index "BeesSting$Day" "size" "I").before args s = true) (hdg : decode cc pc = .ok (.getfield index, 3)) (kk : W p l e R s m args below meth c H locs cells slots Q (F0 m (pc + 3) ls (.int x :: rest))) : W p l e R s m args below meth c H locs cells slots Q (F0 m (pc) ls (.ref (ad 3) :: rest)) := by
  subst hv
  exact va_get (ci := 2) (C := RX2) (T := TX2) (N := 2) hx hb hg us2 hown hK hP 3 rfl rfl 1 (by decide) hl (fun _ h9 => h9) rfl hdg kk
theorem pf_today_size (hx : p.tables.exec = Jvm.exec) (hb : c.code = cc) (hg : ∀ w ∈ gw, w.before args s = true) (hown : s.vm.findClass own = some m.cls) (hK : va_K D vwCl (TY cs) s) (hP : va_P D vwCl (CW cs ad fa fq rv v a w fv fp) H) (hD : va_D A (CW cs ad fa fq rv v a w fv fp)) (hS : va_S A H0 H locs) {x : Int32} (hl : (Cond.fieldLink own index "BeesSting$Day" "size" "I").before args s = true) (hdg : decode cc pc = .ok (.putfield index, 3)) (kk : ∀ (H1 : Heap) (l1 : List Loc), va_P D vwCl (CW cs ad fa fq rv (va_up v 6 x) a w fv fp) H1 → va_D A (CW cs ad fa fq rv (va_up v 6 x) a w fv fp) → va_S A H0 H1 l1 → W p l e R s m args below meth c H1 l1 cells slots Q (F0 m (pc + 3) ls (rest))) : W p l e R s m args below meth c H locs cells slots Q (F0 m (pc) ls (.int x :: .ref (ad 3) :: rest)) :=
  va_put (ci := 2) (ty := .int) (C := RX2) (T := TX2) (N := 2) hx hb hg us2 tyX2 tyX2_ok nmX2 hown hK hP hD hS 3 rfl rfl 1 (by decide) hl (fun _ h9 => h9) rfl (by decide +kernel) rfl rfl (Nat.le_of_ble_eq_true rfl) hdg (fun H1 l1 q1 q2 q3 => kk H1 l1 q1 q2 q3)
theorem gf_arranging_fewest (hx : p.tables.exec = Jvm.exec) (hb : c.code = cc) (hg : ∀ w ∈ gw, w.before args s = true) (hown : s.vm.findClass own = some m.cls) (hK : va_K D vwCl (TY cs) s) (hP : va_P D vwCl (CW cs ad fa fq rv v a w fv fp) H) {x : Int32} (hv : v 7 = x) (hl : (Cond.fieldLink own index "BeesSting$Orders" "fewest" "I").before args s = true) (hdg : decode cc pc = .ok (.getfield index, 3)) (kk : W p l e R s m args below meth c H locs cells slots Q (F0 m (pc + 3) ls (.int x :: rest))) : W p l e R s m args below meth c H locs cells slots Q (F0 m (pc) ls (.ref (ad 4) :: rest)) := by
  subst hv
  exact va_get (ci := 8) (C := RX8) (T := TX8) (N := 6) hx hb hg us8 hown hK hP 4 rfl rfl 4 (by decide) hl (fun _ h9 => h9) rfl hdg kk
theorem pf_arranging_fewest (hx : p.tables.exec = Jvm.exec) (hb : c.code = cc) (hg : ∀ w ∈ gw, w.before args s = true) (hown : s.vm.findClass own = some m.cls) (hK : va_K D vwCl (TY cs) s) (hP : va_P D vwCl (CW cs ad fa fq rv v a w fv fp) H) (hD : va_D A (CW cs ad fa fq rv v a w fv fp)) (hS : va_S A H0 H locs) {x : Int32} (hl : (Cond.fieldLink own index "BeesSting$Orders" "fewest" "I").before args s = true) (hdg : decode cc pc = .ok (.putfield index, 3)) (kk : ∀ (H1 : Heap) (l1 : List Loc), va_P D vwCl (CW cs ad fa fq rv (va_up v 7 x) a w fv fp) H1 → va_D A (CW cs ad fa fq rv (va_up v 7 x) a w fv fp) → va_S A H0 H1 l1 → W p l e R s m args below meth c H1 l1 cells slots Q (F0 m (pc + 3) ls (rest))) : W p l e R s m args below meth c H locs cells slots Q (F0 m (pc) ls (.int x :: .ref (ad 4) :: rest)) :=
  va_put (ci := 8) (ty := .int) (C := RX8) (T := TX8) (N := 6) hx hb hg us8 tyX8 tyX8_ok nmX8 hown hK hP hD hS 4 rfl rfl 4 (by decide) hl (fun _ h9 => h9) rfl (by decide +kernel) rfl rfl (Nat.le_of_ble_eq_true rfl) hdg (fun H1 l1 q1 q2 q3 => kk H1 l1 q1 q2 q3)
theorem gf_arranging_quiet (hx : p.tables.exec = Jvm.exec) (hb : c.code = cc) (hg : ∀ w ∈ gw, w.before args s = true) (hown : s.vm.findClass own = some m.cls) (hK : va_K D vwCl (TY cs) s) (hP : va_P D vwCl (CW cs ad fa fq rv v a w fv fp) H) {x : Int32} (hv : v 8 = x) (hl : (Cond.fieldLink own index "BeesSting$Orders" "quiet" "I").before args s = true) (hdg : decode cc pc = .ok (.getfield index, 3)) (kk : W p l e R s m args below meth c H locs cells slots Q (F0 m (pc + 3) ls (.int x :: rest))) : W p l e R s m args below meth c H locs cells slots Q (F0 m (pc) ls (.ref (ad 4) :: rest)) := by
  subst hv
  exact va_get (ci := 8) (C := RX8) (T := TX8) (N := 6) hx hb hg us8 hown hK hP 4 rfl rfl 5 (by decide) hl (fun _ h9 => h9) rfl hdg kk
theorem pf_arranging_quiet (hx : p.tables.exec = Jvm.exec) (hb : c.code = cc) (hg : ∀ w ∈ gw, w.before args s = true) (hown : s.vm.findClass own = some m.cls) (hK : va_K D vwCl (TY cs) s) (hP : va_P D vwCl (CW cs ad fa fq rv v a w fv fp) H) (hD : va_D A (CW cs ad fa fq rv v a w fv fp)) (hS : va_S A H0 H locs) {x : Int32} (hl : (Cond.fieldLink own index "BeesSting$Orders" "quiet" "I").before args s = true) (hdg : decode cc pc = .ok (.putfield index, 3)) (kk : ∀ (H1 : Heap) (l1 : List Loc), va_P D vwCl (CW cs ad fa fq rv (va_up v 8 x) a w fv fp) H1 → va_D A (CW cs ad fa fq rv (va_up v 8 x) a w fv fp) → va_S A H0 H1 l1 → W p l e R s m args below meth c H1 l1 cells slots Q (F0 m (pc + 3) ls (rest))) : W p l e R s m args below meth c H locs cells slots Q (F0 m (pc) ls (.int x :: .ref (ad 4) :: rest)) :=
  va_put (ci := 8) (ty := .int) (C := RX8) (T := TX8) (N := 6) hx hb hg us8 tyX8 tyX8_ok nmX8 hown hK hP hD hS 4 rfl rfl 5 (by decide) hl (fun _ h9 => h9) rfl (by decide +kernel) rfl rfl (Nat.le_of_ble_eq_true rfl) hdg (fun H1 l1 q1 q2 q3 => kk H1 l1 q1 q2 q3)
theorem gf_talking_first (hx : p.tables.exec = Jvm.exec) (hb : c.code = cc) (hg : ∀ w ∈ gw, w.before args s = true) (hown : s.vm.findClass own = some m.cls) (hK : va_K D vwCl (TY cs) s) (hP : va_P D vwCl (CW cs ad fa fq rv v a w fv fp) H) {x : Int32} (hv : v 9 = x) (hl : (Cond.fieldLink own index "BeesSting$LastWord" "first" "I").before args s = true) (hdg : decode cc pc = .ok (.getfield index, 3)) (kk : W p l e R s m args below meth c H locs cells slots Q (F0 m (pc + 3) ls (.int x :: rest))) : W p l e R s m args below meth c H locs cells slots Q (F0 m (pc) ls (.ref (ad 5) :: rest)) := by
  subst hv
  exact va_get (ci := 5) (C := RX5) (T := TX5) (N := 6) hx hb hg us5 hown hK hP 5 rfl rfl 1 (by decide) hl (fun _ h9 => h9) rfl hdg kk
theorem pf_talking_first (hx : p.tables.exec = Jvm.exec) (hb : c.code = cc) (hg : ∀ w ∈ gw, w.before args s = true) (hown : s.vm.findClass own = some m.cls) (hK : va_K D vwCl (TY cs) s) (hP : va_P D vwCl (CW cs ad fa fq rv v a w fv fp) H) (hD : va_D A (CW cs ad fa fq rv v a w fv fp)) (hS : va_S A H0 H locs) {x : Int32} (hl : (Cond.fieldLink own index "BeesSting$LastWord" "first" "I").before args s = true) (hdg : decode cc pc = .ok (.putfield index, 3)) (kk : ∀ (H1 : Heap) (l1 : List Loc), va_P D vwCl (CW cs ad fa fq rv (va_up v 9 x) a w fv fp) H1 → va_D A (CW cs ad fa fq rv (va_up v 9 x) a w fv fp) → va_S A H0 H1 l1 → W p l e R s m args below meth c H1 l1 cells slots Q (F0 m (pc + 3) ls (rest))) : W p l e R s m args below meth c H locs cells slots Q (F0 m (pc) ls (.int x :: .ref (ad 5) :: rest)) :=
  va_put (ci := 5) (ty := .int) (C := RX5) (T := TX5) (N := 6) hx hb hg us5 tyX5 tyX5_ok nmX5 hown hK hP hD hS 5 rfl rfl 1 (by decide) hl (fun _ h9 => h9) rfl (by decide +kernel) rfl rfl (Nat.le_of_ble_eq_true rfl) hdg (fun H1 l1 q1 q2 q3 => kk H1 l1 q1 q2 q3)
theorem gf_talking_other (hx : p.tables.exec = Jvm.exec) (hb : c.code = cc) (hg : ∀ w ∈ gw, w.before args s = true) (hown : s.vm.findClass own = some m.cls) (hK : va_K D vwCl (TY cs) s) (hP : va_P D vwCl (CW cs ad fa fq rv v a w fv fp) H) {x : Int32} (hv : v 10 = x) (hl : (Cond.fieldLink own index "BeesSting$LastWord" "other" "I").before args s = true) (hdg : decode cc pc = .ok (.getfield index, 3)) (kk : W p l e R s m args below meth c H locs cells slots Q (F0 m (pc + 3) ls (.int x :: rest))) : W p l e R s m args below meth c H locs cells slots Q (F0 m (pc) ls (.ref (ad 5) :: rest)) := by
  subst hv
  exact va_get (ci := 5) (C := RX5) (T := TX5) (N := 6) hx hb hg us5 hown hK hP 5 rfl rfl 2 (by decide) hl (fun _ h9 => h9) rfl hdg kk
theorem pf_talking_other (hx : p.tables.exec = Jvm.exec) (hb : c.code = cc) (hg : ∀ w ∈ gw, w.before args s = true) (hown : s.vm.findClass own = some m.cls) (hK : va_K D vwCl (TY cs) s) (hP : va_P D vwCl (CW cs ad fa fq rv v a w fv fp) H) (hD : va_D A (CW cs ad fa fq rv v a w fv fp)) (hS : va_S A H0 H locs) {x : Int32} (hl : (Cond.fieldLink own index "BeesSting$LastWord" "other" "I").before args s = true) (hdg : decode cc pc = .ok (.putfield index, 3)) (kk : ∀ (H1 : Heap) (l1 : List Loc), va_P D vwCl (CW cs ad fa fq rv (va_up v 10 x) a w fv fp) H1 → va_D A (CW cs ad fa fq rv (va_up v 10 x) a w fv fp) → va_S A H0 H1 l1 → W p l e R s m args below meth c H1 l1 cells slots Q (F0 m (pc + 3) ls (rest))) : W p l e R s m args below meth c H locs cells slots Q (F0 m (pc) ls (.int x :: .ref (ad 5) :: rest)) :=
  va_put (ci := 5) (ty := .int) (C := RX5) (T := TX5) (N := 6) hx hb hg us5 tyX5 tyX5_ok nmX5 hown hK hP hD hS 5 rfl rfl 2 (by decide) hl (fun _ h9 => h9) rfl (by decide +kernel) rfl rfl (Nat.le_of_ble_eq_true rfl) hdg (fun H1 l1 q1 q2 q3 => kk H1 l1 q1 q2 q3)
theorem gf_talking_turns (hx : p.tables.exec = Jvm.exec) (hb : c.code = cc) (hg : ∀ w ∈ gw, w.before args s = true) (hown : s.vm.findClass own = some m.cls) (hK : va_K D vwCl (TY cs) s) (hP : va_P D vwCl (CW cs ad fa fq rv v a w fv fp) H) {x : Int32} (hv : v 11 = x) (hl : (Cond.fieldLink own index "BeesSting$LastWord" "turns" "I").before args s = true) (hdg : decode cc pc = .ok (.getfield index, 3)) (kk : W p l e R s m args below meth c H locs cells slots Q (F0 m (pc + 3) ls (.int x :: rest))) : W p l e R s m args below meth c H locs cells slots Q (F0 m (pc) ls (.ref (ad 5) :: rest)) := by
  subst hv
  exact va_get (ci := 5) (C := RX5) (T := TX5) (N := 6) hx hb hg us5 hown hK hP 5 rfl rfl 3 (by decide) hl (fun _ h9 => h9) rfl hdg kk
theorem pf_talking_turns (hx : p.tables.exec = Jvm.exec) (hb : c.code = cc) (hg : ∀ w ∈ gw, w.before args s = true) (hown : s.vm.findClass own = some m.cls) (hK : va_K D vwCl (TY cs) s) (hP : va_P D vwCl (CW cs ad fa fq rv v a w fv fp) H) (hD : va_D A (CW cs ad fa fq rv v a w fv fp)) (hS : va_S A H0 H locs) {x : Int32} (hl : (Cond.fieldLink own index "BeesSting$LastWord" "turns" "I").before args s = true) (hdg : decode cc pc = .ok (.putfield index, 3)) (kk : ∀ (H1 : Heap) (l1 : List Loc), va_P D vwCl (CW cs ad fa fq rv (va_up v 11 x) a w fv fp) H1 → va_D A (CW cs ad fa fq rv (va_up v 11 x) a w fv fp) → va_S A H0 H1 l1 → W p l e R s m args below meth c H1 l1 cells slots Q (F0 m (pc + 3) ls (rest))) : W p l e R s m args below meth c H locs cells slots Q (F0 m (pc) ls (.int x :: .ref (ad 5) :: rest)) :=
  va_put (ci := 5) (ty := .int) (C := RX5) (T := TX5) (N := 6) hx hb hg us5 tyX5 tyX5_ok nmX5 hown hK hP hD hS 5 rfl rfl 3 (by decide) hl (fun _ h9 => h9) rfl (by decide +kernel) rfl rfl (Nat.le_of_ble_eq_true rfl) hdg (fun H1 l1 q1 q2 q3 => kk H1 l1 q1 q2 q3)
theorem gf_talking_stings (hx : p.tables.exec = Jvm.exec) (hb : c.code = cc) (hg : ∀ w ∈ gw, w.before args s = true) (hown : s.vm.findClass own = some m.cls) (hK : va_K D vwCl (TY cs) s) (hP : va_P D vwCl (CW cs ad fa fq rv v a w fv fp) H) {x : Int32} (hv : v 12 = x) (hl : (Cond.fieldLink own index "BeesSting$LastWord" "stings" "I").before args s = true) (hdg : decode cc pc = .ok (.getfield index, 3)) (kk : W p l e R s m args below meth c H locs cells slots Q (F0 m (pc + 3) ls (.int x :: rest))) : W p l e R s m args below meth c H locs cells slots Q (F0 m (pc) ls (.ref (ad 5) :: rest)) := by
  subst hv
  exact va_get (ci := 5) (C := RX5) (T := TX5) (N := 6) hx hb hg us5 hown hK hP 5 rfl rfl 4 (by decide) hl (fun _ h9 => h9) rfl hdg kk
theorem pf_talking_stings (hx : p.tables.exec = Jvm.exec) (hb : c.code = cc) (hg : ∀ w ∈ gw, w.before args s = true) (hown : s.vm.findClass own = some m.cls) (hK : va_K D vwCl (TY cs) s) (hP : va_P D vwCl (CW cs ad fa fq rv v a w fv fp) H) (hD : va_D A (CW cs ad fa fq rv v a w fv fp)) (hS : va_S A H0 H locs) {x : Int32} (hl : (Cond.fieldLink own index "BeesSting$LastWord" "stings" "I").before args s = true) (hdg : decode cc pc = .ok (.putfield index, 3)) (kk : ∀ (H1 : Heap) (l1 : List Loc), va_P D vwCl (CW cs ad fa fq rv (va_up v 12 x) a w fv fp) H1 → va_D A (CW cs ad fa fq rv (va_up v 12 x) a w fv fp) → va_S A H0 H1 l1 → W p l e R s m args below meth c H1 l1 cells slots Q (F0 m (pc + 3) ls (rest))) : W p l e R s m args below meth c H locs cells slots Q (F0 m (pc) ls (.int x :: .ref (ad 5) :: rest)) :=
  va_put (ci := 5) (ty := .int) (C := RX5) (T := TX5) (N := 6) hx hb hg us5 tyX5 tyX5_ok nmX5 hown hK hP hD hS 5 rfl rfl 4 (by decide) hl (fun _ h9 => h9) rfl (by decide +kernel) rfl rfl (Nat.le_of_ble_eq_true rfl) hdg (fun H1 l1 q1 q2 q3 => kk H1 l1 q1 q2 q3)
theorem gf_talking_opening (hx : p.tables.exec = Jvm.exec) (hb : c.code = cc) (hg : ∀ w ∈ gw, w.before args s = true) (hown : s.vm.findClass own = some m.cls) (hK : va_K D vwCl (TY cs) s) (hP : va_P D vwCl (CW cs ad fa fq rv v a w fv fp) H) {x : Int32} (hv : v 13 = x) (hl : (Cond.fieldLink own index "BeesSting$LastWord" "opening" "I").before args s = true) (hdg : decode cc pc = .ok (.getfield index, 3)) (kk : W p l e R s m args below meth c H locs cells slots Q (F0 m (pc + 3) ls (.int x :: rest))) : W p l e R s m args below meth c H locs cells slots Q (F0 m (pc) ls (.ref (ad 5) :: rest)) := by
  subst hv
  exact va_get (ci := 5) (C := RX5) (T := TX5) (N := 6) hx hb hg us5 hown hK hP 5 rfl rfl 5 (by decide) hl (fun _ h9 => h9) rfl hdg kk
theorem pf_talking_opening (hx : p.tables.exec = Jvm.exec) (hb : c.code = cc) (hg : ∀ w ∈ gw, w.before args s = true) (hown : s.vm.findClass own = some m.cls) (hK : va_K D vwCl (TY cs) s) (hP : va_P D vwCl (CW cs ad fa fq rv v a w fv fp) H) (hD : va_D A (CW cs ad fa fq rv v a w fv fp)) (hS : va_S A H0 H locs) {x : Int32} (hl : (Cond.fieldLink own index "BeesSting$LastWord" "opening" "I").before args s = true) (hdg : decode cc pc = .ok (.putfield index, 3)) (kk : ∀ (H1 : Heap) (l1 : List Loc), va_P D vwCl (CW cs ad fa fq rv (va_up v 13 x) a w fv fp) H1 → va_D A (CW cs ad fa fq rv (va_up v 13 x) a w fv fp) → va_S A H0 H1 l1 → W p l e R s m args below meth c H1 l1 cells slots Q (F0 m (pc + 3) ls (rest))) : W p l e R s m args below meth c H locs cells slots Q (F0 m (pc) ls (.int x :: .ref (ad 5) :: rest)) :=
  va_put (ci := 5) (ty := .int) (C := RX5) (T := TX5) (N := 6) hx hb hg us5 tyX5 tyX5_ok nmX5 hown hK hP hD hS 5 rfl rfl 5 (by decide) hl (fun _ h9 => h9) rfl (by decide +kernel) rfl rfl (Nat.le_of_ble_eq_true rfl) hdg (fun H1 l1 q1 q2 q3 => kk H1 l1 q1 q2 q3)
theorem gf_hearing_known (hx : p.tables.exec = Jvm.exec) (hb : c.code = cc) (hg : ∀ w ∈ gw, w.before args s = true) (hown : s.vm.findClass own = some m.cls) (hK : va_K D vwCl (TY cs) s) (hP : va_P D vwCl (CW cs ad fa fq rv v a w fv fp) H) {x : Int32} (hv : v 14 = x) (hl : (Cond.fieldLink own index "BeesSting$Heard" "known" "I").before args s = true) (hdg : decode cc pc = .ok (.getfield index, 3)) (kk : W p l e R s m args below meth c H locs cells slots Q (F0 m (pc + 3) ls (.int x :: rest))) : W p l e R s m args below meth c H locs cells slots Q (F0 m (pc) ls (.ref (ad 6) :: rest)) := by
  subst hv
  exact va_get (ci := 4) (C := RX4) (T := TX4) (N := 9) hx hb hg us4 hown hK hP 6 rfl rfl 4 (by decide) hl (fun _ h9 => h9) rfl hdg kk
theorem pf_hearing_known (hx : p.tables.exec = Jvm.exec) (hb : c.code = cc) (hg : ∀ w ∈ gw, w.before args s = true) (hown : s.vm.findClass own = some m.cls) (hK : va_K D vwCl (TY cs) s) (hP : va_P D vwCl (CW cs ad fa fq rv v a w fv fp) H) (hD : va_D A (CW cs ad fa fq rv v a w fv fp)) (hS : va_S A H0 H locs) {x : Int32} (hl : (Cond.fieldLink own index "BeesSting$Heard" "known" "I").before args s = true) (hdg : decode cc pc = .ok (.putfield index, 3)) (kk : ∀ (H1 : Heap) (l1 : List Loc), va_P D vwCl (CW cs ad fa fq rv (va_up v 14 x) a w fv fp) H1 → va_D A (CW cs ad fa fq rv (va_up v 14 x) a w fv fp) → va_S A H0 H1 l1 → W p l e R s m args below meth c H1 l1 cells slots Q (F0 m (pc + 3) ls (rest))) : W p l e R s m args below meth c H locs cells slots Q (F0 m (pc) ls (.int x :: .ref (ad 6) :: rest)) :=
  va_put (ci := 4) (ty := .int) (C := RX4) (T := TX4) (N := 9) hx hb hg us4 tyX4 tyX4_ok nmX4 hown hK hP hD hS 6 rfl rfl 4 (by decide) hl (fun _ h9 => h9) rfl (by decide +kernel) rfl rfl (Nat.le_of_ble_eq_true rfl) hdg (fun H1 l1 q1 q2 q3 => kk H1 l1 q1 q2 q3)
theorem gf_hearing_ways (hx : p.tables.exec = Jvm.exec) (hb : c.code = cc) (hg : ∀ w ∈ gw, w.before args s = true) (hown : s.vm.findClass own = some m.cls) (hK : va_K D vwCl (TY cs) s) (hP : va_P D vwCl (CW cs ad fa fq rv v a w fv fp) H) {x : Int32} (hv : v 15 = x) (hl : (Cond.fieldLink own index "BeesSting$Heard" "ways" "I").before args s = true) (hdg : decode cc pc = .ok (.getfield index, 3)) (kk : W p l e R s m args below meth c H locs cells slots Q (F0 m (pc + 3) ls (.int x :: rest))) : W p l e R s m args below meth c H locs cells slots Q (F0 m (pc) ls (.ref (ad 6) :: rest)) := by
  subst hv
  exact va_get (ci := 4) (C := RX4) (T := TX4) (N := 9) hx hb hg us4 hown hK hP 6 rfl rfl 5 (by decide) hl (fun _ h9 => h9) rfl hdg kk
theorem pf_hearing_ways (hx : p.tables.exec = Jvm.exec) (hb : c.code = cc) (hg : ∀ w ∈ gw, w.before args s = true) (hown : s.vm.findClass own = some m.cls) (hK : va_K D vwCl (TY cs) s) (hP : va_P D vwCl (CW cs ad fa fq rv v a w fv fp) H) (hD : va_D A (CW cs ad fa fq rv v a w fv fp)) (hS : va_S A H0 H locs) {x : Int32} (hl : (Cond.fieldLink own index "BeesSting$Heard" "ways" "I").before args s = true) (hdg : decode cc pc = .ok (.putfield index, 3)) (kk : ∀ (H1 : Heap) (l1 : List Loc), va_P D vwCl (CW cs ad fa fq rv (va_up v 15 x) a w fv fp) H1 → va_D A (CW cs ad fa fq rv (va_up v 15 x) a w fv fp) → va_S A H0 H1 l1 → W p l e R s m args below meth c H1 l1 cells slots Q (F0 m (pc + 3) ls (rest))) : W p l e R s m args below meth c H locs cells slots Q (F0 m (pc) ls (.int x :: .ref (ad 6) :: rest)) :=
  va_put (ci := 4) (ty := .int) (C := RX4) (T := TX4) (N := 9) hx hb hg us4 tyX4 tyX4_ok nmX4 hown hK hP hD hS 6 rfl rfl 5 (by decide) hl (fun _ h9 => h9) rfl (by decide +kernel) rfl rfl (Nat.le_of_ble_eq_true rfl) hdg (fun H1 l1 q1 q2 q3 => kk H1 l1 q1 q2 q3)
theorem gf_hearing_fewest (hx : p.tables.exec = Jvm.exec) (hb : c.code = cc) (hg : ∀ w ∈ gw, w.before args s = true) (hown : s.vm.findClass own = some m.cls) (hK : va_K D vwCl (TY cs) s) (hP : va_P D vwCl (CW cs ad fa fq rv v a w fv fp) H) {x : Int32} (hv : v 16 = x) (hl : (Cond.fieldLink own index "BeesSting$Heard" "fewest" "I").before args s = true) (hdg : decode cc pc = .ok (.getfield index, 3)) (kk : W p l e R s m args below meth c H locs cells slots Q (F0 m (pc + 3) ls (.int x :: rest))) : W p l e R s m args below meth c H locs cells slots Q (F0 m (pc) ls (.ref (ad 6) :: rest)) := by
  subst hv
  exact va_get (ci := 4) (C := RX4) (T := TX4) (N := 9) hx hb hg us4 hown hK hP 6 rfl rfl 6 (by decide) hl (fun _ h9 => h9) rfl hdg kk
theorem pf_hearing_fewest (hx : p.tables.exec = Jvm.exec) (hb : c.code = cc) (hg : ∀ w ∈ gw, w.before args s = true) (hown : s.vm.findClass own = some m.cls) (hK : va_K D vwCl (TY cs) s) (hP : va_P D vwCl (CW cs ad fa fq rv v a w fv fp) H) (hD : va_D A (CW cs ad fa fq rv v a w fv fp)) (hS : va_S A H0 H locs) {x : Int32} (hl : (Cond.fieldLink own index "BeesSting$Heard" "fewest" "I").before args s = true) (hdg : decode cc pc = .ok (.putfield index, 3)) (kk : ∀ (H1 : Heap) (l1 : List Loc), va_P D vwCl (CW cs ad fa fq rv (va_up v 16 x) a w fv fp) H1 → va_D A (CW cs ad fa fq rv (va_up v 16 x) a w fv fp) → va_S A H0 H1 l1 → W p l e R s m args below meth c H1 l1 cells slots Q (F0 m (pc + 3) ls (rest))) : W p l e R s m args below meth c H locs cells slots Q (F0 m (pc) ls (.int x :: .ref (ad 6) :: rest)) :=
  va_put (ci := 4) (ty := .int) (C := RX4) (T := TX4) (N := 9) hx hb hg us4 tyX4 tyX4_ok nmX4 hown hK hP hD hS 6 rfl rfl 6 (by decide) hl (fun _ h9 => h9) rfl (by decide +kernel) rfl rfl (Nat.le_of_ble_eq_true rfl) hdg (fun H1 l1 q1 q2 q3 => kk H1 l1 q1 q2 q3)
theorem gf_hearing_which (hx : p.tables.exec = Jvm.exec) (hb : c.code = cc) (hg : ∀ w ∈ gw, w.before args s = true) (hown : s.vm.findClass own = some m.cls) (hK : va_K D vwCl (TY cs) s) (hP : va_P D vwCl (CW cs ad fa fq rv v a w fv fp) H) {x : Int32} (hv : v 17 = x) (hl : (Cond.fieldLink own index "BeesSting$Heard" "which" "I").before args s = true) (hdg : decode cc pc = .ok (.getfield index, 3)) (kk : W p l e R s m args below meth c H locs cells slots Q (F0 m (pc + 3) ls (.int x :: rest))) : W p l e R s m args below meth c H locs cells slots Q (F0 m (pc) ls (.ref (ad 6) :: rest)) := by
  subst hv
  exact va_get (ci := 4) (C := RX4) (T := TX4) (N := 9) hx hb hg us4 hown hK hP 6 rfl rfl 7 (by decide) hl (fun _ h9 => h9) rfl hdg kk
theorem pf_hearing_which (hx : p.tables.exec = Jvm.exec) (hb : c.code = cc) (hg : ∀ w ∈ gw, w.before args s = true) (hown : s.vm.findClass own = some m.cls) (hK : va_K D vwCl (TY cs) s) (hP : va_P D vwCl (CW cs ad fa fq rv v a w fv fp) H) (hD : va_D A (CW cs ad fa fq rv v a w fv fp)) (hS : va_S A H0 H locs) {x : Int32} (hl : (Cond.fieldLink own index "BeesSting$Heard" "which" "I").before args s = true) (hdg : decode cc pc = .ok (.putfield index, 3)) (kk : ∀ (H1 : Heap) (l1 : List Loc), va_P D vwCl (CW cs ad fa fq rv (va_up v 17 x) a w fv fp) H1 → va_D A (CW cs ad fa fq rv (va_up v 17 x) a w fv fp) → va_S A H0 H1 l1 → W p l e R s m args below meth c H1 l1 cells slots Q (F0 m (pc + 3) ls (rest))) : W p l e R s m args below meth c H locs cells slots Q (F0 m (pc) ls (.int x :: .ref (ad 6) :: rest)) :=
  va_put (ci := 4) (ty := .int) (C := RX4) (T := TX4) (N := 9) hx hb hg us4 tyX4 tyX4_ok nmX4 hown hK hP hD hS 6 rfl rfl 7 (by decide) hl (fun _ h9 => h9) rfl (by decide +kernel) rfl rfl (Nat.le_of_ble_eq_true rfl) hdg (fun H1 l1 q1 q2 q3 => kk H1 l1 q1 q2 q3)
theorem gf_hearing_certain (hx : p.tables.exec = Jvm.exec) (hb : c.code = cc) (hg : ∀ w ∈ gw, w.before args s = true) (hown : s.vm.findClass own = some m.cls) (hK : va_K D vwCl (TY cs) s) (hP : va_P D vwCl (CW cs ad fa fq rv v a w fv fp) H) {x : Int32} (hv : v 18 = x) (hl : (Cond.fieldLink own index "BeesSting$Heard" "certain" "I").before args s = true) (hdg : decode cc pc = .ok (.getfield index, 3)) (kk : W p l e R s m args below meth c H locs cells slots Q (F0 m (pc + 3) ls (.int x :: rest))) : W p l e R s m args below meth c H locs cells slots Q (F0 m (pc) ls (.ref (ad 6) :: rest)) := by
  subst hv
  exact va_get (ci := 4) (C := RX4) (T := TX4) (N := 9) hx hb hg us4 hown hK hP 6 rfl rfl 8 (by decide) hl (fun _ h9 => h9) rfl hdg kk
theorem pf_hearing_certain (hx : p.tables.exec = Jvm.exec) (hb : c.code = cc) (hg : ∀ w ∈ gw, w.before args s = true) (hown : s.vm.findClass own = some m.cls) (hK : va_K D vwCl (TY cs) s) (hP : va_P D vwCl (CW cs ad fa fq rv v a w fv fp) H) (hD : va_D A (CW cs ad fa fq rv v a w fv fp)) (hS : va_S A H0 H locs) {x : Int32} (hl : (Cond.fieldLink own index "BeesSting$Heard" "certain" "I").before args s = true) (hdg : decode cc pc = .ok (.putfield index, 3)) (kk : ∀ (H1 : Heap) (l1 : List Loc), va_P D vwCl (CW cs ad fa fq rv (va_up v 18 x) a w fv fp) H1 → va_D A (CW cs ad fa fq rv (va_up v 18 x) a w fv fp) → va_S A H0 H1 l1 → W p l e R s m args below meth c H1 l1 cells slots Q (F0 m (pc + 3) ls (rest))) : W p l e R s m args below meth c H locs cells slots Q (F0 m (pc) ls (.int x :: .ref (ad 6) :: rest)) :=
  va_put (ci := 4) (ty := .int) (C := RX4) (T := TX4) (N := 9) hx hb hg us4 tyX4 tyX4_ok nmX4 hown hK hP hD hS 6 rfl rfl 8 (by decide) hl (fun _ h9 => h9) rfl (by decide +kernel) rfl rfl (Nat.le_of_ble_eq_true rfl) hdg (fun H1 l1 q1 q2 q3 => kk H1 l1 q1 q2 q3)
theorem gf_changes_done (hx : p.tables.exec = Jvm.exec) (hb : c.code = cc) (hg : ∀ w ∈ gw, w.before args s = true) (hown : s.vm.findClass own = some m.cls) (hK : va_K D vwCl (TY cs) s) (hP : va_P D vwCl (CW cs ad fa fq rv v a w fv fp) H) {x : Int32} (hv : v 19 = x) (hl : (Cond.fieldLink own index "BeesSting$Changes" "done" "I").before args s = true) (hdg : decode cc pc = .ok (.getfield index, 3)) (kk : W p l e R s m args below meth c H locs cells slots Q (F0 m (pc + 3) ls (.int x :: rest))) : W p l e R s m args below meth c H locs cells slots Q (F0 m (pc) ls (.ref (ad 7) :: rest)) := by
  subst hv
  exact va_get (ci := 1) (C := RX1) (T := TX1) (N := 6) hx hb hg us1 hown hK hP 7 rfl rfl 4 (by decide) hl (fun _ h9 => h9) rfl hdg kk
theorem pf_changes_done (hx : p.tables.exec = Jvm.exec) (hb : c.code = cc) (hg : ∀ w ∈ gw, w.before args s = true) (hown : s.vm.findClass own = some m.cls) (hK : va_K D vwCl (TY cs) s) (hP : va_P D vwCl (CW cs ad fa fq rv v a w fv fp) H) (hD : va_D A (CW cs ad fa fq rv v a w fv fp)) (hS : va_S A H0 H locs) {x : Int32} (hl : (Cond.fieldLink own index "BeesSting$Changes" "done" "I").before args s = true) (hdg : decode cc pc = .ok (.putfield index, 3)) (kk : ∀ (H1 : Heap) (l1 : List Loc), va_P D vwCl (CW cs ad fa fq rv (va_up v 19 x) a w fv fp) H1 → va_D A (CW cs ad fa fq rv (va_up v 19 x) a w fv fp) → va_S A H0 H1 l1 → W p l e R s m args below meth c H1 l1 cells slots Q (F0 m (pc + 3) ls (rest))) : W p l e R s m args below meth c H locs cells slots Q (F0 m (pc) ls (.int x :: .ref (ad 7) :: rest)) :=
  va_put (ci := 1) (ty := .int) (C := RX1) (T := TX1) (N := 6) hx hb hg us1 tyX1 tyX1_ok nmX1 hown hK hP hD hS 7 rfl rfl 4 (by decide) hl (fun _ h9 => h9) rfl (by decide +kernel) rfl rfl (Nat.le_of_ble_eq_true rfl) hdg (fun H1 l1 q1 q2 q3 => kk H1 l1 q1 q2 q3)
theorem gf_changes_all (hx : p.tables.exec = Jvm.exec) (hb : c.code = cc) (hg : ∀ w ∈ gw, w.before args s = true) (hown : s.vm.findClass own = some m.cls) (hK : va_K D vwCl (TY cs) s) (hP : va_P D vwCl (CW cs ad fa fq rv v a w fv fp) H) {x : Int32} (hv : v 20 = x) (hl : (Cond.fieldLink own index "BeesSting$Changes" "all" "I").before args s = true) (hdg : decode cc pc = .ok (.getfield index, 3)) (kk : W p l e R s m args below meth c H locs cells slots Q (F0 m (pc + 3) ls (.int x :: rest))) : W p l e R s m args below meth c H locs cells slots Q (F0 m (pc) ls (.ref (ad 7) :: rest)) := by
  subst hv
  exact va_get (ci := 1) (C := RX1) (T := TX1) (N := 6) hx hb hg us1 hown hK hP 7 rfl rfl 5 (by decide) hl (fun _ h9 => h9) rfl hdg kk
theorem pf_changes_all (hx : p.tables.exec = Jvm.exec) (hb : c.code = cc) (hg : ∀ w ∈ gw, w.before args s = true) (hown : s.vm.findClass own = some m.cls) (hK : va_K D vwCl (TY cs) s) (hP : va_P D vwCl (CW cs ad fa fq rv v a w fv fp) H) (hD : va_D A (CW cs ad fa fq rv v a w fv fp)) (hS : va_S A H0 H locs) {x : Int32} (hl : (Cond.fieldLink own index "BeesSting$Changes" "all" "I").before args s = true) (hdg : decode cc pc = .ok (.putfield index, 3)) (kk : ∀ (H1 : Heap) (l1 : List Loc), va_P D vwCl (CW cs ad fa fq rv (va_up v 20 x) a w fv fp) H1 → va_D A (CW cs ad fa fq rv (va_up v 20 x) a w fv fp) → va_S A H0 H1 l1 → W p l e R s m args below meth c H1 l1 cells slots Q (F0 m (pc + 3) ls (rest))) : W p l e R s m args below meth c H locs cells slots Q (F0 m (pc) ls (.int x :: .ref (ad 7) :: rest)) :=
  va_put (ci := 1) (ty := .int) (C := RX1) (T := TX1) (N := 6) hx hb hg us1 tyX1 tyX1_ok nmX1 hown hK hP hD hS 7 rfl rfl 5 (by decide) hl (fun _ h9 => h9) rfl (by decide +kernel) rfl rfl (Nat.le_of_ble_eq_true rfl) hdg (fun H1 l1 q1 q2 q3 => kk H1 l1 q1 q2 q3)
theorem gf_acts_made (hx : p.tables.exec = Jvm.exec) (hb : c.code = cc) (hg : ∀ w ∈ gw, w.before args s = true) (hown : s.vm.findClass own = some m.cls) (hK : va_K D vwCl (TY cs) s) (hP : va_P D vwCl (CW cs ad fa fq rv v a w fv fp) H) {x : Int32} (hv : v 21 = x) (hl : (Cond.fieldLink own index "BeesSting$Acts" "made" "I").before args s = true) (hdg : decode cc pc = .ok (.getfield index, 3)) (kk : W p l e R s m args below meth c H locs cells slots Q (F0 m (pc + 3) ls (.int x :: rest))) : W p l e R s m args below meth c H locs cells slots Q (F0 m (pc) ls (.ref (ad 9) :: rest)) := by
  subst hv
  exact va_get (ci := 0) (C := RX0) (T := TX0) (N := 5) hx hb hg us0 hown hK hP 9 rfl rfl 1 (by decide) hl (fun _ h9 => h9) rfl hdg kk
theorem pf_acts_made (hx : p.tables.exec = Jvm.exec) (hb : c.code = cc) (hg : ∀ w ∈ gw, w.before args s = true) (hown : s.vm.findClass own = some m.cls) (hK : va_K D vwCl (TY cs) s) (hP : va_P D vwCl (CW cs ad fa fq rv v a w fv fp) H) (hD : va_D A (CW cs ad fa fq rv v a w fv fp)) (hS : va_S A H0 H locs) {x : Int32} (hl : (Cond.fieldLink own index "BeesSting$Acts" "made" "I").before args s = true) (hdg : decode cc pc = .ok (.putfield index, 3)) (kk : ∀ (H1 : Heap) (l1 : List Loc), va_P D vwCl (CW cs ad fa fq rv (va_up v 21 x) a w fv fp) H1 → va_D A (CW cs ad fa fq rv (va_up v 21 x) a w fv fp) → va_S A H0 H1 l1 → W p l e R s m args below meth c H1 l1 cells slots Q (F0 m (pc + 3) ls (rest))) : W p l e R s m args below meth c H locs cells slots Q (F0 m (pc) ls (.int x :: .ref (ad 9) :: rest)) :=
  va_put (ci := 0) (ty := .int) (C := RX0) (T := TX0) (N := 5) hx hb hg us0 tyX0 tyX0_ok nmX0 hown hK hP hD hS 9 rfl rfl 1 (by decide) hl (fun _ h9 => h9) rfl (by decide +kernel) rfl rfl (Nat.le_of_ble_eq_true rfl) hdg (fun H1 l1 q1 q2 q3 => kk H1 l1 q1 q2 q3)
theorem gf_acts_ran (hx : p.tables.exec = Jvm.exec) (hb : c.code = cc) (hg : ∀ w ∈ gw, w.before args s = true) (hown : s.vm.findClass own = some m.cls) (hK : va_K D vwCl (TY cs) s) (hP : va_P D vwCl (CW cs ad fa fq rv v a w fv fp) H) {x : Int32} (hv : v 22 = x) (hl : (Cond.fieldLink own index "BeesSting$Acts" "ran" "I").before args s = true) (hdg : decode cc pc = .ok (.getfield index, 3)) (kk : W p l e R s m args below meth c H locs cells slots Q (F0 m (pc + 3) ls (.int x :: rest))) : W p l e R s m args below meth c H locs cells slots Q (F0 m (pc) ls (.ref (ad 9) :: rest)) := by
  subst hv
  exact va_get (ci := 0) (C := RX0) (T := TX0) (N := 5) hx hb hg us0 hown hK hP 9 rfl rfl 3 (by decide) hl (fun _ h9 => h9) rfl hdg kk
theorem pf_acts_ran (hx : p.tables.exec = Jvm.exec) (hb : c.code = cc) (hg : ∀ w ∈ gw, w.before args s = true) (hown : s.vm.findClass own = some m.cls) (hK : va_K D vwCl (TY cs) s) (hP : va_P D vwCl (CW cs ad fa fq rv v a w fv fp) H) (hD : va_D A (CW cs ad fa fq rv v a w fv fp)) (hS : va_S A H0 H locs) {x : Int32} (hl : (Cond.fieldLink own index "BeesSting$Acts" "ran" "I").before args s = true) (hdg : decode cc pc = .ok (.putfield index, 3)) (kk : ∀ (H1 : Heap) (l1 : List Loc), va_P D vwCl (CW cs ad fa fq rv (va_up v 22 x) a w fv fp) H1 → va_D A (CW cs ad fa fq rv (va_up v 22 x) a w fv fp) → va_S A H0 H1 l1 → W p l e R s m args below meth c H1 l1 cells slots Q (F0 m (pc + 3) ls (rest))) : W p l e R s m args below meth c H locs cells slots Q (F0 m (pc) ls (.int x :: .ref (ad 9) :: rest)) :=
  va_put (ci := 0) (ty := .int) (C := RX0) (T := TX0) (N := 5) hx hb hg us0 tyX0 tyX0_ok nmX0 hown hK hP hD hS 9 rfl rfl 3 (by decide) hl (fun _ h9 => h9) rfl (by decide +kernel) rfl rfl (Nat.le_of_ble_eq_true rfl) hdg (fun H1 l1 q1 q2 q3 => kk H1 l1 q1 q2 q3)
theorem gf_acts_number (hx : p.tables.exec = Jvm.exec) (hb : c.code = cc) (hg : ∀ w ∈ gw, w.before args s = true) (hown : s.vm.findClass own = some m.cls) (hK : va_K D vwCl (TY cs) s) (hP : va_P D vwCl (CW cs ad fa fq rv v a w fv fp) H) {x : Int32} (hv : v 23 = x) (hl : (Cond.fieldLink own index "BeesSting$Acts" "number" "I").before args s = true) (hdg : decode cc pc = .ok (.getfield index, 3)) (kk : W p l e R s m args below meth c H locs cells slots Q (F0 m (pc + 3) ls (.int x :: rest))) : W p l e R s m args below meth c H locs cells slots Q (F0 m (pc) ls (.ref (ad 9) :: rest)) := by
  subst hv
  exact va_get (ci := 0) (C := RX0) (T := TX0) (N := 5) hx hb hg us0 hown hK hP 9 rfl rfl 4 (by decide) hl (fun _ h9 => h9) rfl hdg kk
theorem pf_acts_number (hx : p.tables.exec = Jvm.exec) (hb : c.code = cc) (hg : ∀ w ∈ gw, w.before args s = true) (hown : s.vm.findClass own = some m.cls) (hK : va_K D vwCl (TY cs) s) (hP : va_P D vwCl (CW cs ad fa fq rv v a w fv fp) H) (hD : va_D A (CW cs ad fa fq rv v a w fv fp)) (hS : va_S A H0 H locs) {x : Int32} (hl : (Cond.fieldLink own index "BeesSting$Acts" "number" "I").before args s = true) (hdg : decode cc pc = .ok (.putfield index, 3)) (kk : ∀ (H1 : Heap) (l1 : List Loc), va_P D vwCl (CW cs ad fa fq rv (va_up v 23 x) a w fv fp) H1 → va_D A (CW cs ad fa fq rv (va_up v 23 x) a w fv fp) → va_S A H0 H1 l1 → W p l e R s m args below meth c H1 l1 cells slots Q (F0 m (pc + 3) ls (rest))) : W p l e R s m args below meth c H locs cells slots Q (F0 m (pc) ls (.int x :: .ref (ad 9) :: rest)) :=
  va_put (ci := 0) (ty := .int) (C := RX0) (T := TX0) (N := 5) hx hb hg us0 tyX0 tyX0_ok nmX0 hown hK hP hD hS 9 rfl rfl 4 (by decide) hl (fun _ h9 => h9) rfl (by decide +kernel) rfl rfl (Nat.le_of_ble_eq_true rfl) hdg (fun H1 l1 q1 q2 q3 => kk H1 l1 q1 q2 q3)
theorem gf_reader_length (hx : p.tables.exec = Jvm.exec) (hb : c.code = cc) (hg : ∀ w ∈ gw, w.before args s = true) (hown : s.vm.findClass own = some m.cls) (hK : va_K D vwCl (TY cs) s) (hP : va_P D vwCl (CW cs ad fa fq rv v a w fv fp) H) {x : Int32} (hv : v 24 = x) (hl : (Cond.fieldLink own index "BeesSting$LawReader" "length" "I").before args s = true) (hdg : decode cc pc = .ok (.getfield index, 3)) (kk : W p l e R s m args below meth c H locs cells slots Q (F0 m (pc + 3) ls (.int x :: rest))) : W p l e R s m args below meth c H locs cells slots Q (F0 m (pc) ls (.ref (ad 10) :: rest)) := by
  subst hv
  exact va_get (ci := 7) (C := RX7) (T := TX7) (N := 5) hx hb hg us7 hown hK hP 10 rfl rfl 2 (by decide) hl (fun _ h9 => h9) rfl hdg kk
theorem pf_reader_length (hx : p.tables.exec = Jvm.exec) (hb : c.code = cc) (hg : ∀ w ∈ gw, w.before args s = true) (hown : s.vm.findClass own = some m.cls) (hK : va_K D vwCl (TY cs) s) (hP : va_P D vwCl (CW cs ad fa fq rv v a w fv fp) H) (hD : va_D A (CW cs ad fa fq rv v a w fv fp)) (hS : va_S A H0 H locs) {x : Int32} (hl : (Cond.fieldLink own index "BeesSting$LawReader" "length" "I").before args s = true) (hdg : decode cc pc = .ok (.putfield index, 3)) (kk : ∀ (H1 : Heap) (l1 : List Loc), va_P D vwCl (CW cs ad fa fq rv (va_up v 24 x) a w fv fp) H1 → va_D A (CW cs ad fa fq rv (va_up v 24 x) a w fv fp) → va_S A H0 H1 l1 → W p l e R s m args below meth c H1 l1 cells slots Q (F0 m (pc + 3) ls (rest))) : W p l e R s m args below meth c H locs cells slots Q (F0 m (pc) ls (.int x :: .ref (ad 10) :: rest)) :=
  va_put (ci := 7) (ty := .int) (C := RX7) (T := TX7) (N := 5) hx hb hg us7 tyX7 tyX7_ok nmX7 hown hK hP hD hS 10 rfl rfl 2 (by decide) hl (fun _ h9 => h9) rfl (by decide +kernel) rfl rfl (Nat.le_of_ble_eq_true rfl) hdg (fun H1 l1 q1 q2 q3 => kk H1 l1 q1 q2 q3)
theorem gf_reader_at (hx : p.tables.exec = Jvm.exec) (hb : c.code = cc) (hg : ∀ w ∈ gw, w.before args s = true) (hown : s.vm.findClass own = some m.cls) (hK : va_K D vwCl (TY cs) s) (hP : va_P D vwCl (CW cs ad fa fq rv v a w fv fp) H) {x : Int32} (hv : v 25 = x) (hl : (Cond.fieldLink own index "BeesSting$LawReader" "at" "I").before args s = true) (hdg : decode cc pc = .ok (.getfield index, 3)) (kk : W p l e R s m args below meth c H locs cells slots Q (F0 m (pc + 3) ls (.int x :: rest))) : W p l e R s m args below meth c H locs cells slots Q (F0 m (pc) ls (.ref (ad 10) :: rest)) := by
  subst hv
  exact va_get (ci := 7) (C := RX7) (T := TX7) (N := 5) hx hb hg us7 hown hK hP 10 rfl rfl 3 (by decide) hl (fun _ h9 => h9) rfl hdg kk
theorem pf_reader_at (hx : p.tables.exec = Jvm.exec) (hb : c.code = cc) (hg : ∀ w ∈ gw, w.before args s = true) (hown : s.vm.findClass own = some m.cls) (hK : va_K D vwCl (TY cs) s) (hP : va_P D vwCl (CW cs ad fa fq rv v a w fv fp) H) (hD : va_D A (CW cs ad fa fq rv v a w fv fp)) (hS : va_S A H0 H locs) {x : Int32} (hl : (Cond.fieldLink own index "BeesSting$LawReader" "at" "I").before args s = true) (hdg : decode cc pc = .ok (.putfield index, 3)) (kk : ∀ (H1 : Heap) (l1 : List Loc), va_P D vwCl (CW cs ad fa fq rv (va_up v 25 x) a w fv fp) H1 → va_D A (CW cs ad fa fq rv (va_up v 25 x) a w fv fp) → va_S A H0 H1 l1 → W p l e R s m args below meth c H1 l1 cells slots Q (F0 m (pc + 3) ls (rest))) : W p l e R s m args below meth c H locs cells slots Q (F0 m (pc) ls (.int x :: .ref (ad 10) :: rest)) :=
  va_put (ci := 7) (ty := .int) (C := RX7) (T := TX7) (N := 5) hx hb hg us7 tyX7 tyX7_ok nmX7 hown hK hP hD hS 10 rfl rfl 3 (by decide) hl (fun _ h9 => h9) rfl (by decide +kernel) rfl rfl (Nat.le_of_ble_eq_true rfl) hdg (fun H1 l1 q1 q2 q3 => kk H1 l1 q1 q2 q3)
theorem gf_reader_size (hx : p.tables.exec = Jvm.exec) (hb : c.code = cc) (hg : ∀ w ∈ gw, w.before args s = true) (hown : s.vm.findClass own = some m.cls) (hK : va_K D vwCl (TY cs) s) (hP : va_P D vwCl (CW cs ad fa fq rv v a w fv fp) H) {x : Int32} (hv : v 26 = x) (hl : (Cond.fieldLink own index "BeesSting$LawReader" "size" "I").before args s = true) (hdg : decode cc pc = .ok (.getfield index, 3)) (kk : W p l e R s m args below meth c H locs cells slots Q (F0 m (pc + 3) ls (.int x :: rest))) : W p l e R s m args below meth c H locs cells slots Q (F0 m (pc) ls (.ref (ad 10) :: rest)) := by
  subst hv
  exact va_get (ci := 7) (C := RX7) (T := TX7) (N := 5) hx hb hg us7 hown hK hP 10 rfl rfl 4 (by decide) hl (fun _ h9 => h9) rfl hdg kk
theorem pf_reader_size (hx : p.tables.exec = Jvm.exec) (hb : c.code = cc) (hg : ∀ w ∈ gw, w.before args s = true) (hown : s.vm.findClass own = some m.cls) (hK : va_K D vwCl (TY cs) s) (hP : va_P D vwCl (CW cs ad fa fq rv v a w fv fp) H) (hD : va_D A (CW cs ad fa fq rv v a w fv fp)) (hS : va_S A H0 H locs) {x : Int32} (hl : (Cond.fieldLink own index "BeesSting$LawReader" "size" "I").before args s = true) (hdg : decode cc pc = .ok (.putfield index, 3)) (kk : ∀ (H1 : Heap) (l1 : List Loc), va_P D vwCl (CW cs ad fa fq rv (va_up v 26 x) a w fv fp) H1 → va_D A (CW cs ad fa fq rv (va_up v 26 x) a w fv fp) → va_S A H0 H1 l1 → W p l e R s m args below meth c H1 l1 cells slots Q (F0 m (pc + 3) ls (rest))) : W p l e R s m args below meth c H locs cells slots Q (F0 m (pc) ls (.int x :: .ref (ad 10) :: rest)) :=
  va_put (ci := 7) (ty := .int) (C := RX7) (T := TX7) (N := 5) hx hb hg us7 tyX7 tyX7_ok nmX7 hown hK hP hD hS 10 rfl rfl 4 (by decide) hl (fun _ h9 => h9) rfl (by decide +kernel) rfl rfl (Nat.le_of_ble_eq_true rfl) hdg (fun H1 l1 q1 q2 q3 => kk H1 l1 q1 q2 q3)
theorem gf_main_parish (hx : p.tables.exec = Jvm.exec) (hb : c.code = cc) (hg : ∀ w ∈ gw, w.before args s = true) (hown : s.vm.findClass own = some m.cls) (hK : va_K D vwCl (TY cs) s) (hP : va_P D vwCl (CW cs ad fa fq rv v a w fv fp) H) {x : Nat} (hv : ad 1 = x) (hl : (Cond.fieldLink own index "BeesSting" "parish" "LBeesSting$Parish;").before args s = true) (hdg : decode cc pc = .ok (.getfield index, 3)) (kk : W p l e R s m args below meth c H locs cells slots Q (F0 m (pc + 3) ls (.ref x :: rest))) : W p l e R s m args below meth c H locs cells slots Q (F0 m (pc) ls (.ref (ad 0) :: rest)) := by
  subst hv
  exact va_get (ci := 11) (C := RX11) (T := TX11) (N := 15) hx hb hg us11 hown hK hP 0 rfl rfl 0 (by decide) hl (fun _ h9 => h9) rfl hdg kk
theorem gf_main_rules (hx : p.tables.exec = Jvm.exec) (hb : c.code = cc) (hg : ∀ w ∈ gw, w.before args s = true) (hown : s.vm.findClass own = some m.cls) (hK : va_K D vwCl (TY cs) s) (hP : va_P D vwCl (CW cs ad fa fq rv v a w fv fp) H) {x : Nat} (hv : ad 2 = x) (hl : (Cond.fieldLink own index "BeesSting" "rules" "LBeesSting$Law;").before args s = true) (hdg : decode cc pc = .ok (.getfield index, 3)) (kk : W p l e R s m args below meth c H locs cells slots Q (F0 m (pc + 3) ls (.ref x :: rest))) : W p l e R s m args below meth c H locs cells slots Q (F0 m (pc) ls (.ref (ad 0) :: rest)) := by
  subst hv
  exact va_get (ci := 11) (C := RX11) (T := TX11) (N := 15) hx hb hg us11 hown hK hP 0 rfl rfl 1 (by decide) hl (fun _ h9 => h9) rfl hdg kk
theorem gf_main_deed (hx : p.tables.exec = Jvm.exec) (hb : c.code = cc) (hg : ∀ w ∈ gw, w.before args s = true) (hown : s.vm.findClass own = some m.cls) (hK : va_K D vwCl (TY cs) s) (hP : va_P D vwCl (CW cs ad fa fq rv v a w fv fp) H) {x : Nat} (hv : fa 14 = x) (hl : (Cond.fieldLink own index "BeesSting" "deed" "LBeesSting$Flight;").before args s = true) (hdg : decode cc pc = .ok (.getfield index, 3)) (kk : W p l e R s m args below meth c H locs cells slots Q (F0 m (pc + 3) ls (.ref x :: rest))) : W p l e R s m args below meth c H locs cells slots Q (F0 m (pc) ls (.ref (ad 0) :: rest)) := by
  subst hv
  exact va_get (ci := 11) (C := RX11) (T := TX11) (N := 15) hx hb hg us11 hown hK hP 0 rfl rfl 2 (by decide) hl (fun _ h9 => h9) rfl hdg kk
theorem gf_main_thought (hx : p.tables.exec = Jvm.exec) (hb : c.code = cc) (hg : ∀ w ∈ gw, w.before args s = true) (hown : s.vm.findClass own = some m.cls) (hK : va_K D vwCl (TY cs) s) (hP : va_P D vwCl (CW cs ad fa fq rv v a w fv fp) H) {x : Nat} (hv : fa 15 = x) (hl : (Cond.fieldLink own index "BeesSting" "thought" "LBeesSting$Flight;").before args s = true) (hdg : decode cc pc = .ok (.getfield index, 3)) (kk : W p l e R s m args below meth c H locs cells slots Q (F0 m (pc + 3) ls (.ref x :: rest))) : W p l e R s m args below meth c H locs cells slots Q (F0 m (pc) ls (.ref (ad 0) :: rest)) := by
  subst hv
  exact va_get (ci := 11) (C := RX11) (T := TX11) (N := 15) hx hb hg us11 hown hK hP 0 rfl rfl 3 (by decide) hl (fun _ h9 => h9) rfl hdg kk
theorem gf_main_further (hx : p.tables.exec = Jvm.exec) (hb : c.code = cc) (hg : ∀ w ∈ gw, w.before args s = true) (hown : s.vm.findClass own = some m.cls) (hK : va_K D vwCl (TY cs) s) (hP : va_P D vwCl (CW cs ad fa fq rv v a w fv fp) H) {x : Nat} (hv : fa 16 = x) (hl : (Cond.fieldLink own index "BeesSting" "further" "LBeesSting$Flight;").before args s = true) (hdg : decode cc pc = .ok (.getfield index, 3)) (kk : W p l e R s m args below meth c H locs cells slots Q (F0 m (pc + 3) ls (.ref x :: rest))) : W p l e R s m args below meth c H locs cells slots Q (F0 m (pc) ls (.ref (ad 0) :: rest)) := by
  subst hv
  exact va_get (ci := 11) (C := RX11) (T := TX11) (N := 15) hx hb hg us11 hown hK hP 0 rfl rfl 4 (by decide) hl (fun _ h9 => h9) rfl hdg kk
theorem gf_main_today (hx : p.tables.exec = Jvm.exec) (hb : c.code = cc) (hg : ∀ w ∈ gw, w.before args s = true) (hown : s.vm.findClass own = some m.cls) (hK : va_K D vwCl (TY cs) s) (hP : va_P D vwCl (CW cs ad fa fq rv v a w fv fp) H) {x : Nat} (hv : ad 3 = x) (hl : (Cond.fieldLink own index "BeesSting" "today" "LBeesSting$Day;").before args s = true) (hdg : decode cc pc = .ok (.getfield index, 3)) (kk : W p l e R s m args below meth c H locs cells slots Q (F0 m (pc + 3) ls (.ref x :: rest))) : W p l e R s m args below meth c H locs cells slots Q (F0 m (pc) ls (.ref (ad 0) :: rest)) := by
  subst hv
  exact va_get (ci := 11) (C := RX11) (T := TX11) (N := 15) hx hb hg us11 hown hK hP 0 rfl rfl 5 (by decide) hl (fun _ h9 => h9) rfl hdg kk
theorem gf_main_arranging (hx : p.tables.exec = Jvm.exec) (hb : c.code = cc) (hg : ∀ w ∈ gw, w.before args s = true) (hown : s.vm.findClass own = some m.cls) (hK : va_K D vwCl (TY cs) s) (hP : va_P D vwCl (CW cs ad fa fq rv v a w fv fp) H) {x : Nat} (hv : ad 4 = x) (hl : (Cond.fieldLink own index "BeesSting" "arranging" "LBeesSting$Orders;").before args s = true) (hdg : decode cc pc = .ok (.getfield index, 3)) (kk : W p l e R s m args below meth c H locs cells slots Q (F0 m (pc + 3) ls (.ref x :: rest))) : W p l e R s m args below meth c H locs cells slots Q (F0 m (pc) ls (.ref (ad 0) :: rest)) := by
  subst hv
  exact va_get (ci := 11) (C := RX11) (T := TX11) (N := 15) hx hb hg us11 hown hK hP 0 rfl rfl 6 (by decide) hl (fun _ h9 => h9) rfl hdg kk
theorem gf_main_talking (hx : p.tables.exec = Jvm.exec) (hb : c.code = cc) (hg : ∀ w ∈ gw, w.before args s = true) (hown : s.vm.findClass own = some m.cls) (hK : va_K D vwCl (TY cs) s) (hP : va_P D vwCl (CW cs ad fa fq rv v a w fv fp) H) {x : Nat} (hv : ad 5 = x) (hl : (Cond.fieldLink own index "BeesSting" "talking" "LBeesSting$LastWord;").before args s = true) (hdg : decode cc pc = .ok (.getfield index, 3)) (kk : W p l e R s m args below meth c H locs cells slots Q (F0 m (pc + 3) ls (.ref x :: rest))) : W p l e R s m args below meth c H locs cells slots Q (F0 m (pc) ls (.ref (ad 0) :: rest)) := by
  subst hv
  exact va_get (ci := 11) (C := RX11) (T := TX11) (N := 15) hx hb hg us11 hown hK hP 0 rfl rfl 7 (by decide) hl (fun _ h9 => h9) rfl hdg kk
theorem gf_main_hearing (hx : p.tables.exec = Jvm.exec) (hb : c.code = cc) (hg : ∀ w ∈ gw, w.before args s = true) (hown : s.vm.findClass own = some m.cls) (hK : va_K D vwCl (TY cs) s) (hP : va_P D vwCl (CW cs ad fa fq rv v a w fv fp) H) {x : Nat} (hv : ad 6 = x) (hl : (Cond.fieldLink own index "BeesSting" "hearing" "LBeesSting$Heard;").before args s = true) (hdg : decode cc pc = .ok (.getfield index, 3)) (kk : W p l e R s m args below meth c H locs cells slots Q (F0 m (pc + 3) ls (.ref x :: rest))) : W p l e R s m args below meth c H locs cells slots Q (F0 m (pc) ls (.ref (ad 0) :: rest)) := by
  subst hv
  exact va_get (ci := 11) (C := RX11) (T := TX11) (N := 15) hx hb hg us11 hown hK hP 0 rfl rfl 8 (by decide) hl (fun _ h9 => h9) rfl hdg kk
theorem gf_main_changes (hx : p.tables.exec = Jvm.exec) (hb : c.code = cc) (hg : ∀ w ∈ gw, w.before args s = true) (hown : s.vm.findClass own = some m.cls) (hK : va_K D vwCl (TY cs) s) (hP : va_P D vwCl (CW cs ad fa fq rv v a w fv fp) H) {x : Nat} (hv : ad 7 = x) (hl : (Cond.fieldLink own index "BeesSting" "changes" "LBeesSting$Changes;").before args s = true) (hdg : decode cc pc = .ok (.getfield index, 3)) (kk : W p l e R s m args below meth c H locs cells slots Q (F0 m (pc + 3) ls (.ref x :: rest))) : W p l e R s m args below meth c H locs cells slots Q (F0 m (pc) ls (.ref (ad 0) :: rest)) := by
  subst hv
  exact va_get (ci := 11) (C := RX11) (T := TX11) (N := 15) hx hb hg us11 hown hK hP 0 rfl rfl 9 (by decide) hl (fun _ h9 => h9) rfl hdg kk
theorem gf_main_shelves (hx : p.tables.exec = Jvm.exec) (hb : c.code = cc) (hg : ∀ w ∈ gw, w.before args s = true) (hown : s.vm.findClass own = some m.cls) (hK : va_K D vwCl (TY cs) s) (hP : va_P D vwCl (CW cs ad fa fq rv v a w fv fp) H) {x : Nat} (hv : ad 8 = x) (hl : (Cond.fieldLink own index "BeesSting" "shelves" "LBeesSting$Shelves;").before args s = true) (hdg : decode cc pc = .ok (.getfield index, 3)) (kk : W p l e R s m args below meth c H locs cells slots Q (F0 m (pc + 3) ls (.ref x :: rest))) : W p l e R s m args below meth c H locs cells slots Q (F0 m (pc) ls (.ref (ad 0) :: rest)) := by
  subst hv
  exact va_get (ci := 11) (C := RX11) (T := TX11) (N := 15) hx hb hg us11 hown hK hP 0 rfl rfl 10 (by decide) hl (fun _ h9 => h9) rfl hdg kk
theorem gf_main_acts (hx : p.tables.exec = Jvm.exec) (hb : c.code = cc) (hg : ∀ w ∈ gw, w.before args s = true) (hown : s.vm.findClass own = some m.cls) (hK : va_K D vwCl (TY cs) s) (hP : va_P D vwCl (CW cs ad fa fq rv v a w fv fp) H) {x : Nat} (hv : ad 9 = x) (hl : (Cond.fieldLink own index "BeesSting" "acts" "LBeesSting$Acts;").before args s = true) (hdg : decode cc pc = .ok (.getfield index, 3)) (kk : W p l e R s m args below meth c H locs cells slots Q (F0 m (pc + 3) ls (.ref x :: rest))) : W p l e R s m args below meth c H locs cells slots Q (F0 m (pc) ls (.ref (ad 0) :: rest)) := by
  subst hv
  exact va_get (ci := 11) (C := RX11) (T := TX11) (N := 15) hx hb hg us11 hown hK hP 0 rfl rfl 11 (by decide) hl (fun _ h9 => h9) rfl hdg kk
theorem gf_main_keptFlight (hx : p.tables.exec = Jvm.exec) (hb : c.code = cc) (hg : ∀ w ∈ gw, w.before args s = true) (hown : s.vm.findClass own = some m.cls) (hK : va_K D vwCl (TY cs) s) (hP : va_P D vwCl (CW cs ad fa fq rv v a w fv fp) H) {x : Nat} (hv : fa 17 = x) (hl : (Cond.fieldLink own index "BeesSting" "keptFlight" "LBeesSting$Flight;").before args s = true) (hdg : decode cc pc = .ok (.getfield index, 3)) (kk : W p l e R s m args below meth c H locs cells slots Q (F0 m (pc + 3) ls (.ref x :: rest))) : W p l e R s m args below meth c H locs cells slots Q (F0 m (pc) ls (.ref (ad 0) :: rest)) := by
  subst hv
  exact va_get (ci := 11) (C := RX11) (T := TX11) (N := 15) hx hb hg us11 hown hK hP 0 rfl rfl 12 (by decide) hl (fun _ h9 => h9) rfl hdg kk
theorem gf_main_keptCells (hx : p.tables.exec = Jvm.exec) (hb : c.code = cc) (hg : ∀ w ∈ gw, w.before args s = true) (hown : s.vm.findClass own = some m.cls) (hK : va_K D vwCl (TY cs) s) (hP : va_P D vwCl (CW cs ad fa fq rv v a w fv fp) H) {x : Nat} (hv : ad 39 = x) (hl : (Cond.fieldLink own index "BeesSting" "keptCells" "[I").before args s = true) (hdg : decode cc pc = .ok (.getfield index, 3)) (kk : W p l e R s m args below meth c H locs cells slots Q (F0 m (pc + 3) ls (.ref x :: rest))) : W p l e R s m args below meth c H locs cells slots Q (F0 m (pc) ls (.ref (ad 0) :: rest)) := by
  subst hv
  exact va_get (ci := 11) (C := RX11) (T := TX11) (N := 15) hx hb hg us11 hown hK hP 0 rfl rfl 13 (by decide) hl (fun _ h9 => h9) rfl hdg kk
theorem gf_parish_cell (hx : p.tables.exec = Jvm.exec) (hb : c.code = cc) (hg : ∀ w ∈ gw, w.before args s = true) (hown : s.vm.findClass own = some m.cls) (hK : va_K D vwCl (TY cs) s) (hP : va_P D vwCl (CW cs ad fa fq rv v a w fv fp) H) {x : Nat} (hv : ad 11 = x) (hl : (Cond.fieldLink own index "BeesSting$Parish" "cell" "[I").before args s = true) (hdg : decode cc pc = .ok (.getfield index, 3)) (kk : W p l e R s m args below meth c H locs cells slots Q (F0 m (pc + 3) ls (.ref x :: rest))) : W p l e R s m args below meth c H locs cells slots Q (F0 m (pc) ls (.ref (ad 1) :: rest)) := by
  subst hv
  exact va_get (ci := 9) (C := RX9) (T := TX9) (N := 7) hx hb hg us9 hown hK hP 1 rfl rfl 3 (by decide) hl (fun _ h9 => h9) rfl hdg kk
theorem gf_parish_cheek (hx : p.tables.exec = Jvm.exec) (hb : c.code = cc) (hg : ∀ w ∈ gw, w.before args s = true) (hown : s.vm.findClass own = some m.cls) (hK : va_K D vwCl (TY cs) s) (hP : va_P D vwCl (CW cs ad fa fq rv v a w fv fp) H) {x : Nat} (hv : ad 12 = x) (hl : (Cond.fieldLink own index "BeesSting$Parish" "cheek" "[I").before args s = true) (hdg : decode cc pc = .ok (.getfield index, 3)) (kk : W p l e R s m args below meth c H locs cells slots Q (F0 m (pc + 3) ls (.ref x :: rest))) : W p l e R s m args below meth c H locs cells slots Q (F0 m (pc) ls (.ref (ad 1) :: rest)) := by
  subst hv
  exact va_get (ci := 9) (C := RX9) (T := TX9) (N := 7) hx hb hg us9 hown hK hP 1 rfl rfl 4 (by decide) hl (fun _ h9 => h9) rfl hdg kk
theorem gf_parish_pay (hx : p.tables.exec = Jvm.exec) (hb : c.code = cc) (hg : ∀ w ∈ gw, w.before args s = true) (hown : s.vm.findClass own = some m.cls) (hK : va_K D vwCl (TY cs) s) (hP : va_P D vwCl (CW cs ad fa fq rv v a w fv fp) H) {x : Nat} (hv : ad 13 = x) (hl : (Cond.fieldLink own index "BeesSting$Parish" "pay" "[I").before args s = true) (hdg : decode cc pc = .ok (.getfield index, 3)) (kk : W p l e R s m args below meth c H locs cells slots Q (F0 m (pc + 3) ls (.ref x :: rest))) : W p l e R s m args below meth c H locs cells slots Q (F0 m (pc) ls (.ref (ad 1) :: rest)) := by
  subst hv
  exact va_get (ci := 9) (C := RX9) (T := TX9) (N := 7) hx hb hg us9 hown hK hP 1 rfl rfl 5 (by decide) hl (fun _ h9 => h9) rfl hdg kk
theorem gf_parish_near (hx : p.tables.exec = Jvm.exec) (hb : c.code = cc) (hg : ∀ w ∈ gw, w.before args s = true) (hown : s.vm.findClass own = some m.cls) (hK : va_K D vwCl (TY cs) s) (hP : va_P D vwCl (CW cs ad fa fq rv v a w fv fp) H) {x : Nat} (hv : ad 14 = x) (hl : (Cond.fieldLink own index "BeesSting$Parish" "near" "[I").before args s = true) (hdg : decode cc pc = .ok (.getfield index, 3)) (kk : W p l e R s m args below meth c H locs cells slots Q (F0 m (pc + 3) ls (.ref x :: rest))) : W p l e R s m args below meth c H locs cells slots Q (F0 m (pc) ls (.ref (ad 1) :: rest)) := by
  subst hv
  exact va_get (ci := 9) (C := RX9) (T := TX9) (N := 7) hx hb hg us9 hown hK hP 1 rfl rfl 6 (by decide) hl (fun _ h9 => h9) rfl hdg kk
theorem gf_rules_tape (hx : p.tables.exec = Jvm.exec) (hb : c.code = cc) (hg : ∀ w ∈ gw, w.before args s = true) (hown : s.vm.findClass own = some m.cls) (hK : va_K D vwCl (TY cs) s) (hP : va_P D vwCl (CW cs ad fa fq rv v a w fv fp) H) {x : Nat} (hv : ad 15 = x) (hl : (Cond.fieldLink own index "BeesSting$Law" "tape" "[I").before args s = true) (hdg : decode cc pc = .ok (.getfield index, 3)) (kk : W p l e R s m args below meth c H locs cells slots Q (F0 m (pc + 3) ls (.ref x :: rest))) : W p l e R s m args below meth c H locs cells slots Q (F0 m (pc) ls (.ref (ad 2) :: rest)) := by
  subst hv
  exact va_get (ci := 6) (C := RX6) (T := TX6) (N := 8) hx hb hg us6 hown hK hP 2 rfl rfl 0 (by decide) hl (fun _ h9 => h9) rfl hdg kk
theorem gf_rules_reader (hx : p.tables.exec = Jvm.exec) (hb : c.code = cc) (hg : ∀ w ∈ gw, w.before args s = true) (hown : s.vm.findClass own = some m.cls) (hK : va_K D vwCl (TY cs) s) (hP : va_P D vwCl (CW cs ad fa fq rv v a w fv fp) H) {x : Nat} (hv : ad 10 = x) (hl : (Cond.fieldLink own index "BeesSting$Law" "reader" "LBeesSting$LawReader;").before args s = true) (hdg : decode cc pc = .ok (.getfield index, 3)) (kk : W p l e R s m args below meth c H locs cells slots Q (F0 m (pc + 3) ls (.ref x :: rest))) : W p l e R s m args below meth c H locs cells slots Q (F0 m (pc) ls (.ref (ad 2) :: rest)) := by
  subst hv
  exact va_get (ci := 6) (C := RX6) (T := TX6) (N := 8) hx hb hg us6 hown hK hP 2 rfl rfl 2 (by decide) hl (fun _ h9 => h9) rfl hdg kk
theorem gf_rules_stack (hx : p.tables.exec = Jvm.exec) (hb : c.code = cc) (hg : ∀ w ∈ gw, w.before args s = true) (hown : s.vm.findClass own = some m.cls) (hK : va_K D vwCl (TY cs) s) (hP : va_P D vwCl (CW cs ad fa fq rv v a w fv fp) H) {x : Nat} (hv : ad 16 = x) (hl : (Cond.fieldLink own index "BeesSting$Law" "stack" "[I").before args s = true) (hdg : decode cc pc = .ok (.getfield index, 3)) (kk : W p l e R s m args below meth c H locs cells slots Q (F0 m (pc + 3) ls (.ref x :: rest))) : W p l e R s m args below meth c H locs cells slots Q (F0 m (pc) ls (.ref (ad 2) :: rest)) := by
  subst hv
  exact va_get (ci := 6) (C := RX6) (T := TX6) (N := 8) hx hb hg us6 hown hK hP 2 rfl rfl 3 (by decide) hl (fun _ h9 => h9) rfl hdg kk
theorem gf_rules_named (hx : p.tables.exec = Jvm.exec) (hb : c.code = cc) (hg : ∀ w ∈ gw, w.before args s = true) (hown : s.vm.findClass own = some m.cls) (hK : va_K D vwCl (TY cs) s) (hP : va_P D vwCl (CW cs ad fa fq rv v a w fv fp) H) {x : Nat} (hv : ad 17 = x) (hl : (Cond.fieldLink own index "BeesSting$Law" "named" "[I").before args s = true) (hdg : decode cc pc = .ok (.getfield index, 3)) (kk : W p l e R s m args below meth c H locs cells slots Q (F0 m (pc + 3) ls (.ref x :: rest))) : W p l e R s m args below meth c H locs cells slots Q (F0 m (pc) ls (.ref (ad 2) :: rest)) := by
  subst hv
  exact va_get (ci := 6) (C := RX6) (T := TX6) (N := 8) hx hb hg us6 hown hK hP 2 rfl rfl 4 (by decide) hl (fun _ h9 => h9) rfl hdg kk
theorem gf_rules_code (hx : p.tables.exec = Jvm.exec) (hb : c.code = cc) (hg : ∀ w ∈ gw, w.before args s = true) (hown : s.vm.findClass own = some m.cls) (hK : va_K D vwCl (TY cs) s) (hP : va_P D vwCl (CW cs ad fa fq rv v a w fv fp) H) {x : Nat} (hv : ad 18 = x) (hl : (Cond.fieldLink own index "BeesSting$Law" "code" "[I").before args s = true) (hdg : decode cc pc = .ok (.getfield index, 3)) (kk : W p l e R s m args below meth c H locs cells slots Q (F0 m (pc + 3) ls (.ref x :: rest))) : W p l e R s m args below meth c H locs cells slots Q (F0 m (pc) ls (.ref (ad 2) :: rest)) := by
  subst hv
  exact va_get (ci := 6) (C := RX6) (T := TX6) (N := 8) hx hb hg us6 hown hK hP 2 rfl rfl 5 (by decide) hl (fun _ h9 => h9) rfl hdg kk
theorem gf_rules_spare (hx : p.tables.exec = Jvm.exec) (hb : c.code = cc) (hg : ∀ w ∈ gw, w.before args s = true) (hown : s.vm.findClass own = some m.cls) (hK : va_K D vwCl (TY cs) s) (hP : va_P D vwCl (CW cs ad fa fq rv v a w fv fp) H) {x : Nat} (hv : ad 19 = x) (hl : (Cond.fieldLink own index "BeesSting$Law" "spare" "[I").before args s = true) (hdg : decode cc pc = .ok (.getfield index, 3)) (kk : W p l e R s m args below meth c H locs cells slots Q (F0 m (pc + 3) ls (.ref x :: rest))) : W p l e R s m args below meth c H locs cells slots Q (F0 m (pc) ls (.ref (ad 2) :: rest)) := by
  subst hv
  exact va_get (ci := 6) (C := RX6) (T := TX6) (N := 8) hx hb hg us6 hown hK hP 2 rfl rfl 6 (by decide) hl (fun _ h9 => h9) rfl hdg kk
theorem gf_today_saying (hx : p.tables.exec = Jvm.exec) (hb : c.code = cc) (hg : ∀ w ∈ gw, w.before args s = true) (hown : s.vm.findClass own = some m.cls) (hK : va_K D vwCl (TY cs) s) (hP : va_P D vwCl (CW cs ad fa fq rv v a w fv fp) H) {x : Nat} (hv : ad 20 = x) (hl : (Cond.fieldLink own index "BeesSting$Day" "saying" "[I").before args s = true) (hdg : decode cc pc = .ok (.getfield index, 3)) (kk : W p l e R s m args below meth c H locs cells slots Q (F0 m (pc + 3) ls (.ref x :: rest))) : W p l e R s m args below meth c H locs cells slots Q (F0 m (pc) ls (.ref (ad 3) :: rest)) := by
  subst hv
  exact va_get (ci := 2) (C := RX2) (T := TX2) (N := 2) hx hb hg us2 hown hK hP 3 rfl rfl 0 (by decide) hl (fun _ h9 => h9) rfl hdg kk
theorem gf_arranging_flights (hx : p.tables.exec = Jvm.exec) (hb : c.code = cc) (hg : ∀ w ∈ gw, w.before args s = true) (hown : s.vm.findClass own = some m.cls) (hK : va_K D vwCl (TY cs) s) (hP : va_P D vwCl (CW cs ad fa fq rv v a w fv fp) H) {x : Nat} (hv : ad 40 = x) (hl : (Cond.fieldLink own index "BeesSting$Orders" "flights" "[LBeesSting$Flight;").before args s = true) (hdg : decode cc pc = .ok (.getfield index, 3)) (kk : W p l e R s m args below meth c H locs cells slots Q (F0 m (pc + 3) ls (.ref x :: rest))) : W p l e R s m args below meth c H locs cells slots Q (F0 m (pc) ls (.ref (ad 4) :: rest)) := by
  subst hv
  exact va_get (ci := 8) (C := RX8) (T := TX8) (N := 6) hx hb hg us8 hown hK hP 4 rfl rfl 0 (by decide) hl (fun _ h9 => h9) rfl hdg kk
theorem gf_arranging_day (hx : p.tables.exec = Jvm.exec) (hb : c.code = cc) (hg : ∀ w ∈ gw, w.before args s = true) (hown : s.vm.findClass own = some m.cls) (hK : va_K D vwCl (TY cs) s) (hP : va_P D vwCl (CW cs ad fa fq rv v a w fv fp) H) {x : Nat} (hv : ad 3 = x) (hl : (Cond.fieldLink own index "BeesSting$Orders" "day" "LBeesSting$Day;").before args s = true) (hdg : decode cc pc = .ok (.getfield index, 3)) (kk : W p l e R s m args below meth c H locs cells slots Q (F0 m (pc + 3) ls (.ref x :: rest))) : W p l e R s m args below meth c H locs cells slots Q (F0 m (pc) ls (.ref (ad 4) :: rest)) := by
  subst hv
  exact va_get (ci := 8) (C := RX8) (T := TX8) (N := 6) hx hb hg us8 hown hK hP 4 rfl rfl 1 (by decide) hl (fun _ h9 => h9) rfl hdg kk
theorem gf_arranging_tried (hx : p.tables.exec = Jvm.exec) (hb : c.code = cc) (hg : ∀ w ∈ gw, w.before args s = true) (hown : s.vm.findClass own = some m.cls) (hK : va_K D vwCl (TY cs) s) (hP : va_P D vwCl (CW cs ad fa fq rv v a w fv fp) H) {x : Nat} (hv : ad 21 = x) (hl : (Cond.fieldLink own index "BeesSting$Orders" "tried" "[I").before args s = true) (hdg : decode cc pc = .ok (.getfield index, 3)) (kk : W p l e R s m args below meth c H locs cells slots Q (F0 m (pc + 3) ls (.ref x :: rest))) : W p l e R s m args below meth c H locs cells slots Q (F0 m (pc) ls (.ref (ad 4) :: rest)) := by
  subst hv
  exact va_get (ci := 8) (C := RX8) (T := TX8) (N := 6) hx hb hg us8 hown hK hP 4 rfl rfl 2 (by decide) hl (fun _ h9 => h9) rfl hdg kk
theorem gf_arranging_best (hx : p.tables.exec = Jvm.exec) (hb : c.code = cc) (hg : ∀ w ∈ gw, w.before args s = true) (hown : s.vm.findClass own = some m.cls) (hK : va_K D vwCl (TY cs) s) (hP : va_P D vwCl (CW cs ad fa fq rv v a w fv fp) H) {x : Nat} (hv : ad 22 = x) (hl : (Cond.fieldLink own index "BeesSting$Orders" "best" "[I").before args s = true) (hdg : decode cc pc = .ok (.getfield index, 3)) (kk : W p l e R s m args below meth c H locs cells slots Q (F0 m (pc + 3) ls (.ref x :: rest))) : W p l e R s m args below meth c H locs cells slots Q (F0 m (pc) ls (.ref (ad 4) :: rest)) := by
  subst hv
  exact va_get (ci := 8) (C := RX8) (T := TX8) (N := 6) hx hb hg us8 hown hK hP 4 rfl rfl 3 (by decide) hl (fun _ h9 => h9) rfl hdg kk
theorem gf_talking_flights (hx : p.tables.exec = Jvm.exec) (hb : c.code = cc) (hg : ∀ w ∈ gw, w.before args s = true) (hown : s.vm.findClass own = some m.cls) (hK : va_K D vwCl (TY cs) s) (hP : va_P D vwCl (CW cs ad fa fq rv v a w fv fp) H) {x : Nat} (hv : ad 40 = x) (hl : (Cond.fieldLink own index "BeesSting$LastWord" "flights" "[LBeesSting$Flight;").before args s = true) (hdg : decode cc pc = .ok (.getfield index, 3)) (kk : W p l e R s m args below meth c H locs cells slots Q (F0 m (pc + 3) ls (.ref x :: rest))) : W p l e R s m args below meth c H locs cells slots Q (F0 m (pc) ls (.ref (ad 5) :: rest)) := by
  subst hv
  exact va_get (ci := 5) (C := RX5) (T := TX5) (N := 6) hx hb hg us5 hown hK hP 5 rfl rfl 0 (by decide) hl (fun _ h9 => h9) rfl hdg kk
theorem gf_hearing_flights (hx : p.tables.exec = Jvm.exec) (hb : c.code = cc) (hg : ∀ w ∈ gw, w.before args s = true) (hown : s.vm.findClass own = some m.cls) (hK : va_K D vwCl (TY cs) s) (hP : va_P D vwCl (CW cs ad fa fq rv v a w fv fp) H) {x : Nat} (hv : ad 40 = x) (hl : (Cond.fieldLink own index "BeesSting$Heard" "flights" "[LBeesSting$Flight;").before args s = true) (hdg : decode cc pc = .ok (.getfield index, 3)) (kk : W p l e R s m args below meth c H locs cells slots Q (F0 m (pc + 3) ls (.ref x :: rest))) : W p l e R s m args below meth c H locs cells slots Q (F0 m (pc) ls (.ref (ad 6) :: rest)) := by
  subst hv
  exact va_get (ci := 4) (C := RX4) (T := TX4) (N := 9) hx hb hg us4 hown hK hP 6 rfl rfl 0 (by decide) hl (fun _ h9 => h9) rfl hdg kk
theorem gf_hearing_day (hx : p.tables.exec = Jvm.exec) (hb : c.code = cc) (hg : ∀ w ∈ gw, w.before args s = true) (hown : s.vm.findClass own = some m.cls) (hK : va_K D vwCl (TY cs) s) (hP : va_P D vwCl (CW cs ad fa fq rv v a w fv fp) H) {x : Nat} (hv : ad 3 = x) (hl : (Cond.fieldLink own index "BeesSting$Heard" "day" "LBeesSting$Day;").before args s = true) (hdg : decode cc pc = .ok (.getfield index, 3)) (kk : W p l e R s m args below meth c H locs cells slots Q (F0 m (pc + 3) ls (.ref x :: rest))) : W p l e R s m args below meth c H locs cells slots Q (F0 m (pc) ls (.ref (ad 6) :: rest)) := by
  subst hv
  exact va_get (ci := 4) (C := RX4) (T := TX4) (N := 9) hx hb hg us4 hown hK hP 6 rfl rfl 1 (by decide) hl (fun _ h9 => h9) rfl hdg kk
theorem gf_hearing_parish (hx : p.tables.exec = Jvm.exec) (hb : c.code = cc) (hg : ∀ w ∈ gw, w.before args s = true) (hown : s.vm.findClass own = some m.cls) (hK : va_K D vwCl (TY cs) s) (hP : va_P D vwCl (CW cs ad fa fq rv v a w fv fp) H) {x : Nat} (hv : ad 1 = x) (hl : (Cond.fieldLink own index "BeesSting$Heard" "parish" "LBeesSting$Parish;").before args s = true) (hdg : decode cc pc = .ok (.getfield index, 3)) (kk : W p l e R s m args below meth c H locs cells slots Q (F0 m (pc + 3) ls (.ref x :: rest))) : W p l e R s m args below meth c H locs cells slots Q (F0 m (pc) ls (.ref (ad 6) :: rest)) := by
  subst hv
  exact va_get (ci := 4) (C := RX4) (T := TX4) (N := 9) hx hb hg us4 hown hK hP 6 rfl rfl 2 (by decide) hl (fun _ h9 => h9) rfl hdg kk
theorem gf_hearing_seen (hx : p.tables.exec = Jvm.exec) (hb : c.code = cc) (hg : ∀ w ∈ gw, w.before args s = true) (hown : s.vm.findClass own = some m.cls) (hK : va_K D vwCl (TY cs) s) (hP : va_P D vwCl (CW cs ad fa fq rv v a w fv fp) H) {x : Nat} (hv : ad 23 = x) (hl : (Cond.fieldLink own index "BeesSting$Heard" "seen" "[I").before args s = true) (hdg : decode cc pc = .ok (.getfield index, 3)) (kk : W p l e R s m args below meth c H locs cells slots Q (F0 m (pc + 3) ls (.ref x :: rest))) : W p l e R s m args below meth c H locs cells slots Q (F0 m (pc) ls (.ref (ad 6) :: rest)) := by
  subst hv
  exact va_get (ci := 4) (C := RX4) (T := TX4) (N := 9) hx hb hg us4 hown hK hP 6 rfl rfl 3 (by decide) hl (fun _ h9 => h9) rfl hdg kk
theorem gf_changes_number (hx : p.tables.exec = Jvm.exec) (hb : c.code = cc) (hg : ∀ w ∈ gw, w.before args s = true) (hown : s.vm.findClass own = some m.cls) (hK : va_K D vwCl (TY cs) s) (hP : va_P D vwCl (CW cs ad fa fq rv v a w fv fp) H) {x : Nat} (hv : ad 24 = x) (hl : (Cond.fieldLink own index "BeesSting$Changes" "number" "[I").before args s = true) (hdg : decode cc pc = .ok (.getfield index, 3)) (kk : W p l e R s m args below meth c H locs cells slots Q (F0 m (pc + 3) ls (.ref x :: rest))) : W p l e R s m args below meth c H locs cells slots Q (F0 m (pc) ls (.ref (ad 7) :: rest)) := by
  subst hv
  exact va_get (ci := 1) (C := RX1) (T := TX1) (N := 6) hx hb hg us1 hown hK hP 7 rfl rfl 0 (by decide) hl (fun _ h9 => h9) rfl hdg kk
theorem gf_changes_what (hx : p.tables.exec = Jvm.exec) (hb : c.code = cc) (hg : ∀ w ∈ gw, w.before args s = true) (hown : s.vm.findClass own = some m.cls) (hK : va_K D vwCl (TY cs) s) (hP : va_P D vwCl (CW cs ad fa fq rv v a w fv fp) H) {x : Nat} (hv : ad 25 = x) (hl : (Cond.fieldLink own index "BeesSting$Changes" "what" "[I").before args s = true) (hdg : decode cc pc = .ok (.getfield index, 3)) (kk : W p l e R s m args below meth c H locs cells slots Q (F0 m (pc + 3) ls (.ref x :: rest))) : W p l e R s m args below meth c H locs cells slots Q (F0 m (pc) ls (.ref (ad 7) :: rest)) := by
  subst hv
  exact va_get (ci := 1) (C := RX1) (T := TX1) (N := 6) hx hb hg us1 hown hK hP 7 rfl rfl 1 (by decide) hl (fun _ h9 => h9) rfl hdg kk
theorem gf_changes_was (hx : p.tables.exec = Jvm.exec) (hb : c.code = cc) (hg : ∀ w ∈ gw, w.before args s = true) (hown : s.vm.findClass own = some m.cls) (hK : va_K D vwCl (TY cs) s) (hP : va_P D vwCl (CW cs ad fa fq rv v a w fv fp) H) {x : Nat} (hv : ad 26 = x) (hl : (Cond.fieldLink own index "BeesSting$Changes" "was" "[I").before args s = true) (hdg : decode cc pc = .ok (.getfield index, 3)) (kk : W p l e R s m args below meth c H locs cells slots Q (F0 m (pc + 3) ls (.ref x :: rest))) : W p l e R s m args below meth c H locs cells slots Q (F0 m (pc) ls (.ref (ad 7) :: rest)) := by
  subst hv
  exact va_get (ci := 1) (C := RX1) (T := TX1) (N := 6) hx hb hg us1 hown hK hP 7 rfl rfl 2 (by decide) hl (fun _ h9 => h9) rfl hdg kk
theorem gf_changes_becomes (hx : p.tables.exec = Jvm.exec) (hb : c.code = cc) (hg : ∀ w ∈ gw, w.before args s = true) (hown : s.vm.findClass own = some m.cls) (hK : va_K D vwCl (TY cs) s) (hP : va_P D vwCl (CW cs ad fa fq rv v a w fv fp) H) {x : Nat} (hv : ad 27 = x) (hl : (Cond.fieldLink own index "BeesSting$Changes" "becomes" "[I").before args s = true) (hdg : decode cc pc = .ok (.getfield index, 3)) (kk : W p l e R s m args below meth c H locs cells slots Q (F0 m (pc + 3) ls (.ref x :: rest))) : W p l e R s m args below meth c H locs cells slots Q (F0 m (pc) ls (.ref (ad 7) :: rest)) := by
  subst hv
  exact va_get (ci := 1) (C := RX1) (T := TX1) (N := 6) hx hb hg us1 hown hK hP 7 rfl rfl 3 (by decide) hl (fun _ h9 => h9) rfl hdg kk
theorem gf_shelves_sort (hx : p.tables.exec = Jvm.exec) (hb : c.code = cc) (hg : ∀ w ∈ gw, w.before args s = true) (hown : s.vm.findClass own = some m.cls) (hK : va_K D vwCl (TY cs) s) (hP : va_P D vwCl (CW cs ad fa fq rv v a w fv fp) H) {x : Nat} (hv : ad 28 = x) (hl : (Cond.fieldLink own index "BeesSting$Shelves" "sort" "[I").before args s = true) (hdg : decode cc pc = .ok (.getfield index, 3)) (kk : W p l e R s m args below meth c H locs cells slots Q (F0 m (pc + 3) ls (.ref x :: rest))) : W p l e R s m args below meth c H locs cells slots Q (F0 m (pc) ls (.ref (ad 8) :: rest)) := by
  subst hv
  exact va_get (ci := 10) (C := RX10) (T := TX10) (N := 3) hx hb hg us10 hown hK hP 8 rfl rfl 0 (by decide) hl (fun _ h9 => h9) rfl hdg kk
theorem gf_shelves_size (hx : p.tables.exec = Jvm.exec) (hb : c.code = cc) (hg : ∀ w ∈ gw, w.before args s = true) (hown : s.vm.findClass own = some m.cls) (hK : va_K D vwCl (TY cs) s) (hP : va_P D vwCl (CW cs ad fa fq rv v a w fv fp) H) {x : Nat} (hv : ad 29 = x) (hl : (Cond.fieldLink own index "BeesSting$Shelves" "size" "[I").before args s = true) (hdg : decode cc pc = .ok (.getfield index, 3)) (kk : W p l e R s m args below meth c H locs cells slots Q (F0 m (pc + 3) ls (.ref x :: rest))) : W p l e R s m args below meth c H locs cells slots Q (F0 m (pc) ls (.ref (ad 8) :: rest)) := by
  subst hv
  exact va_get (ci := 10) (C := RX10) (T := TX10) (N := 3) hx hb hg us10 hown hK hP 8 rfl rfl 1 (by decide) hl (fun _ h9 => h9) rfl hdg kk
theorem gf_shelves_rows (hx : p.tables.exec = Jvm.exec) (hb : c.code = cc) (hg : ∀ w ∈ gw, w.before args s = true) (hown : s.vm.findClass own = some m.cls) (hK : va_K D vwCl (TY cs) s) (hP : va_P D vwCl (CW cs ad fa fq rv v a w fv fp) H) {x : Nat} (hv : ad 30 = x) (hl : (Cond.fieldLink own index "BeesSting$Shelves" "rows" "[[J").before args s = true) (hdg : decode cc pc = .ok (.getfield index, 3)) (kk : W p l e R s m args below meth c H locs cells slots Q (F0 m (pc + 3) ls (.ref x :: rest))) : W p l e R s m args below meth c H locs cells slots Q (F0 m (pc) ls (.ref (ad 8) :: rest)) := by
  subst hv
  exact va_get (ci := 10) (C := RX10) (T := TX10) (N := 3) hx hb hg us10 hown hK hP 8 rfl rfl 2 (by decide) hl (fun _ h9 => h9) rfl hdg kk
theorem gf_acts_kind (hx : p.tables.exec = Jvm.exec) (hb : c.code = cc) (hg : ∀ w ∈ gw, w.before args s = true) (hown : s.vm.findClass own = some m.cls) (hK : va_K D vwCl (TY cs) s) (hP : va_P D vwCl (CW cs ad fa fq rv v a w fv fp) H) {x : Nat} (hv : ad 37 = x) (hl : (Cond.fieldLink own index "BeesSting$Acts" "kind" "[I").before args s = true) (hdg : decode cc pc = .ok (.getfield index, 3)) (kk : W p l e R s m args below meth c H locs cells slots Q (F0 m (pc + 3) ls (.ref x :: rest))) : W p l e R s m args below meth c H locs cells slots Q (F0 m (pc) ls (.ref (ad 9) :: rest)) := by
  subst hv
  exact va_get (ci := 0) (C := RX0) (T := TX0) (N := 5) hx hb hg us0 hown hK hP 9 rfl rfl 0 (by decide) hl (fun _ h9 => h9) rfl hdg kk
theorem gf_acts_traced (hx : p.tables.exec = Jvm.exec) (hb : c.code = cc) (hg : ∀ w ∈ gw, w.before args s = true) (hown : s.vm.findClass own = some m.cls) (hK : va_K D vwCl (TY cs) s) (hP : va_P D vwCl (CW cs ad fa fq rv v a w fv fp) H) {x : Nat} (hv : ad 38 = x) (hl : (Cond.fieldLink own index "BeesSting$Acts" "traced" "[I").before args s = true) (hdg : decode cc pc = .ok (.getfield index, 3)) (kk : W p l e R s m args below meth c H locs cells slots Q (F0 m (pc + 3) ls (.ref x :: rest))) : W p l e R s m args below meth c H locs cells slots Q (F0 m (pc) ls (.ref (ad 9) :: rest)) := by
  subst hv
  exact va_get (ci := 0) (C := RX0) (T := TX0) (N := 5) hx hb hg us0 hown hK hP 9 rfl rfl 2 (by decide) hl (fun _ h9 => h9) rfl hdg kk
theorem gf_reader_text (hx : p.tables.exec = Jvm.exec) (hb : c.code = cc) (hg : ∀ w ∈ gw, w.before args s = true) (hown : s.vm.findClass own = some m.cls) (hK : va_K D vwCl (TY cs) s) (hP : va_P D vwCl (CW cs ad fa fq rv v a w fv fp) H) {x : Nat} (hv : rv 0 = x) (hl : (Cond.fieldLink own index "BeesSting$LawReader" "text" "[I").before args s = true) (hdg : decode cc pc = .ok (.getfield index, 3)) (kk : W p l e R s m args below meth c H locs cells slots Q (F0 m (pc + 3) ls (.ref x :: rest))) : W p l e R s m args below meth c H locs cells slots Q (F0 m (pc) ls (.ref (ad 10) :: rest)) := by
  subst hv
  exact va_get (ci := 7) (C := RX7) (T := TX7) (N := 5) hx hb hg us7 hown hK hP 10 rfl rfl 0 (by decide) hl (fun _ h9 => h9) rfl hdg kk
theorem gf_reader_code (hx : p.tables.exec = Jvm.exec) (hb : c.code = cc) (hg : ∀ w ∈ gw, w.before args s = true) (hown : s.vm.findClass own = some m.cls) (hK : va_K D vwCl (TY cs) s) (hP : va_P D vwCl (CW cs ad fa fq rv v a w fv fp) H) {x : Nat} (hv : rv 1 = x) (hl : (Cond.fieldLink own index "BeesSting$LawReader" "code" "[I").before args s = true) (hdg : decode cc pc = .ok (.getfield index, 3)) (kk : W p l e R s m args below meth c H locs cells slots Q (F0 m (pc + 3) ls (.ref x :: rest))) : W p l e R s m args below meth c H locs cells slots Q (F0 m (pc) ls (.ref (ad 10) :: rest)) := by
  subst hv
  exact va_get (ci := 7) (C := RX7) (T := TX7) (N := 5) hx hb hg us7 hown hK hP 10 rfl rfl 1 (by decide) hl (fun _ h9 => h9) rfl hdg kk
theorem pf_reader_text (hx : p.tables.exec = Jvm.exec) (hb : c.code = cc) (hg : ∀ w ∈ gw, w.before args s = true) (hown : s.vm.findClass own = some m.cls) (hK : va_K D vwCl (TY cs) s) (hP : va_P D vwCl (CW cs ad fa fq rv v a w fv fp) H) (hD : va_D A (CW cs ad fa fq rv v a w fv fp)) (hS : va_S A H0 H locs) {x : Nat} (hl : (Cond.fieldLink own index "BeesSting$LawReader" "text" "[I").before args s = true) (hdg : decode cc pc = .ok (.putfield index, 3)) (kk : ∀ (H1 : Heap) (l1 : List Loc), va_P D vwCl (CW cs ad fa fq (va_up rv 0 x) v a w fv fp) H1 → va_D A (CW cs ad fa fq (va_up rv 0 x) v a w fv fp) → va_S A H0 H1 l1 → W p l e R s m args below meth c H1 l1 cells slots Q (F0 m (pc + 3) ls (rest))) : W p l e R s m args below meth c H locs cells slots Q (F0 m (pc) ls (.ref x :: .ref (ad 10) :: rest)) :=
  va_put (ci := 7) (ty := .array .int) (C := RX7) (T := TX7) (N := 5) hx hb hg us7 tyX7 tyX7_ok nmX7 hown hK hP hD hS 10 rfl rfl 0 (by decide) hl (fun _ h9 => h9) rfl (by decide +kernel) rfl rfl (Nat.le_of_ble_eq_true rfl) hdg (fun H1 l1 q1 q2 q3 => kk H1 l1 q1 q2 q3)
theorem pf_reader_code (hx : p.tables.exec = Jvm.exec) (hb : c.code = cc) (hg : ∀ w ∈ gw, w.before args s = true) (hown : s.vm.findClass own = some m.cls) (hK : va_K D vwCl (TY cs) s) (hP : va_P D vwCl (CW cs ad fa fq rv v a w fv fp) H) (hD : va_D A (CW cs ad fa fq rv v a w fv fp)) (hS : va_S A H0 H locs) {x : Nat} (hl : (Cond.fieldLink own index "BeesSting$LawReader" "code" "[I").before args s = true) (hdg : decode cc pc = .ok (.putfield index, 3)) (kk : ∀ (H1 : Heap) (l1 : List Loc), va_P D vwCl (CW cs ad fa fq (va_up rv 1 x) v a w fv fp) H1 → va_D A (CW cs ad fa fq (va_up rv 1 x) v a w fv fp) → va_S A H0 H1 l1 → W p l e R s m args below meth c H1 l1 cells slots Q (F0 m (pc + 3) ls (rest))) : W p l e R s m args below meth c H locs cells slots Q (F0 m (pc) ls (.ref x :: .ref (ad 10) :: rest)) :=
  va_put (ci := 7) (ty := .array .int) (C := RX7) (T := TX7) (N := 5) hx hb hg us7 tyX7 tyX7_ok nmX7 hown hK hP hD hS 10 rfl rfl 1 (by decide) hl (fun _ h9 => h9) rfl (by decide +kernel) rfl rfl (Nat.le_of_ble_eq_true rfl) hdg (fun H1 l1 q1 q2 q3 => kk H1 l1 q1 q2 q3)
theorem ld_Pcell (hx : p.tables.exec = Jvm.exec) (hb : c.code = cc) (hK : va_K D vwCl (TY cs) s) (hP : va_P D vwCl (CW cs ad fa fq rv v a w fv fp) H) {i : Int32} (hi : vp_in i 8) (hdg : decode cc pc = .ok (.iaload, 1)) (kk : W p l e R s m args below meth c H locs cells slots Q (F0 m (pc + 1) ls (.int (a 11 i.toNatClampNeg) :: rest))) : W p l e R s m args below meth c H locs cells slots Q (F0 m (pc) ls (.int i :: .ref (ad 11) :: rest)) :=
  va_iald hx hb hK hP 11 0 rfl rfl hi hdg kk
theorem st_Pcell (hx : p.tables.exec = Jvm.exec) (hb : c.code = cc) (hK : va_K D vwCl (TY cs) s) (hP : va_P D vwCl (CW cs ad fa fq rv v a w fv fp) H) (hD : va_D A (CW cs ad fa fq rv v a w fv fp)) (hS : va_S A H0 H locs) {i x : Int32} (hi : vp_in i 8) (hdg : decode cc pc = .ok (.iastore, 1)) (kk : ∀ (H1 : Heap) (l1 : List Loc), va_P D vwCl (CW cs ad fa fq rv v (va_up a 11 (upd (a 11) i.toNatClampNeg x)) w fv fp) H1 → va_D A (CW cs ad fa fq rv v (va_up a 11 (upd (a 11) i.toNatClampNeg x)) w fv fp) → va_S A H0 H1 l1 → W p l e R s m args below meth c H1 l1 cells slots Q (F0 m (pc + 1) ls (rest))) : W p l e R s m args below meth c H locs cells slots Q (F0 m (pc) ls (.int x :: .int i :: .ref (ad 11) :: rest)) :=
  va_iast hx hb hK hP hD hS 11 0 rfl rfl hi hdg (fun H1 l1 q1 q2 q3 => kk H1 l1 q1 q2 q3)
theorem al_Pcell (hx : p.tables.exec = Jvm.exec) (hb : c.code = cc) (hK : va_K D vwCl (TY cs) s) (hP : va_P D vwCl (CW cs ad fa fq rv v a w fv fp) H) (hdg : decode cc pc = .ok (.arraylength, 1)) (kk : W p l e R s m args below meth c H locs cells slots Q (F0 m (pc + 1) ls (.int 8 :: rest))) : W p l e R s m args below meth c H locs cells slots Q (F0 m (pc) ls (.ref (ad 11) :: rest)) :=
  va_alen hx hb hK hP 11 0 rfl rfl (v := 8) rfl hdg kk
theorem ld_Pcheek (hx : p.tables.exec = Jvm.exec) (hb : c.code = cc) (hK : va_K D vwCl (TY cs) s) (hP : va_P D vwCl (CW cs ad fa fq rv v a w fv fp) H) {i : Int32} (hi : vp_in i 8) (hdg : decode cc pc = .ok (.iaload, 1)) (kk : W p l e R s m args below meth c H locs cells slots Q (F0 m (pc + 1) ls (.int (a 12 i.toNatClampNeg) :: rest))) : W p l e R s m args below meth c H locs cells slots Q (F0 m (pc) ls (.int i :: .ref (ad 12) :: rest)) :=
  va_iald hx hb hK hP 12 0 rfl rfl hi hdg kk
theorem st_Pcheek (hx : p.tables.exec = Jvm.exec) (hb : c.code = cc) (hK : va_K D vwCl (TY cs) s) (hP : va_P D vwCl (CW cs ad fa fq rv v a w fv fp) H) (hD : va_D A (CW cs ad fa fq rv v a w fv fp)) (hS : va_S A H0 H locs) {i x : Int32} (hi : vp_in i 8) (hdg : decode cc pc = .ok (.iastore, 1)) (kk : ∀ (H1 : Heap) (l1 : List Loc), va_P D vwCl (CW cs ad fa fq rv v (va_up a 12 (upd (a 12) i.toNatClampNeg x)) w fv fp) H1 → va_D A (CW cs ad fa fq rv v (va_up a 12 (upd (a 12) i.toNatClampNeg x)) w fv fp) → va_S A H0 H1 l1 → W p l e R s m args below meth c H1 l1 cells slots Q (F0 m (pc + 1) ls (rest))) : W p l e R s m args below meth c H locs cells slots Q (F0 m (pc) ls (.int x :: .int i :: .ref (ad 12) :: rest)) :=
  va_iast hx hb hK hP hD hS 12 0 rfl rfl hi hdg (fun H1 l1 q1 q2 q3 => kk H1 l1 q1 q2 q3)
theorem al_Pcheek (hx : p.tables.exec = Jvm.exec) (hb : c.code = cc) (hK : va_K D vwCl (TY cs) s) (hP : va_P D vwCl (CW cs ad fa fq rv v a w fv fp) H) (hdg : decode cc pc = .ok (.arraylength, 1)) (kk : W p l e R s m args below meth c H locs cells slots Q (F0 m (pc + 1) ls (.int 8 :: rest))) : W p l e R s m args below meth c H locs cells slots Q (F0 m (pc) ls (.ref (ad 12) :: rest)) :=
  va_alen hx hb hK hP 12 0 rfl rfl (v := 8) rfl hdg kk
theorem ld_Ppay (hx : p.tables.exec = Jvm.exec) (hb : c.code = cc) (hK : va_K D vwCl (TY cs) s) (hP : va_P D vwCl (CW cs ad fa fq rv v a w fv fp) H) {i : Int32} (hi : vp_in i 8) (hdg : decode cc pc = .ok (.iaload, 1)) (kk : W p l e R s m args below meth c H locs cells slots Q (F0 m (pc + 1) ls (.int (a 13 i.toNatClampNeg) :: rest))) : W p l e R s m args below meth c H locs cells slots Q (F0 m (pc) ls (.int i :: .ref (ad 13) :: rest)) :=
  va_iald hx hb hK hP 13 0 rfl rfl hi hdg kk
theorem st_Ppay (hx : p.tables.exec = Jvm.exec) (hb : c.code = cc) (hK : va_K D vwCl (TY cs) s) (hP : va_P D vwCl (CW cs ad fa fq rv v a w fv fp) H) (hD : va_D A (CW cs ad fa fq rv v a w fv fp)) (hS : va_S A H0 H locs) {i x : Int32} (hi : vp_in i 8) (hdg : decode cc pc = .ok (.iastore, 1)) (kk : ∀ (H1 : Heap) (l1 : List Loc), va_P D vwCl (CW cs ad fa fq rv v (va_up a 13 (upd (a 13) i.toNatClampNeg x)) w fv fp) H1 → va_D A (CW cs ad fa fq rv v (va_up a 13 (upd (a 13) i.toNatClampNeg x)) w fv fp) → va_S A H0 H1 l1 → W p l e R s m args below meth c H1 l1 cells slots Q (F0 m (pc + 1) ls (rest))) : W p l e R s m args below meth c H locs cells slots Q (F0 m (pc) ls (.int x :: .int i :: .ref (ad 13) :: rest)) :=
  va_iast hx hb hK hP hD hS 13 0 rfl rfl hi hdg (fun H1 l1 q1 q2 q3 => kk H1 l1 q1 q2 q3)
theorem al_Ppay (hx : p.tables.exec = Jvm.exec) (hb : c.code = cc) (hK : va_K D vwCl (TY cs) s) (hP : va_P D vwCl (CW cs ad fa fq rv v a w fv fp) H) (hdg : decode cc pc = .ok (.arraylength, 1)) (kk : W p l e R s m args below meth c H locs cells slots Q (F0 m (pc + 1) ls (.int 8 :: rest))) : W p l e R s m args below meth c H locs cells slots Q (F0 m (pc) ls (.ref (ad 13) :: rest)) :=
  va_alen hx hb hK hP 13 0 rfl rfl (v := 8) rfl hdg kk
theorem ld_Pnear (hx : p.tables.exec = Jvm.exec) (hb : c.code = cc) (hK : va_K D vwCl (TY cs) s) (hP : va_P D vwCl (CW cs ad fa fq rv v a w fv fp) H) {i : Int32} (hi : vp_in i 8) (hdg : decode cc pc = .ok (.iaload, 1)) (kk : W p l e R s m args below meth c H locs cells slots Q (F0 m (pc + 1) ls (.int (a 14 i.toNatClampNeg) :: rest))) : W p l e R s m args below meth c H locs cells slots Q (F0 m (pc) ls (.int i :: .ref (ad 14) :: rest)) :=
  va_iald hx hb hK hP 14 0 rfl rfl hi hdg kk
theorem st_Pnear (hx : p.tables.exec = Jvm.exec) (hb : c.code = cc) (hK : va_K D vwCl (TY cs) s) (hP : va_P D vwCl (CW cs ad fa fq rv v a w fv fp) H) (hD : va_D A (CW cs ad fa fq rv v a w fv fp)) (hS : va_S A H0 H locs) {i x : Int32} (hi : vp_in i 8) (hdg : decode cc pc = .ok (.iastore, 1)) (kk : ∀ (H1 : Heap) (l1 : List Loc), va_P D vwCl (CW cs ad fa fq rv v (va_up a 14 (upd (a 14) i.toNatClampNeg x)) w fv fp) H1 → va_D A (CW cs ad fa fq rv v (va_up a 14 (upd (a 14) i.toNatClampNeg x)) w fv fp) → va_S A H0 H1 l1 → W p l e R s m args below meth c H1 l1 cells slots Q (F0 m (pc + 1) ls (rest))) : W p l e R s m args below meth c H locs cells slots Q (F0 m (pc) ls (.int x :: .int i :: .ref (ad 14) :: rest)) :=
  va_iast hx hb hK hP hD hS 14 0 rfl rfl hi hdg (fun H1 l1 q1 q2 q3 => kk H1 l1 q1 q2 q3)
theorem al_Pnear (hx : p.tables.exec = Jvm.exec) (hb : c.code = cc) (hK : va_K D vwCl (TY cs) s) (hP : va_P D vwCl (CW cs ad fa fq rv v a w fv fp) H) (hdg : decode cc pc = .ok (.arraylength, 1)) (kk : W p l e R s m args below meth c H locs cells slots Q (F0 m (pc + 1) ls (.int 8 :: rest))) : W p l e R s m args below meth c H locs cells slots Q (F0 m (pc) ls (.ref (ad 14) :: rest)) :=
  va_alen hx hb hK hP 14 0 rfl rfl (v := 8) rfl hdg kk
theorem ld_Ltape (hx : p.tables.exec = Jvm.exec) (hb : c.code = cc) (hK : va_K D vwCl (TY cs) s) (hP : va_P D vwCl (CW cs ad fa fq rv v a w fv fp) H) {i : Int32} (hi : vp_in i 120) (hdg : decode cc pc = .ok (.iaload, 1)) (kk : W p l e R s m args below meth c H locs cells slots Q (F0 m (pc + 1) ls (.int (a 15 i.toNatClampNeg) :: rest))) : W p l e R s m args below meth c H locs cells slots Q (F0 m (pc) ls (.int i :: .ref (ad 15) :: rest)) :=
  va_iald hx hb hK hP 15 0 rfl rfl hi hdg kk
theorem st_Ltape (hx : p.tables.exec = Jvm.exec) (hb : c.code = cc) (hK : va_K D vwCl (TY cs) s) (hP : va_P D vwCl (CW cs ad fa fq rv v a w fv fp) H) (hD : va_D A (CW cs ad fa fq rv v a w fv fp)) (hS : va_S A H0 H locs) {i x : Int32} (hi : vp_in i 120) (hdg : decode cc pc = .ok (.iastore, 1)) (kk : ∀ (H1 : Heap) (l1 : List Loc), va_P D vwCl (CW cs ad fa fq rv v (va_up a 15 (upd (a 15) i.toNatClampNeg x)) w fv fp) H1 → va_D A (CW cs ad fa fq rv v (va_up a 15 (upd (a 15) i.toNatClampNeg x)) w fv fp) → va_S A H0 H1 l1 → W p l e R s m args below meth c H1 l1 cells slots Q (F0 m (pc + 1) ls (rest))) : W p l e R s m args below meth c H locs cells slots Q (F0 m (pc) ls (.int x :: .int i :: .ref (ad 15) :: rest)) :=
  va_iast hx hb hK hP hD hS 15 0 rfl rfl hi hdg (fun H1 l1 q1 q2 q3 => kk H1 l1 q1 q2 q3)
theorem al_Ltape (hx : p.tables.exec = Jvm.exec) (hb : c.code = cc) (hK : va_K D vwCl (TY cs) s) (hP : va_P D vwCl (CW cs ad fa fq rv v a w fv fp) H) (hdg : decode cc pc = .ok (.arraylength, 1)) (kk : W p l e R s m args below meth c H locs cells slots Q (F0 m (pc + 1) ls (.int 120 :: rest))) : W p l e R s m args below meth c H locs cells slots Q (F0 m (pc) ls (.ref (ad 15) :: rest)) :=
  va_alen hx hb hK hP 15 0 rfl rfl (v := 120) rfl hdg kk
theorem ld_Lstack (hx : p.tables.exec = Jvm.exec) (hb : c.code = cc) (hK : va_K D vwCl (TY cs) s) (hP : va_P D vwCl (CW cs ad fa fq rv v a w fv fp) H) {i : Int32} (hi : vp_in i 121) (hdg : decode cc pc = .ok (.iaload, 1)) (kk : W p l e R s m args below meth c H locs cells slots Q (F0 m (pc + 1) ls (.int (a 16 i.toNatClampNeg) :: rest))) : W p l e R s m args below meth c H locs cells slots Q (F0 m (pc) ls (.int i :: .ref (ad 16) :: rest)) :=
  va_iald hx hb hK hP 16 0 rfl rfl hi hdg kk
theorem st_Lstack (hx : p.tables.exec = Jvm.exec) (hb : c.code = cc) (hK : va_K D vwCl (TY cs) s) (hP : va_P D vwCl (CW cs ad fa fq rv v a w fv fp) H) (hD : va_D A (CW cs ad fa fq rv v a w fv fp)) (hS : va_S A H0 H locs) {i x : Int32} (hi : vp_in i 121) (hdg : decode cc pc = .ok (.iastore, 1)) (kk : ∀ (H1 : Heap) (l1 : List Loc), va_P D vwCl (CW cs ad fa fq rv v (va_up a 16 (upd (a 16) i.toNatClampNeg x)) w fv fp) H1 → va_D A (CW cs ad fa fq rv v (va_up a 16 (upd (a 16) i.toNatClampNeg x)) w fv fp) → va_S A H0 H1 l1 → W p l e R s m args below meth c H1 l1 cells slots Q (F0 m (pc + 1) ls (rest))) : W p l e R s m args below meth c H locs cells slots Q (F0 m (pc) ls (.int x :: .int i :: .ref (ad 16) :: rest)) :=
  va_iast hx hb hK hP hD hS 16 0 rfl rfl hi hdg (fun H1 l1 q1 q2 q3 => kk H1 l1 q1 q2 q3)
theorem al_Lstack (hx : p.tables.exec = Jvm.exec) (hb : c.code = cc) (hK : va_K D vwCl (TY cs) s) (hP : va_P D vwCl (CW cs ad fa fq rv v a w fv fp) H) (hdg : decode cc pc = .ok (.arraylength, 1)) (kk : W p l e R s m args below meth c H locs cells slots Q (F0 m (pc + 1) ls (.int 121 :: rest))) : W p l e R s m args below meth c H locs cells slots Q (F0 m (pc) ls (.ref (ad 16) :: rest)) :=
  va_alen hx hb hK hP 16 0 rfl rfl (v := 121) rfl hdg kk
theorem ld_Lnamed (hx : p.tables.exec = Jvm.exec) (hb : c.code = cc) (hK : va_K D vwCl (TY cs) s) (hP : va_P D vwCl (CW cs ad fa fq rv v a w fv fp) H) {i : Int32} (hi : vp_in i 6) (hdg : decode cc pc = .ok (.iaload, 1)) (kk : W p l e R s m args below meth c H locs cells slots Q (F0 m (pc + 1) ls (.int (a 17 i.toNatClampNeg) :: rest))) : W p l e R s m args below meth c H locs cells slots Q (F0 m (pc) ls (.int i :: .ref (ad 17) :: rest)) :=
  va_iald hx hb hK hP 17 0 rfl rfl hi hdg kk
theorem st_Lnamed (hx : p.tables.exec = Jvm.exec) (hb : c.code = cc) (hK : va_K D vwCl (TY cs) s) (hP : va_P D vwCl (CW cs ad fa fq rv v a w fv fp) H) (hD : va_D A (CW cs ad fa fq rv v a w fv fp)) (hS : va_S A H0 H locs) {i x : Int32} (hi : vp_in i 6) (hdg : decode cc pc = .ok (.iastore, 1)) (kk : ∀ (H1 : Heap) (l1 : List Loc), va_P D vwCl (CW cs ad fa fq rv v (va_up a 17 (upd (a 17) i.toNatClampNeg x)) w fv fp) H1 → va_D A (CW cs ad fa fq rv v (va_up a 17 (upd (a 17) i.toNatClampNeg x)) w fv fp) → va_S A H0 H1 l1 → W p l e R s m args below meth c H1 l1 cells slots Q (F0 m (pc + 1) ls (rest))) : W p l e R s m args below meth c H locs cells slots Q (F0 m (pc) ls (.int x :: .int i :: .ref (ad 17) :: rest)) :=
  va_iast hx hb hK hP hD hS 17 0 rfl rfl hi hdg (fun H1 l1 q1 q2 q3 => kk H1 l1 q1 q2 q3)
theorem al_Lnamed (hx : p.tables.exec = Jvm.exec) (hb : c.code = cc) (hK : va_K D vwCl (TY cs) s) (hP : va_P D vwCl (CW cs ad fa fq rv v a w fv fp) H) (hdg : decode cc pc = .ok (.arraylength, 1)) (kk : W p l e R s m args below meth c H locs cells slots Q (F0 m (pc + 1) ls (.int 6 :: rest))) : W p l e R s m args below meth c H locs cells slots Q (F0 m (pc) ls (.ref (ad 17) :: rest)) :=
  va_alen hx hb hK hP 17 0 rfl rfl (v := 6) rfl hdg kk
theorem ld_Lcode (hx : p.tables.exec = Jvm.exec) (hb : c.code = cc) (hK : va_K D vwCl (TY cs) s) (hP : va_P D vwCl (CW cs ad fa fq rv v a w fv fp) H) {i : Int32} (hi : vp_in i 256) (hdg : decode cc pc = .ok (.iaload, 1)) (kk : W p l e R s m args below meth c H locs cells slots Q (F0 m (pc + 1) ls (.int (a 18 i.toNatClampNeg) :: rest))) : W p l e R s m args below meth c H locs cells slots Q (F0 m (pc) ls (.int i :: .ref (ad 18) :: rest)) :=
  va_iald hx hb hK hP 18 0 rfl rfl hi hdg kk
theorem st_Lcode (hx : p.tables.exec = Jvm.exec) (hb : c.code = cc) (hK : va_K D vwCl (TY cs) s) (hP : va_P D vwCl (CW cs ad fa fq rv v a w fv fp) H) (hD : va_D A (CW cs ad fa fq rv v a w fv fp)) (hS : va_S A H0 H locs) {i x : Int32} (hi : vp_in i 256) (hdg : decode cc pc = .ok (.iastore, 1)) (kk : ∀ (H1 : Heap) (l1 : List Loc), va_P D vwCl (CW cs ad fa fq rv v (va_up a 18 (upd (a 18) i.toNatClampNeg x)) w fv fp) H1 → va_D A (CW cs ad fa fq rv v (va_up a 18 (upd (a 18) i.toNatClampNeg x)) w fv fp) → va_S A H0 H1 l1 → W p l e R s m args below meth c H1 l1 cells slots Q (F0 m (pc + 1) ls (rest))) : W p l e R s m args below meth c H locs cells slots Q (F0 m (pc) ls (.int x :: .int i :: .ref (ad 18) :: rest)) :=
  va_iast hx hb hK hP hD hS 18 0 rfl rfl hi hdg (fun H1 l1 q1 q2 q3 => kk H1 l1 q1 q2 q3)
theorem al_Lcode (hx : p.tables.exec = Jvm.exec) (hb : c.code = cc) (hK : va_K D vwCl (TY cs) s) (hP : va_P D vwCl (CW cs ad fa fq rv v a w fv fp) H) (hdg : decode cc pc = .ok (.arraylength, 1)) (kk : W p l e R s m args below meth c H locs cells slots Q (F0 m (pc + 1) ls (.int 256 :: rest))) : W p l e R s m args below meth c H locs cells slots Q (F0 m (pc) ls (.ref (ad 18) :: rest)) :=
  va_alen hx hb hK hP 18 0 rfl rfl (v := 256) rfl hdg kk
theorem ld_Lspare (hx : p.tables.exec = Jvm.exec) (hb : c.code = cc) (hK : va_K D vwCl (TY cs) s) (hP : va_P D vwCl (CW cs ad fa fq rv v a w fv fp) H) {i : Int32} (hi : vp_in i 256) (hdg : decode cc pc = .ok (.iaload, 1)) (kk : W p l e R s m args below meth c H locs cells slots Q (F0 m (pc + 1) ls (.int (a 19 i.toNatClampNeg) :: rest))) : W p l e R s m args below meth c H locs cells slots Q (F0 m (pc) ls (.int i :: .ref (ad 19) :: rest)) :=
  va_iald hx hb hK hP 19 0 rfl rfl hi hdg kk
theorem st_Lspare (hx : p.tables.exec = Jvm.exec) (hb : c.code = cc) (hK : va_K D vwCl (TY cs) s) (hP : va_P D vwCl (CW cs ad fa fq rv v a w fv fp) H) (hD : va_D A (CW cs ad fa fq rv v a w fv fp)) (hS : va_S A H0 H locs) {i x : Int32} (hi : vp_in i 256) (hdg : decode cc pc = .ok (.iastore, 1)) (kk : ∀ (H1 : Heap) (l1 : List Loc), va_P D vwCl (CW cs ad fa fq rv v (va_up a 19 (upd (a 19) i.toNatClampNeg x)) w fv fp) H1 → va_D A (CW cs ad fa fq rv v (va_up a 19 (upd (a 19) i.toNatClampNeg x)) w fv fp) → va_S A H0 H1 l1 → W p l e R s m args below meth c H1 l1 cells slots Q (F0 m (pc + 1) ls (rest))) : W p l e R s m args below meth c H locs cells slots Q (F0 m (pc) ls (.int x :: .int i :: .ref (ad 19) :: rest)) :=
  va_iast hx hb hK hP hD hS 19 0 rfl rfl hi hdg (fun H1 l1 q1 q2 q3 => kk H1 l1 q1 q2 q3)
theorem al_Lspare (hx : p.tables.exec = Jvm.exec) (hb : c.code = cc) (hK : va_K D vwCl (TY cs) s) (hP : va_P D vwCl (CW cs ad fa fq rv v a w fv fp) H) (hdg : decode cc pc = .ok (.arraylength, 1)) (kk : W p l e R s m args below meth c H locs cells slots Q (F0 m (pc + 1) ls (.int 256 :: rest))) : W p l e R s m args below meth c H locs cells slots Q (F0 m (pc) ls (.ref (ad 19) :: rest)) :=
  va_alen hx hb hK hP 19 0 rfl rfl (v := 256) rfl hdg kk
theorem ld_Dsaying (hx : p.tables.exec = Jvm.exec) (hb : c.code = cc) (hK : va_K D vwCl (TY cs) s) (hP : va_P D vwCl (CW cs ad fa fq rv v a w fv fp) H) {i : Int32} (hi : vp_in i 24) (hdg : decode cc pc = .ok (.iaload, 1)) (kk : W p l e R s m args below meth c H locs cells slots Q (F0 m (pc + 1) ls (.int (a 20 i.toNatClampNeg) :: rest))) : W p l e R s m args below meth c H locs cells slots Q (F0 m (pc) ls (.int i :: .ref (ad 20) :: rest)) :=
  va_iald hx hb hK hP 20 0 rfl rfl hi hdg kk
theorem st_Dsaying (hx : p.tables.exec = Jvm.exec) (hb : c.code = cc) (hK : va_K D vwCl (TY cs) s) (hP : va_P D vwCl (CW cs ad fa fq rv v a w fv fp) H) (hD : va_D A (CW cs ad fa fq rv v a w fv fp)) (hS : va_S A H0 H locs) {i x : Int32} (hi : vp_in i 24) (hdg : decode cc pc = .ok (.iastore, 1)) (kk : ∀ (H1 : Heap) (l1 : List Loc), va_P D vwCl (CW cs ad fa fq rv v (va_up a 20 (upd (a 20) i.toNatClampNeg x)) w fv fp) H1 → va_D A (CW cs ad fa fq rv v (va_up a 20 (upd (a 20) i.toNatClampNeg x)) w fv fp) → va_S A H0 H1 l1 → W p l e R s m args below meth c H1 l1 cells slots Q (F0 m (pc + 1) ls (rest))) : W p l e R s m args below meth c H locs cells slots Q (F0 m (pc) ls (.int x :: .int i :: .ref (ad 20) :: rest)) :=
  va_iast hx hb hK hP hD hS 20 0 rfl rfl hi hdg (fun H1 l1 q1 q2 q3 => kk H1 l1 q1 q2 q3)
theorem al_Dsaying (hx : p.tables.exec = Jvm.exec) (hb : c.code = cc) (hK : va_K D vwCl (TY cs) s) (hP : va_P D vwCl (CW cs ad fa fq rv v a w fv fp) H) (hdg : decode cc pc = .ok (.arraylength, 1)) (kk : W p l e R s m args below meth c H locs cells slots Q (F0 m (pc + 1) ls (.int 24 :: rest))) : W p l e R s m args below meth c H locs cells slots Q (F0 m (pc) ls (.ref (ad 20) :: rest)) :=
  va_alen hx hb hK hP 20 0 rfl rfl (v := 24) rfl hdg kk
theorem ld_Otried (hx : p.tables.exec = Jvm.exec) (hb : c.code = cc) (hK : va_K D vwCl (TY cs) s) (hP : va_P D vwCl (CW cs ad fa fq rv v a w fv fp) H) {i : Int32} (hi : vp_in i 7) (hdg : decode cc pc = .ok (.iaload, 1)) (kk : W p l e R s m args below meth c H locs cells slots Q (F0 m (pc + 1) ls (.int (a 21 i.toNatClampNeg) :: rest))) : W p l e R s m args below meth c H locs cells slots Q (F0 m (pc) ls (.int i :: .ref (ad 21) :: rest)) :=
  va_iald hx hb hK hP 21 0 rfl rfl hi hdg kk
theorem st_Otried (hx : p.tables.exec = Jvm.exec) (hb : c.code = cc) (hK : va_K D vwCl (TY cs) s) (hP : va_P D vwCl (CW cs ad fa fq rv v a w fv fp) H) (hD : va_D A (CW cs ad fa fq rv v a w fv fp)) (hS : va_S A H0 H locs) {i x : Int32} (hi : vp_in i 7) (hdg : decode cc pc = .ok (.iastore, 1)) (kk : ∀ (H1 : Heap) (l1 : List Loc), va_P D vwCl (CW cs ad fa fq rv v (va_up a 21 (upd (a 21) i.toNatClampNeg x)) w fv fp) H1 → va_D A (CW cs ad fa fq rv v (va_up a 21 (upd (a 21) i.toNatClampNeg x)) w fv fp) → va_S A H0 H1 l1 → W p l e R s m args below meth c H1 l1 cells slots Q (F0 m (pc + 1) ls (rest))) : W p l e R s m args below meth c H locs cells slots Q (F0 m (pc) ls (.int x :: .int i :: .ref (ad 21) :: rest)) :=
  va_iast hx hb hK hP hD hS 21 0 rfl rfl hi hdg (fun H1 l1 q1 q2 q3 => kk H1 l1 q1 q2 q3)
theorem al_Otried (hx : p.tables.exec = Jvm.exec) (hb : c.code = cc) (hK : va_K D vwCl (TY cs) s) (hP : va_P D vwCl (CW cs ad fa fq rv v a w fv fp) H) (hdg : decode cc pc = .ok (.arraylength, 1)) (kk : W p l e R s m args below meth c H locs cells slots Q (F0 m (pc + 1) ls (.int 7 :: rest))) : W p l e R s m args below meth c H locs cells slots Q (F0 m (pc) ls (.ref (ad 21) :: rest)) :=
  va_alen hx hb hK hP 21 0 rfl rfl (v := 7) rfl hdg kk
theorem ld_Obest (hx : p.tables.exec = Jvm.exec) (hb : c.code = cc) (hK : va_K D vwCl (TY cs) s) (hP : va_P D vwCl (CW cs ad fa fq rv v a w fv fp) H) {i : Int32} (hi : vp_in i 7) (hdg : decode cc pc = .ok (.iaload, 1)) (kk : W p l e R s m args below meth c H locs cells slots Q (F0 m (pc + 1) ls (.int (a 22 i.toNatClampNeg) :: rest))) : W p l e R s m args below meth c H locs cells slots Q (F0 m (pc) ls (.int i :: .ref (ad 22) :: rest)) :=
  va_iald hx hb hK hP 22 0 rfl rfl hi hdg kk
theorem st_Obest (hx : p.tables.exec = Jvm.exec) (hb : c.code = cc) (hK : va_K D vwCl (TY cs) s) (hP : va_P D vwCl (CW cs ad fa fq rv v a w fv fp) H) (hD : va_D A (CW cs ad fa fq rv v a w fv fp)) (hS : va_S A H0 H locs) {i x : Int32} (hi : vp_in i 7) (hdg : decode cc pc = .ok (.iastore, 1)) (kk : ∀ (H1 : Heap) (l1 : List Loc), va_P D vwCl (CW cs ad fa fq rv v (va_up a 22 (upd (a 22) i.toNatClampNeg x)) w fv fp) H1 → va_D A (CW cs ad fa fq rv v (va_up a 22 (upd (a 22) i.toNatClampNeg x)) w fv fp) → va_S A H0 H1 l1 → W p l e R s m args below meth c H1 l1 cells slots Q (F0 m (pc + 1) ls (rest))) : W p l e R s m args below meth c H locs cells slots Q (F0 m (pc) ls (.int x :: .int i :: .ref (ad 22) :: rest)) :=
  va_iast hx hb hK hP hD hS 22 0 rfl rfl hi hdg (fun H1 l1 q1 q2 q3 => kk H1 l1 q1 q2 q3)
theorem al_Obest (hx : p.tables.exec = Jvm.exec) (hb : c.code = cc) (hK : va_K D vwCl (TY cs) s) (hP : va_P D vwCl (CW cs ad fa fq rv v a w fv fp) H) (hdg : decode cc pc = .ok (.arraylength, 1)) (kk : W p l e R s m args below meth c H locs cells slots Q (F0 m (pc + 1) ls (.int 7 :: rest))) : W p l e R s m args below meth c H locs cells slots Q (F0 m (pc) ls (.ref (ad 22) :: rest)) :=
  va_alen hx hb hK hP 22 0 rfl rfl (v := 7) rfl hdg kk
theorem ld_Hseen (hx : p.tables.exec = Jvm.exec) (hb : c.code = cc) (hK : va_K D vwCl (TY cs) s) (hP : va_P D vwCl (CW cs ad fa fq rv v a w fv fp) H) {i : Int32} (hi : vp_in i 12) (hdg : decode cc pc = .ok (.iaload, 1)) (kk : W p l e R s m args below meth c H locs cells slots Q (F0 m (pc + 1) ls (.int (a 23 i.toNatClampNeg) :: rest))) : W p l e R s m args below meth c H locs cells slots Q (F0 m (pc) ls (.int i :: .ref (ad 23) :: rest)) :=
  va_iald hx hb hK hP 23 0 rfl rfl hi hdg kk
theorem st_Hseen (hx : p.tables.exec = Jvm.exec) (hb : c.code = cc) (hK : va_K D vwCl (TY cs) s) (hP : va_P D vwCl (CW cs ad fa fq rv v a w fv fp) H) (hD : va_D A (CW cs ad fa fq rv v a w fv fp)) (hS : va_S A H0 H locs) {i x : Int32} (hi : vp_in i 12) (hdg : decode cc pc = .ok (.iastore, 1)) (kk : ∀ (H1 : Heap) (l1 : List Loc), va_P D vwCl (CW cs ad fa fq rv v (va_up a 23 (upd (a 23) i.toNatClampNeg x)) w fv fp) H1 → va_D A (CW cs ad fa fq rv v (va_up a 23 (upd (a 23) i.toNatClampNeg x)) w fv fp) → va_S A H0 H1 l1 → W p l e R s m args below meth c H1 l1 cells slots Q (F0 m (pc + 1) ls (rest))) : W p l e R s m args below meth c H locs cells slots Q (F0 m (pc) ls (.int x :: .int i :: .ref (ad 23) :: rest)) :=
  va_iast hx hb hK hP hD hS 23 0 rfl rfl hi hdg (fun H1 l1 q1 q2 q3 => kk H1 l1 q1 q2 q3)
theorem al_Hseen (hx : p.tables.exec = Jvm.exec) (hb : c.code = cc) (hK : va_K D vwCl (TY cs) s) (hP : va_P D vwCl (CW cs ad fa fq rv v a w fv fp) H) (hdg : decode cc pc = .ok (.arraylength, 1)) (kk : W p l e R s m args below meth c H locs cells slots Q (F0 m (pc + 1) ls (.int 12 :: rest))) : W p l e R s m args below meth c H locs cells slots Q (F0 m (pc) ls (.ref (ad 23) :: rest)) :=
  va_alen hx hb hK hP 23 0 rfl rfl (v := 12) rfl hdg kk
theorem ld_Cnumber (hx : p.tables.exec = Jvm.exec) (hb : c.code = cc) (hK : va_K D vwCl (TY cs) s) (hP : va_P D vwCl (CW cs ad fa fq rv v a w fv fp) H) {i : Int32} (hi : vp_in i 40) (hdg : decode cc pc = .ok (.iaload, 1)) (kk : W p l e R s m args below meth c H locs cells slots Q (F0 m (pc + 1) ls (.int (a 24 i.toNatClampNeg) :: rest))) : W p l e R s m args below meth c H locs cells slots Q (F0 m (pc) ls (.int i :: .ref (ad 24) :: rest)) :=
  va_iald hx hb hK hP 24 0 rfl rfl hi hdg kk
theorem st_Cnumber (hx : p.tables.exec = Jvm.exec) (hb : c.code = cc) (hK : va_K D vwCl (TY cs) s) (hP : va_P D vwCl (CW cs ad fa fq rv v a w fv fp) H) (hD : va_D A (CW cs ad fa fq rv v a w fv fp)) (hS : va_S A H0 H locs) {i x : Int32} (hi : vp_in i 40) (hdg : decode cc pc = .ok (.iastore, 1)) (kk : ∀ (H1 : Heap) (l1 : List Loc), va_P D vwCl (CW cs ad fa fq rv v (va_up a 24 (upd (a 24) i.toNatClampNeg x)) w fv fp) H1 → va_D A (CW cs ad fa fq rv v (va_up a 24 (upd (a 24) i.toNatClampNeg x)) w fv fp) → va_S A H0 H1 l1 → W p l e R s m args below meth c H1 l1 cells slots Q (F0 m (pc + 1) ls (rest))) : W p l e R s m args below meth c H locs cells slots Q (F0 m (pc) ls (.int x :: .int i :: .ref (ad 24) :: rest)) :=
  va_iast hx hb hK hP hD hS 24 0 rfl rfl hi hdg (fun H1 l1 q1 q2 q3 => kk H1 l1 q1 q2 q3)
theorem al_Cnumber (hx : p.tables.exec = Jvm.exec) (hb : c.code = cc) (hK : va_K D vwCl (TY cs) s) (hP : va_P D vwCl (CW cs ad fa fq rv v a w fv fp) H) (hdg : decode cc pc = .ok (.arraylength, 1)) (kk : W p l e R s m args below meth c H locs cells slots Q (F0 m (pc + 1) ls (.int 40 :: rest))) : W p l e R s m args below meth c H locs cells slots Q (F0 m (pc) ls (.ref (ad 24) :: rest)) :=
  va_alen hx hb hK hP 24 0 rfl rfl (v := 40) rfl hdg kk
theorem ld_Cwhat (hx : p.tables.exec = Jvm.exec) (hb : c.code = cc) (hK : va_K D vwCl (TY cs) s) (hP : va_P D vwCl (CW cs ad fa fq rv v a w fv fp) H) {i : Int32} (hi : vp_in i 40) (hdg : decode cc pc = .ok (.iaload, 1)) (kk : W p l e R s m args below meth c H locs cells slots Q (F0 m (pc + 1) ls (.int (a 25 i.toNatClampNeg) :: rest))) : W p l e R s m args below meth c H locs cells slots Q (F0 m (pc) ls (.int i :: .ref (ad 25) :: rest)) :=
  va_iald hx hb hK hP 25 0 rfl rfl hi hdg kk
theorem st_Cwhat (hx : p.tables.exec = Jvm.exec) (hb : c.code = cc) (hK : va_K D vwCl (TY cs) s) (hP : va_P D vwCl (CW cs ad fa fq rv v a w fv fp) H) (hD : va_D A (CW cs ad fa fq rv v a w fv fp)) (hS : va_S A H0 H locs) {i x : Int32} (hi : vp_in i 40) (hdg : decode cc pc = .ok (.iastore, 1)) (kk : ∀ (H1 : Heap) (l1 : List Loc), va_P D vwCl (CW cs ad fa fq rv v (va_up a 25 (upd (a 25) i.toNatClampNeg x)) w fv fp) H1 → va_D A (CW cs ad fa fq rv v (va_up a 25 (upd (a 25) i.toNatClampNeg x)) w fv fp) → va_S A H0 H1 l1 → W p l e R s m args below meth c H1 l1 cells slots Q (F0 m (pc + 1) ls (rest))) : W p l e R s m args below meth c H locs cells slots Q (F0 m (pc) ls (.int x :: .int i :: .ref (ad 25) :: rest)) :=
  va_iast hx hb hK hP hD hS 25 0 rfl rfl hi hdg (fun H1 l1 q1 q2 q3 => kk H1 l1 q1 q2 q3)
theorem al_Cwhat (hx : p.tables.exec = Jvm.exec) (hb : c.code = cc) (hK : va_K D vwCl (TY cs) s) (hP : va_P D vwCl (CW cs ad fa fq rv v a w fv fp) H) (hdg : decode cc pc = .ok (.arraylength, 1)) (kk : W p l e R s m args below meth c H locs cells slots Q (F0 m (pc + 1) ls (.int 40 :: rest))) : W p l e R s m args below meth c H locs cells slots Q (F0 m (pc) ls (.ref (ad 25) :: rest)) :=
  va_alen hx hb hK hP 25 0 rfl rfl (v := 40) rfl hdg kk
theorem ld_Cwas (hx : p.tables.exec = Jvm.exec) (hb : c.code = cc) (hK : va_K D vwCl (TY cs) s) (hP : va_P D vwCl (CW cs ad fa fq rv v a w fv fp) H) {i : Int32} (hi : vp_in i 40) (hdg : decode cc pc = .ok (.iaload, 1)) (kk : W p l e R s m args below meth c H locs cells slots Q (F0 m (pc + 1) ls (.int (a 26 i.toNatClampNeg) :: rest))) : W p l e R s m args below meth c H locs cells slots Q (F0 m (pc) ls (.int i :: .ref (ad 26) :: rest)) :=
  va_iald hx hb hK hP 26 0 rfl rfl hi hdg kk
theorem st_Cwas (hx : p.tables.exec = Jvm.exec) (hb : c.code = cc) (hK : va_K D vwCl (TY cs) s) (hP : va_P D vwCl (CW cs ad fa fq rv v a w fv fp) H) (hD : va_D A (CW cs ad fa fq rv v a w fv fp)) (hS : va_S A H0 H locs) {i x : Int32} (hi : vp_in i 40) (hdg : decode cc pc = .ok (.iastore, 1)) (kk : ∀ (H1 : Heap) (l1 : List Loc), va_P D vwCl (CW cs ad fa fq rv v (va_up a 26 (upd (a 26) i.toNatClampNeg x)) w fv fp) H1 → va_D A (CW cs ad fa fq rv v (va_up a 26 (upd (a 26) i.toNatClampNeg x)) w fv fp) → va_S A H0 H1 l1 → W p l e R s m args below meth c H1 l1 cells slots Q (F0 m (pc + 1) ls (rest))) : W p l e R s m args below meth c H locs cells slots Q (F0 m (pc) ls (.int x :: .int i :: .ref (ad 26) :: rest)) :=
  va_iast hx hb hK hP hD hS 26 0 rfl rfl hi hdg (fun H1 l1 q1 q2 q3 => kk H1 l1 q1 q2 q3)
theorem al_Cwas (hx : p.tables.exec = Jvm.exec) (hb : c.code = cc) (hK : va_K D vwCl (TY cs) s) (hP : va_P D vwCl (CW cs ad fa fq rv v a w fv fp) H) (hdg : decode cc pc = .ok (.arraylength, 1)) (kk : W p l e R s m args below meth c H locs cells slots Q (F0 m (pc + 1) ls (.int 40 :: rest))) : W p l e R s m args below meth c H locs cells slots Q (F0 m (pc) ls (.ref (ad 26) :: rest)) :=
  va_alen hx hb hK hP 26 0 rfl rfl (v := 40) rfl hdg kk
theorem ld_Cbecomes (hx : p.tables.exec = Jvm.exec) (hb : c.code = cc) (hK : va_K D vwCl (TY cs) s) (hP : va_P D vwCl (CW cs ad fa fq rv v a w fv fp) H) {i : Int32} (hi : vp_in i 40) (hdg : decode cc pc = .ok (.iaload, 1)) (kk : W p l e R s m args below meth c H locs cells slots Q (F0 m (pc + 1) ls (.int (a 27 i.toNatClampNeg) :: rest))) : W p l e R s m args below meth c H locs cells slots Q (F0 m (pc) ls (.int i :: .ref (ad 27) :: rest)) :=
  va_iald hx hb hK hP 27 0 rfl rfl hi hdg kk
theorem st_Cbecomes (hx : p.tables.exec = Jvm.exec) (hb : c.code = cc) (hK : va_K D vwCl (TY cs) s) (hP : va_P D vwCl (CW cs ad fa fq rv v a w fv fp) H) (hD : va_D A (CW cs ad fa fq rv v a w fv fp)) (hS : va_S A H0 H locs) {i x : Int32} (hi : vp_in i 40) (hdg : decode cc pc = .ok (.iastore, 1)) (kk : ∀ (H1 : Heap) (l1 : List Loc), va_P D vwCl (CW cs ad fa fq rv v (va_up a 27 (upd (a 27) i.toNatClampNeg x)) w fv fp) H1 → va_D A (CW cs ad fa fq rv v (va_up a 27 (upd (a 27) i.toNatClampNeg x)) w fv fp) → va_S A H0 H1 l1 → W p l e R s m args below meth c H1 l1 cells slots Q (F0 m (pc + 1) ls (rest))) : W p l e R s m args below meth c H locs cells slots Q (F0 m (pc) ls (.int x :: .int i :: .ref (ad 27) :: rest)) :=
  va_iast hx hb hK hP hD hS 27 0 rfl rfl hi hdg (fun H1 l1 q1 q2 q3 => kk H1 l1 q1 q2 q3)
theorem al_Cbecomes (hx : p.tables.exec = Jvm.exec) (hb : c.code = cc) (hK : va_K D vwCl (TY cs) s) (hP : va_P D vwCl (CW cs ad fa fq rv v a w fv fp) H) (hdg : decode cc pc = .ok (.arraylength, 1)) (kk : W p l e R s m args below meth c H locs cells slots Q (F0 m (pc + 1) ls (.int 40 :: rest))) : W p l e R s m args below meth c H locs cells slots Q (F0 m (pc) ls (.ref (ad 27) :: rest)) :=
  va_alen hx hb hK hP 27 0 rfl rfl (v := 40) rfl hdg kk
theorem ld_Ssort (hx : p.tables.exec = Jvm.exec) (hb : c.code = cc) (hK : va_K D vwCl (TY cs) s) (hP : va_P D vwCl (CW cs ad fa fq rv v a w fv fp) H) {i : Int32} (hi : vp_in i 6) (hdg : decode cc pc = .ok (.iaload, 1)) (kk : W p l e R s m args below meth c H locs cells slots Q (F0 m (pc + 1) ls (.int (a 28 i.toNatClampNeg) :: rest))) : W p l e R s m args below meth c H locs cells slots Q (F0 m (pc) ls (.int i :: .ref (ad 28) :: rest)) :=
  va_iald hx hb hK hP 28 0 rfl rfl hi hdg kk
theorem st_Ssort (hx : p.tables.exec = Jvm.exec) (hb : c.code = cc) (hK : va_K D vwCl (TY cs) s) (hP : va_P D vwCl (CW cs ad fa fq rv v a w fv fp) H) (hD : va_D A (CW cs ad fa fq rv v a w fv fp)) (hS : va_S A H0 H locs) {i x : Int32} (hi : vp_in i 6) (hdg : decode cc pc = .ok (.iastore, 1)) (kk : ∀ (H1 : Heap) (l1 : List Loc), va_P D vwCl (CW cs ad fa fq rv v (va_up a 28 (upd (a 28) i.toNatClampNeg x)) w fv fp) H1 → va_D A (CW cs ad fa fq rv v (va_up a 28 (upd (a 28) i.toNatClampNeg x)) w fv fp) → va_S A H0 H1 l1 → W p l e R s m args below meth c H1 l1 cells slots Q (F0 m (pc + 1) ls (rest))) : W p l e R s m args below meth c H locs cells slots Q (F0 m (pc) ls (.int x :: .int i :: .ref (ad 28) :: rest)) :=
  va_iast hx hb hK hP hD hS 28 0 rfl rfl hi hdg (fun H1 l1 q1 q2 q3 => kk H1 l1 q1 q2 q3)
theorem al_Ssort (hx : p.tables.exec = Jvm.exec) (hb : c.code = cc) (hK : va_K D vwCl (TY cs) s) (hP : va_P D vwCl (CW cs ad fa fq rv v a w fv fp) H) (hdg : decode cc pc = .ok (.arraylength, 1)) (kk : W p l e R s m args below meth c H locs cells slots Q (F0 m (pc + 1) ls (.int 6 :: rest))) : W p l e R s m args below meth c H locs cells slots Q (F0 m (pc) ls (.ref (ad 28) :: rest)) :=
  va_alen hx hb hK hP 28 0 rfl rfl (v := 6) rfl hdg kk
theorem ld_Ssize (hx : p.tables.exec = Jvm.exec) (hb : c.code = cc) (hK : va_K D vwCl (TY cs) s) (hP : va_P D vwCl (CW cs ad fa fq rv v a w fv fp) H) {i : Int32} (hi : vp_in i 6) (hdg : decode cc pc = .ok (.iaload, 1)) (kk : W p l e R s m args below meth c H locs cells slots Q (F0 m (pc + 1) ls (.int (a 29 i.toNatClampNeg) :: rest))) : W p l e R s m args below meth c H locs cells slots Q (F0 m (pc) ls (.int i :: .ref (ad 29) :: rest)) :=
  va_iald hx hb hK hP 29 0 rfl rfl hi hdg kk
theorem st_Ssize (hx : p.tables.exec = Jvm.exec) (hb : c.code = cc) (hK : va_K D vwCl (TY cs) s) (hP : va_P D vwCl (CW cs ad fa fq rv v a w fv fp) H) (hD : va_D A (CW cs ad fa fq rv v a w fv fp)) (hS : va_S A H0 H locs) {i x : Int32} (hi : vp_in i 6) (hdg : decode cc pc = .ok (.iastore, 1)) (kk : ∀ (H1 : Heap) (l1 : List Loc), va_P D vwCl (CW cs ad fa fq rv v (va_up a 29 (upd (a 29) i.toNatClampNeg x)) w fv fp) H1 → va_D A (CW cs ad fa fq rv v (va_up a 29 (upd (a 29) i.toNatClampNeg x)) w fv fp) → va_S A H0 H1 l1 → W p l e R s m args below meth c H1 l1 cells slots Q (F0 m (pc + 1) ls (rest))) : W p l e R s m args below meth c H locs cells slots Q (F0 m (pc) ls (.int x :: .int i :: .ref (ad 29) :: rest)) :=
  va_iast hx hb hK hP hD hS 29 0 rfl rfl hi hdg (fun H1 l1 q1 q2 q3 => kk H1 l1 q1 q2 q3)
theorem al_Ssize (hx : p.tables.exec = Jvm.exec) (hb : c.code = cc) (hK : va_K D vwCl (TY cs) s) (hP : va_P D vwCl (CW cs ad fa fq rv v a w fv fp) H) (hdg : decode cc pc = .ok (.arraylength, 1)) (kk : W p l e R s m args below meth c H locs cells slots Q (F0 m (pc + 1) ls (.int 6 :: rest))) : W p l e R s m args below meth c H locs cells slots Q (F0 m (pc) ls (.ref (ad 29) :: rest)) :=
  va_alen hx hb hK hP 29 0 rfl rfl (v := 6) rfl hdg kk
theorem ld_Akind (hx : p.tables.exec = Jvm.exec) (hb : c.code = cc) (hK : va_K D vwCl (TY cs) s) (hP : va_P D vwCl (CW cs ad fa fq rv v a w fv fp) H) {i : Int32} (hi : vp_in i 50) (hdg : decode cc pc = .ok (.iaload, 1)) (kk : W p l e R s m args below meth c H locs cells slots Q (F0 m (pc + 1) ls (.int (a 37 i.toNatClampNeg) :: rest))) : W p l e R s m args below meth c H locs cells slots Q (F0 m (pc) ls (.int i :: .ref (ad 37) :: rest)) :=
  va_iald hx hb hK hP 37 0 rfl rfl hi hdg kk
theorem st_Akind (hx : p.tables.exec = Jvm.exec) (hb : c.code = cc) (hK : va_K D vwCl (TY cs) s) (hP : va_P D vwCl (CW cs ad fa fq rv v a w fv fp) H) (hD : va_D A (CW cs ad fa fq rv v a w fv fp)) (hS : va_S A H0 H locs) {i x : Int32} (hi : vp_in i 50) (hdg : decode cc pc = .ok (.iastore, 1)) (kk : ∀ (H1 : Heap) (l1 : List Loc), va_P D vwCl (CW cs ad fa fq rv v (va_up a 37 (upd (a 37) i.toNatClampNeg x)) w fv fp) H1 → va_D A (CW cs ad fa fq rv v (va_up a 37 (upd (a 37) i.toNatClampNeg x)) w fv fp) → va_S A H0 H1 l1 → W p l e R s m args below meth c H1 l1 cells slots Q (F0 m (pc + 1) ls (rest))) : W p l e R s m args below meth c H locs cells slots Q (F0 m (pc) ls (.int x :: .int i :: .ref (ad 37) :: rest)) :=
  va_iast hx hb hK hP hD hS 37 0 rfl rfl hi hdg (fun H1 l1 q1 q2 q3 => kk H1 l1 q1 q2 q3)
theorem al_Akind (hx : p.tables.exec = Jvm.exec) (hb : c.code = cc) (hK : va_K D vwCl (TY cs) s) (hP : va_P D vwCl (CW cs ad fa fq rv v a w fv fp) H) (hdg : decode cc pc = .ok (.arraylength, 1)) (kk : W p l e R s m args below meth c H locs cells slots Q (F0 m (pc + 1) ls (.int 50 :: rest))) : W p l e R s m args below meth c H locs cells slots Q (F0 m (pc) ls (.ref (ad 37) :: rest)) :=
  va_alen hx hb hK hP 37 0 rfl rfl (v := 50) rfl hdg kk
theorem ld_Atraced (hx : p.tables.exec = Jvm.exec) (hb : c.code = cc) (hK : va_K D vwCl (TY cs) s) (hP : va_P D vwCl (CW cs ad fa fq rv v a w fv fp) H) {i : Int32} (hi : vp_in i 24) (hdg : decode cc pc = .ok (.iaload, 1)) (kk : W p l e R s m args below meth c H locs cells slots Q (F0 m (pc + 1) ls (.int (a 38 i.toNatClampNeg) :: rest))) : W p l e R s m args below meth c H locs cells slots Q (F0 m (pc) ls (.int i :: .ref (ad 38) :: rest)) :=
  va_iald hx hb hK hP 38 0 rfl rfl hi hdg kk
theorem st_Atraced (hx : p.tables.exec = Jvm.exec) (hb : c.code = cc) (hK : va_K D vwCl (TY cs) s) (hP : va_P D vwCl (CW cs ad fa fq rv v a w fv fp) H) (hD : va_D A (CW cs ad fa fq rv v a w fv fp)) (hS : va_S A H0 H locs) {i x : Int32} (hi : vp_in i 24) (hdg : decode cc pc = .ok (.iastore, 1)) (kk : ∀ (H1 : Heap) (l1 : List Loc), va_P D vwCl (CW cs ad fa fq rv v (va_up a 38 (upd (a 38) i.toNatClampNeg x)) w fv fp) H1 → va_D A (CW cs ad fa fq rv v (va_up a 38 (upd (a 38) i.toNatClampNeg x)) w fv fp) → va_S A H0 H1 l1 → W p l e R s m args below meth c H1 l1 cells slots Q (F0 m (pc + 1) ls (rest))) : W p l e R s m args below meth c H locs cells slots Q (F0 m (pc) ls (.int x :: .int i :: .ref (ad 38) :: rest)) :=
  va_iast hx hb hK hP hD hS 38 0 rfl rfl hi hdg (fun H1 l1 q1 q2 q3 => kk H1 l1 q1 q2 q3)
theorem al_Atraced (hx : p.tables.exec = Jvm.exec) (hb : c.code = cc) (hK : va_K D vwCl (TY cs) s) (hP : va_P D vwCl (CW cs ad fa fq rv v a w fv fp) H) (hdg : decode cc pc = .ok (.arraylength, 1)) (kk : W p l e R s m args below meth c H locs cells slots Q (F0 m (pc + 1) ls (.int 24 :: rest))) : W p l e R s m args below meth c H locs cells slots Q (F0 m (pc) ls (.ref (ad 38) :: rest)) :=
  va_alen hx hb hK hP 38 0 rfl rfl (v := 24) rfl hdg kk
theorem ld_keptCells (hx : p.tables.exec = Jvm.exec) (hb : c.code = cc) (hK : va_K D vwCl (TY cs) s) (hP : va_P D vwCl (CW cs ad fa fq rv v a w fv fp) H) {i : Int32} (hi : vp_in i 8) (hdg : decode cc pc = .ok (.iaload, 1)) (kk : W p l e R s m args below meth c H locs cells slots Q (F0 m (pc + 1) ls (.int (a 39 i.toNatClampNeg) :: rest))) : W p l e R s m args below meth c H locs cells slots Q (F0 m (pc) ls (.int i :: .ref (ad 39) :: rest)) :=
  va_iald hx hb hK hP 39 0 rfl rfl hi hdg kk
theorem st_keptCells (hx : p.tables.exec = Jvm.exec) (hb : c.code = cc) (hK : va_K D vwCl (TY cs) s) (hP : va_P D vwCl (CW cs ad fa fq rv v a w fv fp) H) (hD : va_D A (CW cs ad fa fq rv v a w fv fp)) (hS : va_S A H0 H locs) {i x : Int32} (hi : vp_in i 8) (hdg : decode cc pc = .ok (.iastore, 1)) (kk : ∀ (H1 : Heap) (l1 : List Loc), va_P D vwCl (CW cs ad fa fq rv v (va_up a 39 (upd (a 39) i.toNatClampNeg x)) w fv fp) H1 → va_D A (CW cs ad fa fq rv v (va_up a 39 (upd (a 39) i.toNatClampNeg x)) w fv fp) → va_S A H0 H1 l1 → W p l e R s m args below meth c H1 l1 cells slots Q (F0 m (pc + 1) ls (rest))) : W p l e R s m args below meth c H locs cells slots Q (F0 m (pc) ls (.int x :: .int i :: .ref (ad 39) :: rest)) :=
  va_iast hx hb hK hP hD hS 39 0 rfl rfl hi hdg (fun H1 l1 q1 q2 q3 => kk H1 l1 q1 q2 q3)
theorem al_keptCells (hx : p.tables.exec = Jvm.exec) (hb : c.code = cc) (hK : va_K D vwCl (TY cs) s) (hP : va_P D vwCl (CW cs ad fa fq rv v a w fv fp) H) (hdg : decode cc pc = .ok (.arraylength, 1)) (kk : W p l e R s m args below meth c H locs cells slots Q (F0 m (pc + 1) ls (.int 8 :: rest))) : W p l e R s m args below meth c H locs cells slots Q (F0 m (pc) ls (.ref (ad 39) :: rest)) :=
  va_alen hx hb hK hP 39 0 rfl rfl (v := 8) rfl hdg kk
theorem rc_main (hK : va_K D vwCl (TY cs) s) (hP : va_P D vwCl (CW cs ad fa fq rv v a w fv fp) H) : ∃ cell : Cell, H[ad 0]? = some cell ∧ cell.vm.isStatics = false ∧ s.vm.findClass RX11 = some cell.cls := va_recv hK hP (ci := 11) (q0 := 0) rfl rfl
theorem rc_parish (hK : va_K D vwCl (TY cs) s) (hP : va_P D vwCl (CW cs ad fa fq rv v a w fv fp) H) : ∃ cell : Cell, H[ad 1]? = some cell ∧ cell.vm.isStatics = false ∧ s.vm.findClass RX9 = some cell.cls := va_recv hK hP (ci := 9) (q0 := 1) rfl rfl
theorem rc_rules (hK : va_K D vwCl (TY cs) s) (hP : va_P D vwCl (CW cs ad fa fq rv v a w fv fp) H) : ∃ cell : Cell, H[ad 2]? = some cell ∧ cell.vm.isStatics = false ∧ s.vm.findClass RX6 = some cell.cls := va_recv hK hP (ci := 6) (q0 := 2) rfl rfl
theorem rc_today (hK : va_K D vwCl (TY cs) s) (hP : va_P D vwCl (CW cs ad fa fq rv v a w fv fp) H) : ∃ cell : Cell, H[ad 3]? = some cell ∧ cell.vm.isStatics = false ∧ s.vm.findClass RX2 = some cell.cls := va_recv hK hP (ci := 2) (q0 := 3) rfl rfl
theorem rc_arranging (hK : va_K D vwCl (TY cs) s) (hP : va_P D vwCl (CW cs ad fa fq rv v a w fv fp) H) : ∃ cell : Cell, H[ad 4]? = some cell ∧ cell.vm.isStatics = false ∧ s.vm.findClass RX8 = some cell.cls := va_recv hK hP (ci := 8) (q0 := 4) rfl rfl
theorem rc_talking (hK : va_K D vwCl (TY cs) s) (hP : va_P D vwCl (CW cs ad fa fq rv v a w fv fp) H) : ∃ cell : Cell, H[ad 5]? = some cell ∧ cell.vm.isStatics = false ∧ s.vm.findClass RX5 = some cell.cls := va_recv hK hP (ci := 5) (q0 := 5) rfl rfl
theorem rc_hearing (hK : va_K D vwCl (TY cs) s) (hP : va_P D vwCl (CW cs ad fa fq rv v a w fv fp) H) : ∃ cell : Cell, H[ad 6]? = some cell ∧ cell.vm.isStatics = false ∧ s.vm.findClass RX4 = some cell.cls := va_recv hK hP (ci := 4) (q0 := 6) rfl rfl
theorem rc_changes (hK : va_K D vwCl (TY cs) s) (hP : va_P D vwCl (CW cs ad fa fq rv v a w fv fp) H) : ∃ cell : Cell, H[ad 7]? = some cell ∧ cell.vm.isStatics = false ∧ s.vm.findClass RX1 = some cell.cls := va_recv hK hP (ci := 1) (q0 := 7) rfl rfl
theorem rc_shelves (hK : va_K D vwCl (TY cs) s) (hP : va_P D vwCl (CW cs ad fa fq rv v a w fv fp) H) : ∃ cell : Cell, H[ad 8]? = some cell ∧ cell.vm.isStatics = false ∧ s.vm.findClass RX10 = some cell.cls := va_recv hK hP (ci := 10) (q0 := 8) rfl rfl
theorem rc_acts (hK : va_K D vwCl (TY cs) s) (hP : va_P D vwCl (CW cs ad fa fq rv v a w fv fp) H) : ∃ cell : Cell, H[ad 9]? = some cell ∧ cell.vm.isStatics = false ∧ s.vm.findClass RX0 = some cell.cls := va_recv hK hP (ci := 0) (q0 := 9) rfl rfl
theorem rc_reader (hK : va_K D vwCl (TY cs) s) (hP : va_P D vwCl (CW cs ad fa fq rv v a w fv fp) H) : ∃ cell : Cell, H[ad 10]? = some cell ∧ cell.vm.isStatics = false ∧ s.vm.findClass RX7 = some cell.cls := va_recv hK hP (ci := 7) (q0 := 10) rfl rfl
theorem fl_o {f : Nat} (hf : f < 18) : (CW cs ad fa fq rv v a w fv fp)[41 + 2 * f]? = some (fa f, .inr (3, [.ref (ad 1), .ref (ad 2), .ref (fq f), .int (fv f 0), .int (fv f 1), .int (fv f 2), .int (fv f 3), .int (fv f 4), .int (fv f 5), .int (fv f 6), .int (fv f 7)])) := match f, hf with
  | 0, _ => rfl
  | 1, _ => rfl
  | 2, _ => rfl
  | 3, _ => rfl
  | 4, _ => rfl
  | 5, _ => rfl
  | 6, _ => rfl
  | 7, _ => rfl
  | 8, _ => rfl
  | 9, _ => rfl
  | 10, _ => rfl
  | 11, _ => rfl
  | 12, _ => rfl
  | 13, _ => rfl
  | 14, _ => rfl
  | 15, _ => rfl
  | 16, _ => rfl
  | 17, _ => rfl
  | f + 18, hf => absurd hf (by omega)
theorem fl_p {f : Nat} (hf : f < 18) : (CW cs ad fa fq rv v a w fv fp)[42 + 2 * f]? = some (fq f, .inl (cs 0, 8, .inl (fp f))) := match f, hf with
  | 0, _ => rfl
  | 1, _ => rfl
  | 2, _ => rfl
  | 3, _ => rfl
  | 4, _ => rfl
  | 5, _ => rfl
  | 6, _ => rfl
  | 7, _ => rfl
  | 8, _ => rfl
  | 9, _ => rfl
  | 10, _ => rfl
  | 11, _ => rfl
  | 12, _ => rfl
  | 13, _ => rfl
  | 14, _ => rfl
  | 15, _ => rfl
  | 16, _ => rfl
  | 17, _ => rfl
  | f + 18, hf => absurd hf (by omega)
theorem fl_so {f k : Nat} {x : Int32} (hf : f < 18) (hk : k < 8) : (CW cs ad fa fq rv v a w fv fp).set (41 + 2 * f) (fa f, .inr (3, ([.ref (ad 1), .ref (ad 2), .ref (fq f), .int (fv f 0), .int (fv f 1), .int (fv f 2), .int (fv f 3), .int (fv f 4), .int (fv f 5), .int (fv f 6), .int (fv f 7)] : List Value).set (3 + k) (.int x))) = CW cs ad fa fq rv v a w (va_up fv f (va_up (fv f) k x)) fp := by
  have h : ∀ k, k < 8 → ([.ref (ad 1), .ref (ad 2), .ref (fq f), .int (fv f 0), .int (fv f 1), .int (fv f 2), .int (fv f 3), .int (fv f 4), .int (fv f 5), .int (fv f 6), .int (fv f 7)] : List Value).set (3 + k) (.int x) = [.ref (ad 1), .ref (ad 2), .ref (fq f), .int (va_up (fv f) k x 0), .int (va_up (fv f) k x 1), .int (va_up (fv f) k x 2), .int (va_up (fv f) k x 3), .int (va_up (fv f) k x 4), .int (va_up (fv f) k x 5), .int (va_up (fv f) k x 6), .int (va_up (fv f) k x 7)] := fun k hk => match k, hk with
    | 0, _ => rfl
    | 1, _ => rfl
    | 2, _ => rfl
    | 3, _ => rfl
    | 4, _ => rfl
    | 5, _ => rfl
    | 6, _ => rfl
    | 7, _ => rfl
    | k + 8, hk => absurd hk (by omega)
  rw [h k hk]
  generalize va_up (fv f) k x = g
  exact match f, hf with
  | 0, _ => rfl
  | 1, _ => rfl
  | 2, _ => rfl
  | 3, _ => rfl
  | 4, _ => rfl
  | 5, _ => rfl
  | 6, _ => rfl
  | 7, _ => rfl
  | 8, _ => rfl
  | 9, _ => rfl
  | 10, _ => rfl
  | 11, _ => rfl
  | 12, _ => rfl
  | 13, _ => rfl
  | 14, _ => rfl
  | 15, _ => rfl
  | 16, _ => rfl
  | 17, _ => rfl
  | f + 18, hf => absurd hf (by omega)
theorem fl_sp {f : Nat} {g : Nat → Int32} (hf : f < 18) : (CW cs ad fa fq rv v a w fv fp).set (42 + 2 * f) (fq f, .inl (cs 0, 8, .inl g)) = CW cs ad fa fq rv v a w fv (va_up fp f g) := match f, hf with
  | 0, _ => rfl
  | 1, _ => rfl
  | 2, _ => rfl
  | 3, _ => rfl
  | 4, _ => rfl
  | 5, _ => rfl
  | 6, _ => rfl
  | 7, _ => rfl
  | 8, _ => rfl
  | 9, _ => rfl
  | 10, _ => rfl
  | 11, _ => rfl
  | 12, _ => rfl
  | 13, _ => rfl
  | 14, _ => rfl
  | 15, _ => rfl
  | 16, _ => rfl
  | 17, _ => rfl
  | f + 18, hf => absurd hf (by omega)
theorem rc_fl {f : Nat} (hf : f < 18) (hK : va_K D vwCl (TY cs) s) (hP : va_P D vwCl (CW cs ad fa fq rv v a w fv fp) H) : ∃ cell : Cell, H[fa f]? = some cell ∧ cell.vm.isStatics = false ∧ s.vm.findClass RX3 = some cell.cls := va_recv hK hP (ci := 3) (q0 := 41 + 2 * f) rfl (fl_o hf)
theorem gf_fl_parish {f : Nat} (hf : f < 18) (hx : p.tables.exec = Jvm.exec) (hb : c.code = cc) (hg : ∀ w ∈ gw, w.before args s = true) (hown : s.vm.findClass own = some m.cls) (hK : va_K D vwCl (TY cs) s) (hP : va_P D vwCl (CW cs ad fa fq rv v a w fv fp) H) (hl : (Cond.fieldLink own index "BeesSting$Flight" "parish" "LBeesSting$Parish;").before args s = true) (hdg : decode cc pc = .ok (.getfield index, 3)) (kk : W p l e R s m args below meth c H locs cells slots Q (F0 m (pc + 3) ls (.ref (ad 1) :: rest))) : W p l e R s m args below meth c H locs cells slots Q (F0 m (pc) ls (.ref (fa f) :: rest)) :=
  va_get (ci := 3) (C := RX3) (T := TX3) (N := 11) hx hb hg us3 hown hK hP (41 + 2 * f) (fl_o hf) rfl 0 (by decide) hl (fun _ h9 => h9) rfl hdg kk
theorem gf_fl_law {f : Nat} (hf : f < 18) (hx : p.tables.exec = Jvm.exec) (hb : c.code = cc) (hg : ∀ w ∈ gw, w.before args s = true) (hown : s.vm.findClass own = some m.cls) (hK : va_K D vwCl (TY cs) s) (hP : va_P D vwCl (CW cs ad fa fq rv v a w fv fp) H) (hl : (Cond.fieldLink own index "BeesSting$Flight" "law" "LBeesSting$Law;").before args s = true) (hdg : decode cc pc = .ok (.getfield index, 3)) (kk : W p l e R s m args below meth c H locs cells slots Q (F0 m (pc + 3) ls (.ref (ad 2) :: rest))) : W p l e R s m args below meth c H locs cells slots Q (F0 m (pc) ls (.ref (fa f) :: rest)) :=
  va_get (ci := 3) (C := RX3) (T := TX3) (N := 11) hx hb hg us3 hown hK hP (41 + 2 * f) (fl_o hf) rfl 1 (by decide) hl (fun _ h9 => h9) rfl hdg kk
theorem gf_fl_pads {f : Nat} (hf : f < 18) (hx : p.tables.exec = Jvm.exec) (hb : c.code = cc) (hg : ∀ w ∈ gw, w.before args s = true) (hown : s.vm.findClass own = some m.cls) (hK : va_K D vwCl (TY cs) s) (hP : va_P D vwCl (CW cs ad fa fq rv v a w fv fp) H) (hl : (Cond.fieldLink own index "BeesSting$Flight" "pads" "[I").before args s = true) (hdg : decode cc pc = .ok (.getfield index, 3)) (kk : W p l e R s m args below meth c H locs cells slots Q (F0 m (pc + 3) ls (.ref (fq f) :: rest))) : W p l e R s m args below meth c H locs cells slots Q (F0 m (pc) ls (.ref (fa f) :: rest)) :=
  va_get (ci := 3) (C := RX3) (T := TX3) (N := 11) hx hb hg us3 hown hK hP (41 + 2 * f) (fl_o hf) rfl 2 (by decide) hl (fun _ h9 => h9) rfl hdg kk
theorem gf_fl_hour {f : Nat} (hf : f < 18) (hx : p.tables.exec = Jvm.exec) (hb : c.code = cc) (hg : ∀ w ∈ gw, w.before args s = true) (hown : s.vm.findClass own = some m.cls) (hK : va_K D vwCl (TY cs) s) (hP : va_P D vwCl (CW cs ad fa fq rv v a w fv fp) H) {x : Int32} (hv : fv f 0 = x) (hl : (Cond.fieldLink own index "BeesSting$Flight" "hour" "I").before args s = true) (hdg : decode cc pc = .ok (.getfield index, 3)) (kk : W p l e R s m args below meth c H locs cells slots Q (F0 m (pc + 3) ls (.int x :: rest))) : W p l e R s m args below meth c H locs cells slots Q (F0 m (pc) ls (.ref (fa f) :: rest)) := by
  subst hv
  exact va_get (ci := 3) (C := RX3) (T := TX3) (N := 11) hx hb hg us3 hown hK hP (41 + 2 * f) (fl_o hf) rfl 3 (by decide) hl (fun _ h9 => h9) rfl hdg kk
theorem pf_fl_hour {f : Nat} (hf : f < 18) (hx : p.tables.exec = Jvm.exec) (hb : c.code = cc) (hg : ∀ w ∈ gw, w.before args s = true) (hown : s.vm.findClass own = some m.cls) (hK : va_K D vwCl (TY cs) s) (hP : va_P D vwCl (CW cs ad fa fq rv v a w fv fp) H) (hD : va_D A (CW cs ad fa fq rv v a w fv fp)) (hS : va_S A H0 H locs) {x : Int32} (hl : (Cond.fieldLink own index "BeesSting$Flight" "hour" "I").before args s = true) (hdg : decode cc pc = .ok (.putfield index, 3)) (kk : ∀ (H1 : Heap) (l1 : List Loc), va_P D vwCl (CW cs ad fa fq rv v a w (va_up fv f (va_up (fv f) 0 x)) fp) H1 → va_D A (CW cs ad fa fq rv v a w (va_up fv f (va_up (fv f) 0 x)) fp) → va_S A H0 H1 l1 → W p l e R s m args below meth c H1 l1 cells slots Q (F0 m (pc + 3) ls (rest))) : W p l e R s m args below meth c H locs cells slots Q (F0 m (pc) ls (.int x :: .ref (fa f) :: rest)) :=
  va_put (ci := 3) (ty := .int) (C := RX3) (T := TX3) (N := 11) hx hb hg us3 tyX3 tyX3_ok nmX3 hown hK hP hD hS (41 + 2 * f) (fl_o hf) rfl 3 (by decide) hl (fun _ h9 => h9) rfl (by decide +kernel) rfl rfl (Nat.le_of_ble_eq_true rfl) hdg (fun H1 l1 q1 q2 q3 => kk H1 l1 ((fl_so (k := 0) hf (by decide)) ▸ q1) ((fl_so (k := 0) hf (by decide)) ▸ q2) q3)
theorem gf_fl_swarm {f : Nat} (hf : f < 18) (hx : p.tables.exec = Jvm.exec) (hb : c.code = cc) (hg : ∀ w ∈ gw, w.before args s = true) (hown : s.vm.findClass own = some m.cls) (hK : va_K D vwCl (TY cs) s) (hP : va_P D vwCl (CW cs ad fa fq rv v a w fv fp) H) {x : Int32} (hv : fv f 1 = x) (hl : (Cond.fieldLink own index "BeesSting$Flight" "swarm" "I").before args s = true) (hdg : decode cc pc = .ok (.getfield index, 3)) (kk : W p l e R s m args below meth c H locs cells slots Q (F0 m (pc + 3) ls (.int x :: rest))) : W p l e R s m args below meth c H locs cells slots Q (F0 m (pc) ls (.ref (fa f) :: rest)) := by
  subst hv
  exact va_get (ci := 3) (C := RX3) (T := TX3) (N := 11) hx hb hg us3 hown hK hP (41 + 2 * f) (fl_o hf) rfl 4 (by decide) hl (fun _ h9 => h9) rfl hdg kk
theorem pf_fl_swarm {f : Nat} (hf : f < 18) (hx : p.tables.exec = Jvm.exec) (hb : c.code = cc) (hg : ∀ w ∈ gw, w.before args s = true) (hown : s.vm.findClass own = some m.cls) (hK : va_K D vwCl (TY cs) s) (hP : va_P D vwCl (CW cs ad fa fq rv v a w fv fp) H) (hD : va_D A (CW cs ad fa fq rv v a w fv fp)) (hS : va_S A H0 H locs) {x : Int32} (hl : (Cond.fieldLink own index "BeesSting$Flight" "swarm" "I").before args s = true) (hdg : decode cc pc = .ok (.putfield index, 3)) (kk : ∀ (H1 : Heap) (l1 : List Loc), va_P D vwCl (CW cs ad fa fq rv v a w (va_up fv f (va_up (fv f) 1 x)) fp) H1 → va_D A (CW cs ad fa fq rv v a w (va_up fv f (va_up (fv f) 1 x)) fp) → va_S A H0 H1 l1 → W p l e R s m args below meth c H1 l1 cells slots Q (F0 m (pc + 3) ls (rest))) : W p l e R s m args below meth c H locs cells slots Q (F0 m (pc) ls (.int x :: .ref (fa f) :: rest)) :=
  va_put (ci := 3) (ty := .int) (C := RX3) (T := TX3) (N := 11) hx hb hg us3 tyX3 tyX3_ok nmX3 hown hK hP hD hS (41 + 2 * f) (fl_o hf) rfl 4 (by decide) hl (fun _ h9 => h9) rfl (by decide +kernel) rfl rfl (Nat.le_of_ble_eq_true rfl) hdg (fun H1 l1 q1 q2 q3 => kk H1 l1 ((fl_so (k := 1) hf (by decide)) ▸ q1) ((fl_so (k := 1) hf (by decide)) ▸ q2) q3)
theorem gf_fl_liar {f : Nat} (hf : f < 18) (hx : p.tables.exec = Jvm.exec) (hb : c.code = cc) (hg : ∀ w ∈ gw, w.before args s = true) (hown : s.vm.findClass own = some m.cls) (hK : va_K D vwCl (TY cs) s) (hP : va_P D vwCl (CW cs ad fa fq rv v a w fv fp) H) {x : Int32} (hv : fv f 2 = x) (hl : (Cond.fieldLink own index "BeesSting$Flight" "liar" "I").before args s = true) (hdg : decode cc pc = .ok (.getfield index, 3)) (kk : W p l e R s m args below meth c H locs cells slots Q (F0 m (pc + 3) ls (.int x :: rest))) : W p l e R s m args below meth c H locs cells slots Q (F0 m (pc) ls (.ref (fa f) :: rest)) := by
  subst hv
  exact va_get (ci := 3) (C := RX3) (T := TX3) (N := 11) hx hb hg us3 hown hK hP (41 + 2 * f) (fl_o hf) rfl 5 (by decide) hl (fun _ h9 => h9) rfl hdg kk
theorem pf_fl_liar {f : Nat} (hf : f < 18) (hx : p.tables.exec = Jvm.exec) (hb : c.code = cc) (hg : ∀ w ∈ gw, w.before args s = true) (hown : s.vm.findClass own = some m.cls) (hK : va_K D vwCl (TY cs) s) (hP : va_P D vwCl (CW cs ad fa fq rv v a w fv fp) H) (hD : va_D A (CW cs ad fa fq rv v a w fv fp)) (hS : va_S A H0 H locs) {x : Int32} (hl : (Cond.fieldLink own index "BeesSting$Flight" "liar" "I").before args s = true) (hdg : decode cc pc = .ok (.putfield index, 3)) (kk : ∀ (H1 : Heap) (l1 : List Loc), va_P D vwCl (CW cs ad fa fq rv v a w (va_up fv f (va_up (fv f) 2 x)) fp) H1 → va_D A (CW cs ad fa fq rv v a w (va_up fv f (va_up (fv f) 2 x)) fp) → va_S A H0 H1 l1 → W p l e R s m args below meth c H1 l1 cells slots Q (F0 m (pc + 3) ls (rest))) : W p l e R s m args below meth c H locs cells slots Q (F0 m (pc) ls (.int x :: .ref (fa f) :: rest)) :=
  va_put (ci := 3) (ty := .int) (C := RX3) (T := TX3) (N := 11) hx hb hg us3 tyX3 tyX3_ok nmX3 hown hK hP hD hS (41 + 2 * f) (fl_o hf) rfl 5 (by decide) hl (fun _ h9 => h9) rfl (by decide +kernel) rfl rfl (Nat.le_of_ble_eq_true rfl) hdg (fun H1 l1 q1 q2 q3 => kk H1 l1 ((fl_so (k := 2) hf (by decide)) ▸ q1) ((fl_so (k := 2) hf (by decide)) ▸ q2) q3)
theorem gf_fl_sayings {f : Nat} (hf : f < 18) (hx : p.tables.exec = Jvm.exec) (hb : c.code = cc) (hg : ∀ w ∈ gw, w.before args s = true) (hown : s.vm.findClass own = some m.cls) (hK : va_K D vwCl (TY cs) s) (hP : va_P D vwCl (CW cs ad fa fq rv v a w fv fp) H) {x : Int32} (hv : fv f 3 = x) (hl : (Cond.fieldLink own index "BeesSting$Flight" "sayings" "I").before args s = true) (hdg : decode cc pc = .ok (.getfield index, 3)) (kk : W p l e R s m args below meth c H locs cells slots Q (F0 m (pc + 3) ls (.int x :: rest))) : W p l e R s m args below meth c H locs cells slots Q (F0 m (pc) ls (.ref (fa f) :: rest)) := by
  subst hv
  exact va_get (ci := 3) (C := RX3) (T := TX3) (N := 11) hx hb hg us3 hown hK hP (41 + 2 * f) (fl_o hf) rfl 6 (by decide) hl (fun _ h9 => h9) rfl hdg kk
theorem pf_fl_sayings {f : Nat} (hf : f < 18) (hx : p.tables.exec = Jvm.exec) (hb : c.code = cc) (hg : ∀ w ∈ gw, w.before args s = true) (hown : s.vm.findClass own = some m.cls) (hK : va_K D vwCl (TY cs) s) (hP : va_P D vwCl (CW cs ad fa fq rv v a w fv fp) H) (hD : va_D A (CW cs ad fa fq rv v a w fv fp)) (hS : va_S A H0 H locs) {x : Int32} (hl : (Cond.fieldLink own index "BeesSting$Flight" "sayings" "I").before args s = true) (hdg : decode cc pc = .ok (.putfield index, 3)) (kk : ∀ (H1 : Heap) (l1 : List Loc), va_P D vwCl (CW cs ad fa fq rv v a w (va_up fv f (va_up (fv f) 3 x)) fp) H1 → va_D A (CW cs ad fa fq rv v a w (va_up fv f (va_up (fv f) 3 x)) fp) → va_S A H0 H1 l1 → W p l e R s m args below meth c H1 l1 cells slots Q (F0 m (pc + 3) ls (rest))) : W p l e R s m args below meth c H locs cells slots Q (F0 m (pc) ls (.int x :: .ref (fa f) :: rest)) :=
  va_put (ci := 3) (ty := .int) (C := RX3) (T := TX3) (N := 11) hx hb hg us3 tyX3 tyX3_ok nmX3 hown hK hP hD hS (41 + 2 * f) (fl_o hf) rfl 6 (by decide) hl (fun _ h9 => h9) rfl (by decide +kernel) rfl rfl (Nat.le_of_ble_eq_true rfl) hdg (fun H1 l1 q1 q2 q3 => kk H1 l1 ((fl_so (k := 3) hf (by decide)) ▸ q1) ((fl_so (k := 3) hf (by decide)) ▸ q2) q3)
theorem gf_fl_lies {f : Nat} (hf : f < 18) (hx : p.tables.exec = Jvm.exec) (hb : c.code = cc) (hg : ∀ w ∈ gw, w.before args s = true) (hown : s.vm.findClass own = some m.cls) (hK : va_K D vwCl (TY cs) s) (hP : va_P D vwCl (CW cs ad fa fq rv v a w fv fp) H) {x : Int32} (hv : fv f 4 = x) (hl : (Cond.fieldLink own index "BeesSting$Flight" "lies" "I").before args s = true) (hdg : decode cc pc = .ok (.getfield index, 3)) (kk : W p l e R s m args below meth c H locs cells slots Q (F0 m (pc + 3) ls (.int x :: rest))) : W p l e R s m args below meth c H locs cells slots Q (F0 m (pc) ls (.ref (fa f) :: rest)) := by
  subst hv
  exact va_get (ci := 3) (C := RX3) (T := TX3) (N := 11) hx hb hg us3 hown hK hP (41 + 2 * f) (fl_o hf) rfl 7 (by decide) hl (fun _ h9 => h9) rfl hdg kk
theorem pf_fl_lies {f : Nat} (hf : f < 18) (hx : p.tables.exec = Jvm.exec) (hb : c.code = cc) (hg : ∀ w ∈ gw, w.before args s = true) (hown : s.vm.findClass own = some m.cls) (hK : va_K D vwCl (TY cs) s) (hP : va_P D vwCl (CW cs ad fa fq rv v a w fv fp) H) (hD : va_D A (CW cs ad fa fq rv v a w fv fp)) (hS : va_S A H0 H locs) {x : Int32} (hl : (Cond.fieldLink own index "BeesSting$Flight" "lies" "I").before args s = true) (hdg : decode cc pc = .ok (.putfield index, 3)) (kk : ∀ (H1 : Heap) (l1 : List Loc), va_P D vwCl (CW cs ad fa fq rv v a w (va_up fv f (va_up (fv f) 4 x)) fp) H1 → va_D A (CW cs ad fa fq rv v a w (va_up fv f (va_up (fv f) 4 x)) fp) → va_S A H0 H1 l1 → W p l e R s m args below meth c H1 l1 cells slots Q (F0 m (pc + 3) ls (rest))) : W p l e R s m args below meth c H locs cells slots Q (F0 m (pc) ls (.int x :: .ref (fa f) :: rest)) :=
  va_put (ci := 3) (ty := .int) (C := RX3) (T := TX3) (N := 11) hx hb hg us3 tyX3 tyX3_ok nmX3 hown hK hP hD hS (41 + 2 * f) (fl_o hf) rfl 7 (by decide) hl (fun _ h9 => h9) rfl (by decide +kernel) rfl rfl (Nat.le_of_ble_eq_true rfl) hdg (fun H1 l1 q1 q2 q3 => kk H1 l1 ((fl_so (k := 4) hf (by decide)) ▸ q1) ((fl_so (k := 4) hf (by decide)) ▸ q2) q3)
theorem gf_fl_louds {f : Nat} (hf : f < 18) (hx : p.tables.exec = Jvm.exec) (hb : c.code = cc) (hg : ∀ w ∈ gw, w.before args s = true) (hown : s.vm.findClass own = some m.cls) (hK : va_K D vwCl (TY cs) s) (hP : va_P D vwCl (CW cs ad fa fq rv v a w fv fp) H) {x : Int32} (hv : fv f 5 = x) (hl : (Cond.fieldLink own index "BeesSting$Flight" "louds" "I").before args s = true) (hdg : decode cc pc = .ok (.getfield index, 3)) (kk : W p l e R s m args below meth c H locs cells slots Q (F0 m (pc + 3) ls (.int x :: rest))) : W p l e R s m args below meth c H locs cells slots Q (F0 m (pc) ls (.ref (fa f) :: rest)) := by
  subst hv
  exact va_get (ci := 3) (C := RX3) (T := TX3) (N := 11) hx hb hg us3 hown hK hP (41 + 2 * f) (fl_o hf) rfl 8 (by decide) hl (fun _ h9 => h9) rfl hdg kk
theorem pf_fl_louds {f : Nat} (hf : f < 18) (hx : p.tables.exec = Jvm.exec) (hb : c.code = cc) (hg : ∀ w ∈ gw, w.before args s = true) (hown : s.vm.findClass own = some m.cls) (hK : va_K D vwCl (TY cs) s) (hP : va_P D vwCl (CW cs ad fa fq rv v a w fv fp) H) (hD : va_D A (CW cs ad fa fq rv v a w fv fp)) (hS : va_S A H0 H locs) {x : Int32} (hl : (Cond.fieldLink own index "BeesSting$Flight" "louds" "I").before args s = true) (hdg : decode cc pc = .ok (.putfield index, 3)) (kk : ∀ (H1 : Heap) (l1 : List Loc), va_P D vwCl (CW cs ad fa fq rv v a w (va_up fv f (va_up (fv f) 5 x)) fp) H1 → va_D A (CW cs ad fa fq rv v a w (va_up fv f (va_up (fv f) 5 x)) fp) → va_S A H0 H1 l1 → W p l e R s m args below meth c H1 l1 cells slots Q (F0 m (pc + 3) ls (rest))) : W p l e R s m args below meth c H locs cells slots Q (F0 m (pc) ls (.int x :: .ref (fa f) :: rest)) :=
  va_put (ci := 3) (ty := .int) (C := RX3) (T := TX3) (N := 11) hx hb hg us3 tyX3 tyX3_ok nmX3 hown hK hP hD hS (41 + 2 * f) (fl_o hf) rfl 8 (by decide) hl (fun _ h9 => h9) rfl (by decide +kernel) rfl rfl (Nat.le_of_ble_eq_true rfl) hdg (fun H1 l1 q1 q2 q3 => kk H1 l1 ((fl_so (k := 5) hf (by decide)) ▸ q1) ((fl_so (k := 5) hf (by decide)) ▸ q2) q3)
theorem gf_fl_stings {f : Nat} (hf : f < 18) (hx : p.tables.exec = Jvm.exec) (hb : c.code = cc) (hg : ∀ w ∈ gw, w.before args s = true) (hown : s.vm.findClass own = some m.cls) (hK : va_K D vwCl (TY cs) s) (hP : va_P D vwCl (CW cs ad fa fq rv v a w fv fp) H) {x : Int32} (hv : fv f 6 = x) (hl : (Cond.fieldLink own index "BeesSting$Flight" "stings" "I").before args s = true) (hdg : decode cc pc = .ok (.getfield index, 3)) (kk : W p l e R s m args below meth c H locs cells slots Q (F0 m (pc + 3) ls (.int x :: rest))) : W p l e R s m args below meth c H locs cells slots Q (F0 m (pc) ls (.ref (fa f) :: rest)) := by
  subst hv
  exact va_get (ci := 3) (C := RX3) (T := TX3) (N := 11) hx hb hg us3 hown hK hP (41 + 2 * f) (fl_o hf) rfl 9 (by decide) hl (fun _ h9 => h9) rfl hdg kk
theorem pf_fl_stings {f : Nat} (hf : f < 18) (hx : p.tables.exec = Jvm.exec) (hb : c.code = cc) (hg : ∀ w ∈ gw, w.before args s = true) (hown : s.vm.findClass own = some m.cls) (hK : va_K D vwCl (TY cs) s) (hP : va_P D vwCl (CW cs ad fa fq rv v a w fv fp) H) (hD : va_D A (CW cs ad fa fq rv v a w fv fp)) (hS : va_S A H0 H locs) {x : Int32} (hl : (Cond.fieldLink own index "BeesSting$Flight" "stings" "I").before args s = true) (hdg : decode cc pc = .ok (.putfield index, 3)) (kk : ∀ (H1 : Heap) (l1 : List Loc), va_P D vwCl (CW cs ad fa fq rv v a w (va_up fv f (va_up (fv f) 6 x)) fp) H1 → va_D A (CW cs ad fa fq rv v a w (va_up fv f (va_up (fv f) 6 x)) fp) → va_S A H0 H1 l1 → W p l e R s m args below meth c H1 l1 cells slots Q (F0 m (pc + 3) ls (rest))) : W p l e R s m args below meth c H locs cells slots Q (F0 m (pc) ls (.int x :: .ref (fa f) :: rest)) :=
  va_put (ci := 3) (ty := .int) (C := RX3) (T := TX3) (N := 11) hx hb hg us3 tyX3 tyX3_ok nmX3 hown hK hP hD hS (41 + 2 * f) (fl_o hf) rfl 9 (by decide) hl (fun _ h9 => h9) rfl (by decide +kernel) rfl rfl (Nat.le_of_ble_eq_true rfl) hdg (fun H1 l1 q1 q2 q3 => kk H1 l1 ((fl_so (k := 6) hf (by decide)) ▸ q1) ((fl_so (k := 6) hf (by decide)) ▸ q2) q3)
theorem gf_fl_hurts {f : Nat} (hf : f < 18) (hx : p.tables.exec = Jvm.exec) (hb : c.code = cc) (hg : ∀ w ∈ gw, w.before args s = true) (hown : s.vm.findClass own = some m.cls) (hK : va_K D vwCl (TY cs) s) (hP : va_P D vwCl (CW cs ad fa fq rv v a w fv fp) H) {x : Int32} (hv : fv f 7 = x) (hl : (Cond.fieldLink own index "BeesSting$Flight" "hurts" "I").before args s = true) (hdg : decode cc pc = .ok (.getfield index, 3)) (kk : W p l e R s m args below meth c H locs cells slots Q (F0 m (pc + 3) ls (.int x :: rest))) : W p l e R s m args below meth c H locs cells slots Q (F0 m (pc) ls (.ref (fa f) :: rest)) := by
  subst hv
  exact va_get (ci := 3) (C := RX3) (T := TX3) (N := 11) hx hb hg us3 hown hK hP (41 + 2 * f) (fl_o hf) rfl 10 (by decide) hl (fun _ h9 => h9) rfl hdg kk
theorem pf_fl_hurts {f : Nat} (hf : f < 18) (hx : p.tables.exec = Jvm.exec) (hb : c.code = cc) (hg : ∀ w ∈ gw, w.before args s = true) (hown : s.vm.findClass own = some m.cls) (hK : va_K D vwCl (TY cs) s) (hP : va_P D vwCl (CW cs ad fa fq rv v a w fv fp) H) (hD : va_D A (CW cs ad fa fq rv v a w fv fp)) (hS : va_S A H0 H locs) {x : Int32} (hl : (Cond.fieldLink own index "BeesSting$Flight" "hurts" "I").before args s = true) (hdg : decode cc pc = .ok (.putfield index, 3)) (kk : ∀ (H1 : Heap) (l1 : List Loc), va_P D vwCl (CW cs ad fa fq rv v a w (va_up fv f (va_up (fv f) 7 x)) fp) H1 → va_D A (CW cs ad fa fq rv v a w (va_up fv f (va_up (fv f) 7 x)) fp) → va_S A H0 H1 l1 → W p l e R s m args below meth c H1 l1 cells slots Q (F0 m (pc + 3) ls (rest))) : W p l e R s m args below meth c H locs cells slots Q (F0 m (pc) ls (.int x :: .ref (fa f) :: rest)) :=
  va_put (ci := 3) (ty := .int) (C := RX3) (T := TX3) (N := 11) hx hb hg us3 tyX3 tyX3_ok nmX3 hown hK hP hD hS (41 + 2 * f) (fl_o hf) rfl 10 (by decide) hl (fun _ h9 => h9) rfl (by decide +kernel) rfl rfl (Nat.le_of_ble_eq_true rfl) hdg (fun H1 l1 q1 q2 q3 => kk H1 l1 ((fl_so (k := 7) hf (by decide)) ▸ q1) ((fl_so (k := 7) hf (by decide)) ▸ q2) q3)
theorem ld_pads {f : Nat} (hf : f < 18) (hx : p.tables.exec = Jvm.exec) (hb : c.code = cc) (hK : va_K D vwCl (TY cs) s) (hP : va_P D vwCl (CW cs ad fa fq rv v a w fv fp) H) {i : Int32} (hi : vp_in i 8) (hdg : decode cc pc = .ok (.iaload, 1)) (kk : W p l e R s m args below meth c H locs cells slots Q (F0 m (pc + 1) ls (.int (fp f i.toNatClampNeg) :: rest))) : W p l e R s m args below meth c H locs cells slots Q (F0 m (pc) ls (.int i :: .ref (fq f) :: rest)) :=
  va_iald hx hb hK hP (42 + 2 * f) 0 (fl_p hf) rfl hi hdg kk
theorem st_pads {f : Nat} (hf : f < 18) (hx : p.tables.exec = Jvm.exec) (hb : c.code = cc) (hK : va_K D vwCl (TY cs) s) (hP : va_P D vwCl (CW cs ad fa fq rv v a w fv fp) H) (hD : va_D A (CW cs ad fa fq rv v a w fv fp)) (hS : va_S A H0 H locs) {i x : Int32} (hi : vp_in i 8) (hdg : decode cc pc = .ok (.iastore, 1)) (kk : ∀ (H1 : Heap) (l1 : List Loc), va_P D vwCl (CW cs ad fa fq rv v a w fv (va_up fp f (upd (fp f) i.toNatClampNeg x))) H1 → va_D A (CW cs ad fa fq rv v a w fv (va_up fp f (upd (fp f) i.toNatClampNeg x))) → va_S A H0 H1 l1 → W p l e R s m args below meth c H1 l1 cells slots Q (F0 m (pc + 1) ls (rest))) : W p l e R s m args below meth c H locs cells slots Q (F0 m (pc) ls (.int x :: .int i :: .ref (fq f) :: rest)) :=
  va_iast hx hb hK hP hD hS (42 + 2 * f) 0 (fl_p hf) rfl hi hdg (fun H1 l1 q1 q2 q3 => kk H1 l1 ((fl_sp hf) ▸ q1) ((fl_sp hf) ▸ q2) q3)
theorem ld_flights (hx : p.tables.exec = Jvm.exec) (hb : c.code = cc) (hK : va_K D vwCl (TY cs) s) (hP : va_P D vwCl (CW cs ad fa fq rv v a w fv fp) H) {i : Int32} (hi : vp_in i 14) (hdg : decode cc pc = .ok (.aaload, 1)) (kk : W p l e R s m args below meth c H locs cells slots Q (F0 m (pc + 1) ls (.ref (fa i.toNatClampNeg) :: rest))) : W p l e R s m args below meth c H locs cells slots Q (F0 m (pc) ls (.int i :: .ref (ad 40) :: rest)) := by
  have hlt : i.toNatClampNeg < 14 := Nat.not_le.mp fun q => hi (Or.inr q)
  refine va_aldq hx hb hK hP 40 2 rfl rfl hi hdg ?_
  simpa [hlt, va_rf] using kk
theorem lw_o {r : Nat} (hr : r < 6) : (CW cs ad fa fq rv v a w fv fp)[31 + r]? = some (ad (31 + r), .inl (cs 1, 60, .inr (.inl (w r)))) := match r, hr with
  | 0, _ => rfl
  | 1, _ => rfl
  | 2, _ => rfl
  | 3, _ => rfl
  | 4, _ => rfl
  | 5, _ => rfl
  | r + 6, hr => absurd hr (by omega)
theorem lw_s {r : Nat} {g : Nat → Int64} (hr : r < 6) : (CW cs ad fa fq rv v a w fv fp).set (31 + r) (ad (31 + r), .inl (cs 1, 60, .inr (.inl g))) = CW cs ad fa fq rv v a (va_up w r g) fv fp := match r, hr with
  | 0, _ => rfl
  | 1, _ => rfl
  | 2, _ => rfl
  | 3, _ => rfl
  | 4, _ => rfl
  | 5, _ => rfl
  | r + 6, hr => absurd hr (by omega)
theorem ld_row {r : Nat} (hr : r < 6) (hx : p.tables.exec = Jvm.exec) (hb : c.code = cc) (hK : va_K D vwCl (TY cs) s) (hP : va_P D vwCl (CW cs ad fa fq rv v a w fv fp) H) {i : Int32} (hi : vp_in i 60) (hdg : decode cc pc = .ok (.laload, 1)) (kk : W p l e R s m args below meth c H locs cells slots Q (F0 m (pc + 1) ls (.long (w r i.toNatClampNeg) :: rest))) : W p l e R s m args below meth c H locs cells slots Q (F0 m (pc) ls (.int i :: .ref (ad (31 + r)) :: rest)) :=
  va_lald hx hb hK hP (31 + r) 1 (lw_o hr) rfl hi hdg kk
theorem st_row {r : Nat} (hr : r < 6) (hx : p.tables.exec = Jvm.exec) (hb : c.code = cc) (hK : va_K D vwCl (TY cs) s) (hP : va_P D vwCl (CW cs ad fa fq rv v a w fv fp) H) (hD : va_D A (CW cs ad fa fq rv v a w fv fp)) (hS : va_S A H0 H locs) {i : Int32} {x : Int64} (hi : vp_in i 60) (hdg : decode cc pc = .ok (.lastore, 1)) (kk : ∀ (H1 : Heap) (l1 : List Loc), va_P D vwCl (CW cs ad fa fq rv v a (va_up w r (vp_updL (w r) i.toNatClampNeg x)) fv fp) H1 → va_D A (CW cs ad fa fq rv v a (va_up w r (vp_updL (w r) i.toNatClampNeg x)) fv fp) → va_S A H0 H1 l1 → W p l e R s m args below meth c H1 l1 cells slots Q (F0 m (pc + 1) ls (rest))) : W p l e R s m args below meth c H locs cells slots Q (F0 m (pc) ls (.long x :: .int i :: .ref (ad (31 + r)) :: rest)) :=
  va_last hx hb hK hP hD hS (31 + r) 1 (lw_o hr) rfl hi hdg (fun H1 l1 q1 q2 q3 => kk H1 l1 ((lw_s hr) ▸ q1) ((lw_s hr) ▸ q2) q3)
end CWrows
end
section
abbrev RWt := (Nat → Int32) × (Nat → Nat → Int32) × (Nat → Nat → Int64)
def RW (cs : Nat → ClassId) (bd : Nat → Nat) (u : Nat → Int32) (b : Nat → Nat → Int32) (bw : Nat → Nat → Int64) : va_W := [
  (bd 0, .inr (12, [.int (u 0), .int (u 1), .ref (bd 2), .ref (bd 3), .ref (bd 4), .ref (bd 5), .ref (bd 6), .int (u 7), .int (u 8), .int (u 9), .ref (bd 10), .ref (bd 11), .ref (bd 12), .ref (bd 13), .ref (bd 14), .int (u 15), .int (u 16), .int (u 17), .int (u 18), .int (u 19), .ref (bd 20), .ref (bd 21), .ref (bd 22), .ref (bd 23), .ref (bd 24), .ref (bd 25), .ref (bd 26), .int (u 27), .int (u 28), .int (u 29), .int (u 30), .int (u 31), .ref (bd 32), .int (u 33), .int (u 34), .int (u 35), .ref (bd 36), .ref (bd 37), .ref (bd 38), .ref (bd 39), .ref (bd 40), .int (u 41), .int (u 42), .int (u 43), .int (u 44), .int (u 45), .int (u 46), .int (u 47), .int (u 48), .int (u 49), .int (u 50), .int (u 51), .int (u 52), .ref (bd 53), .int (u 54), .int (u 55), .int (u 56), .int (u 57), .int (u 58), .ref (bd 59), .ref (bd 60), .ref (bd 61), .int (u 62), .ref (bd 63), .int (u 64), .ref (bd 65), .ref (bd 66), .ref (bd 67), .ref (bd 68), .ref (bd 69)])),
  (bd 2, .inl (cs 0, 8, .inl (b 2))),
  (bd 3, .inl (cs 0, 8, .inl (b 3))),
  (bd 4, .inl (cs 0, 8, .inl (b 4))),
  (bd 5, .inl (cs 0, 8, .inl (b 5))),
  (bd 6, .inl (cs 0, 4, .inl (b 6))),
  (bd 10, .inl (cs 0, 40, .inl (b 10))),
  (bd 11, .inl (cs 0, 40, .inl (b 11))),
  (bd 12, .inl (cs 0, 40, .inl (b 12))),
  (bd 13, .inl (cs 0, 40, .inl (b 13))),
  (bd 14, .inl (cs 5, 120, .inl (b 14))),
  (bd 20, .inl (cs 5, 260, .inl (b 20))),
  (bd 21, .inl (cs 0, 260, .inl (b 21))),
  (bd 22, .inl (cs 0, 2, .inl (b 22))),
  (bd 23, .inl (cs 4, 122, .inl (b 23))),
  (bd 24, .inl (cs 4, 122, .inl (b 24))),
  (bd 25, .inl (cs 0, 6, .inl (b 25))),
  (bd 26, .inl (cs 0, 130, .inl (b 26))),
  (bd 32, .inl (cs 0, 8, .inl (b 32))),
  (bd 36, .inl (cs 0, 8, .inl (b 36))),
  (bd 37, .inl (cs 0, 8, .inl (b 37))),
  (bd 38, .inl (cs 0, 8, .inl (b 38))),
  (bd 39, .inl (cs 0, 7, .inl (b 39))),
  (bd 40, .inl (cs 0, 7, .inl (b 40))),
  (bd 53, .inl (cs 0, 5, .inl (b 53))),
  (bd 59, .inl (cs 0, 8, .inl (b 59))),
  (bd 60, .inl (cs 0, 8, .inl (b 60))),
  (bd 61, .inl (cs 0, 5, .inl (b 61))),
  (bd 63, .inl (cs 0, 50, .inl (b 63))),
  (bd 65, .inl (cs 0, 24, .inl (b 65))),
  (bd 66, .inl (cs 0, 6, .inl (b 66))),
  (bd 67, .inl (cs 0, 6, .inl (b 67))),
  (bd 68, .inl (cs 1, 360, .inr (.inl (bw 68)))),
  (bd 69, .inl (cs 1, 60, .inr (.inl (bw 69))))]
def RWf (cs : Nat → ClassId) (bd : Nat → Nat) (z : RWt) : va_W := RW cs bd z.1 z.2.1 z.2.2
section RWrows
variable {p : Program} {l : Launch} {e : Env} {R : Room} {s : State} {m : MethodId} {args : Array Value} {below : List Frame} {meth : Method} {c : Code} {H : Heap} {locs : List Loc} {cells slots : Nat} {Q : State → Prop}
variable {cc : ByteArray} {pc index : Nat} {ls : Array Slot} {rest : List Value} {A : Nat → Prop} {H0 : Heap} {own : String} {D : va_G} {cs : Nat → ClassId}
variable {bd : Nat → Nat} {u : Nat → Int32} {b : Nat → Nat → Int32} {bw : Nat → Nat → Int64}
theorem gr_code (hx : p.tables.exec = Jvm.exec) (hb : c.code = cc) (hg : ∀ w ∈ gw, w.before args s = true) (hown : s.vm.findClass own = some m.cls) (hK : va_K D vwCl (TY cs) s) (hP : va_P D vwCl (RW cs bd u b bw) H) {x : Int32} (hv : u 0 = x) (hl : (Cond.fieldLink own index "BeesStingModel" "code" "I").before args s = true) (hdg : decode cc pc = .ok (.getfield index, 3)) (kk : W p l e R s m args below meth c H locs cells slots Q (F0 m (pc + 3) ls (.int x :: rest))) : W p l e R s m args below meth c H locs cells slots Q (F0 m (pc) ls (.ref (bd 0) :: rest)) := by
  subst hv
  exact va_get (ci := 12) (C := RX12) (T := TX12) (N := 70) hx hb hg us12 hown hK hP 0 rfl rfl 0 (by decide) hl (fun _ h9 => h9) rfl hdg kk
theorem pr_code (hx : p.tables.exec = Jvm.exec) (hb : c.code = cc) (hg : ∀ w ∈ gw, w.before args s = true) (hown : s.vm.findClass own = some m.cls) (hK : va_K D vwCl (TY cs) s) (hP : va_P D vwCl (RW cs bd u b bw) H) (hD : va_D A (RW cs bd u b bw)) (hS : va_S A H0 H locs) {x : Int32} (hl : (Cond.fieldLink own index "BeesStingModel" "code" "I").before args s = true) (hdg : decode cc pc = .ok (.putfield index, 3)) (kk : ∀ (H1 : Heap) (l1 : List Loc), va_P D vwCl (RW cs bd (va_up u 0 x) b bw) H1 → va_D A (RW cs bd (va_up u 0 x) b bw) → va_S A H0 H1 l1 → W p l e R s m args below meth c H1 l1 cells slots Q (F0 m (pc + 3) ls (rest))) : W p l e R s m args below meth c H locs cells slots Q (F0 m (pc) ls (.int x :: .ref (bd 0) :: rest)) :=
  va_put (ci := 12) (ty := .int) (C := RX12) (T := TX12) (N := 70) hx hb hg us12 tyX12 tyX12_ok nmX12 hown hK hP hD hS 0 rfl rfl 0 (by decide) hl (fun _ h9 => h9) rfl (by decide +kernel) rfl rfl (Nat.le_of_ble_eq_true rfl) hdg (fun H1 l1 q1 q2 q3 => kk H1 l1 q1 q2 q3)
theorem gr_people1 (hx : p.tables.exec = Jvm.exec) (hb : c.code = cc) (hg : ∀ w ∈ gw, w.before args s = true) (hown : s.vm.findClass own = some m.cls) (hK : va_K D vwCl (TY cs) s) (hP : va_P D vwCl (RW cs bd u b bw) H) {x : Int32} (hv : u 1 = x) (hl : (Cond.fieldLink own index "BeesStingModel" "people1" "I").before args s = true) (hdg : decode cc pc = .ok (.getfield index, 3)) (kk : W p l e R s m args below meth c H locs cells slots Q (F0 m (pc + 3) ls (.int x :: rest))) : W p l e R s m args below meth c H locs cells slots Q (F0 m (pc) ls (.ref (bd 0) :: rest)) := by
  subst hv
  exact va_get (ci := 12) (C := RX12) (T := TX12) (N := 70) hx hb hg us12 hown hK hP 0 rfl rfl 1 (by decide) hl (fun _ h9 => h9) rfl hdg kk
theorem pr_people1 (hx : p.tables.exec = Jvm.exec) (hb : c.code = cc) (hg : ∀ w ∈ gw, w.before args s = true) (hown : s.vm.findClass own = some m.cls) (hK : va_K D vwCl (TY cs) s) (hP : va_P D vwCl (RW cs bd u b bw) H) (hD : va_D A (RW cs bd u b bw)) (hS : va_S A H0 H locs) {x : Int32} (hl : (Cond.fieldLink own index "BeesStingModel" "people1" "I").before args s = true) (hdg : decode cc pc = .ok (.putfield index, 3)) (kk : ∀ (H1 : Heap) (l1 : List Loc), va_P D vwCl (RW cs bd (va_up u 1 x) b bw) H1 → va_D A (RW cs bd (va_up u 1 x) b bw) → va_S A H0 H1 l1 → W p l e R s m args below meth c H1 l1 cells slots Q (F0 m (pc + 3) ls (rest))) : W p l e R s m args below meth c H locs cells slots Q (F0 m (pc) ls (.int x :: .ref (bd 0) :: rest)) :=
  va_put (ci := 12) (ty := .int) (C := RX12) (T := TX12) (N := 70) hx hb hg us12 tyX12 tyX12_ok nmX12 hown hK hP hD hS 0 rfl rfl 1 (by decide) hl (fun _ h9 => h9) rfl (by decide +kernel) rfl rfl (Nat.le_of_ble_eq_true rfl) hdg (fun H1 l1 q1 q2 q3 => kk H1 l1 q1 q2 q3)
theorem gr_cellOf (hx : p.tables.exec = Jvm.exec) (hb : c.code = cc) (hg : ∀ w ∈ gw, w.before args s = true) (hown : s.vm.findClass own = some m.cls) (hK : va_K D vwCl (TY cs) s) (hP : va_P D vwCl (RW cs bd u b bw) H) (hl : (Cond.fieldLink own index "BeesStingModel" "cellOf" "[I").before args s = true) (hdg : decode cc pc = .ok (.getfield index, 3)) (kk : W p l e R s m args below meth c H locs cells slots Q (F0 m (pc + 3) ls (.ref (bd 2) :: rest))) : W p l e R s m args below meth c H locs cells slots Q (F0 m (pc) ls (.ref (bd 0) :: rest)) :=
  va_get (ci := 12) (C := RX12) (T := TX12) (N := 70) hx hb hg us12 hown hK hP 0 rfl rfl 2 (by decide) hl (fun _ h9 => h9) rfl hdg kk
theorem gr_cheek (hx : p.tables.exec = Jvm.exec) (hb : c.code = cc) (hg : ∀ w ∈ gw, w.before args s = true) (hown : s.vm.findClass own = some m.cls) (hK : va_K D vwCl (TY cs) s) (hP : va_P D vwCl (RW cs bd u b bw) H) (hl : (Cond.fieldLink own index "BeesStingModel" "cheek" "[I").before args s = true) (hdg : decode cc pc = .ok (.getfield index, 3)) (kk : W p l e R s m args below meth c H locs cells slots Q (F0 m (pc + 3) ls (.ref (bd 3) :: rest))) : W p l e R s m args below meth c H locs cells slots Q (F0 m (pc) ls (.ref (bd 0) :: rest)) :=
  va_get (ci := 12) (C := RX12) (T := TX12) (N := 70) hx hb hg us12 hown hK hP 0 rfl rfl 3 (by decide) hl (fun _ h9 => h9) rfl hdg kk
theorem gr_pads (hx : p.tables.exec = Jvm.exec) (hb : c.code = cc) (hg : ∀ w ∈ gw, w.before args s = true) (hown : s.vm.findClass own = some m.cls) (hK : va_K D vwCl (TY cs) s) (hP : va_P D vwCl (RW cs bd u b bw) H) (hl : (Cond.fieldLink own index "BeesStingModel" "pads" "[I").before args s = true) (hdg : decode cc pc = .ok (.getfield index, 3)) (kk : W p l e R s m args below meth c H locs cells slots Q (F0 m (pc + 3) ls (.ref (bd 4) :: rest))) : W p l e R s m args below meth c H locs cells slots Q (F0 m (pc) ls (.ref (bd 0) :: rest)) :=
  va_get (ci := 12) (C := RX12) (T := TX12) (N := 70) hx hb hg us12 hown hK hP 0 rfl rfl 4 (by decide) hl (fun _ h9 => h9) rfl hdg kk
theorem gr_pay (hx : p.tables.exec = Jvm.exec) (hb : c.code = cc) (hg : ∀ w ∈ gw, w.before args s = true) (hown : s.vm.findClass own = some m.cls) (hK : va_K D vwCl (TY cs) s) (hP : va_P D vwCl (RW cs bd u b bw) H) (hl : (Cond.fieldLink own index "BeesStingModel" "pay" "[I").before args s = true) (hdg : decode cc pc = .ok (.getfield index, 3)) (kk : W p l e R s m args below meth c H locs cells slots Q (F0 m (pc + 3) ls (.ref (bd 5) :: rest))) : W p l e R s m args below meth c H locs cells slots Q (F0 m (pc) ls (.ref (bd 0) :: rest)) :=
  va_get (ci := 12) (C := RX12) (T := TX12) (N := 70) hx hb hg us12 hown hK hP 0 rfl rfl 5 (by decide) hl (fun _ h9 => h9) rfl hdg kk
theorem gr_told (hx : p.tables.exec = Jvm.exec) (hb : c.code = cc) (hg : ∀ w ∈ gw, w.before args s = true) (hown : s.vm.findClass own = some m.cls) (hK : va_K D vwCl (TY cs) s) (hP : va_P D vwCl (RW cs bd u b bw) H) (hl : (Cond.fieldLink own index "BeesStingModel" "told" "[I").before args s = true) (hdg : decode cc pc = .ok (.getfield index, 3)) (kk : W p l e R s m args below meth c H locs cells slots Q (F0 m (pc + 3) ls (.ref (bd 6) :: rest))) : W p l e R s m args below meth c H locs cells slots Q (F0 m (pc) ls (.ref (bd 0) :: rest)) :=
  va_get (ci := 12) (C := RX12) (T := TX12) (N := 70) hx hb hg us12 hown hK hP 0 rfl rfl 6 (by decide) hl (fun _ h9 => h9) rfl hdg kk
theorem gr_liar (hx : p.tables.exec = Jvm.exec) (hb : c.code = cc) (hg : ∀ w ∈ gw, w.before args s = true) (hown : s.vm.findClass own = some m.cls) (hK : va_K D vwCl (TY cs) s) (hP : va_P D vwCl (RW cs bd u b bw) H) {x : Int32} (hv : u 7 = x) (hl : (Cond.fieldLink own index "BeesStingModel" "liar" "I").before args s = true) (hdg : decode cc pc = .ok (.getfield index, 3)) (kk : W p l e R s m args below meth c H locs cells slots Q (F0 m (pc + 3) ls (.int x :: rest))) : W p l e R s m args below meth c H locs cells slots Q (F0 m (pc) ls (.ref (bd 0) :: rest)) := by
  subst hv
  exact va_get (ci := 12) (C := RX12) (T := TX12) (N := 70) hx hb hg us12 hown hK hP 0 rfl rfl 7 (by decide) hl (fun _ h9 => h9) rfl hdg kk
theorem pr_liar (hx : p.tables.exec = Jvm.exec) (hb : c.code = cc) (hg : ∀ w ∈ gw, w.before args s = true) (hown : s.vm.findClass own = some m.cls) (hK : va_K D vwCl (TY cs) s) (hP : va_P D vwCl (RW cs bd u b bw) H) (hD : va_D A (RW cs bd u b bw)) (hS : va_S A H0 H locs) {x : Int32} (hl : (Cond.fieldLink own index "BeesStingModel" "liar" "I").before args s = true) (hdg : decode cc pc = .ok (.putfield index, 3)) (kk : ∀ (H1 : Heap) (l1 : List Loc), va_P D vwCl (RW cs bd (va_up u 7 x) b bw) H1 → va_D A (RW cs bd (va_up u 7 x) b bw) → va_S A H0 H1 l1 → W p l e R s m args below meth c H1 l1 cells slots Q (F0 m (pc + 3) ls (rest))) : W p l e R s m args below meth c H locs cells slots Q (F0 m (pc) ls (.int x :: .ref (bd 0) :: rest)) :=
  va_put (ci := 12) (ty := .int) (C := RX12) (T := TX12) (N := 70) hx hb hg us12 tyX12 tyX12_ok nmX12 hown hK hP hD hS 0 rfl rfl 7 (by decide) hl (fun _ h9 => h9) rfl (by decide +kernel) rfl rfl (Nat.le_of_ble_eq_true rfl) hdg (fun H1 l1 q1 q2 q3 => kk H1 l1 q1 q2 q3)
theorem gr_doneMany (hx : p.tables.exec = Jvm.exec) (hb : c.code = cc) (hg : ∀ w ∈ gw, w.before args s = true) (hown : s.vm.findClass own = some m.cls) (hK : va_K D vwCl (TY cs) s) (hP : va_P D vwCl (RW cs bd u b bw) H) {x : Int32} (hv : u 8 = x) (hl : (Cond.fieldLink own index "BeesStingModel" "doneMany" "I").before args s = true) (hdg : decode cc pc = .ok (.getfield index, 3)) (kk : W p l e R s m args below meth c H locs cells slots Q (F0 m (pc + 3) ls (.int x :: rest))) : W p l e R s m args below meth c H locs cells slots Q (F0 m (pc) ls (.ref (bd 0) :: rest)) := by
  subst hv
  exact va_get (ci := 12) (C := RX12) (T := TX12) (N := 70) hx hb hg us12 hown hK hP 0 rfl rfl 8 (by decide) hl (fun _ h9 => h9) rfl hdg kk
theorem pr_doneMany (hx : p.tables.exec = Jvm.exec) (hb : c.code = cc) (hg : ∀ w ∈ gw, w.before args s = true) (hown : s.vm.findClass own = some m.cls) (hK : va_K D vwCl (TY cs) s) (hP : va_P D vwCl (RW cs bd u b bw) H) (hD : va_D A (RW cs bd u b bw)) (hS : va_S A H0 H locs) {x : Int32} (hl : (Cond.fieldLink own index "BeesStingModel" "doneMany" "I").before args s = true) (hdg : decode cc pc = .ok (.putfield index, 3)) (kk : ∀ (H1 : Heap) (l1 : List Loc), va_P D vwCl (RW cs bd (va_up u 8 x) b bw) H1 → va_D A (RW cs bd (va_up u 8 x) b bw) → va_S A H0 H1 l1 → W p l e R s m args below meth c H1 l1 cells slots Q (F0 m (pc + 3) ls (rest))) : W p l e R s m args below meth c H locs cells slots Q (F0 m (pc) ls (.int x :: .ref (bd 0) :: rest)) :=
  va_put (ci := 12) (ty := .int) (C := RX12) (T := TX12) (N := 70) hx hb hg us12 tyX12 tyX12_ok nmX12 hown hK hP hD hS 0 rfl rfl 8 (by decide) hl (fun _ h9 => h9) rfl (by decide +kernel) rfl rfl (Nat.le_of_ble_eq_true rfl) hdg (fun H1 l1 q1 q2 q3 => kk H1 l1 q1 q2 q3)
theorem gr_undoneMany (hx : p.tables.exec = Jvm.exec) (hb : c.code = cc) (hg : ∀ w ∈ gw, w.before args s = true) (hown : s.vm.findClass own = some m.cls) (hK : va_K D vwCl (TY cs) s) (hP : va_P D vwCl (RW cs bd u b bw) H) {x : Int32} (hv : u 9 = x) (hl : (Cond.fieldLink own index "BeesStingModel" "undoneMany" "I").before args s = true) (hdg : decode cc pc = .ok (.getfield index, 3)) (kk : W p l e R s m args below meth c H locs cells slots Q (F0 m (pc + 3) ls (.int x :: rest))) : W p l e R s m args below meth c H locs cells slots Q (F0 m (pc) ls (.ref (bd 0) :: rest)) := by
  subst hv
  exact va_get (ci := 12) (C := RX12) (T := TX12) (N := 70) hx hb hg us12 hown hK hP 0 rfl rfl 9 (by decide) hl (fun _ h9 => h9) rfl hdg kk
theorem pr_undoneMany (hx : p.tables.exec = Jvm.exec) (hb : c.code = cc) (hg : ∀ w ∈ gw, w.before args s = true) (hown : s.vm.findClass own = some m.cls) (hK : va_K D vwCl (TY cs) s) (hP : va_P D vwCl (RW cs bd u b bw) H) (hD : va_D A (RW cs bd u b bw)) (hS : va_S A H0 H locs) {x : Int32} (hl : (Cond.fieldLink own index "BeesStingModel" "undoneMany" "I").before args s = true) (hdg : decode cc pc = .ok (.putfield index, 3)) (kk : ∀ (H1 : Heap) (l1 : List Loc), va_P D vwCl (RW cs bd (va_up u 9 x) b bw) H1 → va_D A (RW cs bd (va_up u 9 x) b bw) → va_S A H0 H1 l1 → W p l e R s m args below meth c H1 l1 cells slots Q (F0 m (pc + 3) ls (rest))) : W p l e R s m args below meth c H locs cells slots Q (F0 m (pc) ls (.int x :: .ref (bd 0) :: rest)) :=
  va_put (ci := 12) (ty := .int) (C := RX12) (T := TX12) (N := 70) hx hb hg us12 tyX12 tyX12_ok nmX12 hown hK hP hD hS 0 rfl rfl 9 (by decide) hl (fun _ h9 => h9) rfl (by decide +kernel) rfl rfl (Nat.le_of_ble_eq_true rfl) hdg (fun H1 l1 q1 q2 q3 => kk H1 l1 q1 q2 q3)
theorem gr_changeOf (hx : p.tables.exec = Jvm.exec) (hb : c.code = cc) (hg : ∀ w ∈ gw, w.before args s = true) (hown : s.vm.findClass own = some m.cls) (hK : va_K D vwCl (TY cs) s) (hP : va_P D vwCl (RW cs bd u b bw) H) (hl : (Cond.fieldLink own index "BeesStingModel" "changeOf" "[I").before args s = true) (hdg : decode cc pc = .ok (.getfield index, 3)) (kk : W p l e R s m args below meth c H locs cells slots Q (F0 m (pc + 3) ls (.ref (bd 10) :: rest))) : W p l e R s m args below meth c H locs cells slots Q (F0 m (pc) ls (.ref (bd 0) :: rest)) :=
  va_get (ci := 12) (C := RX12) (T := TX12) (N := 70) hx hb hg us12 hown hK hP 0 rfl rfl 10 (by decide) hl (fun _ h9 => h9) rfl hdg kk
theorem gr_changeAt (hx : p.tables.exec = Jvm.exec) (hb : c.code = cc) (hg : ∀ w ∈ gw, w.before args s = true) (hown : s.vm.findClass own = some m.cls) (hK : va_K D vwCl (TY cs) s) (hP : va_P D vwCl (RW cs bd u b bw) H) (hl : (Cond.fieldLink own index "BeesStingModel" "changeAt" "[I").before args s = true) (hdg : decode cc pc = .ok (.getfield index, 3)) (kk : W p l e R s m args below meth c H locs cells slots Q (F0 m (pc + 3) ls (.ref (bd 11) :: rest))) : W p l e R s m args below meth c H locs cells slots Q (F0 m (pc) ls (.ref (bd 0) :: rest)) :=
  va_get (ci := 12) (C := RX12) (T := TX12) (N := 70) hx hb hg us12 hown hK hP 0 rfl rfl 11 (by decide) hl (fun _ h9 => h9) rfl hdg kk
theorem gr_before (hx : p.tables.exec = Jvm.exec) (hb : c.code = cc) (hg : ∀ w ∈ gw, w.before args s = true) (hown : s.vm.findClass own = some m.cls) (hK : va_K D vwCl (TY cs) s) (hP : va_P D vwCl (RW cs bd u b bw) H) (hl : (Cond.fieldLink own index "BeesStingModel" "before" "[I").before args s = true) (hdg : decode cc pc = .ok (.getfield index, 3)) (kk : W p l e R s m args below meth c H locs cells slots Q (F0 m (pc + 3) ls (.ref (bd 12) :: rest))) : W p l e R s m args below meth c H locs cells slots Q (F0 m (pc) ls (.ref (bd 0) :: rest)) :=
  va_get (ci := 12) (C := RX12) (T := TX12) (N := 70) hx hb hg us12 hown hK hP 0 rfl rfl 12 (by decide) hl (fun _ h9 => h9) rfl hdg kk
theorem gr_behind (hx : p.tables.exec = Jvm.exec) (hb : c.code = cc) (hg : ∀ w ∈ gw, w.before args s = true) (hown : s.vm.findClass own = some m.cls) (hK : va_K D vwCl (TY cs) s) (hP : va_P D vwCl (RW cs bd u b bw) H) (hl : (Cond.fieldLink own index "BeesStingModel" "behind" "[I").before args s = true) (hdg : decode cc pc = .ok (.getfield index, 3)) (kk : W p l e R s m args below meth c H locs cells slots Q (F0 m (pc + 3) ls (.ref (bd 13) :: rest))) : W p l e R s m args below meth c H locs cells slots Q (F0 m (pc) ls (.ref (bd 0) :: rest)) :=
  va_get (ci := 12) (C := RX12) (T := TX12) (N := 70) hx hb hg us12 hown hK hP 0 rfl rfl 13 (by decide) hl (fun _ h9 => h9) rfl hdg kk
theorem gr_tape (hx : p.tables.exec = Jvm.exec) (hb : c.code = cc) (hg : ∀ w ∈ gw, w.before args s = true) (hown : s.vm.findClass own = some m.cls) (hK : va_K D vwCl (TY cs) s) (hP : va_P D vwCl (RW cs bd u b bw) H) (hl : (Cond.fieldLink own index "BeesStingModel" "tape" "[B").before args s = true) (hdg : decode cc pc = .ok (.getfield index, 3)) (kk : W p l e R s m args below meth c H locs cells slots Q (F0 m (pc + 3) ls (.ref (bd 14) :: rest))) : W p l e R s m args below meth c H locs cells slots Q (F0 m (pc) ls (.ref (bd 0) :: rest)) :=
  va_get (ci := 12) (C := RX12) (T := TX12) (N := 70) hx hb hg us12 hown hK hP 0 rfl rfl 14 (by decide) hl (fun _ h9 => h9) rfl hdg kk
theorem gr_taped (hx : p.tables.exec = Jvm.exec) (hb : c.code = cc) (hg : ∀ w ∈ gw, w.before args s = true) (hown : s.vm.findClass own = some m.cls) (hK : va_K D vwCl (TY cs) s) (hP : va_P D vwCl (RW cs bd u b bw) H) {x : Int32} (hv : u 15 = x) (hl : (Cond.fieldLink own index "BeesStingModel" "taped" "I").before args s = true) (hdg : decode cc pc = .ok (.getfield index, 3)) (kk : W p l e R s m args below meth c H locs cells slots Q (F0 m (pc + 3) ls (.int x :: rest))) : W p l e R s m args below meth c H locs cells slots Q (F0 m (pc) ls (.ref (bd 0) :: rest)) := by
  subst hv
  exact va_get (ci := 12) (C := RX12) (T := TX12) (N := 70) hx hb hg us12 hown hK hP 0 rfl rfl 15 (by decide) hl (fun _ h9 => h9) rfl hdg kk
theorem pr_taped (hx : p.tables.exec = Jvm.exec) (hb : c.code = cc) (hg : ∀ w ∈ gw, w.before args s = true) (hown : s.vm.findClass own = some m.cls) (hK : va_K D vwCl (TY cs) s) (hP : va_P D vwCl (RW cs bd u b bw) H) (hD : va_D A (RW cs bd u b bw)) (hS : va_S A H0 H locs) {x : Int32} (hl : (Cond.fieldLink own index "BeesStingModel" "taped" "I").before args s = true) (hdg : decode cc pc = .ok (.putfield index, 3)) (kk : ∀ (H1 : Heap) (l1 : List Loc), va_P D vwCl (RW cs bd (va_up u 15 x) b bw) H1 → va_D A (RW cs bd (va_up u 15 x) b bw) → va_S A H0 H1 l1 → W p l e R s m args below meth c H1 l1 cells slots Q (F0 m (pc + 3) ls (rest))) : W p l e R s m args below meth c H locs cells slots Q (F0 m (pc) ls (.int x :: .ref (bd 0) :: rest)) :=
  va_put (ci := 12) (ty := .int) (C := RX12) (T := TX12) (N := 70) hx hb hg us12 tyX12 tyX12_ok nmX12 hown hK hP hD hS 0 rfl rfl 15 (by decide) hl (fun _ h9 => h9) rfl (by decide +kernel) rfl rfl (Nat.le_of_ble_eq_true rfl) hdg (fun H1 l1 q1 q2 q3 => kk H1 l1 q1 q2 q3)
theorem gr_here (hx : p.tables.exec = Jvm.exec) (hb : c.code = cc) (hg : ∀ w ∈ gw, w.before args s = true) (hown : s.vm.findClass own = some m.cls) (hK : va_K D vwCl (TY cs) s) (hP : va_P D vwCl (RW cs bd u b bw) H) {x : Int32} (hv : u 16 = x) (hl : (Cond.fieldLink own index "BeesStingModel" "here" "I").before args s = true) (hdg : decode cc pc = .ok (.getfield index, 3)) (kk : W p l e R s m args below meth c H locs cells slots Q (F0 m (pc + 3) ls (.int x :: rest))) : W p l e R s m args below meth c H locs cells slots Q (F0 m (pc) ls (.ref (bd 0) :: rest)) := by
  subst hv
  exact va_get (ci := 12) (C := RX12) (T := TX12) (N := 70) hx hb hg us12 hown hK hP 0 rfl rfl 16 (by decide) hl (fun _ h9 => h9) rfl hdg kk
theorem pr_here (hx : p.tables.exec = Jvm.exec) (hb : c.code = cc) (hg : ∀ w ∈ gw, w.before args s = true) (hown : s.vm.findClass own = some m.cls) (hK : va_K D vwCl (TY cs) s) (hP : va_P D vwCl (RW cs bd u b bw) H) (hD : va_D A (RW cs bd u b bw)) (hS : va_S A H0 H locs) {x : Int32} (hl : (Cond.fieldLink own index "BeesStingModel" "here" "I").before args s = true) (hdg : decode cc pc = .ok (.putfield index, 3)) (kk : ∀ (H1 : Heap) (l1 : List Loc), va_P D vwCl (RW cs bd (va_up u 16 x) b bw) H1 → va_D A (RW cs bd (va_up u 16 x) b bw) → va_S A H0 H1 l1 → W p l e R s m args below meth c H1 l1 cells slots Q (F0 m (pc + 3) ls (rest))) : W p l e R s m args below meth c H locs cells slots Q (F0 m (pc) ls (.int x :: .ref (bd 0) :: rest)) :=
  va_put (ci := 12) (ty := .int) (C := RX12) (T := TX12) (N := 70) hx hb hg us12 tyX12 tyX12_ok nmX12 hown hK hP hD hS 0 rfl rfl 16 (by decide) hl (fun _ h9 => h9) rfl (by decide +kernel) rfl rfl (Nat.le_of_ble_eq_true rfl) hdg (fun H1 l1 q1 q2 q3 => kk H1 l1 q1 q2 q3)
theorem gr_fault (hx : p.tables.exec = Jvm.exec) (hb : c.code = cc) (hg : ∀ w ∈ gw, w.before args s = true) (hown : s.vm.findClass own = some m.cls) (hK : va_K D vwCl (TY cs) s) (hP : va_P D vwCl (RW cs bd u b bw) H) {x : Int32} (hv : u 17 = x) (hl : (Cond.fieldLink own index "BeesStingModel" "fault" "I").before args s = true) (hdg : decode cc pc = .ok (.getfield index, 3)) (kk : W p l e R s m args below meth c H locs cells slots Q (F0 m (pc + 3) ls (.int x :: rest))) : W p l e R s m args below meth c H locs cells slots Q (F0 m (pc) ls (.ref (bd 0) :: rest)) := by
  subst hv
  exact va_get (ci := 12) (C := RX12) (T := TX12) (N := 70) hx hb hg us12 hown hK hP 0 rfl rfl 17 (by decide) hl (fun _ h9 => h9) rfl hdg kk
theorem pr_fault (hx : p.tables.exec = Jvm.exec) (hb : c.code = cc) (hg : ∀ w ∈ gw, w.before args s = true) (hown : s.vm.findClass own = some m.cls) (hK : va_K D vwCl (TY cs) s) (hP : va_P D vwCl (RW cs bd u b bw) H) (hD : va_D A (RW cs bd u b bw)) (hS : va_S A H0 H locs) {x : Int32} (hl : (Cond.fieldLink own index "BeesStingModel" "fault" "I").before args s = true) (hdg : decode cc pc = .ok (.putfield index, 3)) (kk : ∀ (H1 : Heap) (l1 : List Loc), va_P D vwCl (RW cs bd (va_up u 17 x) b bw) H1 → va_D A (RW cs bd (va_up u 17 x) b bw) → va_S A H0 H1 l1 → W p l e R s m args below meth c H1 l1 cells slots Q (F0 m (pc + 3) ls (rest))) : W p l e R s m args below meth c H locs cells slots Q (F0 m (pc) ls (.int x :: .ref (bd 0) :: rest)) :=
  va_put (ci := 12) (ty := .int) (C := RX12) (T := TX12) (N := 70) hx hb hg us12 tyX12 tyX12_ok nmX12 hown hK hP hD hS 0 rfl rfl 17 (by decide) hl (fun _ h9 => h9) rfl (by decide +kernel) rfl rfl (Nat.le_of_ble_eq_true rfl) hdg (fun H1 l1 q1 q2 q3 => kk H1 l1 q1 q2 q3)
theorem gr_open (hx : p.tables.exec = Jvm.exec) (hb : c.code = cc) (hg : ∀ w ∈ gw, w.before args s = true) (hown : s.vm.findClass own = some m.cls) (hK : va_K D vwCl (TY cs) s) (hP : va_P D vwCl (RW cs bd u b bw) H) {x : Int32} (hv : u 18 = x) (hl : (Cond.fieldLink own index "BeesStingModel" "open" "I").before args s = true) (hdg : decode cc pc = .ok (.getfield index, 3)) (kk : W p l e R s m args below meth c H locs cells slots Q (F0 m (pc + 3) ls (.int x :: rest))) : W p l e R s m args below meth c H locs cells slots Q (F0 m (pc) ls (.ref (bd 0) :: rest)) := by
  subst hv
  exact va_get (ci := 12) (C := RX12) (T := TX12) (N := 70) hx hb hg us12 hown hK hP 0 rfl rfl 18 (by decide) hl (fun _ h9 => h9) rfl hdg kk
theorem pr_open (hx : p.tables.exec = Jvm.exec) (hb : c.code = cc) (hg : ∀ w ∈ gw, w.before args s = true) (hown : s.vm.findClass own = some m.cls) (hK : va_K D vwCl (TY cs) s) (hP : va_P D vwCl (RW cs bd u b bw) H) (hD : va_D A (RW cs bd u b bw)) (hS : va_S A H0 H locs) {x : Int32} (hl : (Cond.fieldLink own index "BeesStingModel" "open" "I").before args s = true) (hdg : decode cc pc = .ok (.putfield index, 3)) (kk : ∀ (H1 : Heap) (l1 : List Loc), va_P D vwCl (RW cs bd (va_up u 18 x) b bw) H1 → va_D A (RW cs bd (va_up u 18 x) b bw) → va_S A H0 H1 l1 → W p l e R s m args below meth c H1 l1 cells slots Q (F0 m (pc + 3) ls (rest))) : W p l e R s m args below meth c H locs cells slots Q (F0 m (pc) ls (.int x :: .ref (bd 0) :: rest)) :=
  va_put (ci := 12) (ty := .int) (C := RX12) (T := TX12) (N := 70) hx hb hg us12 tyX12 tyX12_ok nmX12 hown hK hP hD hS 0 rfl rfl 18 (by decide) hl (fun _ h9 => h9) rfl (by decide +kernel) rfl rfl (Nat.le_of_ble_eq_true rfl) hdg (fun H1 l1 q1 q2 q3 => kk H1 l1 q1 q2 q3)
theorem gr_laid (hx : p.tables.exec = Jvm.exec) (hb : c.code = cc) (hg : ∀ w ∈ gw, w.before args s = true) (hown : s.vm.findClass own = some m.cls) (hK : va_K D vwCl (TY cs) s) (hP : va_P D vwCl (RW cs bd u b bw) H) {x : Int32} (hv : u 19 = x) (hl : (Cond.fieldLink own index "BeesStingModel" "laid" "I").before args s = true) (hdg : decode cc pc = .ok (.getfield index, 3)) (kk : W p l e R s m args below meth c H locs cells slots Q (F0 m (pc + 3) ls (.int x :: rest))) : W p l e R s m args below meth c H locs cells slots Q (F0 m (pc) ls (.ref (bd 0) :: rest)) := by
  subst hv
  exact va_get (ci := 12) (C := RX12) (T := TX12) (N := 70) hx hb hg us12 hown hK hP 0 rfl rfl 19 (by decide) hl (fun _ h9 => h9) rfl hdg kk
theorem pr_laid (hx : p.tables.exec = Jvm.exec) (hb : c.code = cc) (hg : ∀ w ∈ gw, w.before args s = true) (hown : s.vm.findClass own = some m.cls) (hK : va_K D vwCl (TY cs) s) (hP : va_P D vwCl (RW cs bd u b bw) H) (hD : va_D A (RW cs bd u b bw)) (hS : va_S A H0 H locs) {x : Int32} (hl : (Cond.fieldLink own index "BeesStingModel" "laid" "I").before args s = true) (hdg : decode cc pc = .ok (.putfield index, 3)) (kk : ∀ (H1 : Heap) (l1 : List Loc), va_P D vwCl (RW cs bd (va_up u 19 x) b bw) H1 → va_D A (RW cs bd (va_up u 19 x) b bw) → va_S A H0 H1 l1 → W p l e R s m args below meth c H1 l1 cells slots Q (F0 m (pc + 3) ls (rest))) : W p l e R s m args below meth c H locs cells slots Q (F0 m (pc) ls (.int x :: .ref (bd 0) :: rest)) :=
  va_put (ci := 12) (ty := .int) (C := RX12) (T := TX12) (N := 70) hx hb hg us12 tyX12 tyX12_ok nmX12 hown hK hP hD hS 0 rfl rfl 19 (by decide) hl (fun _ h9 => h9) rfl (by decide +kernel) rfl rfl (Nat.le_of_ble_eq_true rfl) hdg (fun H1 l1 q1 q2 q3 => kk H1 l1 q1 q2 q3)
theorem gr_act (hx : p.tables.exec = Jvm.exec) (hb : c.code = cc) (hg : ∀ w ∈ gw, w.before args s = true) (hown : s.vm.findClass own = some m.cls) (hK : va_K D vwCl (TY cs) s) (hP : va_P D vwCl (RW cs bd u b bw) H) (hl : (Cond.fieldLink own index "BeesStingModel" "act" "[B").before args s = true) (hdg : decode cc pc = .ok (.getfield index, 3)) (kk : W p l e R s m args below meth c H locs cells slots Q (F0 m (pc + 3) ls (.ref (bd 20) :: rest))) : W p l e R s m args below meth c H locs cells slots Q (F0 m (pc) ls (.ref (bd 0) :: rest)) :=
  va_get (ci := 12) (C := RX12) (T := TX12) (N := 70) hx hb hg us12 hown hK hP 0 rfl rfl 20 (by decide) hl (fun _ h9 => h9) rfl hdg kk
theorem gr_with (hx : p.tables.exec = Jvm.exec) (hb : c.code = cc) (hg : ∀ w ∈ gw, w.before args s = true) (hown : s.vm.findClass own = some m.cls) (hK : va_K D vwCl (TY cs) s) (hP : va_P D vwCl (RW cs bd u b bw) H) (hl : (Cond.fieldLink own index "BeesStingModel" "with" "[I").before args s = true) (hdg : decode cc pc = .ok (.getfield index, 3)) (kk : W p l e R s m args below meth c H locs cells slots Q (F0 m (pc + 3) ls (.ref (bd 21) :: rest))) : W p l e R s m args below meth c H locs cells slots Q (F0 m (pc) ls (.ref (bd 0) :: rest)) :=
  va_get (ci := 12) (C := RX12) (T := TX12) (N := 70) hx hb hg us12 hown hK hP 0 rfl rfl 21 (by decide) hl (fun _ h9 => h9) rfl hdg kk
theorem gr_lineMany (hx : p.tables.exec = Jvm.exec) (hb : c.code = cc) (hg : ∀ w ∈ gw, w.before args s = true) (hown : s.vm.findClass own = some m.cls) (hK : va_K D vwCl (TY cs) s) (hP : va_P D vwCl (RW cs bd u b bw) H) (hl : (Cond.fieldLink own index "BeesStingModel" "lineMany" "[I").before args s = true) (hdg : decode cc pc = .ok (.getfield index, 3)) (kk : W p l e R s m args below meth c H locs cells slots Q (F0 m (pc + 3) ls (.ref (bd 22) :: rest))) : W p l e R s m args below meth c H locs cells slots Q (F0 m (pc) ls (.ref (bd 0) :: rest)) :=
  va_get (ci := 12) (C := RX12) (T := TX12) (N := 70) hx hb hg us12 hown hK hP 0 rfl rfl 22 (by decide) hl (fun _ h9 => h9) rfl hdg kk
theorem gr_testEnd (hx : p.tables.exec = Jvm.exec) (hb : c.code = cc) (hg : ∀ w ∈ gw, w.before args s = true) (hown : s.vm.findClass own = some m.cls) (hK : va_K D vwCl (TY cs) s) (hP : va_P D vwCl (RW cs bd u b bw) H) (hl : (Cond.fieldLink own index "BeesStingModel" "testEnd" "[S").before args s = true) (hdg : decode cc pc = .ok (.getfield index, 3)) (kk : W p l e R s m args below meth c H locs cells slots Q (F0 m (pc + 3) ls (.ref (bd 23) :: rest))) : W p l e R s m args below meth c H locs cells slots Q (F0 m (pc) ls (.ref (bd 0) :: rest)) :=
  va_get (ci := 12) (C := RX12) (T := TX12) (N := 70) hx hb hg us12 hown hK hP 0 rfl rfl 23 (by decide) hl (fun _ h9 => h9) rfl hdg kk
theorem gr_lineEnd (hx : p.tables.exec = Jvm.exec) (hb : c.code = cc) (hg : ∀ w ∈ gw, w.before args s = true) (hown : s.vm.findClass own = some m.cls) (hK : va_K D vwCl (TY cs) s) (hP : va_P D vwCl (RW cs bd u b bw) H) (hl : (Cond.fieldLink own index "BeesStingModel" "lineEnd" "[S").before args s = true) (hdg : decode cc pc = .ok (.getfield index, 3)) (kk : W p l e R s m args below meth c H locs cells slots Q (F0 m (pc + 3) ls (.ref (bd 24) :: rest))) : W p l e R s m args below meth c H locs cells slots Q (F0 m (pc) ls (.ref (bd 0) :: rest)) :=
  va_get (ci := 12) (C := RX12) (T := TX12) (N := 70) hx hb hg us12 hown hK hP 0 rfl rfl 24 (by decide) hl (fun _ h9 => h9) rfl hdg kk
theorem gr_facts (hx : p.tables.exec = Jvm.exec) (hb : c.code = cc) (hg : ∀ w ∈ gw, w.before args s = true) (hown : s.vm.findClass own = some m.cls) (hK : va_K D vwCl (TY cs) s) (hP : va_P D vwCl (RW cs bd u b bw) H) (hl : (Cond.fieldLink own index "BeesStingModel" "facts" "[I").before args s = true) (hdg : decode cc pc = .ok (.getfield index, 3)) (kk : W p l e R s m args below meth c H locs cells slots Q (F0 m (pc + 3) ls (.ref (bd 25) :: rest))) : W p l e R s m args below meth c H locs cells slots Q (F0 m (pc) ls (.ref (bd 0) :: rest)) :=
  va_get (ci := 12) (C := RX12) (T := TX12) (N := 70) hx hb hg us12 hown hK hP 0 rfl rfl 25 (by decide) hl (fun _ h9 => h9) rfl hdg kk
theorem gr_pile (hx : p.tables.exec = Jvm.exec) (hb : c.code = cc) (hg : ∀ w ∈ gw, w.before args s = true) (hown : s.vm.findClass own = some m.cls) (hK : va_K D vwCl (TY cs) s) (hP : va_P D vwCl (RW cs bd u b bw) H) (hl : (Cond.fieldLink own index "BeesStingModel" "pile" "[I").before args s = true) (hdg : decode cc pc = .ok (.getfield index, 3)) (kk : W p l e R s m args below meth c H locs cells slots Q (F0 m (pc + 3) ls (.ref (bd 26) :: rest))) : W p l e R s m args below meth c H locs cells slots Q (F0 m (pc) ls (.ref (bd 0) :: rest)) :=
  va_get (ci := 12) (C := RX12) (T := TX12) (N := 70) hx hb hg us12 hown hK hP 0 rfl rfl 26 (by decide) hl (fun _ h9 => h9) rfl hdg kk
theorem gr_hasLaw (hx : p.tables.exec = Jvm.exec) (hb : c.code = cc) (hg : ∀ w ∈ gw, w.before args s = true) (hown : s.vm.findClass own = some m.cls) (hK : va_K D vwCl (TY cs) s) (hP : va_P D vwCl (RW cs bd u b bw) H) {x : Int32} (hv : u 27 = x) (hl : (Cond.fieldLink own index "BeesStingModel" "hasLaw" "Z").before args s = true) (hdg : decode cc pc = .ok (.getfield index, 3)) (kk : W p l e R s m args below meth c H locs cells slots Q (F0 m (pc + 3) ls (.int x :: rest))) : W p l e R s m args below meth c H locs cells slots Q (F0 m (pc) ls (.ref (bd 0) :: rest)) := by
  subst hv
  exact va_get (ci := 12) (C := RX12) (T := TX12) (N := 70) hx hb hg us12 hown hK hP 0 rfl rfl 27 (by decide) hl (fun _ h9 => h9) rfl hdg kk
theorem pr_hasLaw (hx : p.tables.exec = Jvm.exec) (hb : c.code = cc) (hg : ∀ w ∈ gw, w.before args s = true) (hown : s.vm.findClass own = some m.cls) (hK : va_K D vwCl (TY cs) s) (hP : va_P D vwCl (RW cs bd u b bw) H) (hD : va_D A (RW cs bd u b bw)) (hS : va_S A H0 H locs) {x : Int32} (hz : narrow .boolean (.int x) = .int x) (hz2 : fits .boolean (.int x) = true) (hl : (Cond.fieldLink own index "BeesStingModel" "hasLaw" "Z").before args s = true) (hdg : decode cc pc = .ok (.putfield index, 3)) (kk : ∀ (H1 : Heap) (l1 : List Loc), va_P D vwCl (RW cs bd (va_up u 27 x) b bw) H1 → va_D A (RW cs bd (va_up u 27 x) b bw) → va_S A H0 H1 l1 → W p l e R s m args below meth c H1 l1 cells slots Q (F0 m (pc + 3) ls (rest))) : W p l e R s m args below meth c H locs cells slots Q (F0 m (pc) ls (.int x :: .ref (bd 0) :: rest)) :=
  va_put (ci := 12) (ty := .boolean) (C := RX12) (T := TX12) (N := 70) hx hb hg us12 tyX12 tyX12_ok nmX12 hown hK hP hD hS 0 rfl rfl 27 (by decide) hl (fun _ h9 => h9) rfl (by decide +kernel) hz hz2 (Nat.le_of_ble_eq_true rfl) hdg (fun H1 l1 q1 q2 q3 => kk H1 l1 q1 q2 q3)
theorem gr_bee1 (hx : p.tables.exec = Jvm.exec) (hb : c.code = cc) (hg : ∀ w ∈ gw, w.before args s = true) (hown : s.vm.findClass own = some m.cls) (hK : va_K D vwCl (TY cs) s) (hP : va_P D vwCl (RW cs bd u b bw) H) {x : Int32} (hv : u 28 = x) (hl : (Cond.fieldLink own index "BeesStingModel" "bee1" "I").before args s = true) (hdg : decode cc pc = .ok (.getfield index, 3)) (kk : W p l e R s m args below meth c H locs cells slots Q (F0 m (pc + 3) ls (.int x :: rest))) : W p l e R s m args below meth c H locs cells slots Q (F0 m (pc) ls (.ref (bd 0) :: rest)) := by
  subst hv
  exact va_get (ci := 12) (C := RX12) (T := TX12) (N := 70) hx hb hg us12 hown hK hP 0 rfl rfl 28 (by decide) hl (fun _ h9 => h9) rfl hdg kk
theorem pr_bee1 (hx : p.tables.exec = Jvm.exec) (hb : c.code = cc) (hg : ∀ w ∈ gw, w.before args s = true) (hown : s.vm.findClass own = some m.cls) (hK : va_K D vwCl (TY cs) s) (hP : va_P D vwCl (RW cs bd u b bw) H) (hD : va_D A (RW cs bd u b bw)) (hS : va_S A H0 H locs) {x : Int32} (hl : (Cond.fieldLink own index "BeesStingModel" "bee1" "I").before args s = true) (hdg : decode cc pc = .ok (.putfield index, 3)) (kk : ∀ (H1 : Heap) (l1 : List Loc), va_P D vwCl (RW cs bd (va_up u 28 x) b bw) H1 → va_D A (RW cs bd (va_up u 28 x) b bw) → va_S A H0 H1 l1 → W p l e R s m args below meth c H1 l1 cells slots Q (F0 m (pc + 3) ls (rest))) : W p l e R s m args below meth c H locs cells slots Q (F0 m (pc) ls (.int x :: .ref (bd 0) :: rest)) :=
  va_put (ci := 12) (ty := .int) (C := RX12) (T := TX12) (N := 70) hx hb hg us12 tyX12 tyX12_ok nmX12 hown hK hP hD hS 0 rfl rfl 28 (by decide) hl (fun _ h9 => h9) rfl (by decide +kernel) rfl rfl (Nat.le_of_ble_eq_true rfl) hdg (fun H1 l1 q1 q2 q3 => kk H1 l1 q1 q2 q3)
theorem gr_liar1 (hx : p.tables.exec = Jvm.exec) (hb : c.code = cc) (hg : ∀ w ∈ gw, w.before args s = true) (hown : s.vm.findClass own = some m.cls) (hK : va_K D vwCl (TY cs) s) (hP : va_P D vwCl (RW cs bd u b bw) H) {x : Int32} (hv : u 29 = x) (hl : (Cond.fieldLink own index "BeesStingModel" "liar1" "I").before args s = true) (hdg : decode cc pc = .ok (.getfield index, 3)) (kk : W p l e R s m args below meth c H locs cells slots Q (F0 m (pc + 3) ls (.int x :: rest))) : W p l e R s m args below meth c H locs cells slots Q (F0 m (pc) ls (.ref (bd 0) :: rest)) := by
  subst hv
  exact va_get (ci := 12) (C := RX12) (T := TX12) (N := 70) hx hb hg us12 hown hK hP 0 rfl rfl 29 (by decide) hl (fun _ h9 => h9) rfl hdg kk
theorem pr_liar1 (hx : p.tables.exec = Jvm.exec) (hb : c.code = cc) (hg : ∀ w ∈ gw, w.before args s = true) (hown : s.vm.findClass own = some m.cls) (hK : va_K D vwCl (TY cs) s) (hP : va_P D vwCl (RW cs bd u b bw) H) (hD : va_D A (RW cs bd u b bw)) (hS : va_S A H0 H locs) {x : Int32} (hl : (Cond.fieldLink own index "BeesStingModel" "liar1" "I").before args s = true) (hdg : decode cc pc = .ok (.putfield index, 3)) (kk : ∀ (H1 : Heap) (l1 : List Loc), va_P D vwCl (RW cs bd (va_up u 29 x) b bw) H1 → va_D A (RW cs bd (va_up u 29 x) b bw) → va_S A H0 H1 l1 → W p l e R s m args below meth c H1 l1 cells slots Q (F0 m (pc + 3) ls (rest))) : W p l e R s m args below meth c H locs cells slots Q (F0 m (pc) ls (.int x :: .ref (bd 0) :: rest)) :=
  va_put (ci := 12) (ty := .int) (C := RX12) (T := TX12) (N := 70) hx hb hg us12 tyX12 tyX12_ok nmX12 hown hK hP hD hS 0 rfl rfl 29 (by decide) hl (fun _ h9 => h9) rfl (by decide +kernel) rfl rfl (Nat.le_of_ble_eq_true rfl) hdg (fun H1 l1 q1 q2 q3 => kk H1 l1 q1 q2 q3)
theorem gr_hour1 (hx : p.tables.exec = Jvm.exec) (hb : c.code = cc) (hg : ∀ w ∈ gw, w.before args s = true) (hown : s.vm.findClass own = some m.cls) (hK : va_K D vwCl (TY cs) s) (hP : va_P D vwCl (RW cs bd u b bw) H) {x : Int32} (hv : u 30 = x) (hl : (Cond.fieldLink own index "BeesStingModel" "hour1" "I").before args s = true) (hdg : decode cc pc = .ok (.getfield index, 3)) (kk : W p l e R s m args below meth c H locs cells slots Q (F0 m (pc + 3) ls (.int x :: rest))) : W p l e R s m args below meth c H locs cells slots Q (F0 m (pc) ls (.ref (bd 0) :: rest)) := by
  subst hv
  exact va_get (ci := 12) (C := RX12) (T := TX12) (N := 70) hx hb hg us12 hown hK hP 0 rfl rfl 30 (by decide) hl (fun _ h9 => h9) rfl hdg kk
theorem pr_hour1 (hx : p.tables.exec = Jvm.exec) (hb : c.code = cc) (hg : ∀ w ∈ gw, w.before args s = true) (hown : s.vm.findClass own = some m.cls) (hK : va_K D vwCl (TY cs) s) (hP : va_P D vwCl (RW cs bd u b bw) H) (hD : va_D A (RW cs bd u b bw)) (hS : va_S A H0 H locs) {x : Int32} (hl : (Cond.fieldLink own index "BeesStingModel" "hour1" "I").before args s = true) (hdg : decode cc pc = .ok (.putfield index, 3)) (kk : ∀ (H1 : Heap) (l1 : List Loc), va_P D vwCl (RW cs bd (va_up u 30 x) b bw) H1 → va_D A (RW cs bd (va_up u 30 x) b bw) → va_S A H0 H1 l1 → W p l e R s m args below meth c H1 l1 cells slots Q (F0 m (pc + 3) ls (rest))) : W p l e R s m args below meth c H locs cells slots Q (F0 m (pc) ls (.int x :: .ref (bd 0) :: rest)) :=
  va_put (ci := 12) (ty := .int) (C := RX12) (T := TX12) (N := 70) hx hb hg us12 tyX12 tyX12_ok nmX12 hown hK hP hD hS 0 rfl rfl 30 (by decide) hl (fun _ h9 => h9) rfl (by decide +kernel) rfl rfl (Nat.le_of_ble_eq_true rfl) hdg (fun H1 l1 q1 q2 q3 => kk H1 l1 q1 q2 q3)
theorem gr_lies1 (hx : p.tables.exec = Jvm.exec) (hb : c.code = cc) (hg : ∀ w ∈ gw, w.before args s = true) (hown : s.vm.findClass own = some m.cls) (hK : va_K D vwCl (TY cs) s) (hP : va_P D vwCl (RW cs bd u b bw) H) {x : Int32} (hv : u 31 = x) (hl : (Cond.fieldLink own index "BeesStingModel" "lies1" "I").before args s = true) (hdg : decode cc pc = .ok (.getfield index, 3)) (kk : W p l e R s m args below meth c H locs cells slots Q (F0 m (pc + 3) ls (.int x :: rest))) : W p l e R s m args below meth c H locs cells slots Q (F0 m (pc) ls (.ref (bd 0) :: rest)) := by
  subst hv
  exact va_get (ci := 12) (C := RX12) (T := TX12) (N := 70) hx hb hg us12 hown hK hP 0 rfl rfl 31 (by decide) hl (fun _ h9 => h9) rfl hdg kk
theorem pr_lies1 (hx : p.tables.exec = Jvm.exec) (hb : c.code = cc) (hg : ∀ w ∈ gw, w.before args s = true) (hown : s.vm.findClass own = some m.cls) (hK : va_K D vwCl (TY cs) s) (hP : va_P D vwCl (RW cs bd u b bw) H) (hD : va_D A (RW cs bd u b bw)) (hS : va_S A H0 H locs) {x : Int32} (hl : (Cond.fieldLink own index "BeesStingModel" "lies1" "I").before args s = true) (hdg : decode cc pc = .ok (.putfield index, 3)) (kk : ∀ (H1 : Heap) (l1 : List Loc), va_P D vwCl (RW cs bd (va_up u 31 x) b bw) H1 → va_D A (RW cs bd (va_up u 31 x) b bw) → va_S A H0 H1 l1 → W p l e R s m args below meth c H1 l1 cells slots Q (F0 m (pc + 3) ls (rest))) : W p l e R s m args below meth c H locs cells slots Q (F0 m (pc) ls (.int x :: .ref (bd 0) :: rest)) :=
  va_put (ci := 12) (ty := .int) (C := RX12) (T := TX12) (N := 70) hx hb hg us12 tyX12 tyX12_ok nmX12 hown hK hP hD hS 0 rfl rfl 31 (by decide) hl (fun _ h9 => h9) rfl (by decide +kernel) rfl rfl (Nat.le_of_ble_eq_true rfl) hdg (fun H1 l1 q1 q2 q3 => kk H1 l1 q1 q2 q3)
theorem gr_pads1 (hx : p.tables.exec = Jvm.exec) (hb : c.code = cc) (hg : ∀ w ∈ gw, w.before args s = true) (hown : s.vm.findClass own = some m.cls) (hK : va_K D vwCl (TY cs) s) (hP : va_P D vwCl (RW cs bd u b bw) H) (hl : (Cond.fieldLink own index "BeesStingModel" "pads1" "[I").before args s = true) (hdg : decode cc pc = .ok (.getfield index, 3)) (kk : W p l e R s m args below meth c H locs cells slots Q (F0 m (pc + 3) ls (.ref (bd 32) :: rest))) : W p l e R s m args below meth c H locs cells slots Q (F0 m (pc) ls (.ref (bd 0) :: rest)) :=
  va_get (ci := 12) (C := RX12) (T := TX12) (N := 70) hx hb hg us12 hown hK hP 0 rfl rfl 32 (by decide) hl (fun _ h9 => h9) rfl hdg kk
theorem gr_hurt1 (hx : p.tables.exec = Jvm.exec) (hb : c.code = cc) (hg : ∀ w ∈ gw, w.before args s = true) (hown : s.vm.findClass own = some m.cls) (hK : va_K D vwCl (TY cs) s) (hP : va_P D vwCl (RW cs bd u b bw) H) {x : Int32} (hv : u 33 = x) (hl : (Cond.fieldLink own index "BeesStingModel" "hurt1" "Z").before args s = true) (hdg : decode cc pc = .ok (.getfield index, 3)) (kk : W p l e R s m args below meth c H locs cells slots Q (F0 m (pc + 3) ls (.int x :: rest))) : W p l e R s m args below meth c H locs cells slots Q (F0 m (pc) ls (.ref (bd 0) :: rest)) := by
  subst hv
  exact va_get (ci := 12) (C := RX12) (T := TX12) (N := 70) hx hb hg us12 hown hK hP 0 rfl rfl 33 (by decide) hl (fun _ h9 => h9) rfl hdg kk
theorem pr_hurt1 (hx : p.tables.exec = Jvm.exec) (hb : c.code = cc) (hg : ∀ w ∈ gw, w.before args s = true) (hown : s.vm.findClass own = some m.cls) (hK : va_K D vwCl (TY cs) s) (hP : va_P D vwCl (RW cs bd u b bw) H) (hD : va_D A (RW cs bd u b bw)) (hS : va_S A H0 H locs) {x : Int32} (hz : narrow .boolean (.int x) = .int x) (hz2 : fits .boolean (.int x) = true) (hl : (Cond.fieldLink own index "BeesStingModel" "hurt1" "Z").before args s = true) (hdg : decode cc pc = .ok (.putfield index, 3)) (kk : ∀ (H1 : Heap) (l1 : List Loc), va_P D vwCl (RW cs bd (va_up u 33 x) b bw) H1 → va_D A (RW cs bd (va_up u 33 x) b bw) → va_S A H0 H1 l1 → W p l e R s m args below meth c H1 l1 cells slots Q (F0 m (pc + 3) ls (rest))) : W p l e R s m args below meth c H locs cells slots Q (F0 m (pc) ls (.int x :: .ref (bd 0) :: rest)) :=
  va_put (ci := 12) (ty := .boolean) (C := RX12) (T := TX12) (N := 70) hx hb hg us12 tyX12 tyX12_ok nmX12 hown hK hP hD hS 0 rfl rfl 33 (by decide) hl (fun _ h9 => h9) rfl (by decide +kernel) hz hz2 (Nat.le_of_ble_eq_true rfl) hdg (fun H1 l1 q1 q2 q3 => kk H1 l1 q1 q2 q3)
theorem gr_loud1 (hx : p.tables.exec = Jvm.exec) (hb : c.code = cc) (hg : ∀ w ∈ gw, w.before args s = true) (hown : s.vm.findClass own = some m.cls) (hK : va_K D vwCl (TY cs) s) (hP : va_P D vwCl (RW cs bd u b bw) H) {x : Int32} (hv : u 34 = x) (hl : (Cond.fieldLink own index "BeesStingModel" "loud1" "Z").before args s = true) (hdg : decode cc pc = .ok (.getfield index, 3)) (kk : W p l e R s m args below meth c H locs cells slots Q (F0 m (pc + 3) ls (.int x :: rest))) : W p l e R s m args below meth c H locs cells slots Q (F0 m (pc) ls (.ref (bd 0) :: rest)) := by
  subst hv
  exact va_get (ci := 12) (C := RX12) (T := TX12) (N := 70) hx hb hg us12 hown hK hP 0 rfl rfl 34 (by decide) hl (fun _ h9 => h9) rfl hdg kk
theorem pr_loud1 (hx : p.tables.exec = Jvm.exec) (hb : c.code = cc) (hg : ∀ w ∈ gw, w.before args s = true) (hown : s.vm.findClass own = some m.cls) (hK : va_K D vwCl (TY cs) s) (hP : va_P D vwCl (RW cs bd u b bw) H) (hD : va_D A (RW cs bd u b bw)) (hS : va_S A H0 H locs) {x : Int32} (hz : narrow .boolean (.int x) = .int x) (hz2 : fits .boolean (.int x) = true) (hl : (Cond.fieldLink own index "BeesStingModel" "loud1" "Z").before args s = true) (hdg : decode cc pc = .ok (.putfield index, 3)) (kk : ∀ (H1 : Heap) (l1 : List Loc), va_P D vwCl (RW cs bd (va_up u 34 x) b bw) H1 → va_D A (RW cs bd (va_up u 34 x) b bw) → va_S A H0 H1 l1 → W p l e R s m args below meth c H1 l1 cells slots Q (F0 m (pc + 3) ls (rest))) : W p l e R s m args below meth c H locs cells slots Q (F0 m (pc) ls (.int x :: .ref (bd 0) :: rest)) :=
  va_put (ci := 12) (ty := .boolean) (C := RX12) (T := TX12) (N := 70) hx hb hg us12 tyX12 tyX12_ok nmX12 hown hK hP hD hS 0 rfl rfl 34 (by decide) hl (fun _ h9 => h9) rfl (by decide +kernel) hz hz2 (Nat.le_of_ble_eq_true rfl) hdg (fun H1 l1 q1 q2 q3 => kk H1 l1 q1 q2 q3)
theorem gr_loudBits (hx : p.tables.exec = Jvm.exec) (hb : c.code = cc) (hg : ∀ w ∈ gw, w.before args s = true) (hown : s.vm.findClass own = some m.cls) (hK : va_K D vwCl (TY cs) s) (hP : va_P D vwCl (RW cs bd u b bw) H) {x : Int32} (hv : u 35 = x) (hl : (Cond.fieldLink own index "BeesStingModel" "loudBits" "I").before args s = true) (hdg : decode cc pc = .ok (.getfield index, 3)) (kk : W p l e R s m args below meth c H locs cells slots Q (F0 m (pc + 3) ls (.int x :: rest))) : W p l e R s m args below meth c H locs cells slots Q (F0 m (pc) ls (.ref (bd 0) :: rest)) := by
  subst hv
  exact va_get (ci := 12) (C := RX12) (T := TX12) (N := 70) hx hb hg us12 hown hK hP 0 rfl rfl 35 (by decide) hl (fun _ h9 => h9) rfl hdg kk
theorem pr_loudBits (hx : p.tables.exec = Jvm.exec) (hb : c.code = cc) (hg : ∀ w ∈ gw, w.before args s = true) (hown : s.vm.findClass own = some m.cls) (hK : va_K D vwCl (TY cs) s) (hP : va_P D vwCl (RW cs bd u b bw) H) (hD : va_D A (RW cs bd u b bw)) (hS : va_S A H0 H locs) {x : Int32} (hl : (Cond.fieldLink own index "BeesStingModel" "loudBits" "I").before args s = true) (hdg : decode cc pc = .ok (.putfield index, 3)) (kk : ∀ (H1 : Heap) (l1 : List Loc), va_P D vwCl (RW cs bd (va_up u 35 x) b bw) H1 → va_D A (RW cs bd (va_up u 35 x) b bw) → va_S A H0 H1 l1 → W p l e R s m args below meth c H1 l1 cells slots Q (F0 m (pc + 3) ls (rest))) : W p l e R s m args below meth c H locs cells slots Q (F0 m (pc) ls (.int x :: .ref (bd 0) :: rest)) :=
  va_put (ci := 12) (ty := .int) (C := RX12) (T := TX12) (N := 70) hx hb hg us12 tyX12 tyX12_ok nmX12 hown hK hP hD hS 0 rfl rfl 35 (by decide) hl (fun _ h9 => h9) rfl (by decide +kernel) rfl rfl (Nat.le_of_ble_eq_true rfl) hdg (fun H1 l1 q1 q2 q3 => kk H1 l1 q1 q2 q3)
theorem gr_stungOf (hx : p.tables.exec = Jvm.exec) (hb : c.code = cc) (hg : ∀ w ∈ gw, w.before args s = true) (hown : s.vm.findClass own = some m.cls) (hK : va_K D vwCl (TY cs) s) (hP : va_P D vwCl (RW cs bd u b bw) H) (hl : (Cond.fieldLink own index "BeesStingModel" "stungOf" "[I").before args s = true) (hdg : decode cc pc = .ok (.getfield index, 3)) (kk : W p l e R s m args below meth c H locs cells slots Q (F0 m (pc + 3) ls (.ref (bd 36) :: rest))) : W p l e R s m args below meth c H locs cells slots Q (F0 m (pc) ls (.ref (bd 0) :: rest)) :=
  va_get (ci := 12) (C := RX12) (T := TX12) (N := 70) hx hb hg us12 hown hK hP 0 rfl rfl 36 (by decide) hl (fun _ h9 => h9) rfl hdg kk
theorem gr_hurtOf (hx : p.tables.exec = Jvm.exec) (hb : c.code = cc) (hg : ∀ w ∈ gw, w.before args s = true) (hown : s.vm.findClass own = some m.cls) (hK : va_K D vwCl (TY cs) s) (hP : va_P D vwCl (RW cs bd u b bw) H) (hl : (Cond.fieldLink own index "BeesStingModel" "hurtOf" "[I").before args s = true) (hdg : decode cc pc = .ok (.getfield index, 3)) (kk : W p l e R s m args below meth c H locs cells slots Q (F0 m (pc + 3) ls (.ref (bd 37) :: rest))) : W p l e R s m args below meth c H locs cells slots Q (F0 m (pc) ls (.ref (bd 0) :: rest)) :=
  va_get (ci := 12) (C := RX12) (T := TX12) (N := 70) hx hb hg us12 hown hK hP 0 rfl rfl 37 (by decide) hl (fun _ h9 => h9) rfl hdg kk
theorem gr_firstOf (hx : p.tables.exec = Jvm.exec) (hb : c.code = cc) (hg : ∀ w ∈ gw, w.before args s = true) (hown : s.vm.findClass own = some m.cls) (hK : va_K D vwCl (TY cs) s) (hP : va_P D vwCl (RW cs bd u b bw) H) (hl : (Cond.fieldLink own index "BeesStingModel" "firstOf" "[I").before args s = true) (hdg : decode cc pc = .ok (.getfield index, 3)) (kk : W p l e R s m args below meth c H locs cells slots Q (F0 m (pc + 3) ls (.ref (bd 38) :: rest))) : W p l e R s m args below meth c H locs cells slots Q (F0 m (pc) ls (.ref (bd 0) :: rest)) :=
  va_get (ci := 12) (C := RX12) (T := TX12) (N := 70) hx hb hg us12 hown hK hP 0 rfl rfl 38 (by decide) hl (fun _ h9 => h9) rfl hdg kk
theorem gr_placed (hx : p.tables.exec = Jvm.exec) (hb : c.code = cc) (hg : ∀ w ∈ gw, w.before args s = true) (hown : s.vm.findClass own = some m.cls) (hK : va_K D vwCl (TY cs) s) (hP : va_P D vwCl (RW cs bd u b bw) H) (hl : (Cond.fieldLink own index "BeesStingModel" "placed" "[I").before args s = true) (hdg : decode cc pc = .ok (.getfield index, 3)) (kk : W p l e R s m args below meth c H locs cells slots Q (F0 m (pc + 3) ls (.ref (bd 39) :: rest))) : W p l e R s m args below meth c H locs cells slots Q (F0 m (pc) ls (.ref (bd 0) :: rest)) :=
  va_get (ci := 12) (C := RX12) (T := TX12) (N := 70) hx hb hg us12 hown hK hP 0 rfl rfl 39 (by decide) hl (fun _ h9 => h9) rfl hdg kk
theorem gr_bestPlaced (hx : p.tables.exec = Jvm.exec) (hb : c.code = cc) (hg : ∀ w ∈ gw, w.before args s = true) (hown : s.vm.findClass own = some m.cls) (hK : va_K D vwCl (TY cs) s) (hP : va_P D vwCl (RW cs bd u b bw) H) (hl : (Cond.fieldLink own index "BeesStingModel" "bestPlaced" "[I").before args s = true) (hdg : decode cc pc = .ok (.getfield index, 3)) (kk : W p l e R s m args below meth c H locs cells slots Q (F0 m (pc + 3) ls (.ref (bd 40) :: rest))) : W p l e R s m args below meth c H locs cells slots Q (F0 m (pc) ls (.ref (bd 0) :: rest)) :=
  va_get (ci := 12) (C := RX12) (T := TX12) (N := 70) hx hb hg us12 hown hK hP 0 rfl rfl 40 (by decide) hl (fun _ h9 => h9) rfl hdg kk
theorem gr_ordersMany (hx : p.tables.exec = Jvm.exec) (hb : c.code = cc) (hg : ∀ w ∈ gw, w.before args s = true) (hown : s.vm.findClass own = some m.cls) (hK : va_K D vwCl (TY cs) s) (hP : va_P D vwCl (RW cs bd u b bw) H) {x : Int32} (hv : u 41 = x) (hl : (Cond.fieldLink own index "BeesStingModel" "ordersMany" "I").before args s = true) (hdg : decode cc pc = .ok (.getfield index, 3)) (kk : W p l e R s m args below meth c H locs cells slots Q (F0 m (pc + 3) ls (.int x :: rest))) : W p l e R s m args below meth c H locs cells slots Q (F0 m (pc) ls (.ref (bd 0) :: rest)) := by
  subst hv
  exact va_get (ci := 12) (C := RX12) (T := TX12) (N := 70) hx hb hg us12 hown hK hP 0 rfl rfl 41 (by decide) hl (fun _ h9 => h9) rfl hdg kk
theorem pr_ordersMany (hx : p.tables.exec = Jvm.exec) (hb : c.code = cc) (hg : ∀ w ∈ gw, w.before args s = true) (hown : s.vm.findClass own = some m.cls) (hK : va_K D vwCl (TY cs) s) (hP : va_P D vwCl (RW cs bd u b bw) H) (hD : va_D A (RW cs bd u b bw)) (hS : va_S A H0 H locs) {x : Int32} (hl : (Cond.fieldLink own index "BeesStingModel" "ordersMany" "I").before args s = true) (hdg : decode cc pc = .ok (.putfield index, 3)) (kk : ∀ (H1 : Heap) (l1 : List Loc), va_P D vwCl (RW cs bd (va_up u 41 x) b bw) H1 → va_D A (RW cs bd (va_up u 41 x) b bw) → va_S A H0 H1 l1 → W p l e R s m args below meth c H1 l1 cells slots Q (F0 m (pc + 3) ls (rest))) : W p l e R s m args below meth c H locs cells slots Q (F0 m (pc) ls (.int x :: .ref (bd 0) :: rest)) :=
  va_put (ci := 12) (ty := .int) (C := RX12) (T := TX12) (N := 70) hx hb hg us12 tyX12 tyX12_ok nmX12 hown hK hP hD hS 0 rfl rfl 41 (by decide) hl (fun _ h9 => h9) rfl (by decide +kernel) rfl rfl (Nat.le_of_ble_eq_true rfl) hdg (fun H1 l1 q1 q2 q3 => kk H1 l1 q1 q2 q3)
theorem gr_leastHurts (hx : p.tables.exec = Jvm.exec) (hb : c.code = cc) (hg : ∀ w ∈ gw, w.before args s = true) (hown : s.vm.findClass own = some m.cls) (hK : va_K D vwCl (TY cs) s) (hP : va_P D vwCl (RW cs bd u b bw) H) {x : Int32} (hv : u 42 = x) (hl : (Cond.fieldLink own index "BeesStingModel" "leastHurts" "I").before args s = true) (hdg : decode cc pc = .ok (.getfield index, 3)) (kk : W p l e R s m args below meth c H locs cells slots Q (F0 m (pc + 3) ls (.int x :: rest))) : W p l e R s m args below meth c H locs cells slots Q (F0 m (pc) ls (.ref (bd 0) :: rest)) := by
  subst hv
  exact va_get (ci := 12) (C := RX12) (T := TX12) (N := 70) hx hb hg us12 hown hK hP 0 rfl rfl 42 (by decide) hl (fun _ h9 => h9) rfl hdg kk
theorem pr_leastHurts (hx : p.tables.exec = Jvm.exec) (hb : c.code = cc) (hg : ∀ w ∈ gw, w.before args s = true) (hown : s.vm.findClass own = some m.cls) (hK : va_K D vwCl (TY cs) s) (hP : va_P D vwCl (RW cs bd u b bw) H) (hD : va_D A (RW cs bd u b bw)) (hS : va_S A H0 H locs) {x : Int32} (hl : (Cond.fieldLink own index "BeesStingModel" "leastHurts" "I").before args s = true) (hdg : decode cc pc = .ok (.putfield index, 3)) (kk : ∀ (H1 : Heap) (l1 : List Loc), va_P D vwCl (RW cs bd (va_up u 42 x) b bw) H1 → va_D A (RW cs bd (va_up u 42 x) b bw) → va_S A H0 H1 l1 → W p l e R s m args below meth c H1 l1 cells slots Q (F0 m (pc + 3) ls (rest))) : W p l e R s m args below meth c H locs cells slots Q (F0 m (pc) ls (.int x :: .ref (bd 0) :: rest)) :=
  va_put (ci := 12) (ty := .int) (C := RX12) (T := TX12) (N := 70) hx hb hg us12 tyX12 tyX12_ok nmX12 hown hK hP hD hS 0 rfl rfl 42 (by decide) hl (fun _ h9 => h9) rfl (by decide +kernel) rfl rfl (Nat.le_of_ble_eq_true rfl) hdg (fun H1 l1 q1 q2 q3 => kk H1 l1 q1 q2 q3)
theorem gr_quiets (hx : p.tables.exec = Jvm.exec) (hb : c.code = cc) (hg : ∀ w ∈ gw, w.before args s = true) (hown : s.vm.findClass own = some m.cls) (hK : va_K D vwCl (TY cs) s) (hP : va_P D vwCl (RW cs bd u b bw) H) {x : Int32} (hv : u 43 = x) (hl : (Cond.fieldLink own index "BeesStingModel" "quiets" "I").before args s = true) (hdg : decode cc pc = .ok (.getfield index, 3)) (kk : W p l e R s m args below meth c H locs cells slots Q (F0 m (pc + 3) ls (.int x :: rest))) : W p l e R s m args below meth c H locs cells slots Q (F0 m (pc) ls (.ref (bd 0) :: rest)) := by
  subst hv
  exact va_get (ci := 12) (C := RX12) (T := TX12) (N := 70) hx hb hg us12 hown hK hP 0 rfl rfl 43 (by decide) hl (fun _ h9 => h9) rfl hdg kk
theorem pr_quiets (hx : p.tables.exec = Jvm.exec) (hb : c.code = cc) (hg : ∀ w ∈ gw, w.before args s = true) (hown : s.vm.findClass own = some m.cls) (hK : va_K D vwCl (TY cs) s) (hP : va_P D vwCl (RW cs bd u b bw) H) (hD : va_D A (RW cs bd u b bw)) (hS : va_S A H0 H locs) {x : Int32} (hl : (Cond.fieldLink own index "BeesStingModel" "quiets" "I").before args s = true) (hdg : decode cc pc = .ok (.putfield index, 3)) (kk : ∀ (H1 : Heap) (l1 : List Loc), va_P D vwCl (RW cs bd (va_up u 43 x) b bw) H1 → va_D A (RW cs bd (va_up u 43 x) b bw) → va_S A H0 H1 l1 → W p l e R s m args below meth c H1 l1 cells slots Q (F0 m (pc + 3) ls (rest))) : W p l e R s m args below meth c H locs cells slots Q (F0 m (pc) ls (.int x :: .ref (bd 0) :: rest)) :=
  va_put (ci := 12) (ty := .int) (C := RX12) (T := TX12) (N := 70) hx hb hg us12 tyX12 tyX12_ok nmX12 hown hK hP hD hS 0 rfl rfl 43 (by decide) hl (fun _ h9 => h9) rfl (by decide +kernel) rfl rfl (Nat.le_of_ble_eq_true rfl) hdg (fun H1 l1 q1 q2 q3 => kk H1 l1 q1 q2 q3)
theorem gr_wordA (hx : p.tables.exec = Jvm.exec) (hb : c.code = cc) (hg : ∀ w ∈ gw, w.before args s = true) (hown : s.vm.findClass own = some m.cls) (hK : va_K D vwCl (TY cs) s) (hP : va_P D vwCl (RW cs bd u b bw) H) {x : Int32} (hv : u 44 = x) (hl : (Cond.fieldLink own index "BeesStingModel" "wordA" "I").before args s = true) (hdg : decode cc pc = .ok (.getfield index, 3)) (kk : W p l e R s m args below meth c H locs cells slots Q (F0 m (pc + 3) ls (.int x :: rest))) : W p l e R s m args below meth c H locs cells slots Q (F0 m (pc) ls (.ref (bd 0) :: rest)) := by
  subst hv
  exact va_get (ci := 12) (C := RX12) (T := TX12) (N := 70) hx hb hg us12 hown hK hP 0 rfl rfl 44 (by decide) hl (fun _ h9 => h9) rfl hdg kk
theorem pr_wordA (hx : p.tables.exec = Jvm.exec) (hb : c.code = cc) (hg : ∀ w ∈ gw, w.before args s = true) (hown : s.vm.findClass own = some m.cls) (hK : va_K D vwCl (TY cs) s) (hP : va_P D vwCl (RW cs bd u b bw) H) (hD : va_D A (RW cs bd u b bw)) (hS : va_S A H0 H locs) {x : Int32} (hl : (Cond.fieldLink own index "BeesStingModel" "wordA" "I").before args s = true) (hdg : decode cc pc = .ok (.putfield index, 3)) (kk : ∀ (H1 : Heap) (l1 : List Loc), va_P D vwCl (RW cs bd (va_up u 44 x) b bw) H1 → va_D A (RW cs bd (va_up u 44 x) b bw) → va_S A H0 H1 l1 → W p l e R s m args below meth c H1 l1 cells slots Q (F0 m (pc + 3) ls (rest))) : W p l e R s m args below meth c H locs cells slots Q (F0 m (pc) ls (.int x :: .ref (bd 0) :: rest)) :=
  va_put (ci := 12) (ty := .int) (C := RX12) (T := TX12) (N := 70) hx hb hg us12 tyX12 tyX12_ok nmX12 hown hK hP hD hS 0 rfl rfl 44 (by decide) hl (fun _ h9 => h9) rfl (by decide +kernel) rfl rfl (Nat.le_of_ble_eq_true rfl) hdg (fun H1 l1 q1 q2 q3 => kk H1 l1 q1 q2 q3)
theorem gr_wordB (hx : p.tables.exec = Jvm.exec) (hb : c.code = cc) (hg : ∀ w ∈ gw, w.before args s = true) (hown : s.vm.findClass own = some m.cls) (hK : va_K D vwCl (TY cs) s) (hP : va_P D vwCl (RW cs bd u b bw) H) {x : Int32} (hv : u 45 = x) (hl : (Cond.fieldLink own index "BeesStingModel" "wordB" "I").before args s = true) (hdg : decode cc pc = .ok (.getfield index, 3)) (kk : W p l e R s m args below meth c H locs cells slots Q (F0 m (pc + 3) ls (.int x :: rest))) : W p l e R s m args below meth c H locs cells slots Q (F0 m (pc) ls (.ref (bd 0) :: rest)) := by
  subst hv
  exact va_get (ci := 12) (C := RX12) (T := TX12) (N := 70) hx hb hg us12 hown hK hP 0 rfl rfl 45 (by decide) hl (fun _ h9 => h9) rfl hdg kk
theorem pr_wordB (hx : p.tables.exec = Jvm.exec) (hb : c.code = cc) (hg : ∀ w ∈ gw, w.before args s = true) (hown : s.vm.findClass own = some m.cls) (hK : va_K D vwCl (TY cs) s) (hP : va_P D vwCl (RW cs bd u b bw) H) (hD : va_D A (RW cs bd u b bw)) (hS : va_S A H0 H locs) {x : Int32} (hl : (Cond.fieldLink own index "BeesStingModel" "wordB" "I").before args s = true) (hdg : decode cc pc = .ok (.putfield index, 3)) (kk : ∀ (H1 : Heap) (l1 : List Loc), va_P D vwCl (RW cs bd (va_up u 45 x) b bw) H1 → va_D A (RW cs bd (va_up u 45 x) b bw) → va_S A H0 H1 l1 → W p l e R s m args below meth c H1 l1 cells slots Q (F0 m (pc + 3) ls (rest))) : W p l e R s m args below meth c H locs cells slots Q (F0 m (pc) ls (.int x :: .ref (bd 0) :: rest)) :=
  va_put (ci := 12) (ty := .int) (C := RX12) (T := TX12) (N := 70) hx hb hg us12 tyX12 tyX12_ok nmX12 hown hK hP hD hS 0 rfl rfl 45 (by decide) hl (fun _ h9 => h9) rfl (by decide +kernel) rfl rfl (Nat.le_of_ble_eq_true rfl) hdg (fun H1 l1 q1 q2 q3 => kk H1 l1 q1 q2 q3)
theorem gr_dayShelf (hx : p.tables.exec = Jvm.exec) (hb : c.code = cc) (hg : ∀ w ∈ gw, w.before args s = true) (hown : s.vm.findClass own = some m.cls) (hK : va_K D vwCl (TY cs) s) (hP : va_P D vwCl (RW cs bd u b bw) H) {x : Int32} (hv : u 46 = x) (hl : (Cond.fieldLink own index "BeesStingModel" "dayShelf" "I").before args s = true) (hdg : decode cc pc = .ok (.getfield index, 3)) (kk : W p l e R s m args below meth c H locs cells slots Q (F0 m (pc + 3) ls (.int x :: rest))) : W p l e R s m args below meth c H locs cells slots Q (F0 m (pc) ls (.ref (bd 0) :: rest)) := by
  subst hv
  exact va_get (ci := 12) (C := RX12) (T := TX12) (N := 70) hx hb hg us12 hown hK hP 0 rfl rfl 46 (by decide) hl (fun _ h9 => h9) rfl hdg kk
theorem pr_dayShelf (hx : p.tables.exec = Jvm.exec) (hb : c.code = cc) (hg : ∀ w ∈ gw, w.before args s = true) (hown : s.vm.findClass own = some m.cls) (hK : va_K D vwCl (TY cs) s) (hP : va_P D vwCl (RW cs bd u b bw) H) (hD : va_D A (RW cs bd u b bw)) (hS : va_S A H0 H locs) {x : Int32} (hl : (Cond.fieldLink own index "BeesStingModel" "dayShelf" "I").before args s = true) (hdg : decode cc pc = .ok (.putfield index, 3)) (kk : ∀ (H1 : Heap) (l1 : List Loc), va_P D vwCl (RW cs bd (va_up u 46 x) b bw) H1 → va_D A (RW cs bd (va_up u 46 x) b bw) → va_S A H0 H1 l1 → W p l e R s m args below meth c H1 l1 cells slots Q (F0 m (pc + 3) ls (rest))) : W p l e R s m args below meth c H locs cells slots Q (F0 m (pc) ls (.int x :: .ref (bd 0) :: rest)) :=
  va_put (ci := 12) (ty := .int) (C := RX12) (T := TX12) (N := 70) hx hb hg us12 tyX12 tyX12_ok nmX12 hown hK hP hD hS 0 rfl rfl 46 (by decide) hl (fun _ h9 => h9) rfl (by decide +kernel) rfl rfl (Nat.le_of_ble_eq_true rfl) hdg (fun H1 l1 q1 q2 q3 => kk H1 l1 q1 q2 q3)
theorem gr_toldShelf (hx : p.tables.exec = Jvm.exec) (hb : c.code = cc) (hg : ∀ w ∈ gw, w.before args s = true) (hown : s.vm.findClass own = some m.cls) (hK : va_K D vwCl (TY cs) s) (hP : va_P D vwCl (RW cs bd u b bw) H) {x : Int32} (hv : u 47 = x) (hl : (Cond.fieldLink own index "BeesStingModel" "toldShelf" "I").before args s = true) (hdg : decode cc pc = .ok (.getfield index, 3)) (kk : W p l e R s m args below meth c H locs cells slots Q (F0 m (pc + 3) ls (.int x :: rest))) : W p l e R s m args below meth c H locs cells slots Q (F0 m (pc) ls (.ref (bd 0) :: rest)) := by
  subst hv
  exact va_get (ci := 12) (C := RX12) (T := TX12) (N := 70) hx hb hg us12 hown hK hP 0 rfl rfl 47 (by decide) hl (fun _ h9 => h9) rfl hdg kk
theorem pr_toldShelf (hx : p.tables.exec = Jvm.exec) (hb : c.code = cc) (hg : ∀ w ∈ gw, w.before args s = true) (hown : s.vm.findClass own = some m.cls) (hK : va_K D vwCl (TY cs) s) (hP : va_P D vwCl (RW cs bd u b bw) H) (hD : va_D A (RW cs bd u b bw)) (hS : va_S A H0 H locs) {x : Int32} (hl : (Cond.fieldLink own index "BeesStingModel" "toldShelf" "I").before args s = true) (hdg : decode cc pc = .ok (.putfield index, 3)) (kk : ∀ (H1 : Heap) (l1 : List Loc), va_P D vwCl (RW cs bd (va_up u 47 x) b bw) H1 → va_D A (RW cs bd (va_up u 47 x) b bw) → va_S A H0 H1 l1 → W p l e R s m args below meth c H1 l1 cells slots Q (F0 m (pc + 3) ls (rest))) : W p l e R s m args below meth c H locs cells slots Q (F0 m (pc) ls (.int x :: .ref (bd 0) :: rest)) :=
  va_put (ci := 12) (ty := .int) (C := RX12) (T := TX12) (N := 70) hx hb hg us12 tyX12 tyX12_ok nmX12 hown hK hP hD hS 0 rfl rfl 47 (by decide) hl (fun _ h9 => h9) rfl (by decide +kernel) rfl rfl (Nat.le_of_ble_eq_true rfl) hdg (fun H1 l1 q1 q2 q3 => kk H1 l1 q1 q2 q3)
theorem gr_sayings (hx : p.tables.exec = Jvm.exec) (hb : c.code = cc) (hg : ∀ w ∈ gw, w.before args s = true) (hown : s.vm.findClass own = some m.cls) (hK : va_K D vwCl (TY cs) s) (hP : va_P D vwCl (RW cs bd u b bw) H) {x : Int32} (hv : u 48 = x) (hl : (Cond.fieldLink own index "BeesStingModel" "sayings" "I").before args s = true) (hdg : decode cc pc = .ok (.getfield index, 3)) (kk : W p l e R s m args below meth c H locs cells slots Q (F0 m (pc + 3) ls (.int x :: rest))) : W p l e R s m args below meth c H locs cells slots Q (F0 m (pc) ls (.ref (bd 0) :: rest)) := by
  subst hv
  exact va_get (ci := 12) (C := RX12) (T := TX12) (N := 70) hx hb hg us12 hown hK hP 0 rfl rfl 48 (by decide) hl (fun _ h9 => h9) rfl hdg kk
theorem pr_sayings (hx : p.tables.exec = Jvm.exec) (hb : c.code = cc) (hg : ∀ w ∈ gw, w.before args s = true) (hown : s.vm.findClass own = some m.cls) (hK : va_K D vwCl (TY cs) s) (hP : va_P D vwCl (RW cs bd u b bw) H) (hD : va_D A (RW cs bd u b bw)) (hS : va_S A H0 H locs) {x : Int32} (hl : (Cond.fieldLink own index "BeesStingModel" "sayings" "I").before args s = true) (hdg : decode cc pc = .ok (.putfield index, 3)) (kk : ∀ (H1 : Heap) (l1 : List Loc), va_P D vwCl (RW cs bd (va_up u 48 x) b bw) H1 → va_D A (RW cs bd (va_up u 48 x) b bw) → va_S A H0 H1 l1 → W p l e R s m args below meth c H1 l1 cells slots Q (F0 m (pc + 3) ls (rest))) : W p l e R s m args below meth c H locs cells slots Q (F0 m (pc) ls (.int x :: .ref (bd 0) :: rest)) :=
  va_put (ci := 12) (ty := .int) (C := RX12) (T := TX12) (N := 70) hx hb hg us12 tyX12 tyX12_ok nmX12 hown hK hP hD hS 0 rfl rfl 48 (by decide) hl (fun _ h9 => h9) rfl (by decide +kernel) rfl rfl (Nat.le_of_ble_eq_true rfl) hdg (fun H1 l1 q1 q2 q3 => kk H1 l1 q1 q2 q3)
theorem gr_waysMany (hx : p.tables.exec = Jvm.exec) (hb : c.code = cc) (hg : ∀ w ∈ gw, w.before args s = true) (hown : s.vm.findClass own = some m.cls) (hK : va_K D vwCl (TY cs) s) (hP : va_P D vwCl (RW cs bd u b bw) H) {x : Int32} (hv : u 49 = x) (hl : (Cond.fieldLink own index "BeesStingModel" "waysMany" "I").before args s = true) (hdg : decode cc pc = .ok (.getfield index, 3)) (kk : W p l e R s m args below meth c H locs cells slots Q (F0 m (pc + 3) ls (.int x :: rest))) : W p l e R s m args below meth c H locs cells slots Q (F0 m (pc) ls (.ref (bd 0) :: rest)) := by
  subst hv
  exact va_get (ci := 12) (C := RX12) (T := TX12) (N := 70) hx hb hg us12 hown hK hP 0 rfl rfl 49 (by decide) hl (fun _ h9 => h9) rfl hdg kk
theorem pr_waysMany (hx : p.tables.exec = Jvm.exec) (hb : c.code = cc) (hg : ∀ w ∈ gw, w.before args s = true) (hown : s.vm.findClass own = some m.cls) (hK : va_K D vwCl (TY cs) s) (hP : va_P D vwCl (RW cs bd u b bw) H) (hD : va_D A (RW cs bd u b bw)) (hS : va_S A H0 H locs) {x : Int32} (hl : (Cond.fieldLink own index "BeesStingModel" "waysMany" "I").before args s = true) (hdg : decode cc pc = .ok (.putfield index, 3)) (kk : ∀ (H1 : Heap) (l1 : List Loc), va_P D vwCl (RW cs bd (va_up u 49 x) b bw) H1 → va_D A (RW cs bd (va_up u 49 x) b bw) → va_S A H0 H1 l1 → W p l e R s m args below meth c H1 l1 cells slots Q (F0 m (pc + 3) ls (rest))) : W p l e R s m args below meth c H locs cells slots Q (F0 m (pc) ls (.int x :: .ref (bd 0) :: rest)) :=
  va_put (ci := 12) (ty := .int) (C := RX12) (T := TX12) (N := 70) hx hb hg us12 tyX12 tyX12_ok nmX12 hown hK hP hD hS 0 rfl rfl 49 (by decide) hl (fun _ h9 => h9) rfl (by decide +kernel) rfl rfl (Nat.le_of_ble_eq_true rfl) hdg (fun H1 l1 q1 q2 q3 => kk H1 l1 q1 q2 q3)
theorem gr_fewest1 (hx : p.tables.exec = Jvm.exec) (hb : c.code = cc) (hg : ∀ w ∈ gw, w.before args s = true) (hown : s.vm.findClass own = some m.cls) (hK : va_K D vwCl (TY cs) s) (hP : va_P D vwCl (RW cs bd u b bw) H) {x : Int32} (hv : u 50 = x) (hl : (Cond.fieldLink own index "BeesStingModel" "fewest1" "I").before args s = true) (hdg : decode cc pc = .ok (.getfield index, 3)) (kk : W p l e R s m args below meth c H locs cells slots Q (F0 m (pc + 3) ls (.int x :: rest))) : W p l e R s m args below meth c H locs cells slots Q (F0 m (pc) ls (.ref (bd 0) :: rest)) := by
  subst hv
  exact va_get (ci := 12) (C := RX12) (T := TX12) (N := 70) hx hb hg us12 hown hK hP 0 rfl rfl 50 (by decide) hl (fun _ h9 => h9) rfl hdg kk
theorem pr_fewest1 (hx : p.tables.exec = Jvm.exec) (hb : c.code = cc) (hg : ∀ w ∈ gw, w.before args s = true) (hown : s.vm.findClass own = some m.cls) (hK : va_K D vwCl (TY cs) s) (hP : va_P D vwCl (RW cs bd u b bw) H) (hD : va_D A (RW cs bd u b bw)) (hS : va_S A H0 H locs) {x : Int32} (hl : (Cond.fieldLink own index "BeesStingModel" "fewest1" "I").before args s = true) (hdg : decode cc pc = .ok (.putfield index, 3)) (kk : ∀ (H1 : Heap) (l1 : List Loc), va_P D vwCl (RW cs bd (va_up u 50 x) b bw) H1 → va_D A (RW cs bd (va_up u 50 x) b bw) → va_S A H0 H1 l1 → W p l e R s m args below meth c H1 l1 cells slots Q (F0 m (pc + 3) ls (rest))) : W p l e R s m args below meth c H locs cells slots Q (F0 m (pc) ls (.int x :: .ref (bd 0) :: rest)) :=
  va_put (ci := 12) (ty := .int) (C := RX12) (T := TX12) (N := 70) hx hb hg us12 tyX12 tyX12_ok nmX12 hown hK hP hD hS 0 rfl rfl 50 (by decide) hl (fun _ h9 => h9) rfl (by decide +kernel) rfl rfl (Nat.le_of_ble_eq_true rfl) hdg (fun H1 l1 q1 q2 q3 => kk H1 l1 q1 q2 q3)
theorem gr_fewestBits (hx : p.tables.exec = Jvm.exec) (hb : c.code = cc) (hg : ∀ w ∈ gw, w.before args s = true) (hown : s.vm.findClass own = some m.cls) (hK : va_K D vwCl (TY cs) s) (hP : va_P D vwCl (RW cs bd u b bw) H) {x : Int32} (hv : u 51 = x) (hl : (Cond.fieldLink own index "BeesStingModel" "fewestBits" "I").before args s = true) (hdg : decode cc pc = .ok (.getfield index, 3)) (kk : W p l e R s m args below meth c H locs cells slots Q (F0 m (pc + 3) ls (.int x :: rest))) : W p l e R s m args below meth c H locs cells slots Q (F0 m (pc) ls (.ref (bd 0) :: rest)) := by
  subst hv
  exact va_get (ci := 12) (C := RX12) (T := TX12) (N := 70) hx hb hg us12 hown hK hP 0 rfl rfl 51 (by decide) hl (fun _ h9 => h9) rfl hdg kk
theorem pr_fewestBits (hx : p.tables.exec = Jvm.exec) (hb : c.code = cc) (hg : ∀ w ∈ gw, w.before args s = true) (hown : s.vm.findClass own = some m.cls) (hK : va_K D vwCl (TY cs) s) (hP : va_P D vwCl (RW cs bd u b bw) H) (hD : va_D A (RW cs bd u b bw)) (hS : va_S A H0 H locs) {x : Int32} (hl : (Cond.fieldLink own index "BeesStingModel" "fewestBits" "I").before args s = true) (hdg : decode cc pc = .ok (.putfield index, 3)) (kk : ∀ (H1 : Heap) (l1 : List Loc), va_P D vwCl (RW cs bd (va_up u 51 x) b bw) H1 → va_D A (RW cs bd (va_up u 51 x) b bw) → va_S A H0 H1 l1 → W p l e R s m args below meth c H1 l1 cells slots Q (F0 m (pc + 3) ls (rest))) : W p l e R s m args below meth c H locs cells slots Q (F0 m (pc) ls (.int x :: .ref (bd 0) :: rest)) :=
  va_put (ci := 12) (ty := .int) (C := RX12) (T := TX12) (N := 70) hx hb hg us12 tyX12 tyX12_ok nmX12 hown hK hP hD hS 0 rfl rfl 51 (by decide) hl (fun _ h9 => h9) rfl (by decide +kernel) rfl rfl (Nat.le_of_ble_eq_true rfl) hdg (fun H1 l1 q1 q2 q3 => kk H1 l1 q1 q2 q3)
theorem gr_certain1 (hx : p.tables.exec = Jvm.exec) (hb : c.code = cc) (hg : ∀ w ∈ gw, w.before args s = true) (hown : s.vm.findClass own = some m.cls) (hK : va_K D vwCl (TY cs) s) (hP : va_P D vwCl (RW cs bd u b bw) H) {x : Int32} (hv : u 52 = x) (hl : (Cond.fieldLink own index "BeesStingModel" "certain1" "I").before args s = true) (hdg : decode cc pc = .ok (.getfield index, 3)) (kk : W p l e R s m args below meth c H locs cells slots Q (F0 m (pc + 3) ls (.int x :: rest))) : W p l e R s m args below meth c H locs cells slots Q (F0 m (pc) ls (.ref (bd 0) :: rest)) := by
  subst hv
  exact va_get (ci := 12) (C := RX12) (T := TX12) (N := 70) hx hb hg us12 hown hK hP 0 rfl rfl 52 (by decide) hl (fun _ h9 => h9) rfl hdg kk
theorem pr_certain1 (hx : p.tables.exec = Jvm.exec) (hb : c.code = cc) (hg : ∀ w ∈ gw, w.before args s = true) (hown : s.vm.findClass own = some m.cls) (hK : va_K D vwCl (TY cs) s) (hP : va_P D vwCl (RW cs bd u b bw) H) (hD : va_D A (RW cs bd u b bw)) (hS : va_S A H0 H locs) {x : Int32} (hl : (Cond.fieldLink own index "BeesStingModel" "certain1" "I").before args s = true) (hdg : decode cc pc = .ok (.putfield index, 3)) (kk : ∀ (H1 : Heap) (l1 : List Loc), va_P D vwCl (RW cs bd (va_up u 52 x) b bw) H1 → va_D A (RW cs bd (va_up u 52 x) b bw) → va_S A H0 H1 l1 → W p l e R s m args below meth c H1 l1 cells slots Q (F0 m (pc + 3) ls (rest))) : W p l e R s m args below meth c H locs cells slots Q (F0 m (pc) ls (.int x :: .ref (bd 0) :: rest)) :=
  va_put (ci := 12) (ty := .int) (C := RX12) (T := TX12) (N := 70) hx hb hg us12 tyX12 tyX12_ok nmX12 hown hK hP hD hS 0 rfl rfl 52 (by decide) hl (fun _ h9 => h9) rfl (by decide +kernel) rfl rfl (Nat.le_of_ble_eq_true rfl) hdg (fun H1 l1 q1 q2 q3 => kk H1 l1 q1 q2 q3)
theorem gr_ledOf (hx : p.tables.exec = Jvm.exec) (hb : c.code = cc) (hg : ∀ w ∈ gw, w.before args s = true) (hown : s.vm.findClass own = some m.cls) (hK : va_K D vwCl (TY cs) s) (hP : va_P D vwCl (RW cs bd u b bw) H) (hl : (Cond.fieldLink own index "BeesStingModel" "ledOf" "[I").before args s = true) (hdg : decode cc pc = .ok (.getfield index, 3)) (kk : W p l e R s m args below meth c H locs cells slots Q (F0 m (pc + 3) ls (.ref (bd 53) :: rest))) : W p l e R s m args below meth c H locs cells slots Q (F0 m (pc) ls (.ref (bd 0) :: rest)) :=
  va_get (ci := 12) (C := RX12) (T := TX12) (N := 70) hx hb hg us12 hown hK hP 0 rfl rfl 53 (by decide) hl (fun _ h9 => h9) rfl hdg kk
theorem gr_hasImage (hx : p.tables.exec = Jvm.exec) (hb : c.code = cc) (hg : ∀ w ∈ gw, w.before args s = true) (hown : s.vm.findClass own = some m.cls) (hK : va_K D vwCl (TY cs) s) (hP : va_P D vwCl (RW cs bd u b bw) H) {x : Int32} (hv : u 54 = x) (hl : (Cond.fieldLink own index "BeesStingModel" "hasImage" "Z").before args s = true) (hdg : decode cc pc = .ok (.getfield index, 3)) (kk : W p l e R s m args below meth c H locs cells slots Q (F0 m (pc + 3) ls (.int x :: rest))) : W p l e R s m args below meth c H locs cells slots Q (F0 m (pc) ls (.ref (bd 0) :: rest)) := by
  subst hv
  exact va_get (ci := 12) (C := RX12) (T := TX12) (N := 70) hx hb hg us12 hown hK hP 0 rfl rfl 54 (by decide) hl (fun _ h9 => h9) rfl hdg kk
theorem pr_hasImage (hx : p.tables.exec = Jvm.exec) (hb : c.code = cc) (hg : ∀ w ∈ gw, w.before args s = true) (hown : s.vm.findClass own = some m.cls) (hK : va_K D vwCl (TY cs) s) (hP : va_P D vwCl (RW cs bd u b bw) H) (hD : va_D A (RW cs bd u b bw)) (hS : va_S A H0 H locs) {x : Int32} (hz : narrow .boolean (.int x) = .int x) (hz2 : fits .boolean (.int x) = true) (hl : (Cond.fieldLink own index "BeesStingModel" "hasImage" "Z").before args s = true) (hdg : decode cc pc = .ok (.putfield index, 3)) (kk : ∀ (H1 : Heap) (l1 : List Loc), va_P D vwCl (RW cs bd (va_up u 54 x) b bw) H1 → va_D A (RW cs bd (va_up u 54 x) b bw) → va_S A H0 H1 l1 → W p l e R s m args below meth c H1 l1 cells slots Q (F0 m (pc + 3) ls (rest))) : W p l e R s m args below meth c H locs cells slots Q (F0 m (pc) ls (.int x :: .ref (bd 0) :: rest)) :=
  va_put (ci := 12) (ty := .boolean) (C := RX12) (T := TX12) (N := 70) hx hb hg us12 tyX12 tyX12_ok nmX12 hown hK hP hD hS 0 rfl rfl 54 (by decide) hl (fun _ h9 => h9) rfl (by decide +kernel) hz hz2 (Nat.le_of_ble_eq_true rfl) hdg (fun H1 l1 q1 q2 q3 => kk H1 l1 q1 q2 q3)
theorem gr_keptMany (hx : p.tables.exec = Jvm.exec) (hb : c.code = cc) (hg : ∀ w ∈ gw, w.before args s = true) (hown : s.vm.findClass own = some m.cls) (hK : va_K D vwCl (TY cs) s) (hP : va_P D vwCl (RW cs bd u b bw) H) {x : Int32} (hv : u 55 = x) (hl : (Cond.fieldLink own index "BeesStingModel" "keptMany" "I").before args s = true) (hdg : decode cc pc = .ok (.getfield index, 3)) (kk : W p l e R s m args below meth c H locs cells slots Q (F0 m (pc + 3) ls (.int x :: rest))) : W p l e R s m args below meth c H locs cells slots Q (F0 m (pc) ls (.ref (bd 0) :: rest)) := by
  subst hv
  exact va_get (ci := 12) (C := RX12) (T := TX12) (N := 70) hx hb hg us12 hown hK hP 0 rfl rfl 55 (by decide) hl (fun _ h9 => h9) rfl hdg kk
theorem pr_keptMany (hx : p.tables.exec = Jvm.exec) (hb : c.code = cc) (hg : ∀ w ∈ gw, w.before args s = true) (hown : s.vm.findClass own = some m.cls) (hK : va_K D vwCl (TY cs) s) (hP : va_P D vwCl (RW cs bd u b bw) H) (hD : va_D A (RW cs bd u b bw)) (hS : va_S A H0 H locs) {x : Int32} (hl : (Cond.fieldLink own index "BeesStingModel" "keptMany" "I").before args s = true) (hdg : decode cc pc = .ok (.putfield index, 3)) (kk : ∀ (H1 : Heap) (l1 : List Loc), va_P D vwCl (RW cs bd (va_up u 55 x) b bw) H1 → va_D A (RW cs bd (va_up u 55 x) b bw) → va_S A H0 H1 l1 → W p l e R s m args below meth c H1 l1 cells slots Q (F0 m (pc + 3) ls (rest))) : W p l e R s m args below meth c H locs cells slots Q (F0 m (pc) ls (.int x :: .ref (bd 0) :: rest)) :=
  va_put (ci := 12) (ty := .int) (C := RX12) (T := TX12) (N := 70) hx hb hg us12 tyX12 tyX12_ok nmX12 hown hK hP hD hS 0 rfl rfl 55 (by decide) hl (fun _ h9 => h9) rfl (by decide +kernel) rfl rfl (Nat.le_of_ble_eq_true rfl) hdg (fun H1 l1 q1 q2 q3 => kk H1 l1 q1 q2 q3)
theorem gr_keptBee (hx : p.tables.exec = Jvm.exec) (hb : c.code = cc) (hg : ∀ w ∈ gw, w.before args s = true) (hown : s.vm.findClass own = some m.cls) (hK : va_K D vwCl (TY cs) s) (hP : va_P D vwCl (RW cs bd u b bw) H) {x : Int32} (hv : u 56 = x) (hl : (Cond.fieldLink own index "BeesStingModel" "keptBee" "I").before args s = true) (hdg : decode cc pc = .ok (.getfield index, 3)) (kk : W p l e R s m args below meth c H locs cells slots Q (F0 m (pc + 3) ls (.int x :: rest))) : W p l e R s m args below meth c H locs cells slots Q (F0 m (pc) ls (.ref (bd 0) :: rest)) := by
  subst hv
  exact va_get (ci := 12) (C := RX12) (T := TX12) (N := 70) hx hb hg us12 hown hK hP 0 rfl rfl 56 (by decide) hl (fun _ h9 => h9) rfl hdg kk
theorem pr_keptBee (hx : p.tables.exec = Jvm.exec) (hb : c.code = cc) (hg : ∀ w ∈ gw, w.before args s = true) (hown : s.vm.findClass own = some m.cls) (hK : va_K D vwCl (TY cs) s) (hP : va_P D vwCl (RW cs bd u b bw) H) (hD : va_D A (RW cs bd u b bw)) (hS : va_S A H0 H locs) {x : Int32} (hl : (Cond.fieldLink own index "BeesStingModel" "keptBee" "I").before args s = true) (hdg : decode cc pc = .ok (.putfield index, 3)) (kk : ∀ (H1 : Heap) (l1 : List Loc), va_P D vwCl (RW cs bd (va_up u 56 x) b bw) H1 → va_D A (RW cs bd (va_up u 56 x) b bw) → va_S A H0 H1 l1 → W p l e R s m args below meth c H1 l1 cells slots Q (F0 m (pc + 3) ls (rest))) : W p l e R s m args below meth c H locs cells slots Q (F0 m (pc) ls (.int x :: .ref (bd 0) :: rest)) :=
  va_put (ci := 12) (ty := .int) (C := RX12) (T := TX12) (N := 70) hx hb hg us12 tyX12 tyX12_ok nmX12 hown hK hP hD hS 0 rfl rfl 56 (by decide) hl (fun _ h9 => h9) rfl (by decide +kernel) rfl rfl (Nat.le_of_ble_eq_true rfl) hdg (fun H1 l1 q1 q2 q3 => kk H1 l1 q1 q2 q3)
theorem gr_keptHour (hx : p.tables.exec = Jvm.exec) (hb : c.code = cc) (hg : ∀ w ∈ gw, w.before args s = true) (hown : s.vm.findClass own = some m.cls) (hK : va_K D vwCl (TY cs) s) (hP : va_P D vwCl (RW cs bd u b bw) H) {x : Int32} (hv : u 57 = x) (hl : (Cond.fieldLink own index "BeesStingModel" "keptHour" "I").before args s = true) (hdg : decode cc pc = .ok (.getfield index, 3)) (kk : W p l e R s m args below meth c H locs cells slots Q (F0 m (pc + 3) ls (.int x :: rest))) : W p l e R s m args below meth c H locs cells slots Q (F0 m (pc) ls (.ref (bd 0) :: rest)) := by
  subst hv
  exact va_get (ci := 12) (C := RX12) (T := TX12) (N := 70) hx hb hg us12 hown hK hP 0 rfl rfl 57 (by decide) hl (fun _ h9 => h9) rfl hdg kk
theorem pr_keptHour (hx : p.tables.exec = Jvm.exec) (hb : c.code = cc) (hg : ∀ w ∈ gw, w.before args s = true) (hown : s.vm.findClass own = some m.cls) (hK : va_K D vwCl (TY cs) s) (hP : va_P D vwCl (RW cs bd u b bw) H) (hD : va_D A (RW cs bd u b bw)) (hS : va_S A H0 H locs) {x : Int32} (hl : (Cond.fieldLink own index "BeesStingModel" "keptHour" "I").before args s = true) (hdg : decode cc pc = .ok (.putfield index, 3)) (kk : ∀ (H1 : Heap) (l1 : List Loc), va_P D vwCl (RW cs bd (va_up u 57 x) b bw) H1 → va_D A (RW cs bd (va_up u 57 x) b bw) → va_S A H0 H1 l1 → W p l e R s m args below meth c H1 l1 cells slots Q (F0 m (pc + 3) ls (rest))) : W p l e R s m args below meth c H locs cells slots Q (F0 m (pc) ls (.int x :: .ref (bd 0) :: rest)) :=
  va_put (ci := 12) (ty := .int) (C := RX12) (T := TX12) (N := 70) hx hb hg us12 tyX12 tyX12_ok nmX12 hown hK hP hD hS 0 rfl rfl 57 (by decide) hl (fun _ h9 => h9) rfl (by decide +kernel) rfl rfl (Nat.le_of_ble_eq_true rfl) hdg (fun H1 l1 q1 q2 q3 => kk H1 l1 q1 q2 q3)
theorem gr_keptLiar (hx : p.tables.exec = Jvm.exec) (hb : c.code = cc) (hg : ∀ w ∈ gw, w.before args s = true) (hown : s.vm.findClass own = some m.cls) (hK : va_K D vwCl (TY cs) s) (hP : va_P D vwCl (RW cs bd u b bw) H) {x : Int32} (hv : u 58 = x) (hl : (Cond.fieldLink own index "BeesStingModel" "keptLiar" "I").before args s = true) (hdg : decode cc pc = .ok (.getfield index, 3)) (kk : W p l e R s m args below meth c H locs cells slots Q (F0 m (pc + 3) ls (.int x :: rest))) : W p l e R s m args below meth c H locs cells slots Q (F0 m (pc) ls (.ref (bd 0) :: rest)) := by
  subst hv
  exact va_get (ci := 12) (C := RX12) (T := TX12) (N := 70) hx hb hg us12 hown hK hP 0 rfl rfl 58 (by decide) hl (fun _ h9 => h9) rfl hdg kk
theorem pr_keptLiar (hx : p.tables.exec = Jvm.exec) (hb : c.code = cc) (hg : ∀ w ∈ gw, w.before args s = true) (hown : s.vm.findClass own = some m.cls) (hK : va_K D vwCl (TY cs) s) (hP : va_P D vwCl (RW cs bd u b bw) H) (hD : va_D A (RW cs bd u b bw)) (hS : va_S A H0 H locs) {x : Int32} (hl : (Cond.fieldLink own index "BeesStingModel" "keptLiar" "I").before args s = true) (hdg : decode cc pc = .ok (.putfield index, 3)) (kk : ∀ (H1 : Heap) (l1 : List Loc), va_P D vwCl (RW cs bd (va_up u 58 x) b bw) H1 → va_D A (RW cs bd (va_up u 58 x) b bw) → va_S A H0 H1 l1 → W p l e R s m args below meth c H1 l1 cells slots Q (F0 m (pc + 3) ls (rest))) : W p l e R s m args below meth c H locs cells slots Q (F0 m (pc) ls (.int x :: .ref (bd 0) :: rest)) :=
  va_put (ci := 12) (ty := .int) (C := RX12) (T := TX12) (N := 70) hx hb hg us12 tyX12 tyX12_ok nmX12 hown hK hP hD hS 0 rfl rfl 58 (by decide) hl (fun _ h9 => h9) rfl (by decide +kernel) rfl rfl (Nat.le_of_ble_eq_true rfl) hdg (fun H1 l1 q1 q2 q3 => kk H1 l1 q1 q2 q3)
theorem gr_keptCell (hx : p.tables.exec = Jvm.exec) (hb : c.code = cc) (hg : ∀ w ∈ gw, w.before args s = true) (hown : s.vm.findClass own = some m.cls) (hK : va_K D vwCl (TY cs) s) (hP : va_P D vwCl (RW cs bd u b bw) H) (hl : (Cond.fieldLink own index "BeesStingModel" "keptCell" "[I").before args s = true) (hdg : decode cc pc = .ok (.getfield index, 3)) (kk : W p l e R s m args below meth c H locs cells slots Q (F0 m (pc + 3) ls (.ref (bd 59) :: rest))) : W p l e R s m args below meth c H locs cells slots Q (F0 m (pc) ls (.ref (bd 0) :: rest)) :=
  va_get (ci := 12) (C := RX12) (T := TX12) (N := 70) hx hb hg us12 hown hK hP 0 rfl rfl 59 (by decide) hl (fun _ h9 => h9) rfl hdg kk
theorem gr_keptPads (hx : p.tables.exec = Jvm.exec) (hb : c.code = cc) (hg : ∀ w ∈ gw, w.before args s = true) (hown : s.vm.findClass own = some m.cls) (hK : va_K D vwCl (TY cs) s) (hP : va_P D vwCl (RW cs bd u b bw) H) (hl : (Cond.fieldLink own index "BeesStingModel" "keptPads" "[I").before args s = true) (hdg : decode cc pc = .ok (.getfield index, 3)) (kk : W p l e R s m args below meth c H locs cells slots Q (F0 m (pc + 3) ls (.ref (bd 60) :: rest))) : W p l e R s m args below meth c H locs cells slots Q (F0 m (pc) ls (.ref (bd 0) :: rest)) :=
  va_get (ci := 12) (C := RX12) (T := TX12) (N := 70) hx hb hg us12 hown hK hP 0 rfl rfl 60 (by decide) hl (fun _ h9 => h9) rfl hdg kk
theorem gr_keptLed (hx : p.tables.exec = Jvm.exec) (hb : c.code = cc) (hg : ∀ w ∈ gw, w.before args s = true) (hown : s.vm.findClass own = some m.cls) (hK : va_K D vwCl (TY cs) s) (hP : va_P D vwCl (RW cs bd u b bw) H) (hl : (Cond.fieldLink own index "BeesStingModel" "keptLed" "[I").before args s = true) (hdg : decode cc pc = .ok (.getfield index, 3)) (kk : W p l e R s m args below meth c H locs cells slots Q (F0 m (pc + 3) ls (.ref (bd 61) :: rest))) : W p l e R s m args below meth c H locs cells slots Q (F0 m (pc) ls (.ref (bd 0) :: rest)) :=
  va_get (ci := 12) (C := RX12) (T := TX12) (N := 70) hx hb hg us12 hown hK hP 0 rfl rfl 61 (by decide) hl (fun _ h9 => h9) rfl hdg kk
theorem gr_bodies (hx : p.tables.exec = Jvm.exec) (hb : c.code = cc) (hg : ∀ w ∈ gw, w.before args s = true) (hown : s.vm.findClass own = some m.cls) (hK : va_K D vwCl (TY cs) s) (hP : va_P D vwCl (RW cs bd u b bw) H) {x : Int32} (hv : u 62 = x) (hl : (Cond.fieldLink own index "BeesStingModel" "bodies" "I").before args s = true) (hdg : decode cc pc = .ok (.getfield index, 3)) (kk : W p l e R s m args below meth c H locs cells slots Q (F0 m (pc + 3) ls (.int x :: rest))) : W p l e R s m args below meth c H locs cells slots Q (F0 m (pc) ls (.ref (bd 0) :: rest)) := by
  subst hv
  exact va_get (ci := 12) (C := RX12) (T := TX12) (N := 70) hx hb hg us12 hown hK hP 0 rfl rfl 62 (by decide) hl (fun _ h9 => h9) rfl hdg kk
theorem pr_bodies (hx : p.tables.exec = Jvm.exec) (hb : c.code = cc) (hg : ∀ w ∈ gw, w.before args s = true) (hown : s.vm.findClass own = some m.cls) (hK : va_K D vwCl (TY cs) s) (hP : va_P D vwCl (RW cs bd u b bw) H) (hD : va_D A (RW cs bd u b bw)) (hS : va_S A H0 H locs) {x : Int32} (hl : (Cond.fieldLink own index "BeesStingModel" "bodies" "I").before args s = true) (hdg : decode cc pc = .ok (.putfield index, 3)) (kk : ∀ (H1 : Heap) (l1 : List Loc), va_P D vwCl (RW cs bd (va_up u 62 x) b bw) H1 → va_D A (RW cs bd (va_up u 62 x) b bw) → va_S A H0 H1 l1 → W p l e R s m args below meth c H1 l1 cells slots Q (F0 m (pc + 3) ls (rest))) : W p l e R s m args below meth c H locs cells slots Q (F0 m (pc) ls (.int x :: .ref (bd 0) :: rest)) :=
  va_put (ci := 12) (ty := .int) (C := RX12) (T := TX12) (N := 70) hx hb hg us12 tyX12 tyX12_ok nmX12 hown hK hP hD hS 0 rfl rfl 62 (by decide) hl (fun _ h9 => h9) rfl (by decide +kernel) rfl rfl (Nat.le_of_ble_eq_true rfl) hdg (fun H1 l1 q1 q2 q3 => kk H1 l1 q1 q2 q3)
theorem gr_kind (hx : p.tables.exec = Jvm.exec) (hb : c.code = cc) (hg : ∀ w ∈ gw, w.before args s = true) (hown : s.vm.findClass own = some m.cls) (hK : va_K D vwCl (TY cs) s) (hP : va_P D vwCl (RW cs bd u b bw) H) (hl : (Cond.fieldLink own index "BeesStingModel" "kind" "[I").before args s = true) (hdg : decode cc pc = .ok (.getfield index, 3)) (kk : W p l e R s m args below meth c H locs cells slots Q (F0 m (pc + 3) ls (.ref (bd 63) :: rest))) : W p l e R s m args below meth c H locs cells slots Q (F0 m (pc) ls (.ref (bd 0) :: rest)) :=
  va_get (ci := 12) (C := RX12) (T := TX12) (N := 70) hx hb hg us12 hown hK hP 0 rfl rfl 63 (by decide) hl (fun _ h9 => h9) rfl hdg kk
theorem gr_traces (hx : p.tables.exec = Jvm.exec) (hb : c.code = cc) (hg : ∀ w ∈ gw, w.before args s = true) (hown : s.vm.findClass own = some m.cls) (hK : va_K D vwCl (TY cs) s) (hP : va_P D vwCl (RW cs bd u b bw) H) {x : Int32} (hv : u 64 = x) (hl : (Cond.fieldLink own index "BeesStingModel" "traces" "I").before args s = true) (hdg : decode cc pc = .ok (.getfield index, 3)) (kk : W p l e R s m args below meth c H locs cells slots Q (F0 m (pc + 3) ls (.int x :: rest))) : W p l e R s m args below meth c H locs cells slots Q (F0 m (pc) ls (.ref (bd 0) :: rest)) := by
  subst hv
  exact va_get (ci := 12) (C := RX12) (T := TX12) (N := 70) hx hb hg us12 hown hK hP 0 rfl rfl 64 (by decide) hl (fun _ h9 => h9) rfl hdg kk
theorem pr_traces (hx : p.tables.exec = Jvm.exec) (hb : c.code = cc) (hg : ∀ w ∈ gw, w.before args s = true) (hown : s.vm.findClass own = some m.cls) (hK : va_K D vwCl (TY cs) s) (hP : va_P D vwCl (RW cs bd u b bw) H) (hD : va_D A (RW cs bd u b bw)) (hS : va_S A H0 H locs) {x : Int32} (hl : (Cond.fieldLink own index "BeesStingModel" "traces" "I").before args s = true) (hdg : decode cc pc = .ok (.putfield index, 3)) (kk : ∀ (H1 : Heap) (l1 : List Loc), va_P D vwCl (RW cs bd (va_up u 64 x) b bw) H1 → va_D A (RW cs bd (va_up u 64 x) b bw) → va_S A H0 H1 l1 → W p l e R s m args below meth c H1 l1 cells slots Q (F0 m (pc + 3) ls (rest))) : W p l e R s m args below meth c H locs cells slots Q (F0 m (pc) ls (.int x :: .ref (bd 0) :: rest)) :=
  va_put (ci := 12) (ty := .int) (C := RX12) (T := TX12) (N := 70) hx hb hg us12 tyX12 tyX12_ok nmX12 hown hK hP hD hS 0 rfl rfl 64 (by decide) hl (fun _ h9 => h9) rfl (by decide +kernel) rfl rfl (Nat.le_of_ble_eq_true rfl) hdg (fun H1 l1 q1 q2 q3 => kk H1 l1 q1 q2 q3)
theorem gr_traced (hx : p.tables.exec = Jvm.exec) (hb : c.code = cc) (hg : ∀ w ∈ gw, w.before args s = true) (hown : s.vm.findClass own = some m.cls) (hK : va_K D vwCl (TY cs) s) (hP : va_P D vwCl (RW cs bd u b bw) H) (hl : (Cond.fieldLink own index "BeesStingModel" "traced" "[I").before args s = true) (hdg : decode cc pc = .ok (.getfield index, 3)) (kk : W p l e R s m args below meth c H locs cells slots Q (F0 m (pc + 3) ls (.ref (bd 65) :: rest))) : W p l e R s m args below meth c H locs cells slots Q (F0 m (pc) ls (.ref (bd 0) :: rest)) :=
  va_get (ci := 12) (C := RX12) (T := TX12) (N := 70) hx hb hg us12 hown hK hP 0 rfl rfl 65 (by decide) hl (fun _ h9 => h9) rfl hdg kk
theorem gr_holds (hx : p.tables.exec = Jvm.exec) (hb : c.code = cc) (hg : ∀ w ∈ gw, w.before args s = true) (hown : s.vm.findClass own = some m.cls) (hK : va_K D vwCl (TY cs) s) (hP : va_P D vwCl (RW cs bd u b bw) H) (hl : (Cond.fieldLink own index "BeesStingModel" "holds" "[I").before args s = true) (hdg : decode cc pc = .ok (.getfield index, 3)) (kk : W p l e R s m args below meth c H locs cells slots Q (F0 m (pc + 3) ls (.ref (bd 66) :: rest))) : W p l e R s m args below meth c H locs cells slots Q (F0 m (pc) ls (.ref (bd 0) :: rest)) :=
  va_get (ci := 12) (C := RX12) (T := TX12) (N := 70) hx hb hg us12 hown hK hP 0 rfl rfl 66 (by decide) hl (fun _ h9 => h9) rfl hdg kk
theorem gr_size (hx : p.tables.exec = Jvm.exec) (hb : c.code = cc) (hg : ∀ w ∈ gw, w.before args s = true) (hown : s.vm.findClass own = some m.cls) (hK : va_K D vwCl (TY cs) s) (hP : va_P D vwCl (RW cs bd u b bw) H) (hl : (Cond.fieldLink own index "BeesStingModel" "size" "[I").before args s = true) (hdg : decode cc pc = .ok (.getfield index, 3)) (kk : W p l e R s m args below meth c H locs cells slots Q (F0 m (pc + 3) ls (.ref (bd 67) :: rest))) : W p l e R s m args below meth c H locs cells slots Q (F0 m (pc) ls (.ref (bd 0) :: rest)) :=
  va_get (ci := 12) (C := RX12) (T := TX12) (N := 70) hx hb hg us12 hown hK hP 0 rfl rfl 67 (by decide) hl (fun _ h9 => h9) rfl hdg kk
theorem gr_elements (hx : p.tables.exec = Jvm.exec) (hb : c.code = cc) (hg : ∀ w ∈ gw, w.before args s = true) (hown : s.vm.findClass own = some m.cls) (hK : va_K D vwCl (TY cs) s) (hP : va_P D vwCl (RW cs bd u b bw) H) (hl : (Cond.fieldLink own index "BeesStingModel" "elements" "[J").before args s = true) (hdg : decode cc pc = .ok (.getfield index, 3)) (kk : W p l e R s m args below meth c H locs cells slots Q (F0 m (pc + 3) ls (.ref (bd 68) :: rest))) : W p l e R s m args below meth c H locs cells slots Q (F0 m (pc) ls (.ref (bd 0) :: rest)) :=
  va_get (ci := 12) (C := RX12) (T := TX12) (N := 70) hx hb hg us12 hown hK hP 0 rfl rfl 68 (by decide) hl (fun _ h9 => h9) rfl hdg kk
theorem gr_shifted (hx : p.tables.exec = Jvm.exec) (hb : c.code = cc) (hg : ∀ w ∈ gw, w.before args s = true) (hown : s.vm.findClass own = some m.cls) (hK : va_K D vwCl (TY cs) s) (hP : va_P D vwCl (RW cs bd u b bw) H) (hl : (Cond.fieldLink own index "BeesStingModel" "shifted" "[J").before args s = true) (hdg : decode cc pc = .ok (.getfield index, 3)) (kk : W p l e R s m args below meth c H locs cells slots Q (F0 m (pc + 3) ls (.ref (bd 69) :: rest))) : W p l e R s m args below meth c H locs cells slots Q (F0 m (pc) ls (.ref (bd 0) :: rest)) :=
  va_get (ci := 12) (C := RX12) (T := TX12) (N := 70) hx hb hg us12 hown hK hP 0 rfl rfl 69 (by decide) hl (fun _ h9 => h9) rfl hdg kk
theorem lr_cellOf (hx : p.tables.exec = Jvm.exec) (hb : c.code = cc) (hK : va_K D vwCl (TY cs) s) (hP : va_P D vwCl (RW cs bd u b bw) H) {i : Int32} (hi : vp_in i 8) (hdg : decode cc pc = .ok (.iaload, 1)) (kk : W p l e R s m args below meth c H locs cells slots Q (F0 m (pc + 1) ls (.int (b 2 i.toNatClampNeg) :: rest))) : W p l e R s m args below meth c H locs cells slots Q (F0 m (pc) ls (.int i :: .ref (bd 2) :: rest)) :=
  va_iald hx hb hK hP 1 0 rfl rfl hi hdg kk
theorem sr_cellOf (hx : p.tables.exec = Jvm.exec) (hb : c.code = cc) (hK : va_K D vwCl (TY cs) s) (hP : va_P D vwCl (RW cs bd u b bw) H) (hD : va_D A (RW cs bd u b bw)) (hS : va_S A H0 H locs) {i x : Int32} (hi : vp_in i 8) (hdg : decode cc pc = .ok (.iastore, 1)) (kk : ∀ (H1 : Heap) (l1 : List Loc), va_P D vwCl (RW cs bd u (va_up b 2 (upd (b 2) i.toNatClampNeg x)) bw) H1 → va_D A (RW cs bd u (va_up b 2 (upd (b 2) i.toNatClampNeg x)) bw) → va_S A H0 H1 l1 → W p l e R s m args below meth c H1 l1 cells slots Q (F0 m (pc + 1) ls (rest))) : W p l e R s m args below meth c H locs cells slots Q (F0 m (pc) ls (.int x :: .int i :: .ref (bd 2) :: rest)) :=
  va_iast hx hb hK hP hD hS 1 0 rfl rfl hi hdg (fun H1 l1 q1 q2 q3 => kk H1 l1 q1 q2 q3)
theorem lr_cheek (hx : p.tables.exec = Jvm.exec) (hb : c.code = cc) (hK : va_K D vwCl (TY cs) s) (hP : va_P D vwCl (RW cs bd u b bw) H) {i : Int32} (hi : vp_in i 8) (hdg : decode cc pc = .ok (.iaload, 1)) (kk : W p l e R s m args below meth c H locs cells slots Q (F0 m (pc + 1) ls (.int (b 3 i.toNatClampNeg) :: rest))) : W p l e R s m args below meth c H locs cells slots Q (F0 m (pc) ls (.int i :: .ref (bd 3) :: rest)) :=
  va_iald hx hb hK hP 2 0 rfl rfl hi hdg kk
theorem sr_cheek (hx : p.tables.exec = Jvm.exec) (hb : c.code = cc) (hK : va_K D vwCl (TY cs) s) (hP : va_P D vwCl (RW cs bd u b bw) H) (hD : va_D A (RW cs bd u b bw)) (hS : va_S A H0 H locs) {i x : Int32} (hi : vp_in i 8) (hdg : decode cc pc = .ok (.iastore, 1)) (kk : ∀ (H1 : Heap) (l1 : List Loc), va_P D vwCl (RW cs bd u (va_up b 3 (upd (b 3) i.toNatClampNeg x)) bw) H1 → va_D A (RW cs bd u (va_up b 3 (upd (b 3) i.toNatClampNeg x)) bw) → va_S A H0 H1 l1 → W p l e R s m args below meth c H1 l1 cells slots Q (F0 m (pc + 1) ls (rest))) : W p l e R s m args below meth c H locs cells slots Q (F0 m (pc) ls (.int x :: .int i :: .ref (bd 3) :: rest)) :=
  va_iast hx hb hK hP hD hS 2 0 rfl rfl hi hdg (fun H1 l1 q1 q2 q3 => kk H1 l1 q1 q2 q3)
theorem lr_pads (hx : p.tables.exec = Jvm.exec) (hb : c.code = cc) (hK : va_K D vwCl (TY cs) s) (hP : va_P D vwCl (RW cs bd u b bw) H) {i : Int32} (hi : vp_in i 8) (hdg : decode cc pc = .ok (.iaload, 1)) (kk : W p l e R s m args below meth c H locs cells slots Q (F0 m (pc + 1) ls (.int (b 4 i.toNatClampNeg) :: rest))) : W p l e R s m args below meth c H locs cells slots Q (F0 m (pc) ls (.int i :: .ref (bd 4) :: rest)) :=
  va_iald hx hb hK hP 3 0 rfl rfl hi hdg kk
theorem sr_pads (hx : p.tables.exec = Jvm.exec) (hb : c.code = cc) (hK : va_K D vwCl (TY cs) s) (hP : va_P D vwCl (RW cs bd u b bw) H) (hD : va_D A (RW cs bd u b bw)) (hS : va_S A H0 H locs) {i x : Int32} (hi : vp_in i 8) (hdg : decode cc pc = .ok (.iastore, 1)) (kk : ∀ (H1 : Heap) (l1 : List Loc), va_P D vwCl (RW cs bd u (va_up b 4 (upd (b 4) i.toNatClampNeg x)) bw) H1 → va_D A (RW cs bd u (va_up b 4 (upd (b 4) i.toNatClampNeg x)) bw) → va_S A H0 H1 l1 → W p l e R s m args below meth c H1 l1 cells slots Q (F0 m (pc + 1) ls (rest))) : W p l e R s m args below meth c H locs cells slots Q (F0 m (pc) ls (.int x :: .int i :: .ref (bd 4) :: rest)) :=
  va_iast hx hb hK hP hD hS 3 0 rfl rfl hi hdg (fun H1 l1 q1 q2 q3 => kk H1 l1 q1 q2 q3)
theorem lr_pay (hx : p.tables.exec = Jvm.exec) (hb : c.code = cc) (hK : va_K D vwCl (TY cs) s) (hP : va_P D vwCl (RW cs bd u b bw) H) {i : Int32} (hi : vp_in i 8) (hdg : decode cc pc = .ok (.iaload, 1)) (kk : W p l e R s m args below meth c H locs cells slots Q (F0 m (pc + 1) ls (.int (b 5 i.toNatClampNeg) :: rest))) : W p l e R s m args below meth c H locs cells slots Q (F0 m (pc) ls (.int i :: .ref (bd 5) :: rest)) :=
  va_iald hx hb hK hP 4 0 rfl rfl hi hdg kk
theorem sr_pay (hx : p.tables.exec = Jvm.exec) (hb : c.code = cc) (hK : va_K D vwCl (TY cs) s) (hP : va_P D vwCl (RW cs bd u b bw) H) (hD : va_D A (RW cs bd u b bw)) (hS : va_S A H0 H locs) {i x : Int32} (hi : vp_in i 8) (hdg : decode cc pc = .ok (.iastore, 1)) (kk : ∀ (H1 : Heap) (l1 : List Loc), va_P D vwCl (RW cs bd u (va_up b 5 (upd (b 5) i.toNatClampNeg x)) bw) H1 → va_D A (RW cs bd u (va_up b 5 (upd (b 5) i.toNatClampNeg x)) bw) → va_S A H0 H1 l1 → W p l e R s m args below meth c H1 l1 cells slots Q (F0 m (pc + 1) ls (rest))) : W p l e R s m args below meth c H locs cells slots Q (F0 m (pc) ls (.int x :: .int i :: .ref (bd 5) :: rest)) :=
  va_iast hx hb hK hP hD hS 4 0 rfl rfl hi hdg (fun H1 l1 q1 q2 q3 => kk H1 l1 q1 q2 q3)
theorem lr_told (hx : p.tables.exec = Jvm.exec) (hb : c.code = cc) (hK : va_K D vwCl (TY cs) s) (hP : va_P D vwCl (RW cs bd u b bw) H) {i : Int32} (hi : vp_in i 4) (hdg : decode cc pc = .ok (.iaload, 1)) (kk : W p l e R s m args below meth c H locs cells slots Q (F0 m (pc + 1) ls (.int (b 6 i.toNatClampNeg) :: rest))) : W p l e R s m args below meth c H locs cells slots Q (F0 m (pc) ls (.int i :: .ref (bd 6) :: rest)) :=
  va_iald hx hb hK hP 5 0 rfl rfl hi hdg kk
theorem sr_told (hx : p.tables.exec = Jvm.exec) (hb : c.code = cc) (hK : va_K D vwCl (TY cs) s) (hP : va_P D vwCl (RW cs bd u b bw) H) (hD : va_D A (RW cs bd u b bw)) (hS : va_S A H0 H locs) {i x : Int32} (hi : vp_in i 4) (hdg : decode cc pc = .ok (.iastore, 1)) (kk : ∀ (H1 : Heap) (l1 : List Loc), va_P D vwCl (RW cs bd u (va_up b 6 (upd (b 6) i.toNatClampNeg x)) bw) H1 → va_D A (RW cs bd u (va_up b 6 (upd (b 6) i.toNatClampNeg x)) bw) → va_S A H0 H1 l1 → W p l e R s m args below meth c H1 l1 cells slots Q (F0 m (pc + 1) ls (rest))) : W p l e R s m args below meth c H locs cells slots Q (F0 m (pc) ls (.int x :: .int i :: .ref (bd 6) :: rest)) :=
  va_iast hx hb hK hP hD hS 5 0 rfl rfl hi hdg (fun H1 l1 q1 q2 q3 => kk H1 l1 q1 q2 q3)
theorem lr_changeOf (hx : p.tables.exec = Jvm.exec) (hb : c.code = cc) (hK : va_K D vwCl (TY cs) s) (hP : va_P D vwCl (RW cs bd u b bw) H) {i : Int32} (hi : vp_in i 40) (hdg : decode cc pc = .ok (.iaload, 1)) (kk : W p l e R s m args below meth c H locs cells slots Q (F0 m (pc + 1) ls (.int (b 10 i.toNatClampNeg) :: rest))) : W p l e R s m args below meth c H locs cells slots Q (F0 m (pc) ls (.int i :: .ref (bd 10) :: rest)) :=
  va_iald hx hb hK hP 6 0 rfl rfl hi hdg kk
theorem sr_changeOf (hx : p.tables.exec = Jvm.exec) (hb : c.code = cc) (hK : va_K D vwCl (TY cs) s) (hP : va_P D vwCl (RW cs bd u b bw) H) (hD : va_D A (RW cs bd u b bw)) (hS : va_S A H0 H locs) {i x : Int32} (hi : vp_in i 40) (hdg : decode cc pc = .ok (.iastore, 1)) (kk : ∀ (H1 : Heap) (l1 : List Loc), va_P D vwCl (RW cs bd u (va_up b 10 (upd (b 10) i.toNatClampNeg x)) bw) H1 → va_D A (RW cs bd u (va_up b 10 (upd (b 10) i.toNatClampNeg x)) bw) → va_S A H0 H1 l1 → W p l e R s m args below meth c H1 l1 cells slots Q (F0 m (pc + 1) ls (rest))) : W p l e R s m args below meth c H locs cells slots Q (F0 m (pc) ls (.int x :: .int i :: .ref (bd 10) :: rest)) :=
  va_iast hx hb hK hP hD hS 6 0 rfl rfl hi hdg (fun H1 l1 q1 q2 q3 => kk H1 l1 q1 q2 q3)
theorem lr_changeAt (hx : p.tables.exec = Jvm.exec) (hb : c.code = cc) (hK : va_K D vwCl (TY cs) s) (hP : va_P D vwCl (RW cs bd u b bw) H) {i : Int32} (hi : vp_in i 40) (hdg : decode cc pc = .ok (.iaload, 1)) (kk : W p l e R s m args below meth c H locs cells slots Q (F0 m (pc + 1) ls (.int (b 11 i.toNatClampNeg) :: rest))) : W p l e R s m args below meth c H locs cells slots Q (F0 m (pc) ls (.int i :: .ref (bd 11) :: rest)) :=
  va_iald hx hb hK hP 7 0 rfl rfl hi hdg kk
theorem sr_changeAt (hx : p.tables.exec = Jvm.exec) (hb : c.code = cc) (hK : va_K D vwCl (TY cs) s) (hP : va_P D vwCl (RW cs bd u b bw) H) (hD : va_D A (RW cs bd u b bw)) (hS : va_S A H0 H locs) {i x : Int32} (hi : vp_in i 40) (hdg : decode cc pc = .ok (.iastore, 1)) (kk : ∀ (H1 : Heap) (l1 : List Loc), va_P D vwCl (RW cs bd u (va_up b 11 (upd (b 11) i.toNatClampNeg x)) bw) H1 → va_D A (RW cs bd u (va_up b 11 (upd (b 11) i.toNatClampNeg x)) bw) → va_S A H0 H1 l1 → W p l e R s m args below meth c H1 l1 cells slots Q (F0 m (pc + 1) ls (rest))) : W p l e R s m args below meth c H locs cells slots Q (F0 m (pc) ls (.int x :: .int i :: .ref (bd 11) :: rest)) :=
  va_iast hx hb hK hP hD hS 7 0 rfl rfl hi hdg (fun H1 l1 q1 q2 q3 => kk H1 l1 q1 q2 q3)
theorem lr_before (hx : p.tables.exec = Jvm.exec) (hb : c.code = cc) (hK : va_K D vwCl (TY cs) s) (hP : va_P D vwCl (RW cs bd u b bw) H) {i : Int32} (hi : vp_in i 40) (hdg : decode cc pc = .ok (.iaload, 1)) (kk : W p l e R s m args below meth c H locs cells slots Q (F0 m (pc + 1) ls (.int (b 12 i.toNatClampNeg) :: rest))) : W p l e R s m args below meth c H locs cells slots Q (F0 m (pc) ls (.int i :: .ref (bd 12) :: rest)) :=
  va_iald hx hb hK hP 8 0 rfl rfl hi hdg kk
theorem sr_before (hx : p.tables.exec = Jvm.exec) (hb : c.code = cc) (hK : va_K D vwCl (TY cs) s) (hP : va_P D vwCl (RW cs bd u b bw) H) (hD : va_D A (RW cs bd u b bw)) (hS : va_S A H0 H locs) {i x : Int32} (hi : vp_in i 40) (hdg : decode cc pc = .ok (.iastore, 1)) (kk : ∀ (H1 : Heap) (l1 : List Loc), va_P D vwCl (RW cs bd u (va_up b 12 (upd (b 12) i.toNatClampNeg x)) bw) H1 → va_D A (RW cs bd u (va_up b 12 (upd (b 12) i.toNatClampNeg x)) bw) → va_S A H0 H1 l1 → W p l e R s m args below meth c H1 l1 cells slots Q (F0 m (pc + 1) ls (rest))) : W p l e R s m args below meth c H locs cells slots Q (F0 m (pc) ls (.int x :: .int i :: .ref (bd 12) :: rest)) :=
  va_iast hx hb hK hP hD hS 8 0 rfl rfl hi hdg (fun H1 l1 q1 q2 q3 => kk H1 l1 q1 q2 q3)
theorem lr_behind (hx : p.tables.exec = Jvm.exec) (hb : c.code = cc) (hK : va_K D vwCl (TY cs) s) (hP : va_P D vwCl (RW cs bd u b bw) H) {i : Int32} (hi : vp_in i 40) (hdg : decode cc pc = .ok (.iaload, 1)) (kk : W p l e R s m args below meth c H locs cells slots Q (F0 m (pc + 1) ls (.int (b 13 i.toNatClampNeg) :: rest))) : W p l e R s m args below meth c H locs cells slots Q (F0 m (pc) ls (.int i :: .ref (bd 13) :: rest)) :=
  va_iald hx hb hK hP 9 0 rfl rfl hi hdg kk
theorem sr_behind (hx : p.tables.exec = Jvm.exec) (hb : c.code = cc) (hK : va_K D vwCl (TY cs) s) (hP : va_P D vwCl (RW cs bd u b bw) H) (hD : va_D A (RW cs bd u b bw)) (hS : va_S A H0 H locs) {i x : Int32} (hi : vp_in i 40) (hdg : decode cc pc = .ok (.iastore, 1)) (kk : ∀ (H1 : Heap) (l1 : List Loc), va_P D vwCl (RW cs bd u (va_up b 13 (upd (b 13) i.toNatClampNeg x)) bw) H1 → va_D A (RW cs bd u (va_up b 13 (upd (b 13) i.toNatClampNeg x)) bw) → va_S A H0 H1 l1 → W p l e R s m args below meth c H1 l1 cells slots Q (F0 m (pc + 1) ls (rest))) : W p l e R s m args below meth c H locs cells slots Q (F0 m (pc) ls (.int x :: .int i :: .ref (bd 13) :: rest)) :=
  va_iast hx hb hK hP hD hS 9 0 rfl rfl hi hdg (fun H1 l1 q1 q2 q3 => kk H1 l1 q1 q2 q3)
theorem lr_tape (hx : p.tables.exec = Jvm.exec) (hb : c.code = cc) (hK : va_K D vwCl (TY cs) s) (hP : va_P D vwCl (RW cs bd u b bw) H) {i : Int32} (hi : vp_in i 120) (hdg : decode cc pc = .ok (.baload, 1)) (kk : W p l e R s m args below meth c H locs cells slots Q (F0 m (pc + 1) ls (.int (b 14 i.toNatClampNeg) :: rest))) : W p l e R s m args below meth c H locs cells slots Q (F0 m (pc) ls (.int i :: .ref (bd 14) :: rest)) :=
  va_bald hx hb hK hP 10 5 rfl rfl hi hdg kk
theorem sr_tape (hx : p.tables.exec = Jvm.exec) (hb : c.code = cc) (hK : va_K D vwCl (TY cs) s) (hP : va_P D vwCl (RW cs bd u b bw) H) (hD : va_D A (RW cs bd u b bw)) (hS : va_S A H0 H locs) {i x : Int32} (hi : vp_in i 120) (hdg : decode cc pc = .ok (.bastore, 1)) (kk : ∀ (H1 : Heap) (l1 : List Loc), va_P D vwCl (RW cs bd u (va_up b 14 (upd (b 14) i.toNatClampNeg (vp_nar .byte x))) bw) H1 → va_D A (RW cs bd u (va_up b 14 (upd (b 14) i.toNatClampNeg (vp_nar .byte x))) bw) → va_S A H0 H1 l1 → W p l e R s m args below meth c H1 l1 cells slots Q (F0 m (pc + 1) ls (rest))) : W p l e R s m args below meth c H locs cells slots Q (F0 m (pc) ls (.int x :: .int i :: .ref (bd 14) :: rest)) :=
  va_bast hx hb hK hP hD hS 10 5 rfl rfl hi hdg (fun H1 l1 q1 q2 q3 => kk H1 l1 q1 q2 q3)
theorem lr_act (hx : p.tables.exec = Jvm.exec) (hb : c.code = cc) (hK : va_K D vwCl (TY cs) s) (hP : va_P D vwCl (RW cs bd u b bw) H) {i : Int32} (hi : vp_in i 260) (hdg : decode cc pc = .ok (.baload, 1)) (kk : W p l e R s m args below meth c H locs cells slots Q (F0 m (pc + 1) ls (.int (b 20 i.toNatClampNeg) :: rest))) : W p l e R s m args below meth c H locs cells slots Q (F0 m (pc) ls (.int i :: .ref (bd 20) :: rest)) :=
  va_bald hx hb hK hP 11 5 rfl rfl hi hdg kk
theorem sr_act (hx : p.tables.exec = Jvm.exec) (hb : c.code = cc) (hK : va_K D vwCl (TY cs) s) (hP : va_P D vwCl (RW cs bd u b bw) H) (hD : va_D A (RW cs bd u b bw)) (hS : va_S A H0 H locs) {i x : Int32} (hi : vp_in i 260) (hdg : decode cc pc = .ok (.bastore, 1)) (kk : ∀ (H1 : Heap) (l1 : List Loc), va_P D vwCl (RW cs bd u (va_up b 20 (upd (b 20) i.toNatClampNeg (vp_nar .byte x))) bw) H1 → va_D A (RW cs bd u (va_up b 20 (upd (b 20) i.toNatClampNeg (vp_nar .byte x))) bw) → va_S A H0 H1 l1 → W p l e R s m args below meth c H1 l1 cells slots Q (F0 m (pc + 1) ls (rest))) : W p l e R s m args below meth c H locs cells slots Q (F0 m (pc) ls (.int x :: .int i :: .ref (bd 20) :: rest)) :=
  va_bast hx hb hK hP hD hS 11 5 rfl rfl hi hdg (fun H1 l1 q1 q2 q3 => kk H1 l1 q1 q2 q3)
theorem lr_with (hx : p.tables.exec = Jvm.exec) (hb : c.code = cc) (hK : va_K D vwCl (TY cs) s) (hP : va_P D vwCl (RW cs bd u b bw) H) {i : Int32} (hi : vp_in i 260) (hdg : decode cc pc = .ok (.iaload, 1)) (kk : W p l e R s m args below meth c H locs cells slots Q (F0 m (pc + 1) ls (.int (b 21 i.toNatClampNeg) :: rest))) : W p l e R s m args below meth c H locs cells slots Q (F0 m (pc) ls (.int i :: .ref (bd 21) :: rest)) :=
  va_iald hx hb hK hP 12 0 rfl rfl hi hdg kk
theorem sr_with (hx : p.tables.exec = Jvm.exec) (hb : c.code = cc) (hK : va_K D vwCl (TY cs) s) (hP : va_P D vwCl (RW cs bd u b bw) H) (hD : va_D A (RW cs bd u b bw)) (hS : va_S A H0 H locs) {i x : Int32} (hi : vp_in i 260) (hdg : decode cc pc = .ok (.iastore, 1)) (kk : ∀ (H1 : Heap) (l1 : List Loc), va_P D vwCl (RW cs bd u (va_up b 21 (upd (b 21) i.toNatClampNeg x)) bw) H1 → va_D A (RW cs bd u (va_up b 21 (upd (b 21) i.toNatClampNeg x)) bw) → va_S A H0 H1 l1 → W p l e R s m args below meth c H1 l1 cells slots Q (F0 m (pc + 1) ls (rest))) : W p l e R s m args below meth c H locs cells slots Q (F0 m (pc) ls (.int x :: .int i :: .ref (bd 21) :: rest)) :=
  va_iast hx hb hK hP hD hS 12 0 rfl rfl hi hdg (fun H1 l1 q1 q2 q3 => kk H1 l1 q1 q2 q3)
theorem lr_lineMany (hx : p.tables.exec = Jvm.exec) (hb : c.code = cc) (hK : va_K D vwCl (TY cs) s) (hP : va_P D vwCl (RW cs bd u b bw) H) {i : Int32} (hi : vp_in i 2) (hdg : decode cc pc = .ok (.iaload, 1)) (kk : W p l e R s m args below meth c H locs cells slots Q (F0 m (pc + 1) ls (.int (b 22 i.toNatClampNeg) :: rest))) : W p l e R s m args below meth c H locs cells slots Q (F0 m (pc) ls (.int i :: .ref (bd 22) :: rest)) :=
  va_iald hx hb hK hP 13 0 rfl rfl hi hdg kk
theorem sr_lineMany (hx : p.tables.exec = Jvm.exec) (hb : c.code = cc) (hK : va_K D vwCl (TY cs) s) (hP : va_P D vwCl (RW cs bd u b bw) H) (hD : va_D A (RW cs bd u b bw)) (hS : va_S A H0 H locs) {i x : Int32} (hi : vp_in i 2) (hdg : decode cc pc = .ok (.iastore, 1)) (kk : ∀ (H1 : Heap) (l1 : List Loc), va_P D vwCl (RW cs bd u (va_up b 22 (upd (b 22) i.toNatClampNeg x)) bw) H1 → va_D A (RW cs bd u (va_up b 22 (upd (b 22) i.toNatClampNeg x)) bw) → va_S A H0 H1 l1 → W p l e R s m args below meth c H1 l1 cells slots Q (F0 m (pc + 1) ls (rest))) : W p l e R s m args below meth c H locs cells slots Q (F0 m (pc) ls (.int x :: .int i :: .ref (bd 22) :: rest)) :=
  va_iast hx hb hK hP hD hS 13 0 rfl rfl hi hdg (fun H1 l1 q1 q2 q3 => kk H1 l1 q1 q2 q3)
theorem lr_testEnd (hx : p.tables.exec = Jvm.exec) (hb : c.code = cc) (hK : va_K D vwCl (TY cs) s) (hP : va_P D vwCl (RW cs bd u b bw) H) {i : Int32} (hi : vp_in i 122) (hdg : decode cc pc = .ok (.saload, 1)) (kk : W p l e R s m args below meth c H locs cells slots Q (F0 m (pc + 1) ls (.int (b 23 i.toNatClampNeg) :: rest))) : W p l e R s m args below meth c H locs cells slots Q (F0 m (pc) ls (.int i :: .ref (bd 23) :: rest)) :=
  va_sald hx hb hK hP 14 4 rfl rfl hi hdg kk
theorem sr_testEnd (hx : p.tables.exec = Jvm.exec) (hb : c.code = cc) (hK : va_K D vwCl (TY cs) s) (hP : va_P D vwCl (RW cs bd u b bw) H) (hD : va_D A (RW cs bd u b bw)) (hS : va_S A H0 H locs) {i x : Int32} (hi : vp_in i 122) (hdg : decode cc pc = .ok (.sastore, 1)) (kk : ∀ (H1 : Heap) (l1 : List Loc), va_P D vwCl (RW cs bd u (va_up b 23 (upd (b 23) i.toNatClampNeg (vp_nar .short x))) bw) H1 → va_D A (RW cs bd u (va_up b 23 (upd (b 23) i.toNatClampNeg (vp_nar .short x))) bw) → va_S A H0 H1 l1 → W p l e R s m args below meth c H1 l1 cells slots Q (F0 m (pc + 1) ls (rest))) : W p l e R s m args below meth c H locs cells slots Q (F0 m (pc) ls (.int x :: .int i :: .ref (bd 23) :: rest)) :=
  va_sast hx hb hK hP hD hS 14 4 rfl rfl hi hdg (fun H1 l1 q1 q2 q3 => kk H1 l1 q1 q2 q3)
theorem lr_lineEnd (hx : p.tables.exec = Jvm.exec) (hb : c.code = cc) (hK : va_K D vwCl (TY cs) s) (hP : va_P D vwCl (RW cs bd u b bw) H) {i : Int32} (hi : vp_in i 122) (hdg : decode cc pc = .ok (.saload, 1)) (kk : W p l e R s m args below meth c H locs cells slots Q (F0 m (pc + 1) ls (.int (b 24 i.toNatClampNeg) :: rest))) : W p l e R s m args below meth c H locs cells slots Q (F0 m (pc) ls (.int i :: .ref (bd 24) :: rest)) :=
  va_sald hx hb hK hP 15 4 rfl rfl hi hdg kk
theorem sr_lineEnd (hx : p.tables.exec = Jvm.exec) (hb : c.code = cc) (hK : va_K D vwCl (TY cs) s) (hP : va_P D vwCl (RW cs bd u b bw) H) (hD : va_D A (RW cs bd u b bw)) (hS : va_S A H0 H locs) {i x : Int32} (hi : vp_in i 122) (hdg : decode cc pc = .ok (.sastore, 1)) (kk : ∀ (H1 : Heap) (l1 : List Loc), va_P D vwCl (RW cs bd u (va_up b 24 (upd (b 24) i.toNatClampNeg (vp_nar .short x))) bw) H1 → va_D A (RW cs bd u (va_up b 24 (upd (b 24) i.toNatClampNeg (vp_nar .short x))) bw) → va_S A H0 H1 l1 → W p l e R s m args below meth c H1 l1 cells slots Q (F0 m (pc + 1) ls (rest))) : W p l e R s m args below meth c H locs cells slots Q (F0 m (pc) ls (.int x :: .int i :: .ref (bd 24) :: rest)) :=
  va_sast hx hb hK hP hD hS 15 4 rfl rfl hi hdg (fun H1 l1 q1 q2 q3 => kk H1 l1 q1 q2 q3)
theorem lr_facts (hx : p.tables.exec = Jvm.exec) (hb : c.code = cc) (hK : va_K D vwCl (TY cs) s) (hP : va_P D vwCl (RW cs bd u b bw) H) {i : Int32} (hi : vp_in i 6) (hdg : decode cc pc = .ok (.iaload, 1)) (kk : W p l e R s m args below meth c H locs cells slots Q (F0 m (pc + 1) ls (.int (b 25 i.toNatClampNeg) :: rest))) : W p l e R s m args below meth c H locs cells slots Q (F0 m (pc) ls (.int i :: .ref (bd 25) :: rest)) :=
  va_iald hx hb hK hP 16 0 rfl rfl hi hdg kk
theorem sr_facts (hx : p.tables.exec = Jvm.exec) (hb : c.code = cc) (hK : va_K D vwCl (TY cs) s) (hP : va_P D vwCl (RW cs bd u b bw) H) (hD : va_D A (RW cs bd u b bw)) (hS : va_S A H0 H locs) {i x : Int32} (hi : vp_in i 6) (hdg : decode cc pc = .ok (.iastore, 1)) (kk : ∀ (H1 : Heap) (l1 : List Loc), va_P D vwCl (RW cs bd u (va_up b 25 (upd (b 25) i.toNatClampNeg x)) bw) H1 → va_D A (RW cs bd u (va_up b 25 (upd (b 25) i.toNatClampNeg x)) bw) → va_S A H0 H1 l1 → W p l e R s m args below meth c H1 l1 cells slots Q (F0 m (pc + 1) ls (rest))) : W p l e R s m args below meth c H locs cells slots Q (F0 m (pc) ls (.int x :: .int i :: .ref (bd 25) :: rest)) :=
  va_iast hx hb hK hP hD hS 16 0 rfl rfl hi hdg (fun H1 l1 q1 q2 q3 => kk H1 l1 q1 q2 q3)
theorem lr_pile (hx : p.tables.exec = Jvm.exec) (hb : c.code = cc) (hK : va_K D vwCl (TY cs) s) (hP : va_P D vwCl (RW cs bd u b bw) H) {i : Int32} (hi : vp_in i 130) (hdg : decode cc pc = .ok (.iaload, 1)) (kk : W p l e R s m args below meth c H locs cells slots Q (F0 m (pc + 1) ls (.int (b 26 i.toNatClampNeg) :: rest))) : W p l e R s m args below meth c H locs cells slots Q (F0 m (pc) ls (.int i :: .ref (bd 26) :: rest)) :=
  va_iald hx hb hK hP 17 0 rfl rfl hi hdg kk
theorem sr_pile (hx : p.tables.exec = Jvm.exec) (hb : c.code = cc) (hK : va_K D vwCl (TY cs) s) (hP : va_P D vwCl (RW cs bd u b bw) H) (hD : va_D A (RW cs bd u b bw)) (hS : va_S A H0 H locs) {i x : Int32} (hi : vp_in i 130) (hdg : decode cc pc = .ok (.iastore, 1)) (kk : ∀ (H1 : Heap) (l1 : List Loc), va_P D vwCl (RW cs bd u (va_up b 26 (upd (b 26) i.toNatClampNeg x)) bw) H1 → va_D A (RW cs bd u (va_up b 26 (upd (b 26) i.toNatClampNeg x)) bw) → va_S A H0 H1 l1 → W p l e R s m args below meth c H1 l1 cells slots Q (F0 m (pc + 1) ls (rest))) : W p l e R s m args below meth c H locs cells slots Q (F0 m (pc) ls (.int x :: .int i :: .ref (bd 26) :: rest)) :=
  va_iast hx hb hK hP hD hS 17 0 rfl rfl hi hdg (fun H1 l1 q1 q2 q3 => kk H1 l1 q1 q2 q3)
theorem lr_pads1 (hx : p.tables.exec = Jvm.exec) (hb : c.code = cc) (hK : va_K D vwCl (TY cs) s) (hP : va_P D vwCl (RW cs bd u b bw) H) {i : Int32} (hi : vp_in i 8) (hdg : decode cc pc = .ok (.iaload, 1)) (kk : W p l e R s m args below meth c H locs cells slots Q (F0 m (pc + 1) ls (.int (b 32 i.toNatClampNeg) :: rest))) : W p l e R s m args below meth c H locs cells slots Q (F0 m (pc) ls (.int i :: .ref (bd 32) :: rest)) :=
  va_iald hx hb hK hP 18 0 rfl rfl hi hdg kk
theorem sr_pads1 (hx : p.tables.exec = Jvm.exec) (hb : c.code = cc) (hK : va_K D vwCl (TY cs) s) (hP : va_P D vwCl (RW cs bd u b bw) H) (hD : va_D A (RW cs bd u b bw)) (hS : va_S A H0 H locs) {i x : Int32} (hi : vp_in i 8) (hdg : decode cc pc = .ok (.iastore, 1)) (kk : ∀ (H1 : Heap) (l1 : List Loc), va_P D vwCl (RW cs bd u (va_up b 32 (upd (b 32) i.toNatClampNeg x)) bw) H1 → va_D A (RW cs bd u (va_up b 32 (upd (b 32) i.toNatClampNeg x)) bw) → va_S A H0 H1 l1 → W p l e R s m args below meth c H1 l1 cells slots Q (F0 m (pc + 1) ls (rest))) : W p l e R s m args below meth c H locs cells slots Q (F0 m (pc) ls (.int x :: .int i :: .ref (bd 32) :: rest)) :=
  va_iast hx hb hK hP hD hS 18 0 rfl rfl hi hdg (fun H1 l1 q1 q2 q3 => kk H1 l1 q1 q2 q3)
theorem lr_stungOf (hx : p.tables.exec = Jvm.exec) (hb : c.code = cc) (hK : va_K D vwCl (TY cs) s) (hP : va_P D vwCl (RW cs bd u b bw) H) {i : Int32} (hi : vp_in i 8) (hdg : decode cc pc = .ok (.iaload, 1)) (kk : W p l e R s m args below meth c H locs cells slots Q (F0 m (pc + 1) ls (.int (b 36 i.toNatClampNeg) :: rest))) : W p l e R s m args below meth c H locs cells slots Q (F0 m (pc) ls (.int i :: .ref (bd 36) :: rest)) :=
  va_iald hx hb hK hP 19 0 rfl rfl hi hdg kk
theorem sr_stungOf (hx : p.tables.exec = Jvm.exec) (hb : c.code = cc) (hK : va_K D vwCl (TY cs) s) (hP : va_P D vwCl (RW cs bd u b bw) H) (hD : va_D A (RW cs bd u b bw)) (hS : va_S A H0 H locs) {i x : Int32} (hi : vp_in i 8) (hdg : decode cc pc = .ok (.iastore, 1)) (kk : ∀ (H1 : Heap) (l1 : List Loc), va_P D vwCl (RW cs bd u (va_up b 36 (upd (b 36) i.toNatClampNeg x)) bw) H1 → va_D A (RW cs bd u (va_up b 36 (upd (b 36) i.toNatClampNeg x)) bw) → va_S A H0 H1 l1 → W p l e R s m args below meth c H1 l1 cells slots Q (F0 m (pc + 1) ls (rest))) : W p l e R s m args below meth c H locs cells slots Q (F0 m (pc) ls (.int x :: .int i :: .ref (bd 36) :: rest)) :=
  va_iast hx hb hK hP hD hS 19 0 rfl rfl hi hdg (fun H1 l1 q1 q2 q3 => kk H1 l1 q1 q2 q3)
theorem lr_hurtOf (hx : p.tables.exec = Jvm.exec) (hb : c.code = cc) (hK : va_K D vwCl (TY cs) s) (hP : va_P D vwCl (RW cs bd u b bw) H) {i : Int32} (hi : vp_in i 8) (hdg : decode cc pc = .ok (.iaload, 1)) (kk : W p l e R s m args below meth c H locs cells slots Q (F0 m (pc + 1) ls (.int (b 37 i.toNatClampNeg) :: rest))) : W p l e R s m args below meth c H locs cells slots Q (F0 m (pc) ls (.int i :: .ref (bd 37) :: rest)) :=
  va_iald hx hb hK hP 20 0 rfl rfl hi hdg kk
theorem sr_hurtOf (hx : p.tables.exec = Jvm.exec) (hb : c.code = cc) (hK : va_K D vwCl (TY cs) s) (hP : va_P D vwCl (RW cs bd u b bw) H) (hD : va_D A (RW cs bd u b bw)) (hS : va_S A H0 H locs) {i x : Int32} (hi : vp_in i 8) (hdg : decode cc pc = .ok (.iastore, 1)) (kk : ∀ (H1 : Heap) (l1 : List Loc), va_P D vwCl (RW cs bd u (va_up b 37 (upd (b 37) i.toNatClampNeg x)) bw) H1 → va_D A (RW cs bd u (va_up b 37 (upd (b 37) i.toNatClampNeg x)) bw) → va_S A H0 H1 l1 → W p l e R s m args below meth c H1 l1 cells slots Q (F0 m (pc + 1) ls (rest))) : W p l e R s m args below meth c H locs cells slots Q (F0 m (pc) ls (.int x :: .int i :: .ref (bd 37) :: rest)) :=
  va_iast hx hb hK hP hD hS 20 0 rfl rfl hi hdg (fun H1 l1 q1 q2 q3 => kk H1 l1 q1 q2 q3)
theorem lr_firstOf (hx : p.tables.exec = Jvm.exec) (hb : c.code = cc) (hK : va_K D vwCl (TY cs) s) (hP : va_P D vwCl (RW cs bd u b bw) H) {i : Int32} (hi : vp_in i 8) (hdg : decode cc pc = .ok (.iaload, 1)) (kk : W p l e R s m args below meth c H locs cells slots Q (F0 m (pc + 1) ls (.int (b 38 i.toNatClampNeg) :: rest))) : W p l e R s m args below meth c H locs cells slots Q (F0 m (pc) ls (.int i :: .ref (bd 38) :: rest)) :=
  va_iald hx hb hK hP 21 0 rfl rfl hi hdg kk
theorem sr_firstOf (hx : p.tables.exec = Jvm.exec) (hb : c.code = cc) (hK : va_K D vwCl (TY cs) s) (hP : va_P D vwCl (RW cs bd u b bw) H) (hD : va_D A (RW cs bd u b bw)) (hS : va_S A H0 H locs) {i x : Int32} (hi : vp_in i 8) (hdg : decode cc pc = .ok (.iastore, 1)) (kk : ∀ (H1 : Heap) (l1 : List Loc), va_P D vwCl (RW cs bd u (va_up b 38 (upd (b 38) i.toNatClampNeg x)) bw) H1 → va_D A (RW cs bd u (va_up b 38 (upd (b 38) i.toNatClampNeg x)) bw) → va_S A H0 H1 l1 → W p l e R s m args below meth c H1 l1 cells slots Q (F0 m (pc + 1) ls (rest))) : W p l e R s m args below meth c H locs cells slots Q (F0 m (pc) ls (.int x :: .int i :: .ref (bd 38) :: rest)) :=
  va_iast hx hb hK hP hD hS 21 0 rfl rfl hi hdg (fun H1 l1 q1 q2 q3 => kk H1 l1 q1 q2 q3)
theorem lr_placed (hx : p.tables.exec = Jvm.exec) (hb : c.code = cc) (hK : va_K D vwCl (TY cs) s) (hP : va_P D vwCl (RW cs bd u b bw) H) {i : Int32} (hi : vp_in i 7) (hdg : decode cc pc = .ok (.iaload, 1)) (kk : W p l e R s m args below meth c H locs cells slots Q (F0 m (pc + 1) ls (.int (b 39 i.toNatClampNeg) :: rest))) : W p l e R s m args below meth c H locs cells slots Q (F0 m (pc) ls (.int i :: .ref (bd 39) :: rest)) :=
  va_iald hx hb hK hP 22 0 rfl rfl hi hdg kk
theorem sr_placed (hx : p.tables.exec = Jvm.exec) (hb : c.code = cc) (hK : va_K D vwCl (TY cs) s) (hP : va_P D vwCl (RW cs bd u b bw) H) (hD : va_D A (RW cs bd u b bw)) (hS : va_S A H0 H locs) {i x : Int32} (hi : vp_in i 7) (hdg : decode cc pc = .ok (.iastore, 1)) (kk : ∀ (H1 : Heap) (l1 : List Loc), va_P D vwCl (RW cs bd u (va_up b 39 (upd (b 39) i.toNatClampNeg x)) bw) H1 → va_D A (RW cs bd u (va_up b 39 (upd (b 39) i.toNatClampNeg x)) bw) → va_S A H0 H1 l1 → W p l e R s m args below meth c H1 l1 cells slots Q (F0 m (pc + 1) ls (rest))) : W p l e R s m args below meth c H locs cells slots Q (F0 m (pc) ls (.int x :: .int i :: .ref (bd 39) :: rest)) :=
  va_iast hx hb hK hP hD hS 22 0 rfl rfl hi hdg (fun H1 l1 q1 q2 q3 => kk H1 l1 q1 q2 q3)
theorem lr_bestPlaced (hx : p.tables.exec = Jvm.exec) (hb : c.code = cc) (hK : va_K D vwCl (TY cs) s) (hP : va_P D vwCl (RW cs bd u b bw) H) {i : Int32} (hi : vp_in i 7) (hdg : decode cc pc = .ok (.iaload, 1)) (kk : W p l e R s m args below meth c H locs cells slots Q (F0 m (pc + 1) ls (.int (b 40 i.toNatClampNeg) :: rest))) : W p l e R s m args below meth c H locs cells slots Q (F0 m (pc) ls (.int i :: .ref (bd 40) :: rest)) :=
  va_iald hx hb hK hP 23 0 rfl rfl hi hdg kk
theorem sr_bestPlaced (hx : p.tables.exec = Jvm.exec) (hb : c.code = cc) (hK : va_K D vwCl (TY cs) s) (hP : va_P D vwCl (RW cs bd u b bw) H) (hD : va_D A (RW cs bd u b bw)) (hS : va_S A H0 H locs) {i x : Int32} (hi : vp_in i 7) (hdg : decode cc pc = .ok (.iastore, 1)) (kk : ∀ (H1 : Heap) (l1 : List Loc), va_P D vwCl (RW cs bd u (va_up b 40 (upd (b 40) i.toNatClampNeg x)) bw) H1 → va_D A (RW cs bd u (va_up b 40 (upd (b 40) i.toNatClampNeg x)) bw) → va_S A H0 H1 l1 → W p l e R s m args below meth c H1 l1 cells slots Q (F0 m (pc + 1) ls (rest))) : W p l e R s m args below meth c H locs cells slots Q (F0 m (pc) ls (.int x :: .int i :: .ref (bd 40) :: rest)) :=
  va_iast hx hb hK hP hD hS 23 0 rfl rfl hi hdg (fun H1 l1 q1 q2 q3 => kk H1 l1 q1 q2 q3)
theorem lr_ledOf (hx : p.tables.exec = Jvm.exec) (hb : c.code = cc) (hK : va_K D vwCl (TY cs) s) (hP : va_P D vwCl (RW cs bd u b bw) H) {i : Int32} (hi : vp_in i 5) (hdg : decode cc pc = .ok (.iaload, 1)) (kk : W p l e R s m args below meth c H locs cells slots Q (F0 m (pc + 1) ls (.int (b 53 i.toNatClampNeg) :: rest))) : W p l e R s m args below meth c H locs cells slots Q (F0 m (pc) ls (.int i :: .ref (bd 53) :: rest)) :=
  va_iald hx hb hK hP 24 0 rfl rfl hi hdg kk
theorem sr_ledOf (hx : p.tables.exec = Jvm.exec) (hb : c.code = cc) (hK : va_K D vwCl (TY cs) s) (hP : va_P D vwCl (RW cs bd u b bw) H) (hD : va_D A (RW cs bd u b bw)) (hS : va_S A H0 H locs) {i x : Int32} (hi : vp_in i 5) (hdg : decode cc pc = .ok (.iastore, 1)) (kk : ∀ (H1 : Heap) (l1 : List Loc), va_P D vwCl (RW cs bd u (va_up b 53 (upd (b 53) i.toNatClampNeg x)) bw) H1 → va_D A (RW cs bd u (va_up b 53 (upd (b 53) i.toNatClampNeg x)) bw) → va_S A H0 H1 l1 → W p l e R s m args below meth c H1 l1 cells slots Q (F0 m (pc + 1) ls (rest))) : W p l e R s m args below meth c H locs cells slots Q (F0 m (pc) ls (.int x :: .int i :: .ref (bd 53) :: rest)) :=
  va_iast hx hb hK hP hD hS 24 0 rfl rfl hi hdg (fun H1 l1 q1 q2 q3 => kk H1 l1 q1 q2 q3)
theorem lr_keptCell (hx : p.tables.exec = Jvm.exec) (hb : c.code = cc) (hK : va_K D vwCl (TY cs) s) (hP : va_P D vwCl (RW cs bd u b bw) H) {i : Int32} (hi : vp_in i 8) (hdg : decode cc pc = .ok (.iaload, 1)) (kk : W p l e R s m args below meth c H locs cells slots Q (F0 m (pc + 1) ls (.int (b 59 i.toNatClampNeg) :: rest))) : W p l e R s m args below meth c H locs cells slots Q (F0 m (pc) ls (.int i :: .ref (bd 59) :: rest)) :=
  va_iald hx hb hK hP 25 0 rfl rfl hi hdg kk
theorem sr_keptCell (hx : p.tables.exec = Jvm.exec) (hb : c.code = cc) (hK : va_K D vwCl (TY cs) s) (hP : va_P D vwCl (RW cs bd u b bw) H) (hD : va_D A (RW cs bd u b bw)) (hS : va_S A H0 H locs) {i x : Int32} (hi : vp_in i 8) (hdg : decode cc pc = .ok (.iastore, 1)) (kk : ∀ (H1 : Heap) (l1 : List Loc), va_P D vwCl (RW cs bd u (va_up b 59 (upd (b 59) i.toNatClampNeg x)) bw) H1 → va_D A (RW cs bd u (va_up b 59 (upd (b 59) i.toNatClampNeg x)) bw) → va_S A H0 H1 l1 → W p l e R s m args below meth c H1 l1 cells slots Q (F0 m (pc + 1) ls (rest))) : W p l e R s m args below meth c H locs cells slots Q (F0 m (pc) ls (.int x :: .int i :: .ref (bd 59) :: rest)) :=
  va_iast hx hb hK hP hD hS 25 0 rfl rfl hi hdg (fun H1 l1 q1 q2 q3 => kk H1 l1 q1 q2 q3)
theorem lr_keptPads (hx : p.tables.exec = Jvm.exec) (hb : c.code = cc) (hK : va_K D vwCl (TY cs) s) (hP : va_P D vwCl (RW cs bd u b bw) H) {i : Int32} (hi : vp_in i 8) (hdg : decode cc pc = .ok (.iaload, 1)) (kk : W p l e R s m args below meth c H locs cells slots Q (F0 m (pc + 1) ls (.int (b 60 i.toNatClampNeg) :: rest))) : W p l e R s m args below meth c H locs cells slots Q (F0 m (pc) ls (.int i :: .ref (bd 60) :: rest)) :=
  va_iald hx hb hK hP 26 0 rfl rfl hi hdg kk
theorem sr_keptPads (hx : p.tables.exec = Jvm.exec) (hb : c.code = cc) (hK : va_K D vwCl (TY cs) s) (hP : va_P D vwCl (RW cs bd u b bw) H) (hD : va_D A (RW cs bd u b bw)) (hS : va_S A H0 H locs) {i x : Int32} (hi : vp_in i 8) (hdg : decode cc pc = .ok (.iastore, 1)) (kk : ∀ (H1 : Heap) (l1 : List Loc), va_P D vwCl (RW cs bd u (va_up b 60 (upd (b 60) i.toNatClampNeg x)) bw) H1 → va_D A (RW cs bd u (va_up b 60 (upd (b 60) i.toNatClampNeg x)) bw) → va_S A H0 H1 l1 → W p l e R s m args below meth c H1 l1 cells slots Q (F0 m (pc + 1) ls (rest))) : W p l e R s m args below meth c H locs cells slots Q (F0 m (pc) ls (.int x :: .int i :: .ref (bd 60) :: rest)) :=
  va_iast hx hb hK hP hD hS 26 0 rfl rfl hi hdg (fun H1 l1 q1 q2 q3 => kk H1 l1 q1 q2 q3)
theorem lr_keptLed (hx : p.tables.exec = Jvm.exec) (hb : c.code = cc) (hK : va_K D vwCl (TY cs) s) (hP : va_P D vwCl (RW cs bd u b bw) H) {i : Int32} (hi : vp_in i 5) (hdg : decode cc pc = .ok (.iaload, 1)) (kk : W p l e R s m args below meth c H locs cells slots Q (F0 m (pc + 1) ls (.int (b 61 i.toNatClampNeg) :: rest))) : W p l e R s m args below meth c H locs cells slots Q (F0 m (pc) ls (.int i :: .ref (bd 61) :: rest)) :=
  va_iald hx hb hK hP 27 0 rfl rfl hi hdg kk
theorem sr_keptLed (hx : p.tables.exec = Jvm.exec) (hb : c.code = cc) (hK : va_K D vwCl (TY cs) s) (hP : va_P D vwCl (RW cs bd u b bw) H) (hD : va_D A (RW cs bd u b bw)) (hS : va_S A H0 H locs) {i x : Int32} (hi : vp_in i 5) (hdg : decode cc pc = .ok (.iastore, 1)) (kk : ∀ (H1 : Heap) (l1 : List Loc), va_P D vwCl (RW cs bd u (va_up b 61 (upd (b 61) i.toNatClampNeg x)) bw) H1 → va_D A (RW cs bd u (va_up b 61 (upd (b 61) i.toNatClampNeg x)) bw) → va_S A H0 H1 l1 → W p l e R s m args below meth c H1 l1 cells slots Q (F0 m (pc + 1) ls (rest))) : W p l e R s m args below meth c H locs cells slots Q (F0 m (pc) ls (.int x :: .int i :: .ref (bd 61) :: rest)) :=
  va_iast hx hb hK hP hD hS 27 0 rfl rfl hi hdg (fun H1 l1 q1 q2 q3 => kk H1 l1 q1 q2 q3)
theorem lr_kind (hx : p.tables.exec = Jvm.exec) (hb : c.code = cc) (hK : va_K D vwCl (TY cs) s) (hP : va_P D vwCl (RW cs bd u b bw) H) {i : Int32} (hi : vp_in i 50) (hdg : decode cc pc = .ok (.iaload, 1)) (kk : W p l e R s m args below meth c H locs cells slots Q (F0 m (pc + 1) ls (.int (b 63 i.toNatClampNeg) :: rest))) : W p l e R s m args below meth c H locs cells slots Q (F0 m (pc) ls (.int i :: .ref (bd 63) :: rest)) :=
  va_iald hx hb hK hP 28 0 rfl rfl hi hdg kk
theorem sr_kind (hx : p.tables.exec = Jvm.exec) (hb : c.code = cc) (hK : va_K D vwCl (TY cs) s) (hP : va_P D vwCl (RW cs bd u b bw) H) (hD : va_D A (RW cs bd u b bw)) (hS : va_S A H0 H locs) {i x : Int32} (hi : vp_in i 50) (hdg : decode cc pc = .ok (.iastore, 1)) (kk : ∀ (H1 : Heap) (l1 : List Loc), va_P D vwCl (RW cs bd u (va_up b 63 (upd (b 63) i.toNatClampNeg x)) bw) H1 → va_D A (RW cs bd u (va_up b 63 (upd (b 63) i.toNatClampNeg x)) bw) → va_S A H0 H1 l1 → W p l e R s m args below meth c H1 l1 cells slots Q (F0 m (pc + 1) ls (rest))) : W p l e R s m args below meth c H locs cells slots Q (F0 m (pc) ls (.int x :: .int i :: .ref (bd 63) :: rest)) :=
  va_iast hx hb hK hP hD hS 28 0 rfl rfl hi hdg (fun H1 l1 q1 q2 q3 => kk H1 l1 q1 q2 q3)
theorem lr_traced (hx : p.tables.exec = Jvm.exec) (hb : c.code = cc) (hK : va_K D vwCl (TY cs) s) (hP : va_P D vwCl (RW cs bd u b bw) H) {i : Int32} (hi : vp_in i 24) (hdg : decode cc pc = .ok (.iaload, 1)) (kk : W p l e R s m args below meth c H locs cells slots Q (F0 m (pc + 1) ls (.int (b 65 i.toNatClampNeg) :: rest))) : W p l e R s m args below meth c H locs cells slots Q (F0 m (pc) ls (.int i :: .ref (bd 65) :: rest)) :=
  va_iald hx hb hK hP 29 0 rfl rfl hi hdg kk
theorem sr_traced (hx : p.tables.exec = Jvm.exec) (hb : c.code = cc) (hK : va_K D vwCl (TY cs) s) (hP : va_P D vwCl (RW cs bd u b bw) H) (hD : va_D A (RW cs bd u b bw)) (hS : va_S A H0 H locs) {i x : Int32} (hi : vp_in i 24) (hdg : decode cc pc = .ok (.iastore, 1)) (kk : ∀ (H1 : Heap) (l1 : List Loc), va_P D vwCl (RW cs bd u (va_up b 65 (upd (b 65) i.toNatClampNeg x)) bw) H1 → va_D A (RW cs bd u (va_up b 65 (upd (b 65) i.toNatClampNeg x)) bw) → va_S A H0 H1 l1 → W p l e R s m args below meth c H1 l1 cells slots Q (F0 m (pc + 1) ls (rest))) : W p l e R s m args below meth c H locs cells slots Q (F0 m (pc) ls (.int x :: .int i :: .ref (bd 65) :: rest)) :=
  va_iast hx hb hK hP hD hS 29 0 rfl rfl hi hdg (fun H1 l1 q1 q2 q3 => kk H1 l1 q1 q2 q3)
theorem lr_holds (hx : p.tables.exec = Jvm.exec) (hb : c.code = cc) (hK : va_K D vwCl (TY cs) s) (hP : va_P D vwCl (RW cs bd u b bw) H) {i : Int32} (hi : vp_in i 6) (hdg : decode cc pc = .ok (.iaload, 1)) (kk : W p l e R s m args below meth c H locs cells slots Q (F0 m (pc + 1) ls (.int (b 66 i.toNatClampNeg) :: rest))) : W p l e R s m args below meth c H locs cells slots Q (F0 m (pc) ls (.int i :: .ref (bd 66) :: rest)) :=
  va_iald hx hb hK hP 30 0 rfl rfl hi hdg kk
theorem sr_holds (hx : p.tables.exec = Jvm.exec) (hb : c.code = cc) (hK : va_K D vwCl (TY cs) s) (hP : va_P D vwCl (RW cs bd u b bw) H) (hD : va_D A (RW cs bd u b bw)) (hS : va_S A H0 H locs) {i x : Int32} (hi : vp_in i 6) (hdg : decode cc pc = .ok (.iastore, 1)) (kk : ∀ (H1 : Heap) (l1 : List Loc), va_P D vwCl (RW cs bd u (va_up b 66 (upd (b 66) i.toNatClampNeg x)) bw) H1 → va_D A (RW cs bd u (va_up b 66 (upd (b 66) i.toNatClampNeg x)) bw) → va_S A H0 H1 l1 → W p l e R s m args below meth c H1 l1 cells slots Q (F0 m (pc + 1) ls (rest))) : W p l e R s m args below meth c H locs cells slots Q (F0 m (pc) ls (.int x :: .int i :: .ref (bd 66) :: rest)) :=
  va_iast hx hb hK hP hD hS 30 0 rfl rfl hi hdg (fun H1 l1 q1 q2 q3 => kk H1 l1 q1 q2 q3)
theorem lr_size (hx : p.tables.exec = Jvm.exec) (hb : c.code = cc) (hK : va_K D vwCl (TY cs) s) (hP : va_P D vwCl (RW cs bd u b bw) H) {i : Int32} (hi : vp_in i 6) (hdg : decode cc pc = .ok (.iaload, 1)) (kk : W p l e R s m args below meth c H locs cells slots Q (F0 m (pc + 1) ls (.int (b 67 i.toNatClampNeg) :: rest))) : W p l e R s m args below meth c H locs cells slots Q (F0 m (pc) ls (.int i :: .ref (bd 67) :: rest)) :=
  va_iald hx hb hK hP 31 0 rfl rfl hi hdg kk
theorem sr_size (hx : p.tables.exec = Jvm.exec) (hb : c.code = cc) (hK : va_K D vwCl (TY cs) s) (hP : va_P D vwCl (RW cs bd u b bw) H) (hD : va_D A (RW cs bd u b bw)) (hS : va_S A H0 H locs) {i x : Int32} (hi : vp_in i 6) (hdg : decode cc pc = .ok (.iastore, 1)) (kk : ∀ (H1 : Heap) (l1 : List Loc), va_P D vwCl (RW cs bd u (va_up b 67 (upd (b 67) i.toNatClampNeg x)) bw) H1 → va_D A (RW cs bd u (va_up b 67 (upd (b 67) i.toNatClampNeg x)) bw) → va_S A H0 H1 l1 → W p l e R s m args below meth c H1 l1 cells slots Q (F0 m (pc + 1) ls (rest))) : W p l e R s m args below meth c H locs cells slots Q (F0 m (pc) ls (.int x :: .int i :: .ref (bd 67) :: rest)) :=
  va_iast hx hb hK hP hD hS 31 0 rfl rfl hi hdg (fun H1 l1 q1 q2 q3 => kk H1 l1 q1 q2 q3)
theorem lr_elements (hx : p.tables.exec = Jvm.exec) (hb : c.code = cc) (hK : va_K D vwCl (TY cs) s) (hP : va_P D vwCl (RW cs bd u b bw) H) {i : Int32} (hi : vp_in i 360) (hdg : decode cc pc = .ok (.laload, 1)) (kk : W p l e R s m args below meth c H locs cells slots Q (F0 m (pc + 1) ls (.long (bw 68 i.toNatClampNeg) :: rest))) : W p l e R s m args below meth c H locs cells slots Q (F0 m (pc) ls (.int i :: .ref (bd 68) :: rest)) :=
  va_lald hx hb hK hP 32 1 rfl rfl hi hdg kk
theorem sr_elements (hx : p.tables.exec = Jvm.exec) (hb : c.code = cc) (hK : va_K D vwCl (TY cs) s) (hP : va_P D vwCl (RW cs bd u b bw) H) (hD : va_D A (RW cs bd u b bw)) (hS : va_S A H0 H locs) {i : Int32} {x : Int64} (hi : vp_in i 360) (hdg : decode cc pc = .ok (.lastore, 1)) (kk : ∀ (H1 : Heap) (l1 : List Loc), va_P D vwCl (RW cs bd u b (va_up bw 68 (vp_updL (bw 68) i.toNatClampNeg x))) H1 → va_D A (RW cs bd u b (va_up bw 68 (vp_updL (bw 68) i.toNatClampNeg x))) → va_S A H0 H1 l1 → W p l e R s m args below meth c H1 l1 cells slots Q (F0 m (pc + 1) ls (rest))) : W p l e R s m args below meth c H locs cells slots Q (F0 m (pc) ls (.long x :: .int i :: .ref (bd 68) :: rest)) :=
  va_last hx hb hK hP hD hS 32 1 rfl rfl hi hdg (fun H1 l1 q1 q2 q3 => kk H1 l1 q1 q2 q3)
theorem lr_shifted (hx : p.tables.exec = Jvm.exec) (hb : c.code = cc) (hK : va_K D vwCl (TY cs) s) (hP : va_P D vwCl (RW cs bd u b bw) H) {i : Int32} (hi : vp_in i 60) (hdg : decode cc pc = .ok (.laload, 1)) (kk : W p l e R s m args below meth c H locs cells slots Q (F0 m (pc + 1) ls (.long (bw 69 i.toNatClampNeg) :: rest))) : W p l e R s m args below meth c H locs cells slots Q (F0 m (pc) ls (.int i :: .ref (bd 69) :: rest)) :=
  va_lald hx hb hK hP 33 1 rfl rfl hi hdg kk
theorem sr_shifted (hx : p.tables.exec = Jvm.exec) (hb : c.code = cc) (hK : va_K D vwCl (TY cs) s) (hP : va_P D vwCl (RW cs bd u b bw) H) (hD : va_D A (RW cs bd u b bw)) (hS : va_S A H0 H locs) {i : Int32} {x : Int64} (hi : vp_in i 60) (hdg : decode cc pc = .ok (.lastore, 1)) (kk : ∀ (H1 : Heap) (l1 : List Loc), va_P D vwCl (RW cs bd u b (va_up bw 69 (vp_updL (bw 69) i.toNatClampNeg x))) H1 → va_D A (RW cs bd u b (va_up bw 69 (vp_updL (bw 69) i.toNatClampNeg x))) → va_S A H0 H1 l1 → W p l e R s m args below meth c H1 l1 cells slots Q (F0 m (pc + 1) ls (rest))) : W p l e R s m args below meth c H locs cells slots Q (F0 m (pc) ls (.long x :: .int i :: .ref (bd 69) :: rest)) :=
  va_last hx hb hK hP hD hS 33 1 rfl rfl hi hdg (fun H1 l1 q1 q2 q3 => kk H1 l1 q1 q2 q3)
theorem rc_model (hK : va_K D vwCl (TY cs) s) (hP : va_P D vwCl (RW cs bd u b bw) H) : ∃ cell : Cell, H[bd 0]? = some cell ∧ cell.vm.isStatics = false ∧ s.vm.findClass RX12 = some cell.cls := va_recv hK hP (ci := 12) (q0 := 0) rfl rfl
end RWrows
end
section
theorem zz_last : (1:Nat) = 1 := rfl
end

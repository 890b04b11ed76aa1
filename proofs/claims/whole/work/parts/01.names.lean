-- ===== PART A: goes FIRST, ahead of the names: the tables' words, and 'selects' of the private methods out of them =====
/-- a private method of a class that the tables say can be made, by its rows of tables_1 -/
def lw_okq (q : MethodName × Nat) : Prop := (q.1.cls ≠ "java/lang/invoke/MethodHandle" ∧ q.1.cls ≠ "java/lang/invoke/VarHandle") ∧ Cond.instantiable q.1.cls q.2 ∈ tables_1 ∧ Cond.privateMethod q.1 ∈ tables_1 ∧ Cond.instanceMethod q.1 ∈ tables_1
theorem lw_p0 : lw_okq (⟨"SweetLine", "found", "(I)I"⟩, 13) := ⟨⟨by decide +kernel, by decide +kernel⟩, List.mem_of_getElem? (i := 22) (by decide +kernel), List.mem_of_getElem? (i := 434) (by decide +kernel), List.mem_of_getElem? (i := 435) (by decide +kernel)⟩
theorem lw_p1 : lw_okq (⟨"SweetLine", "plain", "(I)I"⟩, 13) := ⟨⟨by decide +kernel, by decide +kernel⟩, List.mem_of_getElem? (i := 22) (by decide +kernel), List.mem_of_getElem? (i := 443) (by decide +kernel), List.mem_of_getElem? (i := 444) (by decide +kernel)⟩
theorem lw_p2 : lw_okq (⟨"SweetLine$Tape", "takeFigures", "()V"⟩, 6) := ⟨⟨by decide +kernel, by decide +kernel⟩, List.mem_of_getElem? (i := 38) (by decide +kernel), List.mem_of_getElem? (i := 508) (by decide +kernel), List.mem_of_getElem? (i := 509) (by decide +kernel)⟩
theorem lw_p3 : lw_okq (⟨"SweetLine$Book", "readRecipe", "(I)Z"⟩, 6) := ⟨⟨by decide +kernel, by decide +kernel⟩, List.mem_of_getElem? (i := 32) (by decide +kernel), List.mem_of_getElem? (i := 512) (by decide +kernel), List.mem_of_getElem? (i := 513) (by decide +kernel)⟩
theorem lw_p4 : lw_okq (⟨"SweetLine$Book", "refuse", "(I)Z"⟩, 6) := ⟨⟨by decide +kernel, by decide +kernel⟩, List.mem_of_getElem? (i := 32) (by decide +kernel), List.mem_of_getElem? (i := 569) (by decide +kernel), List.mem_of_getElem? (i := 570) (by decide +kernel)⟩
theorem lw_p5 : lw_okq (⟨"SweetLine$Book", "takeNumber", "(II)Z"⟩, 6) := ⟨⟨by decide +kernel, by decide +kernel⟩, List.mem_of_getElem? (i := 32) (by decide +kernel), List.mem_of_getElem? (i := 574) (by decide +kernel), List.mem_of_getElem? (i := 575) (by decide +kernel)⟩
theorem lw_p6 : lw_okq (⟨"SweetLine$Book", "readStage", "(LSweetLine$Recipe;)Z"⟩, 6) := ⟨⟨by decide +kernel, by decide +kernel⟩, List.mem_of_getElem? (i := 32) (by decide +kernel), List.mem_of_getElem? (i := 579) (by decide +kernel), List.mem_of_getElem? (i := 580) (by decide +kernel)⟩
theorem lw_p7 : lw_okq (⟨"SweetLine", "isRecipe", "(I)Z"⟩, 13) := ⟨⟨by decide +kernel, by decide +kernel⟩, List.mem_of_getElem? (i := 22) (by decide +kernel), List.mem_of_getElem? (i := 594) (by decide +kernel), List.mem_of_getElem? (i := 595) (by decide +kernel)⟩
theorem lw_p8 : lw_okq (⟨"SweetLine$Heat", "seedsOneMinuteOn", "()I"⟩, 2) := ⟨⟨by decide +kernel, by decide +kernel⟩, List.mem_of_getElem? (i := 123) (by decide +kernel), List.mem_of_getElem? (i := 610) (by decide +kernel), List.mem_of_getElem? (i := 611) (by decide +kernel)⟩
theorem lw_p9 : lw_okq (⟨"SweetLine$Belt", "moveOn", "()V"⟩, 6) := ⟨⟨by decide +kernel, by decide +kernel⟩, List.mem_of_getElem? (i := 141) (by decide +kernel), List.mem_of_getElem? (i := 693) (by decide +kernel), List.mem_of_getElem? (i := 694) (by decide +kernel)⟩
theorem lw_p10 : lw_okq (⟨"SweetLine$Belt", "pour", "(LSweetLine$Mould;LSweetLine$Tank;)V"⟩, 6) := ⟨⟨by decide +kernel, by decide +kernel⟩, List.mem_of_getElem? (i := 141) (by decide +kernel), List.mem_of_getElem? (i := 697) (by decide +kernel), List.mem_of_getElem? (i := 698) (by decide +kernel)⟩
theorem lw_p11 : lw_okq (⟨"SweetLine$Belt", "turnOut", "(LSweetLine$Mould;LSweetLine$Bars;)V"⟩, 6) := ⟨⟨by decide +kernel, by decide +kernel⟩, List.mem_of_getElem? (i := 141) (by decide +kernel), List.mem_of_getElem? (i := 724) (by decide +kernel), List.mem_of_getElem? (i := 725) (by decide +kernel)⟩
theorem lw_p12 : lw_okq (⟨"SweetLine", "isKept", "(I)Z"⟩, 13) := ⟨⟨by decide +kernel, by decide +kernel⟩, List.mem_of_getElem? (i := 22) (by decide +kernel), List.mem_of_getElem? (i := 758) (by decide +kernel), List.mem_of_getElem? (i := 759) (by decide +kernel)⟩
theorem lw_p13 : lw_okq (⟨"SweetLine", "toldKind", "(LSweetLine$Bar;)I"⟩, 13) := ⟨⟨by decide +kernel, by decide +kernel⟩, List.mem_of_getElem? (i := 22) (by decide +kernel), List.mem_of_getElem? (i := 774) (by decide +kernel), List.mem_of_getElem? (i := 775) (by decide +kernel)⟩
theorem lw_p14 : lw_okq (⟨"SweetLine", "gramsInTanks", "()I"⟩, 13) := ⟨⟨by decide +kernel, by decide +kernel⟩, List.mem_of_getElem? (i := 22) (by decide +kernel), List.mem_of_getElem? (i := 786) (by decide +kernel), List.mem_of_getElem? (i := 787) (by decide +kernel)⟩
theorem lw_p15 : lw_okq (⟨"SweetLine", "takeOrders", "(LSweetLine$Sheet;II)Z"⟩, 13) := ⟨⟨by decide +kernel, by decide +kernel⟩, List.mem_of_getElem? (i := 22) (by decide +kernel), List.mem_of_getElem? (i := 802) (by decide +kernel), List.mem_of_getElem? (i := 803) (by decide +kernel)⟩
def lw_privs_1 : List (MethodName × Nat) := [(⟨"SweetLine", "found", "(I)I"⟩, 13), (⟨"SweetLine", "plain", "(I)I"⟩, 13), (⟨"SweetLine$Tape", "takeFigures", "()V"⟩, 6), (⟨"SweetLine$Book", "readRecipe", "(I)Z"⟩, 6), (⟨"SweetLine$Book", "refuse", "(I)Z"⟩, 6), (⟨"SweetLine$Book", "takeNumber", "(II)Z"⟩, 6), (⟨"SweetLine$Book", "readStage", "(LSweetLine$Recipe;)Z"⟩, 6), (⟨"SweetLine", "isRecipe", "(I)Z"⟩, 13), (⟨"SweetLine$Heat", "seedsOneMinuteOn", "()I"⟩, 2), (⟨"SweetLine$Belt", "moveOn", "()V"⟩, 6), (⟨"SweetLine$Belt", "pour", "(LSweetLine$Mould;LSweetLine$Tank;)V"⟩, 6), (⟨"SweetLine$Belt", "turnOut", "(LSweetLine$Mould;LSweetLine$Bars;)V"⟩, 6), (⟨"SweetLine", "isKept", "(I)Z"⟩, 13), (⟨"SweetLine", "toldKind", "(LSweetLine$Bar;)I"⟩, 13), (⟨"SweetLine", "gramsInTanks", "()I"⟩, 13), (⟨"SweetLine", "takeOrders", "(LSweetLine$Sheet;II)Z"⟩, 13)]
theorem lw_r1 : ∀ q ∈ lw_privs_1, lw_okq q := List.forall_mem_cons.mpr ⟨lw_p0, List.forall_mem_cons.mpr ⟨lw_p1, List.forall_mem_cons.mpr ⟨lw_p2, List.forall_mem_cons.mpr ⟨lw_p3, List.forall_mem_cons.mpr ⟨lw_p4, List.forall_mem_cons.mpr ⟨lw_p5, List.forall_mem_cons.mpr ⟨lw_p6, List.forall_mem_cons.mpr ⟨lw_p7, List.forall_mem_cons.mpr ⟨lw_p8, List.forall_mem_cons.mpr ⟨lw_p9, List.forall_mem_cons.mpr ⟨lw_p10, List.forall_mem_cons.mpr ⟨lw_p11, List.forall_mem_cons.mpr ⟨lw_p12, List.forall_mem_cons.mpr ⟨lw_p13, List.forall_mem_cons.mpr ⟨lw_p14, List.forall_mem_cons.mpr ⟨lw_p15, fun _ h => absurd h List.not_mem_nil⟩⟩⟩⟩⟩⟩⟩⟩⟩⟩⟩⟩⟩⟩⟩⟩
theorem lw_p16 : lw_okq (⟨"SweetLine$Rows", "keepRow", "(I)V"⟩, 7) := ⟨⟨by decide +kernel, by decide +kernel⟩, List.mem_of_getElem? (i := 296) (by decide +kernel), List.mem_of_getElem? (i := 814) (by decide +kernel), List.mem_of_getElem? (i := 815) (by decide +kernel)⟩
theorem lw_p17 : lw_okq (⟨"SweetLine", "body", "(ILSweetLine$Bar;II)I"⟩, 13) := ⟨⟨by decide +kernel, by decide +kernel⟩, List.mem_of_getElem? (i := 22) (by decide +kernel), List.mem_of_getElem? (i := 835) (by decide +kernel), List.mem_of_getElem? (i := 836) (by decide +kernel)⟩
theorem lw_p18 : lw_okq (⟨"SweetLine", "sheetsThere", "()I"⟩, 13) := ⟨⟨by decide +kernel, by decide +kernel⟩, List.mem_of_getElem? (i := 22) (by decide +kernel), List.mem_of_getElem? (i := 847) (by decide +kernel), List.mem_of_getElem? (i := 848) (by decide +kernel)⟩
theorem lw_p19 : lw_okq (⟨"SweetLineModel", "finding", "(I)I"⟩, 59) := ⟨⟨by decide +kernel, by decide +kernel⟩, List.mem_of_getElem? (i := 855) (by decide +kernel), List.mem_of_getElem? (i := 1053) (by decide +kernel), List.mem_of_getElem? (i := 1054) (by decide +kernel)⟩
theorem lw_p20 : lw_okq (⟨"SweetLineModel", "step", "()V"⟩, 59) := ⟨⟨by decide +kernel, by decide +kernel⟩, List.mem_of_getElem? (i := 855) (by decide +kernel), List.mem_of_getElem? (i := 1081) (by decide +kernel), List.mem_of_getElem? (i := 1082) (by decide +kernel)⟩
theorem lw_p21 : lw_okq (⟨"SweetLineModel", "byteAt", "(I)I"⟩, 59) := ⟨⟨by decide +kernel, by decide +kernel⟩, List.mem_of_getElem? (i := 855) (by decide +kernel), List.mem_of_getElem? (i := 1085) (by decide +kernel), List.mem_of_getElem? (i := 1086) (by decide +kernel)⟩
theorem lw_p22 : lw_okq (⟨"SweetLineModel", "readRecipe", "()V"⟩, 59) := ⟨⟨by decide +kernel, by decide +kernel⟩, List.mem_of_getElem? (i := 855) (by decide +kernel), List.mem_of_getElem? (i := 1096) (by decide +kernel), List.mem_of_getElem? (i := 1097) (by decide +kernel)⟩
theorem lw_p23 : lw_okq (⟨"SweetLineModel", "word", "()J"⟩, 59) := ⟨⟨by decide +kernel, by decide +kernel⟩, List.mem_of_getElem? (i := 855) (by decide +kernel), List.mem_of_getElem? (i := 1100) (by decide +kernel), List.mem_of_getElem? (i := 1101) (by decide +kernel)⟩
theorem lw_p24 : lw_okq (⟨"SweetLineModel", "bad", "(I)V"⟩, 59) := ⟨⟨by decide +kernel, by decide +kernel⟩, List.mem_of_getElem? (i := 855) (by decide +kernel), List.mem_of_getElem? (i := 1105) (by decide +kernel), List.mem_of_getElem? (i := 1106) (by decide +kernel)⟩
theorem lw_p25 : lw_okq (⟨"SweetLineModel", "must", "(Z)V"⟩, 59) := ⟨⟨by decide +kernel, by decide +kernel⟩, List.mem_of_getElem? (i := 855) (by decide +kernel), List.mem_of_getElem? (i := 1109) (by decide +kernel), List.mem_of_getElem? (i := 1110) (by decide +kernel)⟩
theorem lw_p26 : lw_okq (⟨"SweetLineModel", "numberIn", "(II)I"⟩, 59) := ⟨⟨by decide +kernel, by decide +kernel⟩, List.mem_of_getElem? (i := 855) (by decide +kernel), List.mem_of_getElem? (i := 1113) (by decide +kernel), List.mem_of_getElem? (i := 1114) (by decide +kernel)⟩
theorem lw_p27 : lw_okq (⟨"SweetLineModel", "isRecipe", "(I)Z"⟩, 59) := ⟨⟨by decide +kernel, by decide +kernel⟩, List.mem_of_getElem? (i := 855) (by decide +kernel), List.mem_of_getElem? (i := 1128) (by decide +kernel), List.mem_of_getElem? (i := 1129) (by decide +kernel)⟩
theorem lw_p28 : lw_okq (⟨"SweetLineModel", "temperBy", "(III)V"⟩, 59) := ⟨⟨by decide +kernel, by decide +kernel⟩, List.mem_of_getElem? (i := 855) (by decide +kernel), List.mem_of_getElem? (i := 1135) (by decide +kernel), List.mem_of_getElem? (i := 1136) (by decide +kernel)⟩
theorem lw_p29 : lw_okq (⟨"SweetLineModel", "beatOnce", "()V"⟩, 59) := ⟨⟨by decide +kernel, by decide +kernel⟩, List.mem_of_getElem? (i := 855) (by decide +kernel), List.mem_of_getElem? (i := 1183) (by decide +kernel), List.mem_of_getElem? (i := 1184) (by decide +kernel)⟩
theorem lw_p30 : lw_okq (⟨"SweetLineModel", "pour", "()V"⟩, 59) := ⟨⟨by decide +kernel, by decide +kernel⟩, List.mem_of_getElem? (i := 855) (by decide +kernel), List.mem_of_getElem? (i := 1187) (by decide +kernel), List.mem_of_getElem? (i := 1188) (by decide +kernel)⟩
theorem lw_p31 : lw_okq (⟨"SweetLineModel", "mouldAt", "(I)I"⟩, 59) := ⟨⟨by decide +kernel, by decide +kernel⟩, List.mem_of_getElem? (i := 855) (by decide +kernel), List.mem_of_getElem? (i := 1191) (by decide +kernel), List.mem_of_getElem? (i := 1192) (by decide +kernel)⟩
def lw_privs_2 : List (MethodName × Nat) := [(⟨"SweetLine$Rows", "keepRow", "(I)V"⟩, 7), (⟨"SweetLine", "body", "(ILSweetLine$Bar;II)I"⟩, 13), (⟨"SweetLine", "sheetsThere", "()I"⟩, 13), (⟨"SweetLineModel", "finding", "(I)I"⟩, 59), (⟨"SweetLineModel", "step", "()V"⟩, 59), (⟨"SweetLineModel", "byteAt", "(I)I"⟩, 59), (⟨"SweetLineModel", "readRecipe", "()V"⟩, 59), (⟨"SweetLineModel", "word", "()J"⟩, 59), (⟨"SweetLineModel", "bad", "(I)V"⟩, 59), (⟨"SweetLineModel", "must", "(Z)V"⟩, 59), (⟨"SweetLineModel", "numberIn", "(II)I"⟩, 59), (⟨"SweetLineModel", "isRecipe", "(I)Z"⟩, 59), (⟨"SweetLineModel", "temperBy", "(III)V"⟩, 59), (⟨"SweetLineModel", "beatOnce", "()V"⟩, 59), (⟨"SweetLineModel", "pour", "()V"⟩, 59), (⟨"SweetLineModel", "mouldAt", "(I)I"⟩, 59)]
theorem lw_r2 : ∀ q ∈ lw_privs_2, lw_okq q := List.forall_mem_cons.mpr ⟨lw_p16, List.forall_mem_cons.mpr ⟨lw_p17, List.forall_mem_cons.mpr ⟨lw_p18, List.forall_mem_cons.mpr ⟨lw_p19, List.forall_mem_cons.mpr ⟨lw_p20, List.forall_mem_cons.mpr ⟨lw_p21, List.forall_mem_cons.mpr ⟨lw_p22, List.forall_mem_cons.mpr ⟨lw_p23, List.forall_mem_cons.mpr ⟨lw_p24, List.forall_mem_cons.mpr ⟨lw_p25, List.forall_mem_cons.mpr ⟨lw_p26, List.forall_mem_cons.mpr ⟨lw_p27, List.forall_mem_cons.mpr ⟨lw_p28, List.forall_mem_cons.mpr ⟨lw_p29, List.forall_mem_cons.mpr ⟨lw_p30, List.forall_mem_cons.mpr ⟨lw_p31, fun _ h => absurd h List.not_mem_nil⟩⟩⟩⟩⟩⟩⟩⟩⟩⟩⟩⟩⟩⟩⟩⟩
theorem lw_p32 : lw_okq (⟨"SweetLineModel", "take", "(II)V"⟩, 59) := ⟨⟨by decide +kernel, by decide +kernel⟩, List.mem_of_getElem? (i := 855) (by decide +kernel), List.mem_of_getElem? (i := 1195) (by decide +kernel), List.mem_of_getElem? (i := 1196) (by decide +kernel)⟩
theorem lw_p33 : lw_okq (⟨"SweetLineModel", "turnOut", "(I)V"⟩, 59) := ⟨⟨by decide +kernel, by decide +kernel⟩, List.mem_of_getElem? (i := 855) (by decide +kernel), List.mem_of_getElem? (i := 1199) (by decide +kernel), List.mem_of_getElem? (i := 1200) (by decide +kernel)⟩
theorem lw_p34 : lw_okq (⟨"SweetLineModel", "isBar", "(I)Z"⟩, 59) := ⟨⟨by decide +kernel, by decide +kernel⟩, List.mem_of_getElem? (i := 855) (by decide +kernel), List.mem_of_getElem? (i := 1216) (by decide +kernel), List.mem_of_getElem? (i := 1217) (by decide +kernel)⟩
theorem lw_p35 : lw_okq (⟨"SweetLineModel", "of", "(II)I"⟩, 59) := ⟨⟨by decide +kernel, by decide +kernel⟩, List.mem_of_getElem? (i := 855) (by decide +kernel), List.mem_of_getElem? (i := 1220) (by decide +kernel), List.mem_of_getElem? (i := 1221) (by decide +kernel)⟩
theorem lw_p36 : lw_okq (⟨"SweetLineModel", "kindOf", "(I)I"⟩, 59) := ⟨⟨by decide +kernel, by decide +kernel⟩, List.mem_of_getElem? (i := 855) (by decide +kernel), List.mem_of_getElem? (i := 1232) (by decide +kernel), List.mem_of_getElem? (i := 1233) (by decide +kernel)⟩
theorem lw_p37 : lw_okq (⟨"SweetLineModel", "lookItems", "(III)I"⟩, 59) := ⟨⟨by decide +kernel, by decide +kernel⟩, List.mem_of_getElem? (i := 855) (by decide +kernel), List.mem_of_getElem? (i := 1249) (by decide +kernel), List.mem_of_getElem? (i := 1250) (by decide +kernel)⟩
theorem lw_p38 : lw_okq (⟨"SweetLineModel", "costOf", "(II)I"⟩, 59) := ⟨⟨by decide +kernel, by decide +kernel⟩, List.mem_of_getElem? (i := 855) (by decide +kernel), List.mem_of_getElem? (i := 1259) (by decide +kernel), List.mem_of_getElem? (i := 1260) (by decide +kernel)⟩
theorem lw_p39 : lw_okq (⟨"SweetLineModel", "nextRow", "(I)Z"⟩, 59) := ⟨⟨by decide +kernel, by decide +kernel⟩, List.mem_of_getElem? (i := 855) (by decide +kernel), List.mem_of_getElem? (i := 1263) (by decide +kernel), List.mem_of_getElem? (i := 1264) (by decide +kernel)⟩
theorem lw_p40 : lw_okq (⟨"SweetLineModel", "sizeOf", "(II)I"⟩, 59) := ⟨⟨by decide +kernel, by decide +kernel⟩, List.mem_of_getElem? (i := 855) (by decide +kernel), List.mem_of_getElem? (i := 1283) (by decide +kernel), List.mem_of_getElem? (i := 1284) (by decide +kernel)⟩
theorem lw_p41 : lw_okq (⟨"SweetLineModel", "fullSize", "(II)I"⟩, 59) := ⟨⟨by decide +kernel, by decide +kernel⟩, List.mem_of_getElem? (i := 855) (by decide +kernel), List.mem_of_getElem? (i := 1287) (by decide +kernel), List.mem_of_getElem? (i := 1288) (by decide +kernel)⟩
theorem lw_p42 : lw_okq (⟨"SweetLineModel", "began", "(I)V"⟩, 59) := ⟨⟨by decide +kernel, by decide +kernel⟩, List.mem_of_getElem? (i := 855) (by decide +kernel), List.mem_of_getElem? (i := 1291) (by decide +kernel), List.mem_of_getElem? (i := 1292) (by decide +kernel)⟩
theorem lw_p43 : lw_okq (⟨"SweetLineModel", "markOf", "(II)I"⟩, 59) := ⟨⟨by decide +kernel, by decide +kernel⟩, List.mem_of_getElem? (i := 855) (by decide +kernel), List.mem_of_getElem? (i := 1295) (by decide +kernel), List.mem_of_getElem? (i := 1296) (by decide +kernel)⟩
def lw_privs_3 : List (MethodName × Nat) := [(⟨"SweetLineModel", "take", "(II)V"⟩, 59), (⟨"SweetLineModel", "turnOut", "(I)V"⟩, 59), (⟨"SweetLineModel", "isBar", "(I)Z"⟩, 59), (⟨"SweetLineModel", "of", "(II)I"⟩, 59), (⟨"SweetLineModel", "kindOf", "(I)I"⟩, 59), (⟨"SweetLineModel", "lookItems", "(III)I"⟩, 59), (⟨"SweetLineModel", "costOf", "(II)I"⟩, 59), (⟨"SweetLineModel", "nextRow", "(I)Z"⟩, 59), (⟨"SweetLineModel", "sizeOf", "(II)I"⟩, 59), (⟨"SweetLineModel", "fullSize", "(II)I"⟩, 59), (⟨"SweetLineModel", "began", "(I)V"⟩, 59), (⟨"SweetLineModel", "markOf", "(II)I"⟩, 59)]
theorem lw_r3 : ∀ q ∈ lw_privs_3, lw_okq q := List.forall_mem_cons.mpr ⟨lw_p32, List.forall_mem_cons.mpr ⟨lw_p33, List.forall_mem_cons.mpr ⟨lw_p34, List.forall_mem_cons.mpr ⟨lw_p35, List.forall_mem_cons.mpr ⟨lw_p36, List.forall_mem_cons.mpr ⟨lw_p37, List.forall_mem_cons.mpr ⟨lw_p38, List.forall_mem_cons.mpr ⟨lw_p39, List.forall_mem_cons.mpr ⟨lw_p40, List.forall_mem_cons.mpr ⟨lw_p41, List.forall_mem_cons.mpr ⟨lw_p42, List.forall_mem_cons.mpr ⟨lw_p43, fun _ h => absurd h List.not_mem_nil⟩⟩⟩⟩⟩⟩⟩⟩⟩⟩⟩⟩
def lw_privs : List (MethodName × Nat) := lw_privs_1 ++ (lw_privs_2 ++ (lw_privs_3))
def lw_tbl : List Cond := k2_sels lw_privs ++ tables_1
theorem lw_privs_ok : ∀ q ∈ lw_privs, lw_okq q := by
  show ∀ q ∈ lw_privs_1 ++ (lw_privs_2 ++ (lw_privs_3)), lw_okq q
  exact List.forall_mem_append.mpr ⟨lw_r1, List.forall_mem_append.mpr ⟨lw_r2, lw_r3⟩⟩
def RX0 : String := "SweetLine$Bar"
def TX0 : u_T := fun k => match k with
  | 0 => ("SweetLine$Bar", "chocolate", "I", false)
  | 1 => ("SweetLine$Bar", "filling", "I", false)
  | 2 => ("SweetLine$Bar", "recipe", "I", false)
  | 3 => ("SweetLine$Bar", "lots", "I", false)
  | 4 => ("SweetLine$Bar", "good", "Z", false)
  | 5 => ("SweetLine$Bar", "beat", "I", false)
  | _ => ("SweetLine$Bar", "melted", "Z", false)
def tyX0 : Nat → FieldType := fun k => match k with
  | 0 => .int
  | 1 => .int
  | 2 => .int
  | 3 => .int
  | 4 => .boolean
  | 5 => .int
  | _ => .boolean
theorem nmX0 : ∀ a, a < 7 → ∀ b, b < 7 → a ≠ b → (TX0 a).2.1 ≠ (TX0 b).2.1 := by decide +kernel
theorem tyX0_ok : ∀ k, k < 7 → parseFieldDescriptor (TX0 k).2.2.1 = some (tyX0 k) := by decide +kernel
abbrev cX0_init : ByteArray := prog_2_method_1_code
def yX0_init : MethodName := ⟨RX0, "<init>", "()V"⟩
abbrev cX0_become : ByteArray := prog_2_method_2_code
def yX0_become : MethodName := ⟨RX0, "become", "(LSweetLine$Mould;I)V"⟩
def RX1 : String := "SweetLine$Bars"
def TX1 : u_T := fun k => match k with
  | 0 => ("SweetLine$Bars", "rack", "[LSweetLine$Bar;", true)
  | 1 => ("SweetLine$Bars", "kept", "I", false)
  | 2 => ("SweetLine$Bars", "came", "I", false)
  | 3 => ("SweetLine$Bars", "allGrams", "I", false)
  | 4 => ("SweetLine$Bars", "givenAway", "I", false)
  | 5 => ("SweetLine$Bars", "calledBack", "I", false)
  | _ => ("SweetLine$Bars", "recent", "[I", true)
def tyX1 : Nat → FieldType := fun k => match k with
  | 0 => .array (.object "SweetLine$Bar")
  | 1 => .int
  | 2 => .int
  | 3 => .int
  | 4 => .int
  | 5 => .int
  | _ => .array .int
theorem nmX1 : ∀ a, a < 7 → ∀ b, b < 7 → a ≠ b → (TX1 a).2.1 ≠ (TX1 b).2.1 := by decide +kernel
theorem tyX1_ok : ∀ k, k < 7 → parseFieldDescriptor (TX1 k).2.2.1 = some (tyX1 k) := by decide +kernel
abbrev cX1_init : ByteArray := prog_3_method_1_code
def yX1_init : MethodName := ⟨RX1, "<init>", "()V"⟩
abbrev cX1_take : ByteArray := prog_3_method_2_code
def yX1_take : MethodName := ⟨RX1, "take", "(LSweetLine$Mould;II)V"⟩
abbrev cX1_recentMean : ByteArray := prog_3_method_3_code
def yX1_recentMean : MethodName := ⟨RX1, "recentMean", "()I"⟩
abbrev cX1_keptWith : ByteArray := prog_3_method_4_code
def yX1_keptWith : MethodName := ⟨RX1, "keptWith", "(I)I"⟩
def RX2 : String := "SweetLine$Belt"
def TX2 : u_T := fun k => match k with
  | 0 => ("SweetLine$Belt", "moulds", "[LSweetLine$Mould;", true)
  | 1 => ("SweetLine$Belt", "gears", "[I", true)
  | 2 => ("SweetLine$Belt", "n", "I", false)
  | 3 => ("SweetLine$Belt", "poured", "I", false)
  | 4 => ("SweetLine$Belt", "beats", "I", false)
  | _ => ("SweetLine$Belt", "missed", "I", false)
def tyX2 : Nat → FieldType := fun k => match k with
  | 0 => .array (.object "SweetLine$Mould")
  | 1 => .array .int
  | 2 => .int
  | 3 => .int
  | 4 => .int
  | _ => .int
theorem nmX2 : ∀ a, a < 6 → ∀ b, b < 6 → a ≠ b → (TX2 a).2.1 ≠ (TX2 b).2.1 := by decide +kernel
theorem tyX2_ok : ∀ k, k < 6 → parseFieldDescriptor (TX2 k).2.2.1 = some (tyX2 k) := by decide +kernel
abbrev cX2_init : ByteArray := prog_4_method_1_code
def yX2_init : MethodName := ⟨RX2, "<init>", "()V"⟩
abbrev cX2_advance : ByteArray := prog_4_method_2_code
def yX2_advance : MethodName := ⟨RX2, "advance", "(LSweetLine$Tank;LSweetLine$Bars;)V"⟩
abbrev cX2_fullMoulds : ByteArray := prog_4_method_3_code
def yX2_fullMoulds : MethodName := ⟨RX2, "fullMoulds", "()I"⟩
abbrev cX2_gramsInMoulds : ByteArray := prog_4_method_4_code
def yX2_gramsInMoulds : MethodName := ⟨RX2, "gramsInMoulds", "()I"⟩
abbrev cX2_moveOn : ByteArray := prog_4_method_5_code
def yX2_moveOn : MethodName := ⟨RX2, "moveOn", "()V"⟩
abbrev cX2_pour : ByteArray := prog_4_method_6_code
def yX2_pour : MethodName := ⟨RX2, "pour", "(LSweetLine$Mould;LSweetLine$Tank;)V"⟩
abbrev cX2_turnOut : ByteArray := prog_4_method_7_code
def yX2_turnOut : MethodName := ⟨RX2, "turnOut", "(LSweetLine$Mould;LSweetLine$Bars;)V"⟩
def RX3 : String := "SweetLine$Book"
def TX3 : u_T := fun k => match k with
  | 0 => ("SweetLine$Book", "tape", "LSweetLine$Tape;", true)
  | 1 => ("SweetLine$Book", "recipes", "[LSweetLine$Recipe;", true)
  | 2 => ("SweetLine$Book", "told", "I", false)
  | 3 => ("SweetLine$Book", "faultNumber", "I", false)
  | 4 => ("SweetLine$Book", "faultPlace", "I", false)
  | _ => ("SweetLine$Book", "taken", "I", false)
def tyX3 : Nat → FieldType := fun k => match k with
  | 0 => .object "SweetLine$Tape"
  | 1 => .array (.object "SweetLine$Recipe")
  | 2 => .int
  | 3 => .int
  | 4 => .int
  | _ => .int
theorem nmX3 : ∀ a, a < 6 → ∀ b, b < 6 → a ≠ b → (TX3 a).2.1 ≠ (TX3 b).2.1 := by decide +kernel
theorem tyX3_ok : ∀ k, k < 6 → parseFieldDescriptor (TX3 k).2.2.1 = some (tyX3 k) := by decide +kernel
abbrev cX3_init : ByteArray := prog_5_method_1_code
def yX3_init : MethodName := ⟨RX3, "<init>", "()V"⟩
abbrev cX3_readTape : ByteArray := prog_5_method_2_code
def yX3_readTape : MethodName := ⟨RX3, "readTape", "()Z"⟩
abbrev cX3_readRecipe : ByteArray := prog_5_method_3_code
def yX3_readRecipe : MethodName := ⟨RX3, "readRecipe", "(I)Z"⟩
abbrev cX3_readStage : ByteArray := prog_5_method_4_code
def yX3_readStage : MethodName := ⟨RX3, "readStage", "(LSweetLine$Recipe;)Z"⟩
abbrev cX3_takeNumber : ByteArray := prog_5_method_5_code
def yX3_takeNumber : MethodName := ⟨RX3, "takeNumber", "(II)Z"⟩
abbrev cX3_refuse : ByteArray := prog_5_method_6_code
def yX3_refuse : MethodName := ⟨RX3, "refuse", "(I)Z"⟩
def RX4 : String := "SweetLine$Heat"
def TX4 : u_T := fun k => match k with
  | 0 => ("SweetLine$Heat", "warmth", "I", false)
  | _ => ("SweetLine$Heat", "seeds", "I", false)
def tyX4 : Nat → FieldType := fun k => match k with
  | 0 => .int
  | _ => .int
theorem nmX4 : ∀ a, a < 2 → ∀ b, b < 2 → a ≠ b → (TX4 a).2.1 ≠ (TX4 b).2.1 := by decide +kernel
theorem tyX4_ok : ∀ k, k < 2 → parseFieldDescriptor (TX4 k).2.2.1 = some (tyX4 k) := by decide +kernel
abbrev cX4_init : ByteArray := prog_6_method_1_code
def yX4_init : MethodName := ⟨RX4, "<init>", "()V"⟩
abbrev cX4_begin : ByteArray := prog_6_method_2_code
def yX4_begin : MethodName := ⟨RX4, "begin", "(II)V"⟩
abbrev cX4_goThrough : ByteArray := prog_6_method_3_code
def yX4_goThrough : MethodName := ⟨RX4, "goThrough", "(LSweetLine$Recipe;)V"⟩
abbrev cX4_state : ByteArray := prog_6_method_4_code
def yX4_state : MethodName := ⟨RX4, "state", "()I"⟩
abbrev cX4_thickness : ByteArray := prog_6_method_5_code
def yX4_thickness : MethodName := ⟨RX4, "thickness", "()I"⟩
abbrev cX4_seedsOneMinuteOn : ByteArray := prog_6_method_6_code
def yX4_seedsOneMinuteOn : MethodName := ⟨RX4, "seedsOneMinuteOn", "()I"⟩
def RX5 : String := "SweetLine$Mould"
def TX5 : u_T := fun k => match k with
  | 0 => ("SweetLine$Mould", "chocolate", "I", false)
  | 1 => ("SweetLine$Mould", "filling", "I", false)
  | 2 => ("SweetLine$Mould", "recipe", "I", false)
  | 3 => ("SweetLine$Mould", "lots", "I", false)
  | 4 => ("SweetLine$Mould", "warmth", "I", false)
  | 5 => ("SweetLine$Mould", "good", "Z", false)
  | 6 => ("SweetLine$Mould", "shaken", "Z", false)
  | _ => ("SweetLine$Mould", "wasFilled", "Z", false)
def tyX5 : Nat → FieldType := fun k => match k with
  | 0 => .int
  | 1 => .int
  | 2 => .int
  | 3 => .int
  | 4 => .int
  | 5 => .boolean
  | 6 => .boolean
  | _ => .boolean
theorem nmX5 : ∀ a, a < 8 → ∀ b, b < 8 → a ≠ b → (TX5 a).2.1 ≠ (TX5 b).2.1 := by decide +kernel
theorem tyX5_ok : ∀ k, k < 8 → parseFieldDescriptor (TX5 k).2.2.1 = some (tyX5 k) := by decide +kernel
abbrev cX5_init : ByteArray := prog_7_method_1_code
def yX5_init : MethodName := ⟨RX5, "<init>", "()V"⟩
abbrev cX5_isEmpty : ByteArray := prog_7_method_2_code
def yX5_isEmpty : MethodName := ⟨RX5, "isEmpty", "()Z"⟩
abbrev cX5_takeFrom : ByteArray := prog_7_method_3_code
def yX5_takeFrom : MethodName := ⟨RX5, "takeFrom", "(LSweetLine$Tank;I)V"⟩
abbrev cX5_shake : ByteArray := prog_7_method_4_code
def yX5_shake : MethodName := ⟨RX5, "shake", "()V"⟩
abbrev cX5_fillOnce : ByteArray := prog_7_method_5_code
def yX5_fillOnce : MethodName := ⟨RX5, "fillOnce", "(I)V"⟩
abbrev cX5_cool : ByteArray := prog_7_method_6_code
def yX5_cool : MethodName := ⟨RX5, "cool", "(I)V"⟩
def RX6 : String := "SweetLine$Recipe"
def TX6 : u_T := fun k => match k with
  | 0 => ("SweetLine$Recipe", "allergens", "I", false)
  | 1 => ("SweetLine$Recipe", "share", "I", false)
  | 2 => ("SweetLine$Recipe", "stages", "I", false)
  | 3 => ("SweetLine$Recipe", "amounts", "[I", true)
  | _ => ("SweetLine$Recipe", "minutes", "[I", true)
def tyX6 : Nat → FieldType := fun k => match k with
  | 0 => .int
  | 1 => .int
  | 2 => .int
  | 3 => .array .int
  | _ => .array .int
theorem nmX6 : ∀ a, a < 5 → ∀ b, b < 5 → a ≠ b → (TX6 a).2.1 ≠ (TX6 b).2.1 := by decide +kernel
theorem tyX6_ok : ∀ k, k < 5 → parseFieldDescriptor (TX6 k).2.2.1 = some (tyX6 k) := by decide +kernel
abbrev cX6_init : ByteArray := prog_8_method_1_code
def yX6_init : MethodName := ⟨RX6, "<init>", "()V"⟩
def RX7 : String := "SweetLine$Rows"
def TX7 : u_T := fun k => match k with
  | 0 => ("SweetLine$Rows", "allergens", "[I", true)
  | 1 => ("SweetLine$Rows", "hours", "[I", true)
  | 2 => ("SweetLine$Rows", "dues", "[I", true)
  | 3 => ("SweetLine$Rows", "best", "[I", true)
  | 4 => ("SweetLine$Rows", "bestCost", "I", false)
  | 5 => ("SweetLine$Rows", "row", "[I", true)
  | _ => ("SweetLine$Rows", "n", "I", false)
def tyX7 : Nat → FieldType := fun k => match k with
  | 0 => .array .int
  | 1 => .array .int
  | 2 => .array .int
  | 3 => .array .int
  | 4 => .int
  | 5 => .array .int
  | _ => .int
theorem nmX7 : ∀ a, a < 7 → ∀ b, b < 7 → a ≠ b → (TX7 a).2.1 ≠ (TX7 b).2.1 := by decide +kernel
theorem tyX7_ok : ∀ k, k < 7 → parseFieldDescriptor (TX7 k).2.2.1 = some (tyX7 k) := by decide +kernel
abbrev cX7_init : ByteArray := prog_9_method_1_code
def yX7_init : MethodName := ⟨RX7, "<init>", "()V"⟩
abbrev cX7_findBest : ByteArray := prog_9_method_2_code
def yX7_findBest : MethodName := ⟨RX7, "findBest", "(I)V"⟩
abbrev cX7_extend : ByteArray := prog_9_method_3_code
def yX7_extend : MethodName := ⟨RX7, "extend", "(LSweetLine$Rows;IIII)V"⟩
abbrev cX7_keepRow : ByteArray := prog_9_method_4_code
def yX7_keepRow : MethodName := ⟨RX7, "keepRow", "(I)V"⟩
def RX8 : String := "SweetLine$Sheet"
def TX8 : u_T := fun k => match k with
  | 0 => ("SweetLine$Sheet", "items", "[I", true)
  | 1 => ("SweetLine$Sheet", "missing", "Z", false)
  | 2 => ("SweetLine$Sheet", "lane", "I", false)
  | _ => ("SweetLine$Sheet", "size", "I", false)
def tyX8 : Nat → FieldType := fun k => match k with
  | 0 => .array .int
  | 1 => .boolean
  | 2 => .int
  | _ => .int
theorem nmX8 : ∀ a, a < 4 → ∀ b, b < 4 → a ≠ b → (TX8 a).2.1 ≠ (TX8 b).2.1 := by decide +kernel
theorem tyX8_ok : ∀ k, k < 4 → parseFieldDescriptor (TX8 k).2.2.1 = some (tyX8 k) := by decide +kernel
abbrev cX8_init : ByteArray := prog_10_method_1_code
def yX8_init : MethodName := ⟨RX8, "<init>", "()V"⟩
abbrev cX8_begin : ByteArray := prog_10_method_2_code
def yX8_begin : MethodName := ⟨RX8, "begin", "(II)V"⟩
abbrev cX8_has : ByteArray := prog_10_method_3_code
def yX8_has : MethodName := ⟨RX8, "has", "(II)Z"⟩
abbrev cX8_narrowed : ByteArray := prog_10_method_4_code
def yX8_narrowed : MethodName := ⟨RX8, "narrowed", "(I)I"⟩
def RX9 : String := "SweetLine$Tank"
def TX9 : u_T := fun k => match k with
  | 0 => ("SweetLine$Tank", "stuff", "I", false)
  | 1 => ("SweetLine$Tank", "rework", "I", false)
  | 2 => ("SweetLine$Tank", "recipe", "I", false)
  | 3 => ("SweetLine$Tank", "lots", "I", false)
  | _ => ("SweetLine$Tank", "heat", "LSweetLine$Heat;", true)
def tyX9 : Nat → FieldType := fun k => match k with
  | 0 => .int
  | 1 => .int
  | 2 => .int
  | 3 => .int
  | _ => .object "SweetLine$Heat"
theorem nmX9 : ∀ a, a < 5 → ∀ b, b < 5 → a ≠ b → (TX9 a).2.1 ≠ (TX9 b).2.1 := by decide +kernel
theorem tyX9_ok : ∀ k, k < 5 → parseFieldDescriptor (TX9 k).2.2.1 = some (tyX9 k) := by decide +kernel
abbrev cX9_init : ByteArray := prog_11_method_1_code
def yX9_init : MethodName := ⟨RX9, "<init>", "()V"⟩
abbrev cX9_isEmpty : ByteArray := prog_11_method_2_code
def yX9_isEmpty : MethodName := ⟨RX9, "isEmpty", "()Z"⟩
abbrev cX9_takeIn : ByteArray := prog_11_method_3_code
def yX9_takeIn : MethodName := ⟨RX9, "takeIn", "(IIII)V"⟩
abbrev cX9_giveOut : ByteArray := prog_11_method_4_code
def yX9_giveOut : MethodName := ⟨RX9, "giveOut", "(I)V"⟩
def RX10 : String := "SweetLine$Tape"
def TX10 : u_T := fun k => match k with
  | 0 => ("SweetLine$Tape", "bytes", "[B", true)
  | 1 => ("SweetLine$Tape", "length", "I", false)
  | 2 => ("SweetLine$Tape", "token", "I", false)
  | 3 => ("SweetLine$Tape", "start", "I", false)
  | 4 => ("SweetLine$Tape", "end", "I", false)
  | _ => ("SweetLine$Tape", "number", "I", false)
def tyX10 : Nat → FieldType := fun k => match k with
  | 0 => .array .byte
  | 1 => .int
  | 2 => .int
  | 3 => .int
  | 4 => .int
  | _ => .int
theorem nmX10 : ∀ a, a < 6 → ∀ b, b < 6 → a ≠ b → (TX10 a).2.1 ≠ (TX10 b).2.1 := by decide +kernel
theorem tyX10_ok : ∀ k, k < 6 → parseFieldDescriptor (TX10 k).2.2.1 = some (tyX10 k) := by decide +kernel
abbrev cX10_init : ByteArray := prog_12_method_1_code
def yX10_init : MethodName := ⟨RX10, "<init>", "()V"⟩
abbrev cX10_hasRoom : ByteArray := prog_12_method_2_code
def yX10_hasRoom : MethodName := ⟨RX10, "hasRoom", "(I)Z"⟩
abbrev cX10_append : ByteArray := prog_12_method_3_code
def yX10_append : MethodName := ⟨RX10, "append", "(B)V"⟩
abbrev cX10_rewind : ByteArray := prog_12_method_4_code
def yX10_rewind : MethodName := ⟨RX10, "rewind", "()V"⟩
abbrev cX10_step : ByteArray := prog_12_method_5_code
def yX10_step : MethodName := ⟨RX10, "step", "()V"⟩
abbrev cX10_isWord : ByteArray := prog_12_method_6_code
def yX10_isWord : MethodName := ⟨RX10, "isWord", "(Ljava/lang/String;)Z"⟩
abbrev cX10_takeFigures : ByteArray := prog_12_method_7_code
def yX10_takeFigures : MethodName := ⟨RX10, "takeFigures", "()V"⟩
abbrev cX10_kindOf : ByteArray := prog_12_method_8_code
def yX10_kindOf : MethodName := ⟨RX10, "kindOf", "(B)I"⟩
def RX11 : String := "SweetLine"
def TX11 : u_T := fun k => match k with
  | 0 => ("SweetLine", "sheets", "[LSweetLine$Sheet;", true)
  | 1 => ("SweetLine", "book", "LSweetLine$Book;", true)
  | 2 => ("SweetLine", "trial", "LSweetLine$Heat;", true)
  | 3 => ("SweetLine", "tanks", "[LSweetLine$Tank;", true)
  | 4 => ("SweetLine", "bins", "[I", true)
  | 5 => ("SweetLine", "ring", "LSweetLine$Belt;", true)
  | 6 => ("SweetLine", "bars", "LSweetLine$Bars;", true)
  | 7 => ("SweetLine", "rows", "LSweetLine$Rows;", true)
  | 8 => ("SweetLine", "traceNumbers", "[I", true)
  | 9 => ("SweetLine", "traced", "I", false)
  | 10 => ("SweetLine", "filledGrams", "I", false)
  | 11 => ("SweetLine", "drainedGrams", "I", false)
  | _ => ("SweetLine", "finding", "I", false)
def tyX11 : Nat → FieldType := fun k => match k with
  | 0 => .array (.object "SweetLine$Sheet")
  | 1 => .object "SweetLine$Book"
  | 2 => .object "SweetLine$Heat"
  | 3 => .array (.object "SweetLine$Tank")
  | 4 => .array .int
  | 5 => .object "SweetLine$Belt"
  | 6 => .object "SweetLine$Bars"
  | 7 => .object "SweetLine$Rows"
  | 8 => .array .int
  | 9 => .int
  | 10 => .int
  | 11 => .int
  | _ => .int
theorem nmX11 : ∀ a, a < 13 → ∀ b, b < 13 → a ≠ b → (TX11 a).2.1 ≠ (TX11 b).2.1 := by decide +kernel
theorem tyX11_ok : ∀ k, k < 13 → parseFieldDescriptor (TX11 k).2.2.1 = some (tyX11 k) := by decide +kernel
abbrev cX11_init : ByteArray := prog_1_method_1_code
def yX11_init : MethodName := ⟨RX11, "<init>", "()V"⟩
abbrev cX11_sheet : ByteArray := prog_1_method_2_code
def yX11_sheet : MethodName := ⟨RX11, "sheet", "(III)I"⟩
abbrev cX11_set : ByteArray := prog_1_method_3_code
def yX11_set : MethodName := ⟨RX11, "set", "(III)I"⟩
abbrev cX11_copy : ByteArray := prog_1_method_4_code
def yX11_copy : MethodName := ⟨RX11, "copy", "(IIIII)I"⟩
abbrev cX11_drop : ByteArray := prog_1_method_5_code
def yX11_drop : MethodName := ⟨RX11, "drop", "(I)I"⟩
abbrev cX11_feed : ByteArray := prog_1_method_6_code
def yX11_feed : MethodName := ⟨RX11, "feed", "(JI)I"⟩
abbrev cX11_recipes : ByteArray := prog_1_method_7_code
def yX11_recipes : MethodName := ⟨RX11, "recipes", "()I"⟩
abbrev cX11_fault : ByteArray := prog_1_method_8_code
def yX11_fault : MethodName := ⟨RX11, "fault", "()I"⟩
abbrev cX11_temper : ByteArray := prog_1_method_9_code
def yX11_temper : MethodName := ⟨RX11, "temper", "(IIII)I"⟩
abbrev cX11_fill : ByteArray := prog_1_method_10_code
def yX11_fill : MethodName := ⟨RX11, "fill", "(IIIII)I"⟩
abbrev cX11_ready : ByteArray := prog_1_method_11_code
def yX11_ready : MethodName := ⟨RX11, "ready", "(I)I"⟩
abbrev cX11_drain : ByteArray := prog_1_method_12_code
def yX11_drain : MethodName := ⟨RX11, "drain", "(I)I"⟩
abbrev cX11_tank : ByteArray := prog_1_method_13_code
def yX11_tank : MethodName := ⟨RX11, "tank", "(II)I"⟩
abbrev cX11_belt : ByteArray := prog_1_method_14_code
def yX11_belt : MethodName := ⟨RX11, "belt", "(I)I"⟩
abbrev cX11_gear : ByteArray := prog_1_method_15_code
def yX11_gear : MethodName := ⟨RX11, "gear", "(II)I"⟩
abbrev cX11_beat : ByteArray := prog_1_method_16_code
def yX11_beat : MethodName := ⟨RX11, "beat", "(I)I"⟩
abbrev cX11_mould : ByteArray := prog_1_method_17_code
def yX11_mould : MethodName := ⟨RX11, "mould", "(II)I"⟩
abbrev cX11_correct : ByteArray := prog_1_method_18_code
def yX11_correct : MethodName := ⟨RX11, "correct", "()I"⟩
abbrev cX11_bar : ByteArray := prog_1_method_19_code
def yX11_bar : MethodName := ⟨RX11, "bar", "(II)I"⟩
abbrev cX11_recall : ByteArray := prog_1_method_20_code
def yX11_recall : MethodName := ⟨RX11, "recall", "(I)I"⟩
abbrev cX11_melt : ByteArray := prog_1_method_21_code
def yX11_melt : MethodName := ⟨RX11, "melt", "(I)I"⟩
abbrev cX11_bin : ByteArray := prog_1_method_22_code
def yX11_bin : MethodName := ⟨RX11, "bin", "(I)I"⟩
abbrev cX11_grams : ByteArray := prog_1_method_23_code
def yX11_grams : MethodName := ⟨RX11, "grams", "(I)I"⟩
abbrev cX11_bloom : ByteArray := prog_1_method_24_code
def yX11_bloom : MethodName := ⟨RX11, "bloom", "(IIIII)I"⟩
abbrev cX11_orders : ByteArray := prog_1_method_25_code
def yX11_orders : MethodName := ⟨RX11, "orders", "(IIII)I"⟩
abbrev cX11_kind : ByteArray := prog_1_method_26_code
def yX11_kind : MethodName := ⟨RX11, "kind", "(I)I"⟩
abbrev cX11_as : ByteArray := prog_1_method_27_code
def yX11_as : MethodName := ⟨RX11, "as", "(II)I"⟩
abbrev cX11_ask : ByteArray := prog_1_method_28_code
def yX11_ask : MethodName := ⟨RX11, "ask", "(II)I"⟩
abbrev cX11_trace : ByteArray := prog_1_method_29_code
def yX11_trace : MethodName := ⟨RX11, "trace", "(I)I"⟩
abbrev cX11_count : ByteArray := prog_1_method_30_code
def yX11_count : MethodName := ⟨RX11, "count", "(I)I"⟩
abbrev cX11_status : ByteArray := prog_1_method_31_code
def yX11_status : MethodName := ⟨RX11, "status", "()I"⟩
abbrev cX11_within : ByteArray := prog_1_method_32_code
def yX11_within : MethodName := ⟨RX11, "within", "(III)Z"⟩
abbrev cX11_isSheet : ByteArray := prog_1_method_33_code
def yX11_isSheet : MethodName := ⟨RX11, "isSheet", "(I)Z"⟩
abbrev cX11_isTank : ByteArray := prog_1_method_34_code
def yX11_isTank : MethodName := ⟨RX11, "isTank", "(I)Z"⟩
abbrev cX11_isLot : ByteArray := prog_1_method_35_code
def yX11_isLot : MethodName := ⟨RX11, "isLot", "(I)Z"⟩
abbrev cX11_isRecipe : ByteArray := prog_1_method_36_code
def yX11_isRecipe : MethodName := ⟨RX11, "isRecipe", "(I)Z"⟩
abbrev cX11_isKept : ByteArray := prog_1_method_37_code
def yX11_isKept : MethodName := ⟨RX11, "isKept", "(I)Z"⟩
abbrev cX11_found : ByteArray := prog_1_method_38_code
def yX11_found : MethodName := ⟨RX11, "found", "(I)I"⟩
abbrev cX11_amissIn : ByteArray := prog_1_method_39_code
def yX11_amissIn : MethodName := ⟨RX11, "amissIn", "(LSweetLine$Sheet;II)I"⟩
abbrev cX11_plain : ByteArray := prog_1_method_40_code
def yX11_plain : MethodName := ⟨RX11, "plain", "(I)I"⟩
abbrev cX11_sheetsThere : ByteArray := prog_1_method_41_code
def yX11_sheetsThere : MethodName := ⟨RX11, "sheetsThere", "()I"⟩
abbrev cX11_gramsInTanks : ByteArray := prog_1_method_42_code
def yX11_gramsInTanks : MethodName := ⟨RX11, "gramsInTanks", "()I"⟩
abbrev cX11_takeOrders : ByteArray := prog_1_method_43_code
def yX11_takeOrders : MethodName := ⟨RX11, "takeOrders", "(LSweetLine$Sheet;II)Z"⟩
abbrev cX11_toldKind : ByteArray := prog_1_method_44_code
def yX11_toldKind : MethodName := ⟨RX11, "toldKind", "(LSweetLine$Bar;)I"⟩
abbrev cX11_body : ByteArray := prog_1_method_45_code
def yX11_body : MethodName := ⟨RX11, "body", "(ILSweetLine$Bar;II)I"⟩
def RX12 : String := "SweetLineModel"
def TX12 : u_T := fun k => match k with
  | 0 => ("SweetLineModel", "thrown", "I", false)
  | 1 => ("SweetLineModel", "status", "I", false)
  | 2 => ("SweetLineModel", "lane", "[I", true)
  | 3 => ("SweetLineModel", "many", "[I", true)
  | 4 => ("SweetLineModel", "item", "[I", true)
  | 5 => ("SweetLineModel", "recipes", "I", false)
  | 6 => ("SweetLineModel", "allergens", "[I", true)
  | 7 => ("SweetLineModel", "share", "[I", true)
  | 8 => ("SweetLineModel", "stages", "[I", true)
  | 9 => ("SweetLineModel", "stageOf", "[I", true)
  | 10 => ("SweetLineModel", "stageMinutes", "[I", true)
  | 11 => ("SweetLineModel", "bins", "[I", true)
  | 12 => ("SweetLineModel", "newRecipes", "I", false)
  | 13 => ("SweetLineModel", "tape", "[I", true)
  | 14 => ("SweetLineModel", "taped", "I", false)
  | 15 => ("SweetLineModel", "latest", "I", false)
  | 16 => ("SweetLineModel", "size", "I", false)
  | 17 => ("SweetLineModel", "cursor", "I", false)
  | 18 => ("SweetLineModel", "token", "I", false)
  | 19 => ("SweetLineModel", "from", "I", false)
  | 20 => ("SweetLineModel", "till", "I", false)
  | 21 => ("SweetLineModel", "fault", "I", false)
  | 22 => ("SweetLineModel", "faultAt", "I", false)
  | 23 => ("SweetLineModel", "warmthThen", "I", false)
  | 24 => ("SweetLineModel", "seedsThen", "I", false)
  | 25 => ("SweetLineModel", "stuff", "[I", true)
  | 26 => ("SweetLineModel", "rework", "[I", true)
  | 27 => ("SweetLineModel", "tankRecipe", "[I", true)
  | 28 => ("SweetLineModel", "tankLots", "[I", true)
  | 29 => ("SweetLineModel", "tankWarmth", "[I", true)
  | 30 => ("SweetLineModel", "tankSeeds", "[I", true)
  | 31 => ("SweetLineModel", "filledAll", "I", false)
  | 32 => ("SweetLineModel", "drainedAll", "I", false)
  | 33 => ("SweetLineModel", "moulds", "I", false)
  | 34 => ("SweetLineModel", "turned", "I", false)
  | 35 => ("SweetLineModel", "chocolate", "[I", true)
  | 36 => ("SweetLineModel", "filling", "[I", true)
  | 37 => ("SweetLineModel", "mouldRecipe", "[I", true)
  | 38 => ("SweetLineModel", "mouldLots", "[I", true)
  | 39 => ("SweetLineModel", "warmth", "[I", true)
  | 40 => ("SweetLineModel", "isGood", "[Z", true)
  | 41 => ("SweetLineModel", "isShaken", "[Z", true)
  | 42 => ("SweetLineModel", "isFilled", "[Z", true)
  | 43 => ("SweetLineModel", "gears", "[I", true)
  | 44 => ("SweetLineModel", "poured", "I", false)
  | 45 => ("SweetLineModel", "beats", "I", false)
  | 46 => ("SweetLineModel", "missed", "I", false)
  | 47 => ("SweetLineModel", "came", "I", false)
  | 48 => ("SweetLineModel", "keptBars", "I", false)
  | 49 => ("SweetLineModel", "row", "[I", true)
  | 50 => ("SweetLineModel", "isMelted", "[Z", true)
  | 51 => ("SweetLineModel", "last", "[I", true)
  | 52 => ("SweetLineModel", "barsAll", "I", false)
  | 53 => ("SweetLineModel", "givenAway", "I", false)
  | 54 => ("SweetLineModel", "called", "I", false)
  | 55 => ("SweetLineModel", "order", "[I", true)
  | 56 => ("SweetLineModel", "bestOrder", "[I", true)
  | 57 => ("SweetLineModel", "trace", "[I", true)
  | _ => ("SweetLineModel", "traced", "I", false)
def tyX12 : Nat → FieldType := fun k => match k with
  | 0 => .int
  | 1 => .int
  | 2 => .array .int
  | 3 => .array .int
  | 4 => .array .int
  | 5 => .int
  | 6 => .array .int
  | 7 => .array .int
  | 8 => .array .int
  | 9 => .array .int
  | 10 => .array .int
  | 11 => .array .int
  | 12 => .int
  | 13 => .array .int
  | 14 => .int
  | 15 => .int
  | 16 => .int
  | 17 => .int
  | 18 => .int
  | 19 => .int
  | 20 => .int
  | 21 => .int
  | 22 => .int
  | 23 => .int
  | 24 => .int
  | 25 => .array .int
  | 26 => .array .int
  | 27 => .array .int
  | 28 => .array .int
  | 29 => .array .int
  | 30 => .array .int
  | 31 => .int
  | 32 => .int
  | 33 => .int
  | 34 => .int
  | 35 => .array .int
  | 36 => .array .int
  | 37 => .array .int
  | 38 => .array .int
  | 39 => .array .int
  | 40 => .array .boolean
  | 41 => .array .boolean
  | 42 => .array .boolean
  | 43 => .array .int
  | 44 => .int
  | 45 => .int
  | 46 => .int
  | 47 => .int
  | 48 => .int
  | 49 => .array .int
  | 50 => .array .boolean
  | 51 => .array .int
  | 52 => .int
  | 53 => .int
  | 54 => .int
  | 55 => .array .int
  | 56 => .array .int
  | 57 => .array .int
  | _ => .int
theorem nmX12 : ∀ a, a < 59 → ∀ b, b < 59 → a ≠ b → (TX12 a).2.1 ≠ (TX12 b).2.1 := by decide +kernel
theorem tyX12_ok : ∀ k, k < 59 → parseFieldDescriptor (TX12 k).2.2.1 = some (tyX12 k) := by decide +kernel
abbrev cX12_init : ByteArray := prog_14_method_1_code
def yX12_init : MethodName := ⟨RX12, "<init>", "()V"⟩
abbrev cX12_in : ByteArray := prog_14_method_3_code
def yX12_in : MethodName := ⟨RX12, "in", "(JJJ)Z"⟩
abbrev cX12_finding : ByteArray := prog_14_method_4_code
def yX12_finding : MethodName := ⟨RX12, "finding", "(I)I"⟩
abbrev cX12_isSheet : ByteArray := prog_14_method_5_code
def yX12_isSheet : MethodName := ⟨RX12, "isSheet", "(I)Z"⟩
abbrev cX12_sheet : ByteArray := prog_14_method_6_code
def yX12_sheet : MethodName := ⟨RX12, "sheet", "(III)I"⟩
abbrev cX12_set : ByteArray := prog_14_method_7_code
def yX12_set : MethodName := ⟨RX12, "set", "(III)I"⟩
abbrev cX12_copy : ByteArray := prog_14_method_8_code
def yX12_copy : MethodName := ⟨RX12, "copy", "(IIIII)I"⟩
abbrev cX12_drop : ByteArray := prog_14_method_9_code
def yX12_drop : MethodName := ⟨RX12, "drop", "(I)I"⟩
abbrev cX12_lookItems : ByteArray := prog_14_method_10_code
def yX12_lookItems : MethodName := ⟨RX12, "lookItems", "(III)I"⟩
abbrev cX12_feed : ByteArray := prog_14_method_11_code
def yX12_feed : MethodName := ⟨RX12, "feed", "(JI)I"⟩
abbrev cX12_byteAt : ByteArray := prog_14_method_12_code
def yX12_byteAt : MethodName := ⟨RX12, "byteAt", "(I)I"⟩
abbrev cX12_isLetter : ByteArray := prog_14_method_13_code
def yX12_isLetter : MethodName := ⟨RX12, "isLetter", "(I)Z"⟩
abbrev cX12_isFigure : ByteArray := prog_14_method_14_code
def yX12_isFigure : MethodName := ⟨RX12, "isFigure", "(I)Z"⟩
abbrev cX12_step : ByteArray := prog_14_method_15_code
def yX12_step : MethodName := ⟨RX12, "step", "()V"⟩
abbrev cX12_bad : ByteArray := prog_14_method_16_code
def yX12_bad : MethodName := ⟨RX12, "bad", "(I)V"⟩
abbrev cX12_must : ByteArray := prog_14_method_17_code
def yX12_must : MethodName := ⟨RX12, "must", "(Z)V"⟩
abbrev cX12_word : ByteArray := prog_14_method_18_code
def yX12_word : MethodName := ⟨RX12, "word", "()J"⟩
abbrev cX12_numberIn : ByteArray := prog_14_method_19_code
def yX12_numberIn : MethodName := ⟨RX12, "numberIn", "(II)I"⟩
abbrev cX12_readRecipe : ByteArray := prog_14_method_20_code
def yX12_readRecipe : MethodName := ⟨RX12, "readRecipe", "()V"⟩
abbrev cX12_recipes : ByteArray := prog_14_method_21_code
def yX12_recipes : MethodName := ⟨RX12, "recipes", "()I"⟩
abbrev cX12_fault : ByteArray := prog_14_method_22_code
def yX12_fault : MethodName := ⟨RX12, "fault", "()I"⟩
abbrev cX12_isRecipe : ByteArray := prog_14_method_23_code
def yX12_isRecipe : MethodName := ⟨RX12, "isRecipe", "(I)Z"⟩
abbrev cX12_temperBy : ByteArray := prog_14_method_24_code
def yX12_temperBy : MethodName := ⟨RX12, "temperBy", "(III)V"⟩
abbrev cX12_stateOf : ByteArray := prog_14_method_25_code
def yX12_stateOf : MethodName := ⟨RX12, "stateOf", "(II)I"⟩
abbrev cX12_temper : ByteArray := prog_14_method_26_code
def yX12_temper : MethodName := ⟨RX12, "temper", "(IIII)I"⟩
abbrev cX12_isTank : ByteArray := prog_14_method_27_code
def yX12_isTank : MethodName := ⟨RX12, "isTank", "(I)Z"⟩
abbrev cX12_fill : ByteArray := prog_14_method_28_code
def yX12_fill : MethodName := ⟨RX12, "fill", "(IIIII)I"⟩
abbrev cX12_ready : ByteArray := prog_14_method_29_code
def yX12_ready : MethodName := ⟨RX12, "ready", "(I)I"⟩
abbrev cX12_take : ByteArray := prog_14_method_30_code
def yX12_take : MethodName := ⟨RX12, "take", "(II)V"⟩
abbrev cX12_drain : ByteArray := prog_14_method_31_code
def yX12_drain : MethodName := ⟨RX12, "drain", "(I)I"⟩
abbrev cX12_tank : ByteArray := prog_14_method_32_code
def yX12_tank : MethodName := ⟨RX12, "tank", "(II)I"⟩
abbrev cX12_mouldAt : ByteArray := prog_14_method_33_code
def yX12_mouldAt : MethodName := ⟨RX12, "mouldAt", "(I)I"⟩
abbrev cX12_belt : ByteArray := prog_14_method_34_code
def yX12_belt : MethodName := ⟨RX12, "belt", "(I)I"⟩
abbrev cX12_gear : ByteArray := prog_14_method_35_code
def yX12_gear : MethodName := ⟨RX12, "gear", "(II)I"⟩
abbrev cX12_pour : ByteArray := prog_14_method_36_code
def yX12_pour : MethodName := ⟨RX12, "pour", "()V"⟩
abbrev cX12_beatOnce : ByteArray := prog_14_method_37_code
def yX12_beatOnce : MethodName := ⟨RX12, "beatOnce", "()V"⟩
abbrev cX12_beat : ByteArray := prog_14_method_38_code
def yX12_beat : MethodName := ⟨RX12, "beat", "(I)I"⟩
abbrev cX12_mould : ByteArray := prog_14_method_39_code
def yX12_mould : MethodName := ⟨RX12, "mould", "(II)I"⟩
abbrev cX12_turnOut : ByteArray := prog_14_method_40_code
def yX12_turnOut : MethodName := ⟨RX12, "turnOut", "(I)V"⟩
abbrev cX12_correct : ByteArray := prog_14_method_41_code
def yX12_correct : MethodName := ⟨RX12, "correct", "()I"⟩
abbrev cX12_isBar : ByteArray := prog_14_method_42_code
def yX12_isBar : MethodName := ⟨RX12, "isBar", "(I)Z"⟩
abbrev cX12_of : ByteArray := prog_14_method_43_code
def yX12_of : MethodName := ⟨RX12, "of", "(II)I"⟩
abbrev cX12_bar : ByteArray := prog_14_method_44_code
def yX12_bar : MethodName := ⟨RX12, "bar", "(II)I"⟩
abbrev cX12_recall : ByteArray := prog_14_method_45_code
def yX12_recall : MethodName := ⟨RX12, "recall", "(I)I"⟩
abbrev cX12_kindOf : ByteArray := prog_14_method_46_code
def yX12_kindOf : MethodName := ⟨RX12, "kindOf", "(I)I"⟩
abbrev cX12_melt : ByteArray := prog_14_method_47_code
def yX12_melt : MethodName := ⟨RX12, "melt", "(I)I"⟩
abbrev cX12_bin : ByteArray := prog_14_method_48_code
def yX12_bin : MethodName := ⟨RX12, "bin", "(I)I"⟩
abbrev cX12_grams : ByteArray := prog_14_method_49_code
def yX12_grams : MethodName := ⟨RX12, "grams", "(I)I"⟩
abbrev cX12_bloom : ByteArray := prog_14_method_50_code
def yX12_bloom : MethodName := ⟨RX12, "bloom", "(IIIII)I"⟩
abbrev cX12_costOf : ByteArray := prog_14_method_51_code
def yX12_costOf : MethodName := ⟨RX12, "costOf", "(II)I"⟩
abbrev cX12_nextRow : ByteArray := prog_14_method_52_code
def yX12_nextRow : MethodName := ⟨RX12, "nextRow", "(I)Z"⟩
abbrev cX12_orders : ByteArray := prog_14_method_53_code
def yX12_orders : MethodName := ⟨RX12, "orders", "(IIII)I"⟩
abbrev cX12_isOf : ByteArray := prog_14_method_54_code
def yX12_isOf : MethodName := ⟨RX12, "isOf", "(II)Z"⟩
abbrev cX12_kind : ByteArray := prog_14_method_55_code
def yX12_kind : MethodName := ⟨RX12, "kind", "(I)I"⟩
abbrev cX12_as : ByteArray := prog_14_method_56_code
def yX12_as : MethodName := ⟨RX12, "as", "(II)I"⟩
abbrev cX12_began : ByteArray := prog_14_method_57_code
def yX12_began : MethodName := ⟨RX12, "began", "(I)V"⟩
abbrev cX12_fullSize : ByteArray := prog_14_method_58_code
def yX12_fullSize : MethodName := ⟨RX12, "fullSize", "(II)I"⟩
abbrev cX12_markOf : ByteArray := prog_14_method_59_code
def yX12_markOf : MethodName := ⟨RX12, "markOf", "(II)I"⟩
abbrev cX12_sizeOf : ByteArray := prog_14_method_60_code
def yX12_sizeOf : MethodName := ⟨RX12, "sizeOf", "(II)I"⟩
abbrev cX12_ask : ByteArray := prog_14_method_61_code
def yX12_ask : MethodName := ⟨RX12, "ask", "(II)I"⟩
abbrev cX12_trace : ByteArray := prog_14_method_62_code
def yX12_trace : MethodName := ⟨RX12, "trace", "(I)I"⟩
abbrev cX12_count : ByteArray := prog_14_method_63_code
def yX12_count : MethodName := ⟨RX12, "count", "(I)I"⟩
abbrev cX12_status : ByteArray := prog_14_method_64_code
def yX12_status : MethodName := ⟨RX12, "status", "()I"⟩
def RJx8e188 : String := "java/lang/Cloneable"
def TJx8e188 : u_T := fun k => match k with
  | _ => ("", "", "", false)
def tyJx8e188 : Nat → FieldType := fun k => match k with
  | _ => .int
theorem nmJx8e188 : ∀ a, a < 0 → ∀ b, b < 0 → a ≠ b → (TJx8e188 a).2.1 ≠ (TJx8e188 b).2.1 := by decide +kernel
theorem tyJx8e188_ok : ∀ k, k < 0 → parseFieldDescriptor (TJx8e188 k).2.2.1 = some (tyJx8e188 k) := by decide +kernel
def RJ6 : String := "java/lang/Integer"
def TJ6 : u_T := fun k => match k with
  | _ => ("", "", "", false)
def tyJ6 : Nat → FieldType := fun k => match k with
  | _ => .int
theorem nmJ6 : ∀ a, a < 0 → ∀ b, b < 0 → a ≠ b → (TJ6 a).2.1 ≠ (TJ6 b).2.1 := by decide +kernel
theorem tyJ6_ok : ∀ k, k < 0 → parseFieldDescriptor (TJ6 k).2.2.1 = some (tyJ6 k) := by decide +kernel
abbrev cJ6_compare_7cf53 : ByteArray := prog_16_method_40_code
def yJ6_compare_7cf53 : MethodName := ⟨RJ6, "compare", "(II)I"⟩
def RJ9 : String := "java/lang/Math"
def TJ9 : u_T := fun k => match k with
  | _ => ("", "", "", false)
def tyJ9 : Nat → FieldType := fun k => match k with
  | _ => .int
theorem nmJ9 : ∀ a, a < 0 → ∀ b, b < 0 → a ≠ b → (TJ9 a).2.1 ≠ (TJ9 b).2.1 := by decide +kernel
theorem tyJ9_ok : ∀ k, k < 0 → parseFieldDescriptor (TJ9 k).2.2.1 = some (tyJ9 k) := by decide +kernel
abbrev cJ9_max_7cf53 : ByteArray := prog_17_method_65_code
def yJ9_max_7cf53 : MethodName := ⟨RJ9, "max", "(II)I"⟩
abbrev cJ9_min_7cf53 : ByteArray := prog_17_method_69_code
def yJ9_min_7cf53 : MethodName := ⟨RJ9, "min", "(II)I"⟩
def RJ0 : String := "java/lang/String"
def TJ0 : u_T := fun k => match k with
  | _ => ("", "", "", false)
def tyJ0 : Nat → FieldType := fun k => match k with
  | _ => .int
theorem nmJ0 : ∀ a, a < 0 → ∀ b, b < 0 → a ≠ b → (TJ0 a).2.1 ≠ (TJ0 b).2.1 := by decide +kernel
theorem tyJ0_ok : ∀ k, k < 0 → parseFieldDescriptor (TJ0 k).2.2.1 = some (tyJ0 k) := by decide +kernel
abbrev cJ0_length_8abf5 : ByteArray := prog_18_method_54_code
def yJ0_length_8abf5 : MethodName := ⟨RJ0, "length", "()I"⟩
abbrev cJ0_charAt_5068e : ByteArray := prog_18_method_56_code
def yJ0_charAt_5068e : MethodName := ⟨RJ0, "charAt", "(I)C"⟩
abbrev cJ0_coder_7d493 : ByteArray := prog_18_method_152_code
def yJ0_coder_7d493 : MethodName := ⟨RJ0, "coder", "()B"⟩
abbrev cJ0_isLatin1_aae02 : ByteArray := prog_18_method_154_code
def yJ0_isLatin1_aae02 : MethodName := ⟨RJ0, "isLatin1", "()Z"⟩
abbrev cJ0_checkIndex_df160 : ByteArray := prog_18_method_155_code
def yJ0_checkIndex_df160 : MethodName := ⟨RJ0, "checkIndex", "(II)V"⟩
def RJ1 : String := "java/lang/StringLatin1"
def TJ1 : u_T := fun k => match k with
  | _ => ("", "", "", false)
def tyJ1 : Nat → FieldType := fun k => match k with
  | _ => .int
theorem nmJ1 : ∀ a, a < 0 → ∀ b, b < 0 → a ≠ b → (TJ1 a).2.1 ≠ (TJ1 b).2.1 := by decide +kernel
theorem tyJ1_ok : ∀ k, k < 0 → parseFieldDescriptor (TJ1 k).2.2.1 = some (tyJ1 k) := by decide +kernel
abbrev cJ1_charAt_3b067 : ByteArray := prog_19_method_2_code
def yJ1_charAt_3b067 : MethodName := ⟨RJ1, "charAt", "([BI)C"⟩
def RJ2 : String := "java/lang/StringUTF16"
def TJ2 : u_T := fun k => match k with
  | _ => ("", "", "", false)
def tyJ2 : Nat → FieldType := fun k => match k with
  | _ => .int
theorem nmJ2 : ∀ a, a < 0 → ∀ b, b < 0 → a ≠ b → (TJ2 a).2.1 ≠ (TJ2 b).2.1 := by decide +kernel
theorem tyJ2_ok : ∀ k, k < 0 → parseFieldDescriptor (TJ2 k).2.2.1 = some (tyJ2 k) := by decide +kernel
abbrev cJ2_getChar_3b067 : ByteArray := prog_20_method_5_code
def yJ2_getChar_3b067 : MethodName := ⟨RJ2, "getChar", "([BI)C"⟩
abbrev cJ2_length_9d52b : ByteArray := prog_20_method_6_code
def yJ2_length_9d52b : MethodName := ⟨RJ2, "length", "([B)I"⟩
abbrev cJ2_charAt_3b067 : ByteArray := prog_20_method_83_code
def yJ2_charAt_3b067 : MethodName := ⟨RJ2, "charAt", "([BI)C"⟩
abbrev cJ2_checkIndex_2214a : ByteArray := prog_20_method_91_code
def yJ2_checkIndex_2214a : MethodName := ⟨RJ2, "checkIndex", "(I[B)V"⟩
def RJ10 : String := "java/lang/System"
def TJ10 : u_T := fun k => match k with
  | _ => ("", "", "", false)
def tyJ10 : Nat → FieldType := fun k => match k with
  | _ => .int
theorem nmJ10 : ∀ a, a < 0 → ∀ b, b < 0 → a ≠ b → (TJ10 a).2.1 ≠ (TJ10 b).2.1 := by decide +kernel
theorem tyJ10_ok : ∀ k, k < 0 → parseFieldDescriptor (TJ10 k).2.2.1 = some (tyJ10 k) := by decide +kernel
def RJ3 : String := "jdk/internal/util/Preconditions"
def TJ3 : u_T := fun k => match k with
  | _ => ("", "", "", false)
def tyJ3 : Nat → FieldType := fun k => match k with
  | _ => .int
theorem nmJ3 : ∀ a, a < 0 → ∀ b, b < 0 → a ≠ b → (TJ3 a).2.1 ≠ (TJ3 b).2.1 := by decide +kernel
theorem tyJ3_ok : ∀ k, k < 0 → parseFieldDescriptor (TJ3 k).2.2.1 = some (tyJ3 k) := by decide +kernel
abbrev cJ3_checkIndex_8e157 : ByteArray := prog_22_method_11_code
def yJ3_checkIndex_8e157 : MethodName := ⟨RJ3, "checkIndex", "(IILjava/util/function/BiFunction;)I"⟩
def RL : String := "SweetLineLaw"

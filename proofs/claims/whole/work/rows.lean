section
-- ===== PART A: goes FIRST, ahead of the names: the tables' words, and 'selects' of the private methods out of them =====
/-- a private method of a class that the tables say can be made, by its rows of tables_1 -/
def lw_okq (q : MethodName × Nat) : Prop := (q.1.cls ≠ "java/lang/invoke/MethodHandle" ∧ q.1.cls ≠ "java/lang/invoke/VarHandle") ∧ Cond.instantiable q.1.cls q.2 ∈ tables_1 ∧ Cond.privateMethod q.1 ∈ tables_1 ∧ Cond.instanceMethod q.1 ∈ tables_1
theorem lw_p0 : lw_okq (⟨"SweetLine", "found", "(I)I"⟩, 13) := ⟨⟨by decide +kernel, by decide +kernel⟩, List.mem_of_getElem? (i := 22) (by decide +kernel), List.mem_of_getElem? (i := 434) (by decide +kernel), List.mem_of_getElem? (i := 435) (by decide +kernel)⟩
theorem lw_p1 : lw_okq (⟨"SweetLine", "plain", "(I)I"⟩, 13) := ⟨⟨by decide +kernel, by decide +kernel⟩, List.mem_of_getElem? (i := 22) (by decide +kernel), List.mem_of_getElem? (i := 443) (by decide +kernel), List.mem_of_getElem? (i := 444) (by decide +kernel)⟩
theorem lw_p2 : lw_okq (⟨"SweetLine$Tape", "takeFigures", "()V"⟩, 6) := ⟨⟨by decide +kernel, by decide +kernel⟩, List.mem_of_getElem? (i := 38) (by decide +kernel), List.mem_of_getElem? (i := 508) (by decide +kernel), List.mem_of_getElem? (i := 509) (by decide +kernel)⟩
theorem lw_p3 : lw_okq (⟨"SweetLine$Book", "readRecipe", "(I)Z"⟩, 6) := ⟨⟨by decide +kernel, by decide +kernel⟩, List.mem_of_getElem? (i := 32) (by decide +kernel), List.mem_of_getElem? (i := 512) (by decide +kernel), List.mem_of_getElem? (i := 513) (by decide +kernel)⟩
theorem lw_p4 : lw_okq (⟨"SweetLine$Book", "refuse", "(I)Z"⟩, 6) := ⟨⟨by decide +kernel, by decide +kernel⟩, List.mem_of_getElem? (i := 32) (by decide +kernel), List.mem_of_getElem? (i := 569) (by decide +kernel), List.mem_of_getElem? (i := 570) (by decide +kernel)⟩
theorem lw_p5 : lw_okq (⟨"SweetLine$Book", "takeNumber", "(II)Z"⟩, 6) := ⟨⟨by decide +kernel, by decide +kernel⟩, List.mem_of_getElem? (i := 32) (by decide +kernel), List.mem_of_getElem? (i := 574) (by decide +kernel), List.mem_of_getElem? (i := 575) (by decide +kernel)⟩
theorem lw_p6 : lw_okq (⟨"SweetLine$Book", "readStage", "(LSweetLine$Recipe;)Z"⟩, 6) := ⟨⟨by decide +kernel, by decide +kernel⟩, List.mem_of_getElem? (i := 32) (by decide +kernel), List.mem_of_getElem? (i := 579) (by decide +kernel), List.mem_of_getElem? (i := 580) (by decide +kernel)⟩
theorem lw_p7 : lw_okq (⟨"SweetLine", "isRecipe", "(I)Z"⟩, 13) := ⟨⟨by decide +kernel, by decide +kernel⟩, List.mem_of_getElem? (i := 22) (by decide +kernel), List.mem_of_getElem? (i := 594) (by decide +kernel), List.mem_of_getElem? (i := 595) (by decide +kernel)⟩
theorem lw_p8 : lw_okq (⟨"SweetLine$Heat", "seedsOneMinuteOn", "()I"⟩, 2) := ⟨⟨by decide +kernel, by decide +kernel⟩, List.mem_of_getElem? (i := 123) (by decide +kernel), List.mem_of_getElem? (i := 610) (by decide +kernel), List.mem_of_getElem? (i := 611) (by decide +kernel)⟩
theorem lw_p9 : lw_okq (⟨"SweetLine$Belt", "moveOn", "()V"⟩, 6) := ⟨⟨by decide +kernel, by decide +kernel⟩, List.mem_of_getElem? (i := 141) (by decide +kernel), List.mem_of_getElem? (i := 693) (by decide +kernel), List.mem_of_getElem? (i := 694) (by decide +kernel)⟩
theorem lw_p10 : lw_okq (⟨"SweetLine$Belt", "pour", "(LSweetLine$Mould;LSweetLine$Tank;)V"⟩, 6) := ⟨⟨by decide +kernel, by decide +kernel⟩, List.mem_of_getElem? (i := 141) (by decide +kernel), List.mem_of_getElem? (i := 697) (by decide +kernel), List.mem_of_getElem? (i := 698) (by decide +kernel)⟩
theorem lw_p11 : lw_okq (⟨"SweetLine$Belt", "turnOut", "(LSweetLine$Mould;LSweetLine$Bars;)V"⟩, 6) := ⟨⟨by decide +kernel, by decide +kernel⟩, List.mem_of_getElem? (i := 141) (by decide +kernel), List.mem_of_getElem? (i := 724) (by decide +kernel), List.mem_of_getElem? (i := 725) (by decide +kernel)⟩
theorem lw_p12 : lw_okq (⟨"SweetLine", "isKept", "(I)Z"⟩, 13) := ⟨⟨by decide +kernel, by decide +kernel⟩, List.mem_of_getElem? (i := 22) (by decide +kernel), List.mem_of_getElem? (i := 758) (by decide +kernel), List.mem_of_getElem? (i := 759) (by decide +kernel)⟩
theorem lw_p13 : lw_okq (⟨"SweetLine", "toldKind", "(LSweetLine$Bar;)I"⟩, 13) := ⟨⟨by decide +kernel, by decide +kernel⟩, List.mem_of_getElem? (i := 22) (by decide +kernel), List.mem_of_getElem? (i := 774) (by decide +kernel), List.mem_of_getElem? (i := 775) (by decide +kernel)⟩
theorem lw_p14 : lw_okq (⟨"SweetLine", "gramsInTanks", "()I"⟩, 13) := ⟨⟨by decide +kernel, by decide +kernel⟩, List.mem_of_getElem? (i := 22) (by decide +kernel), List.mem_of_getElem? (i := 786) (by decide +kernel), List.mem_of_getElem? (i := 787) (by decide +kernel)⟩
theorem lw_p15 : lw_okq (⟨"SweetLine", "takeOrders", "(LSweetLine$Sheet;II)Z"⟩, 13) := ⟨⟨by decide +kernel, by decide +kernel⟩, List.mem_of_getElem? (i := 22) (by decide +kernel), List.mem_of_getElem? (i := 802) (by decide +kernel), List.mem_of_getElem? (i := 803) (by decide +kernel)⟩
def lw_privs_1 : List (MethodName × Nat) := [(⟨"SweetLine", "found", "(I)I"⟩, 13), (⟨"SweetLine", "plain", "(I)I"⟩, 13), (⟨"SweetLine$Tape", "takeFigures", "()V"⟩, 6), (⟨"SweetLine$Book", "readRecipe", "(I)Z"⟩, 6), (⟨"SweetLine$Book", "refuse", "(I)Z"⟩, 6), (⟨"SweetLine$Book", "takeNumber", "(II)Z"⟩, 6), (⟨"SweetLine$Book", "readStage", "(LSweetLine$Recipe;)Z"⟩, 6), (⟨"SweetLine", "isRecipe", "(I)Z"⟩, 13), (⟨"SweetLine$Heat", "seedsOneMinuteOn", "()I"⟩, 2), (⟨"SweetLine$Belt", "moveOn", "()V"⟩, 6), (⟨"SweetLine$Belt", "pour", "(LSweetLine$Mould;LSweetLine$Tank;)V"⟩, 6), (⟨"SweetLine$Belt", "turnOut", "(LSweetLine$Mould;LSweetLine$Bars;)V"⟩, 6), (⟨"SweetLine", "isKept", "(I)Z"⟩, 13), (⟨"SweetLine", "toldKind", "(LSweetLine$Bar;)I"⟩, 13), (⟨"SweetLine", "gramsInTanks", "()I"⟩, 13), (⟨"SweetLine", "takeOrders", "(LSweetLine$Sheet;II)Z"⟩, 13)]
theorem lw_r1 : ∀ q ∈ lw_privs_1, lw_okq q := List.forall_mem_cons.mpr ⟨lw_p0, List.forall_mem_cons.mpr ⟨lw_p1, List.forall_mem_cons.mpr ⟨lw_p2, List.forall_mem_cons.mpr ⟨lw_p3, List.forall_mem_cons.mpr ⟨lw_p4, List.forall_mem_cons.mpr ⟨lw_p5, List.forall_mem_cons.mpr ⟨lw_p6, List.forall_mem_cons.mpr ⟨lw_p7, List.forall_mem_cons.mpr ⟨lw_p8, List.forall_mem_cons.mpr ⟨lw_p9, List.forall_mem_cons.mpr ⟨lw_p10, List.forall_mem_cons.mpr ⟨lw_p11, List.forall_mem_cons.mpr ⟨lw_p12, List.forall_mem_cons.mpr ⟨lw_p13, List.forall_mem_cons.mpr ⟨lw_p14, List.forall_mem_cons.mpr ⟨lw_p15, fun _ h => absurd h List.not_mem_nil⟩⟩⟩⟩⟩⟩⟩⟩⟩⟩⟩⟩⟩⟩⟩⟩
theorem lw_p16 : lw_okq (⟨"SweetLine$Rows", "keepRow", "(I)V"⟩, 7) := ⟨⟨by decide +kernel, by decide +kernel⟩, List.mem_of_getElem? (i := 296) (by decide +kernel), List.mem_of_getElem? (i := 814) (by decide +kernel), List.mem_of_getElem? (i := 815) (by decide +kernel)⟩
theorem lw_p17 : lw_okq (⟨"SweetLine", "body", "(ILSweetLine$Bar;II)I"⟩, 13) := ⟨⟨by decide +kernel, by decide +kernel⟩, List.mem_of_getElem? (i := 22) (by decide +kernel), List.mem_of_getElem? (i := 835) (by decide +kernel), List.mem_of_getElem? (i := 836) (by decide +kernel)⟩
theorem lw_p18 : lw_okq (⟨"SweetLine", "sheetsThere", "()I"⟩, 13) := ⟨⟨by decide +kernel, by decide +kernel⟩, List.mem_of_getElem? (i := 22) (by decide +kernel), List.mem_of_getElem? (i := 847) (by decide +kernel), List.mem_of_getElem? (i := 848) (by decide +kernel)⟩
theorem lw_p19 : lw_okq (⟨"SweetLineModel", "finding", "(I)I"⟩, 59) := ⟨⟨by decide +kernel, by decide +kernel⟩, List.mem_of_getElem? (i := 855) (by decide +kernel), List.mem_of_getElem? (i := 1053) (by decide +kernel), List.mem_of_getElem? (i := 1054) (by decide +kernel)⟩
theorem lw_p20 : lw_okq (⟨"SweetLineModel", "step", "()V"⟩, 59) := ⟨⟨by decide +kernel, by decide +kernel⟩, List.mem_of_getElem? (i := 855) (by decide +kernel), List.mem_of_getElem? (i := 1081) (by decide +kernel), List.mem_of_getElem? (i := 1082) (by decide +kernel)⟩
theorem lw_p21 : lw_okq (⟨"SweetLineModel", "byteAt", "(I)I"⟩, 59) := ⟨⟨by decide +kernel, by decide +kernel⟩, List.mem_of_getElem? (i := 855) (by decide +kernel), List.mem_of_getElem? (i := 1085) (by decide +kernel), List.mem_of_getElem? (i := 1086) (by decide +kernel)⟩
theorem lw_p22 : lw_okq (⟨"SweetLineModel", "readRecipe", "()V"⟩, 59) := ⟨⟨by decide +kernel, by decide +kernel⟩, List.mem_of_getElem? (i := 855) (by decide +kernel), List.mem_of_getElem? (i := 1096) (by decide +kernel), List.mem_of_getElem? (i := 1097) (by decide +kernel)⟩
theorem lw_p23 : lw_okq (⟨"SweetLineModel", "word", "()J"⟩, 59) := ⟨⟨by decide +kernel, by decide +kernel⟩, List.mem_of_getElem? (i := 855) (by decide +kernel), List.mem_of_getElem? (i := 1100) (by decide +kernel), List.mem_of_getElem? (i := 1101) (by decide +kernel)⟩
theorem lw_p24 : lw_okq (⟨"SweetLineModel", "bad", "(I)V"⟩, 59) := ⟨⟨by decide +kernel, by decide +kernel⟩, List.mem_of_getElem? (i := 855) (by decide +kernel), List.mem_of_getElem? (i := 1105) (by decide +kernel), List.mem_of_getElem? (i := 1106) (by decide +kernel)⟩
theorem lw_p25 : lw_okq (⟨"SweetLineModel", "must", "(Z)V"⟩, 59) := ⟨⟨by decide +kernel, by decide +kernel⟩, List.mem_of_getElem? (i := 855) (by decide +kernel), List.mem_of_getElem? (i := 1109) (by decide +kernel), List.mem_of_getElem? (i := 1110) (by decide +kernel)⟩
theorem lw_p26 : lw_okq (⟨"SweetLineModel", "numberIn", "(II)I"⟩, 59) := ⟨⟨by decide +kernel, by decide +kernel⟩, List.mem_of_getElem? (i := 855) (by decide +kernel), List.mem_of_getElem? (i := 1113) (by decide +kernel), List.mem_of_getElem? (i := 1114) (by decide +kernel)⟩
theorem lw_p27 : lw_okq (⟨"SweetLineModel", "isRecipe", "(I)Z"⟩, 59) := ⟨⟨by decide +kernel, by decide +kernel⟩, List.mem_of_getElem? (i := 855) (by decide +kernel), List.mem_of_getElem? (i := 1128) (by decide +kernel), List.mem_of_getElem? (i := 1129) (by decide +kernel)⟩
theorem lw_p28 : lw_okq (⟨"SweetLineModel", "temperBy", "(III)V"⟩, 59) := ⟨⟨by decide +kernel, by decide +kernel⟩, List.mem_of_getElem? (i := 855) (by decide +kernel), List.mem_of_getElem? (i := 1135) (by decide +kernel), List.mem_of_getElem? (i := 1136) (by decide +kernel)⟩
theorem lw_p29 : lw_okq (⟨"SweetLineModel", "beatOnce", "()V"⟩, 59) := ⟨⟨by decide +kernel, by decide +kernel⟩, List.mem_of_getElem? (i := 855) (by decide +kernel), List.mem_of_getElem? (i := 1183) (by decide +kernel), List.mem_of_getElem? (i := 1184) (by decide +kernel)⟩
theorem lw_p30 : lw_okq (⟨"SweetLineModel", "pour", "()V"⟩, 59) := ⟨⟨by decide +kernel, by decide +kernel⟩, List.mem_of_getElem? (i := 855) (by decide +kernel), List.mem_of_getElem? (i := 1187) (by decide +kernel), List.mem_of_getElem? (i := 1188) (by decide +kernel)⟩
theorem lw_p31 : lw_okq (⟨"SweetLineModel", "mouldAt", "(I)I"⟩, 59) := ⟨⟨by decide +kernel, by decide +kernel⟩, List.mem_of_getElem? (i := 855) (by decide +kernel), List.mem_of_getElem? (i := 1191) (by decide +kernel), List.mem_of_getElem? (i := 1192) (by decide +kernel)⟩
def lw_privs_2 : List (MethodName × Nat) := [(⟨"SweetLine$Rows", "keepRow", "(I)V"⟩, 7), (⟨"SweetLine", "body", "(ILSweetLine$Bar;II)I"⟩, 13), (⟨"SweetLine", "sheetsThere", "()I"⟩, 13), (⟨"SweetLineModel", "finding", "(I)I"⟩, 59), (⟨"SweetLineModel", "step", "()V"⟩, 59), (⟨"SweetLineModel", "byteAt", "(I)I"⟩, 59), (⟨"SweetLineModel", "readRecipe", "()V"⟩, 59), (⟨"SweetLineModel", "word", "()J"⟩, 59), (⟨"SweetLineModel", "bad", "(I)V"⟩, 59), (⟨"SweetLineModel", "must", "(Z)V"⟩, 59), (⟨"SweetLineModel", "numberIn", "(II)I"⟩, 59), (⟨"SweetLineModel", "isRecipe", "(I)Z"⟩, 59), (⟨"SweetLineModel", "temperBy", "(III)V"⟩, 59), (⟨"SweetLineModel", "beatOnce", "()V"⟩, 59), (⟨"SweetLineModel", "pour", "()V"⟩, 59), (⟨"SweetLineModel", "mouldAt", "(I)I"⟩, 59)]
theorem lw_r2 : ∀ q ∈ lw_privs_2, lw_okq q := List.forall_mem_cons.mpr ⟨lw_p16, List.forall_mem_cons.mpr ⟨lw_p17, List.forall_mem_cons.mpr ⟨lw_p18, List.forall_mem_cons.mpr ⟨lw_p19, List.forall_mem_cons.mpr ⟨lw_p20, List.forall_mem_cons.mpr ⟨lw_p21, List.forall_mem_cons.mpr ⟨lw_p22, List.forall_mem_cons.mpr ⟨lw_p23, List.forall_mem_cons.mpr ⟨lw_p24, List.forall_mem_cons.mpr ⟨lw_p25, List.forall_mem_cons.mpr ⟨lw_p26, List.forall_mem_cons.mpr ⟨lw_p27, List.forall_mem_cons.mpr ⟨lw_p28, List.forall_mem_cons.mpr ⟨lw_p29, List.forall_mem_cons.mpr ⟨lw_p30, List.forall_mem_cons.mpr ⟨lw_p31, fun _ h => absurd h List.not_mem_nil⟩⟩⟩⟩⟩⟩⟩⟩⟩⟩⟩⟩⟩⟩⟩⟩
theorem lw_p32 : lw_okq (⟨"SweetLineModel", "take", "(II)V"⟩, 59) := ⟨⟨by decide +kernel, by decide +kernel⟩, List.mem_of_getElem? (i := 855) (by decide +kernel), List.mem_of_getElem? (i := 1195) (by decide +kernel), List.mem_of_getElem? (i := 1196) (by decide +kernel)⟩
theorem lw_p33 : lw_okq (⟨"SweetLineModel", "turnOut", "(I)V"⟩, 59) := ⟨⟨by decide +kernel, by decide +kernel⟩, List.mem_of_getElem? (i := 855) (by decide +kernel), List.mem_of_getElem? (i := 1199) (by decide +kernel), List.mem_of_getElem? (i := 1200) (by decide +kernel)⟩
theorem lw_p34 : lw_okq (⟨"SweetLineModel", "isBar", "(I)Z"⟩, 59) := ⟨⟨by decide +kernel, by decide +kernel⟩, List.mem_of_getElem? (i := 855) (by decide +kernel), List.mem_of_getElem? (i := 1216) (by decide +kernel), List.mem_of_getElem? (i := 1217) (by decide +kernel)⟩
theorem lw_p35 : lw_okq (⟨"SweetLineModel", "of", "(II)I"⟩, 59) := ⟨⟨by decide +kernel, by decide +kernel⟩, List.mem_of_getElem? (i := 855) (by decide +kernel), List.mem_of_getElem? (i := 1220) (by decide +kernel), List.mem_of_getElem? (i := 1221) (by decide +kernel)⟩
theorem lw_p36 : lw_okq (⟨"SweetLineModel", "kindOf", "(I)I"⟩, 59) := ⟨⟨by decide +kernel, by decide +kernel⟩, List.mem_of_getElem? (i := 855) (by decide +kernel), List.mem_of_getElem? (i := 1232) (by decide +kernel), List.mem_of_getElem? (i := 1233) (by decide +kernel)⟩
theorem lw_p37 : lw_okq (⟨"SweetLineModel", "lookItems", "(III)I"⟩, 59) := ⟨⟨by decide +kernel, by decide +kernel⟩, List.mem_of_getElem? (i := 855) (by decide +kernel), List.mem_of_getElem? (i := 1249) (by decide +kernel), List.mem_of_getElem? (i := 1250) (by decide +kernel)⟩
theorem lw_p38 : lw_okq (⟨"SweetLineModel", "costOf", "(II)I"⟩, 59) := ⟨⟨by decide +kernel, by decide +kernel⟩, List.mem_of_getElem? (i := 855) (by decide +kernel), List.mem_of_getElem? (i := 1259) (by decide +kernel), List.mem_of_getElem? (i := 1260) (by decide +kernel)⟩
theorem lw_p39 : lw_okq (⟨"SweetLineModel", "nextRow", "(I)Z"⟩, 59) := ⟨⟨by decide +kernel, by decide +kernel⟩, List.mem_of_getElem? (i := 855) (by decide +kernel), List.mem_of_getElem? (i := 1263) (by decide +kernel), List.mem_of_getElem? (i := 1264) (by decide +kernel)⟩
theorem lw_p40 : lw_okq (⟨"SweetLineModel", "sizeOf", "(II)I"⟩, 59) := ⟨⟨by decide +kernel, by decide +kernel⟩, List.mem_of_getElem? (i := 855) (by decide +kernel), List.mem_of_getElem? (i := 1283) (by decide +kernel), List.mem_of_getElem? (i := 1284) (by decide +kernel)⟩
theorem lw_p41 : lw_okq (⟨"SweetLineModel", "fullSize", "(II)I"⟩, 59) := ⟨⟨by decide +kernel, by decide +kernel⟩, List.mem_of_getElem? (i := 855) (by decide +kernel), List.mem_of_getElem? (i := 1287) (by decide +kernel), List.mem_of_getElem? (i := 1288) (by decide +kernel)⟩
theorem lw_p42 : lw_okq (⟨"SweetLineModel", "began", "(I)V"⟩, 59) := ⟨⟨by decide +kernel, by decide +kernel⟩, List.mem_of_getElem? (i := 855) (by decide +kernel), List.mem_of_getElem? (i := 1291) (by decide +kernel), List.mem_of_getElem? (i := 1292) (by decide +kernel)⟩
theorem lw_p43 : lw_okq (⟨"SweetLineModel", "markOf", "(II)I"⟩, 59) := ⟨⟨by decide +kernel, by decide +kernel⟩, List.mem_of_getElem? (i := 855) (by decide +kernel), List.mem_of_getElem? (i := 1295) (by decide +kernel), List.mem_of_getElem? (i := 1296) (by decide +kernel)⟩
def lw_privs_3 : List (MethodName × Nat) := [(⟨"SweetLineModel", "take", "(II)V"⟩, 59), (⟨"SweetLineModel", "turnOut", "(I)V"⟩, 59), (⟨"SweetLineModel", "isBar", "(I)Z"⟩, 59), (⟨"SweetLineModel", "of", "(II)I"⟩, 59), (⟨"SweetLineModel", "kindOf", "(I)I"⟩, 59), (⟨"SweetLineModel", "lookItems", "(III)I"⟩, 59), (⟨"SweetLineModel", "costOf", "(II)I"⟩, 59), (⟨"SweetLineModel", "nextRow", "(I)Z"⟩, 59), (⟨"SweetLineModel", "sizeOf", "(II)I"⟩, 59), (⟨"SweetLineModel", "fullSize", "(II)I"⟩, 59), (⟨"SweetLineModel", "began", "(I)V"⟩, 59), (⟨"SweetLineModel", "markOf", "(II)I"⟩, 59)]
theorem lw_r3 : ∀ q ∈ lw_privs_3, lw_okq q := List.forall_mem_cons.mpr ⟨lw_p32, List.forall_mem_cons.mpr ⟨lw_p33, List.forall_mem_cons.mpr ⟨lw_p34, List.forall_mem_cons.mpr ⟨lw_p35, List.forall_mem_cons.mpr ⟨lw_p36, List.forall_mem_cons.mpr ⟨lw_p37, List.forall_mem_cons.mpr ⟨lw_p38, List.forall_mem_cons.mpr ⟨lw_p39, List.forall_mem_cons.mpr ⟨lw_p40, List.forall_mem_cons.mpr ⟨lw_p41, List.forall_mem_cons.mpr ⟨lw_p42, List.forall_mem_cons.mpr ⟨lw_p43, fun _ h => absurd h List.not_mem_nil⟩⟩⟩⟩⟩⟩⟩⟩⟩⟩⟩⟩
def lw_privs : List (MethodName × Nat) := lw_privs_1 ++ (lw_privs_2 ++ (lw_privs_3))
def lw_tbl : List Cond := k2_sels lw_privs ++ tables_1
theorem lw_privs_ok : ∀ q ∈ lw_privs, lw_okq q := by
  show ∀ q ∈ lw_privs_1 ++ (lw_privs_2 ++ (lw_privs_3)), lw_okq q
  exact List.forall_mem_append.mpr ⟨lw_r1, List.forall_mem_append.mpr ⟨lw_r2, lw_r3⟩⟩
def RX0 : String := "SweetLine$Bar"
def TX0 : u_T := fun k => match k with
  | 0 => ("SweetLine$Bar", "chocolate", "I", false)
  | 1 => ("SweetLine$Bar", "filling", "I", false)
  | 2 => ("SweetLine$Bar", "recipe", "I", false)
  | 3 => ("SweetLine$Bar", "lots", "I", false)
  | 4 => ("SweetLine$Bar", "good", "Z", false)
  | 5 => ("SweetLine$Bar", "beat", "I", false)
  | _ => ("SweetLine$Bar", "melted", "Z", false)
def tyX0 : Nat → FieldType := fun k => match k with
  | 0 => .int
  | 1 => .int
  | 2 => .int
  | 3 => .int
  | 4 => .boolean
  | 5 => .int
  | _ => .boolean
theorem nmX0 : ∀ a, a < 7 → ∀ b, b < 7 → a ≠ b → (TX0 a).2.1 ≠ (TX0 b).2.1 := by decide +kernel
theorem tyX0_ok : ∀ k, k < 7 → parseFieldDescriptor (TX0 k).2.2.1 = some (tyX0 k) := by decide +kernel
abbrev cX0_init : ByteArray := prog_2_method_1_code
def yX0_init : MethodName := ⟨RX0, "<init>", "()V"⟩
abbrev cX0_become : ByteArray := prog_2_method_2_code
def yX0_become : MethodName := ⟨RX0, "become", "(LSweetLine$Mould;I)V"⟩
def RX1 : String := "SweetLine$Bars"
def TX1 : u_T := fun k => match k with
  | 0 => ("SweetLine$Bars", "rack", "[LSweetLine$Bar;", true)
  | 1 => ("SweetLine$Bars", "kept", "I", false)
  | 2 => ("SweetLine$Bars", "came", "I", false)
  | 3 => ("SweetLine$Bars", "allGrams", "I", false)
  | 4 => ("SweetLine$Bars", "givenAway", "I", false)
  | 5 => ("SweetLine$Bars", "calledBack", "I", false)
  | _ => ("SweetLine$Bars", "recent", "[I", true)
def tyX1 : Nat → FieldType := fun k => match k with
  | 0 => .array (.object "SweetLine$Bar")
  | 1 => .int
  | 2 => .int
  | 3 => .int
  | 4 => .int
  | 5 => .int
  | _ => .array .int
theorem nmX1 : ∀ a, a < 7 → ∀ b, b < 7 → a ≠ b → (TX1 a).2.1 ≠ (TX1 b).2.1 := by decide +kernel
theorem tyX1_ok : ∀ k, k < 7 → parseFieldDescriptor (TX1 k).2.2.1 = some (tyX1 k) := by decide +kernel
abbrev cX1_init : ByteArray := prog_3_method_1_code
def yX1_init : MethodName := ⟨RX1, "<init>", "()V"⟩
abbrev cX1_take : ByteArray := prog_3_method_2_code
def yX1_take : MethodName := ⟨RX1, "take", "(LSweetLine$Mould;II)V"⟩
abbrev cX1_recentMean : ByteArray := prog_3_method_3_code
def yX1_recentMean : MethodName := ⟨RX1, "recentMean", "()I"⟩
abbrev cX1_keptWith : ByteArray := prog_3_method_4_code
def yX1_keptWith : MethodName := ⟨RX1, "keptWith", "(I)I"⟩
def RX2 : String := "SweetLine$Belt"
def TX2 : u_T := fun k => match k with
  | 0 => ("SweetLine$Belt", "moulds", "[LSweetLine$Mould;", true)
  | 1 => ("SweetLine$Belt", "gears", "[I", true)
  | 2 => ("SweetLine$Belt", "n", "I", false)
  | 3 => ("SweetLine$Belt", "poured", "I", false)
  | 4 => ("SweetLine$Belt", "beats", "I", false)
  | _ => ("SweetLine$Belt", "missed", "I", false)
def tyX2 : Nat → FieldType := fun k => match k with
  | 0 => .array (.object "SweetLine$Mould")
  | 1 => .array .int
  | 2 => .int
  | 3 => .int
  | 4 => .int
  | _ => .int
theorem nmX2 : ∀ a, a < 6 → ∀ b, b < 6 → a ≠ b → (TX2 a).2.1 ≠ (TX2 b).2.1 := by decide +kernel
theorem tyX2_ok : ∀ k, k < 6 → parseFieldDescriptor (TX2 k).2.2.1 = some (tyX2 k) := by decide +kernel
abbrev cX2_init : ByteArray := prog_4_method_1_code
def yX2_init : MethodName := ⟨RX2, "<init>", "()V"⟩
abbrev cX2_advance : ByteArray := prog_4_method_2_code
def yX2_advance : MethodName := ⟨RX2, "advance", "(LSweetLine$Tank;LSweetLine$Bars;)V"⟩
abbrev cX2_fullMoulds : ByteArray := prog_4_method_3_code
def yX2_fullMoulds : MethodName := ⟨RX2, "fullMoulds", "()I"⟩
abbrev cX2_gramsInMoulds : ByteArray := prog_4_method_4_code
def yX2_gramsInMoulds : MethodName := ⟨RX2, "gramsInMoulds", "()I"⟩
abbrev cX2_moveOn : ByteArray := prog_4_method_5_code
def yX2_moveOn : MethodName := ⟨RX2, "moveOn", "()V"⟩
abbrev cX2_pour : ByteArray := prog_4_method_6_code
def yX2_pour : MethodName := ⟨RX2, "pour", "(LSweetLine$Mould;LSweetLine$Tank;)V"⟩
abbrev cX2_turnOut : ByteArray := prog_4_method_7_code
def yX2_turnOut : MethodName := ⟨RX2, "turnOut", "(LSweetLine$Mould;LSweetLine$Bars;)V"⟩
def RX3 : String := "SweetLine$Book"
def TX3 : u_T := fun k => match k with
  | 0 => ("SweetLine$Book", "tape", "LSweetLine$Tape;", true)
  | 1 => ("SweetLine$Book", "recipes", "[LSweetLine$Recipe;", true)
  | 2 => ("SweetLine$Book", "told", "I", false)
  | 3 => ("SweetLine$Book", "faultNumber", "I", false)
  | 4 => ("SweetLine$Book", "faultPlace", "I", false)
  | _ => ("SweetLine$Book", "taken", "I", false)
def tyX3 : Nat → FieldType := fun k => match k with
  | 0 => .object "SweetLine$Tape"
  | 1 => .array (.object "SweetLine$Recipe")
  | 2 => .int
  | 3 => .int
  | 4 => .int
  | _ => .int
theorem nmX3 : ∀ a, a < 6 → ∀ b, b < 6 → a ≠ b → (TX3 a).2.1 ≠ (TX3 b).2.1 := by decide +kernel
theorem tyX3_ok : ∀ k, k < 6 → parseFieldDescriptor (TX3 k).2.2.1 = some (tyX3 k) := by decide +kernel
abbrev cX3_init : ByteArray := prog_5_method_1_code
def yX3_init : MethodName := ⟨RX3, "<init>", "()V"⟩
abbrev cX3_readTape : ByteArray := prog_5_method_2_code
def yX3_readTape : MethodName := ⟨RX3, "readTape", "()Z"⟩
abbrev cX3_readRecipe : ByteArray := prog_5_method_3_code
def yX3_readRecipe : MethodName := ⟨RX3, "readRecipe", "(I)Z"⟩
abbrev cX3_readStage : ByteArray := prog_5_method_4_code
def yX3_readStage : MethodName := ⟨RX3, "readStage", "(LSweetLine$Recipe;)Z"⟩
abbrev cX3_takeNumber : ByteArray := prog_5_method_5_code
def yX3_takeNumber : MethodName := ⟨RX3, "takeNumber", "(II)Z"⟩
abbrev cX3_refuse : ByteArray := prog_5_method_6_code
def yX3_refuse : MethodName := ⟨RX3, "refuse", "(I)Z"⟩
def RX4 : String := "SweetLine$Heat"
def TX4 : u_T := fun k => match k with
  | 0 => ("SweetLine$Heat", "warmth", "I", false)
  | _ => ("SweetLine$Heat", "seeds", "I", false)
def tyX4 : Nat → FieldType := fun k => match k with
  | 0 => .int
  | _ => .int
theorem nmX4 : ∀ a, a < 2 → ∀ b, b < 2 → a ≠ b → (TX4 a).2.1 ≠ (TX4 b).2.1 := by decide +kernel
theorem tyX4_ok : ∀ k, k < 2 → parseFieldDescriptor (TX4 k).2.2.1 = some (tyX4 k) := by decide +kernel
abbrev cX4_init : ByteArray := prog_6_method_1_code
def yX4_init : MethodName := ⟨RX4, "<init>", "()V"⟩
abbrev cX4_begin : ByteArray := prog_6_method_2_code
def yX4_begin : MethodName := ⟨RX4, "begin", "(II)V"⟩
abbrev cX4_goThrough : ByteArray := prog_6_method_3_code
def yX4_goThrough : MethodName := ⟨RX4, "goThrough", "(LSweetLine$Recipe;)V"⟩
abbrev cX4_state : ByteArray := prog_6_method_4_code
def yX4_state : MethodName := ⟨RX4, "state", "()I"⟩
abbrev cX4_thickness : ByteArray := prog_6_method_5_code
def yX4_thickness : MethodName := ⟨RX4, "thickness", "()I"⟩
abbrev cX4_seedsOneMinuteOn : ByteArray := prog_6_method_6_code
def yX4_seedsOneMinuteOn : MethodName := ⟨RX4, "seedsOneMinuteOn", "()I"⟩
def RX5 : String := "SweetLine$Mould"
def TX5 : u_T := fun k => match k with
  | 0 => ("SweetLine$Mould", "chocolate", "I", false)
  | 1 => ("SweetLine$Mould", "filling", "I", false)
  | 2 => ("SweetLine$Mould", "recipe", "I", false)
  | 3 => ("SweetLine$Mould", "lots", "I", false)
  | 4 => ("SweetLine$Mould", "warmth", "I", false)
  | 5 => ("SweetLine$Mould", "good", "Z", false)
  | 6 => ("SweetLine$Mould", "shaken", "Z", false)
  | _ => ("SweetLine$Mould", "wasFilled", "Z", false)
def tyX5 : Nat → FieldType := fun k => match k with
  | 0 => .int
  | 1 => .int
  | 2 => .int
  | 3 => .int
  | 4 => .int
  | 5 => .boolean
  | 6 => .boolean
  | _ => .boolean
theorem nmX5 : ∀ a, a < 8 → ∀ b, b < 8 → a ≠ b → (TX5 a).2.1 ≠ (TX5 b).2.1 := by decide +kernel
theorem tyX5_ok : ∀ k, k < 8 → parseFieldDescriptor (TX5 k).2.2.1 = some (tyX5 k) := by decide +kernel
abbrev cX5_init : ByteArray := prog_7_method_1_code
def yX5_init : MethodName := ⟨RX5, "<init>", "()V"⟩
abbrev cX5_isEmpty : ByteArray := prog_7_method_2_code
def yX5_isEmpty : MethodName := ⟨RX5, "isEmpty", "()Z"⟩
abbrev cX5_takeFrom : ByteArray := prog_7_method_3_code
def yX5_takeFrom : MethodName := ⟨RX5, "takeFrom", "(LSweetLine$Tank;I)V"⟩
abbrev cX5_shake : ByteArray := prog_7_method_4_code
def yX5_shake : MethodName := ⟨RX5, "shake", "()V"⟩
abbrev cX5_fillOnce : ByteArray := prog_7_method_5_code
def yX5_fillOnce : MethodName := ⟨RX5, "fillOnce", "(I)V"⟩
abbrev cX5_cool : ByteArray := prog_7_method_6_code
def yX5_cool : MethodName := ⟨RX5, "cool", "(I)V"⟩
def RX6 : String := "SweetLine$Recipe"
def TX6 : u_T := fun k => match k with
  | 0 => ("SweetLine$Recipe", "allergens", "I", false)
  | 1 => ("SweetLine$Recipe", "share", "I", false)
  | 2 => ("SweetLine$Recipe", "stages", "I", false)
  | 3 => ("SweetLine$Recipe", "amounts", "[I", true)
  | _ => ("SweetLine$Recipe", "minutes", "[I", true)
def tyX6 : Nat → FieldType := fun k => match k with
  | 0 => .int
  | 1 => .int
  | 2 => .int
  | 3 => .array .int
  | _ => .array .int
theorem nmX6 : ∀ a, a < 5 → ∀ b, b < 5 → a ≠ b → (TX6 a).2.1 ≠ (TX6 b).2.1 := by decide +kernel
theorem tyX6_ok : ∀ k, k < 5 → parseFieldDescriptor (TX6 k).2.2.1 = some (tyX6 k) := by decide +kernel
abbrev cX6_init : ByteArray := prog_8_method_1_code
def yX6_init : MethodName := ⟨RX6, "<init>", "()V"⟩
def RX7 : String := "SweetLine$Rows"
def TX7 : u_T := fun k => match k with
  | 0 => ("SweetLine$Rows", "allergens", "[I", true)
  | 1 => ("SweetLine$Rows", "hours", "[I", true)
  | 2 => ("SweetLine$Rows", "dues", "[I", true)
  | 3 => ("SweetLine$Rows", "best", "[I", true)
  | 4 => ("SweetLine$Rows", "bestCost", "I", false)
  | 5 => ("SweetLine$Rows", "row", "[I", true)
  | _ => ("SweetLine$Rows", "n", "I", false)
def tyX7 : Nat → FieldType := fun k => match k with
  | 0 => .array .int
  | 1 => .array .int
  | 2 => .array .int
  | 3 => .array .int
  | 4 => .int
  | 5 => .array .int
  | _ => .int
theorem nmX7 : ∀ a, a < 7 → ∀ b, b < 7 → a ≠ b → (TX7 a).2.1 ≠ (TX7 b).2.1 := by decide +kernel
theorem tyX7_ok : ∀ k, k < 7 → parseFieldDescriptor (TX7 k).2.2.1 = some (tyX7 k) := by decide +kernel
abbrev cX7_init : ByteArray := prog_9_method_1_code
def yX7_init : MethodName := ⟨RX7, "<init>", "()V"⟩
abbrev cX7_findBest : ByteArray := prog_9_method_2_code
def yX7_findBest : MethodName := ⟨RX7, "findBest", "(I)V"⟩
abbrev cX7_extend : ByteArray := prog_9_method_3_code
def yX7_extend : MethodName := ⟨RX7, "extend", "(LSweetLine$Rows;IIII)V"⟩
abbrev cX7_keepRow : ByteArray := prog_9_method_4_code
def yX7_keepRow : MethodName := ⟨RX7, "keepRow", "(I)V"⟩
def RX8 : String := "SweetLine$Sheet"
def TX8 : u_T := fun k => match k with
  | 0 => ("SweetLine$Sheet", "items", "[I", true)
  | 1 => ("SweetLine$Sheet", "missing", "Z", false)
  | 2 => ("SweetLine$Sheet", "lane", "I", false)
  | _ => ("SweetLine$Sheet", "size", "I", false)
def tyX8 : Nat → FieldType := fun k => match k with
  | 0 => .array .int
  | 1 => .boolean
  | 2 => .int
  | _ => .int
theorem nmX8 : ∀ a, a < 4 → ∀ b, b < 4 → a ≠ b → (TX8 a).2.1 ≠ (TX8 b).2.1 := by decide +kernel
theorem tyX8_ok : ∀ k, k < 4 → parseFieldDescriptor (TX8 k).2.2.1 = some (tyX8 k) := by decide +kernel
abbrev cX8_init : ByteArray := prog_10_method_1_code
def yX8_init : MethodName := ⟨RX8, "<init>", "()V"⟩
abbrev cX8_begin : ByteArray := prog_10_method_2_code
def yX8_begin : MethodName := ⟨RX8, "begin", "(II)V"⟩
abbrev cX8_has : ByteArray := prog_10_method_3_code
def yX8_has : MethodName := ⟨RX8, "has", "(II)Z"⟩
abbrev cX8_narrowed : ByteArray := prog_10_method_4_code
def yX8_narrowed : MethodName := ⟨RX8, "narrowed", "(I)I"⟩
def RX9 : String := "SweetLine$Tank"
def TX9 : u_T := fun k => match k with
  | 0 => ("SweetLine$Tank", "stuff", "I", false)
  | 1 => ("SweetLine$Tank", "rework", "I", false)
  | 2 => ("SweetLine$Tank", "recipe", "I", false)
  | 3 => ("SweetLine$Tank", "lots", "I", false)
  | _ => ("SweetLine$Tank", "heat", "LSweetLine$Heat;", true)
def tyX9 : Nat → FieldType := fun k => match k with
  | 0 => .int
  | 1 => .int
  | 2 => .int
  | 3 => .int
  | _ => .object "SweetLine$Heat"
theorem nmX9 : ∀ a, a < 5 → ∀ b, b < 5 → a ≠ b → (TX9 a).2.1 ≠ (TX9 b).2.1 := by decide +kernel
theorem tyX9_ok : ∀ k, k < 5 → parseFieldDescriptor (TX9 k).2.2.1 = some (tyX9 k) := by decide +kernel
abbrev cX9_init : ByteArray := prog_11_method_1_code
def yX9_init : MethodName := ⟨RX9, "<init>", "()V"⟩
abbrev cX9_isEmpty : ByteArray := prog_11_method_2_code
def yX9_isEmpty : MethodName := ⟨RX9, "isEmpty", "()Z"⟩
abbrev cX9_takeIn : ByteArray := prog_11_method_3_code
def yX9_takeIn : MethodName := ⟨RX9, "takeIn", "(IIII)V"⟩
abbrev cX9_giveOut : ByteArray := prog_11_method_4_code
def yX9_giveOut : MethodName := ⟨RX9, "giveOut", "(I)V"⟩
def RX10 : String := "SweetLine$Tape"
def TX10 : u_T := fun k => match k with
  | 0 => ("SweetLine$Tape", "bytes", "[B", true)
  | 1 => ("SweetLine$Tape", "length", "I", false)
  | 2 => ("SweetLine$Tape", "token", "I", false)
  | 3 => ("SweetLine$Tape", "start", "I", false)
  | 4 => ("SweetLine$Tape", "end", "I", false)
  | _ => ("SweetLine$Tape", "number", "I", false)
def tyX10 : Nat → FieldType := fun k => match k with
  | 0 => .array .byte
  | 1 => .int
  | 2 => .int
  | 3 => .int
  | 4 => .int
  | _ => .int
theorem nmX10 : ∀ a, a < 6 → ∀ b, b < 6 → a ≠ b → (TX10 a).2.1 ≠ (TX10 b).2.1 := by decide +kernel
theorem tyX10_ok : ∀ k, k < 6 → parseFieldDescriptor (TX10 k).2.2.1 = some (tyX10 k) := by decide +kernel
abbrev cX10_init : ByteArray := prog_12_method_1_code
def yX10_init : MethodName := ⟨RX10, "<init>", "()V"⟩
abbrev cX10_hasRoom : ByteArray := prog_12_method_2_code
def yX10_hasRoom : MethodName := ⟨RX10, "hasRoom", "(I)Z"⟩
abbrev cX10_append : ByteArray := prog_12_method_3_code
def yX10_append : MethodName := ⟨RX10, "append", "(B)V"⟩
abbrev cX10_rewind : ByteArray := prog_12_method_4_code
def yX10_rewind : MethodName := ⟨RX10, "rewind", "()V"⟩
abbrev cX10_step : ByteArray := prog_12_method_5_code
def yX10_step : MethodName := ⟨RX10, "step", "()V"⟩
abbrev cX10_isWord : ByteArray := prog_12_method_6_code
def yX10_isWord : MethodName := ⟨RX10, "isWord", "(Ljava/lang/String;)Z"⟩
abbrev cX10_takeFigures : ByteArray := prog_12_method_7_code
def yX10_takeFigures : MethodName := ⟨RX10, "takeFigures", "()V"⟩
abbrev cX10_kindOf : ByteArray := prog_12_method_8_code
def yX10_kindOf : MethodName := ⟨RX10, "kindOf", "(B)I"⟩
def RX11 : String := "SweetLine"
def TX11 : u_T := fun k => match k with
  | 0 => ("SweetLine", "sheets", "[LSweetLine$Sheet;", true)
  | 1 => ("SweetLine", "book", "LSweetLine$Book;", true)
  | 2 => ("SweetLine", "trial", "LSweetLine$Heat;", true)
  | 3 => ("SweetLine", "tanks", "[LSweetLine$Tank;", true)
  | 4 => ("SweetLine", "bins", "[I", true)
  | 5 => ("SweetLine", "ring", "LSweetLine$Belt;", true)
  | 6 => ("SweetLine", "bars", "LSweetLine$Bars;", true)
  | 7 => ("SweetLine", "rows", "LSweetLine$Rows;", true)
  | 8 => ("SweetLine", "traceNumbers", "[I", true)
  | 9 => ("SweetLine", "traced", "I", false)
  | 10 => ("SweetLine", "filledGrams", "I", false)
  | 11 => ("SweetLine", "drainedGrams", "I", false)
  | _ => ("SweetLine", "finding", "I", false)
def tyX11 : Nat → FieldType := fun k => match k with
  | 0 => .array (.object "SweetLine$Sheet")
  | 1 => .object "SweetLine$Book"
  | 2 => .object "SweetLine$Heat"
  | 3 => .array (.object "SweetLine$Tank")
  | 4 => .array .int
  | 5 => .object "SweetLine$Belt"
  | 6 => .object "SweetLine$Bars"
  | 7 => .object "SweetLine$Rows"
  | 8 => .array .int
  | 9 => .int
  | 10 => .int
  | 11 => .int
  | _ => .int
theorem nmX11 : ∀ a, a < 13 → ∀ b, b < 13 → a ≠ b → (TX11 a).2.1 ≠ (TX11 b).2.1 := by decide +kernel
theorem tyX11_ok : ∀ k, k < 13 → parseFieldDescriptor (TX11 k).2.2.1 = some (tyX11 k) := by decide +kernel
abbrev cX11_init : ByteArray := prog_1_method_1_code
def yX11_init : MethodName := ⟨RX11, "<init>", "()V"⟩
abbrev cX11_sheet : ByteArray := prog_1_method_2_code
def yX11_sheet : MethodName := ⟨RX11, "sheet", "(III)I"⟩
abbrev cX11_set : ByteArray := prog_1_method_3_code
def yX11_set : MethodName := ⟨RX11, "set", "(III)I"⟩
abbrev cX11_copy : ByteArray := prog_1_method_4_code
def yX11_copy : MethodName := ⟨RX11, "copy", "(IIIII)I"⟩
abbrev cX11_drop : ByteArray := prog_1_method_5_code
def yX11_drop : MethodName := ⟨RX11, "drop", "(I)I"⟩
abbrev cX11_feed : ByteArray := prog_1_method_6_code
def yX11_feed : MethodName := ⟨RX11, "feed", "(JI)I"⟩
abbrev cX11_recipes : ByteArray := prog_1_method_7_code
def yX11_recipes : MethodName := ⟨RX11, "recipes", "()I"⟩
abbrev cX11_fault : ByteArray := prog_1_method_8_code
def yX11_fault : MethodName := ⟨RX11, "fault", "()I"⟩
abbrev cX11_temper : ByteArray := prog_1_method_9_code
def yX11_temper : MethodName := ⟨RX11, "temper", "(IIII)I"⟩
abbrev cX11_fill : ByteArray := prog_1_method_10_code
def yX11_fill : MethodName := ⟨RX11, "fill", "(IIIII)I"⟩
abbrev cX11_ready : ByteArray := prog_1_method_11_code
def yX11_ready : MethodName := ⟨RX11, "ready", "(I)I"⟩
abbrev cX11_drain : ByteArray := prog_1_method_12_code
def yX11_drain : MethodName := ⟨RX11, "drain", "(I)I"⟩
abbrev cX11_tank : ByteArray := prog_1_method_13_code
def yX11_tank : MethodName := ⟨RX11, "tank", "(II)I"⟩
abbrev cX11_belt : ByteArray := prog_1_method_14_code
def yX11_belt : MethodName := ⟨RX11, "belt", "(I)I"⟩
abbrev cX11_gear : ByteArray := prog_1_method_15_code
def yX11_gear : MethodName := ⟨RX11, "gear", "(II)I"⟩
abbrev cX11_beat : ByteArray := prog_1_method_16_code
def yX11_beat : MethodName := ⟨RX11, "beat", "(I)I"⟩
abbrev cX11_mould : ByteArray := prog_1_method_17_code
def yX11_mould : MethodName := ⟨RX11, "mould", "(II)I"⟩
abbrev cX11_correct : ByteArray := prog_1_method_18_code
def yX11_correct : MethodName := ⟨RX11, "correct", "()I"⟩
abbrev cX11_bar : ByteArray := prog_1_method_19_code
def yX11_bar : MethodName := ⟨RX11, "bar", "(II)I"⟩
abbrev cX11_recall : ByteArray := prog_1_method_20_code
def yX11_recall : MethodName := ⟨RX11, "recall", "(I)I"⟩
abbrev cX11_melt : ByteArray := prog_1_method_21_code
def yX11_melt : MethodName := ⟨RX11, "melt", "(I)I"⟩
abbrev cX11_bin : ByteArray := prog_1_method_22_code
def yX11_bin : MethodName := ⟨RX11, "bin", "(I)I"⟩
abbrev cX11_grams : ByteArray := prog_1_method_23_code
def yX11_grams : MethodName := ⟨RX11, "grams", "(I)I"⟩
abbrev cX11_bloom : ByteArray := prog_1_method_24_code
def yX11_bloom : MethodName := ⟨RX11, "bloom", "(IIIII)I"⟩
abbrev cX11_orders : ByteArray := prog_1_method_25_code
def yX11_orders : MethodName := ⟨RX11, "orders", "(IIII)I"⟩
abbrev cX11_kind : ByteArray := prog_1_method_26_code
def yX11_kind : MethodName := ⟨RX11, "kind", "(I)I"⟩
abbrev cX11_as : ByteArray := prog_1_method_27_code
def yX11_as : MethodName := ⟨RX11, "as", "(II)I"⟩
abbrev cX11_ask : ByteArray := prog_1_method_28_code
def yX11_ask : MethodName := ⟨RX11, "ask", "(II)I"⟩
abbrev cX11_trace : ByteArray := prog_1_method_29_code
def yX11_trace : MethodName := ⟨RX11, "trace", "(I)I"⟩
abbrev cX11_count : ByteArray := prog_1_method_30_code
def yX11_count : MethodName := ⟨RX11, "count", "(I)I"⟩
abbrev cX11_status : ByteArray := prog_1_method_31_code
def yX11_status : MethodName := ⟨RX11, "status", "()I"⟩
abbrev cX11_within : ByteArray := prog_1_method_32_code
def yX11_within : MethodName := ⟨RX11, "within", "(III)Z"⟩
abbrev cX11_isSheet : ByteArray := prog_1_method_33_code
def yX11_isSheet : MethodName := ⟨RX11, "isSheet", "(I)Z"⟩
abbrev cX11_isTank : ByteArray := prog_1_method_34_code
def yX11_isTank : MethodName := ⟨RX11, "isTank", "(I)Z"⟩
abbrev cX11_isLot : ByteArray := prog_1_method_35_code
def yX11_isLot : MethodName := ⟨RX11, "isLot", "(I)Z"⟩
abbrev cX11_isRecipe : ByteArray := prog_1_method_36_code
def yX11_isRecipe : MethodName := ⟨RX11, "isRecipe", "(I)Z"⟩
abbrev cX11_isKept : ByteArray := prog_1_method_37_code
def yX11_isKept : MethodName := ⟨RX11, "isKept", "(I)Z"⟩
abbrev cX11_found : ByteArray := prog_1_method_38_code
def yX11_found : MethodName := ⟨RX11, "found", "(I)I"⟩
abbrev cX11_amissIn : ByteArray := prog_1_method_39_code
def yX11_amissIn : MethodName := ⟨RX11, "amissIn", "(LSweetLine$Sheet;II)I"⟩
abbrev cX11_plain : ByteArray := prog_1_method_40_code
def yX11_plain : MethodName := ⟨RX11, "plain", "(I)I"⟩
abbrev cX11_sheetsThere : ByteArray := prog_1_method_41_code
def yX11_sheetsThere : MethodName := ⟨RX11, "sheetsThere", "()I"⟩
abbrev cX11_gramsInTanks : ByteArray := prog_1_method_42_code
def yX11_gramsInTanks : MethodName := ⟨RX11, "gramsInTanks", "()I"⟩
abbrev cX11_takeOrders : ByteArray := prog_1_method_43_code
def yX11_takeOrders : MethodName := ⟨RX11, "takeOrders", "(LSweetLine$Sheet;II)Z"⟩
abbrev cX11_toldKind : ByteArray := prog_1_method_44_code
def yX11_toldKind : MethodName := ⟨RX11, "toldKind", "(LSweetLine$Bar;)I"⟩
abbrev cX11_body : ByteArray := prog_1_method_45_code
def yX11_body : MethodName := ⟨RX11, "body", "(ILSweetLine$Bar;II)I"⟩
def RX12 : String := "SweetLineModel"
def TX12 : u_T := fun k => match k with
  | 0 => ("SweetLineModel", "thrown", "I", false)
  | 1 => ("SweetLineModel", "status", "I", false)
  | 2 => ("SweetLineModel", "lane", "[I", true)
  | 3 => ("SweetLineModel", "many", "[I", true)
  | 4 => ("SweetLineModel", "item", "[I", true)
  | 5 => ("SweetLineModel", "recipes", "I", false)
  | 6 => ("SweetLineModel", "allergens", "[I", true)
  | 7 => ("SweetLineModel", "share", "[I", true)
  | 8 => ("SweetLineModel", "stages", "[I", true)
  | 9 => ("SweetLineModel", "stageOf", "[I", true)
  | 10 => ("SweetLineModel", "stageMinutes", "[I", true)
  | 11 => ("SweetLineModel", "bins", "[I", true)
  | 12 => ("SweetLineModel", "newRecipes", "I", false)
  | 13 => ("SweetLineModel", "tape", "[I", true)
  | 14 => ("SweetLineModel", "taped", "I", false)
  | 15 => ("SweetLineModel", "latest", "I", false)
  | 16 => ("SweetLineModel", "size", "I", false)
  | 17 => ("SweetLineModel", "cursor", "I", false)
  | 18 => ("SweetLineModel", "token", "I", false)
  | 19 => ("SweetLineModel", "from", "I", false)
  | 20 => ("SweetLineModel", "till", "I", false)
  | 21 => ("SweetLineModel", "fault", "I", false)
  | 22 => ("SweetLineModel", "faultAt", "I", false)
  | 23 => ("SweetLineModel", "warmthThen", "I", false)
  | 24 => ("SweetLineModel", "seedsThen", "I", false)
  | 25 => ("SweetLineModel", "stuff", "[I", true)
  | 26 => ("SweetLineModel", "rework", "[I", true)
  | 27 => ("SweetLineModel", "tankRecipe", "[I", true)
  | 28 => ("SweetLineModel", "tankLots", "[I", true)
  | 29 => ("SweetLineModel", "tankWarmth", "[I", true)
  | 30 => ("SweetLineModel", "tankSeeds", "[I", true)
  | 31 => ("SweetLineModel", "filledAll", "I", false)
  | 32 => ("SweetLineModel", "drainedAll", "I", false)
  | 33 => ("SweetLineModel", "moulds", "I", false)
  | 34 => ("SweetLineModel", "turned", "I", false)
  | 35 => ("SweetLineModel", "chocolate", "[I", true)
  | 36 => ("SweetLineModel", "filling", "[I", true)
  | 37 => ("SweetLineModel", "mouldRecipe", "[I", true)
  | 38 => ("SweetLineModel", "mouldLots", "[I", true)
  | 39 => ("SweetLineModel", "warmth", "[I", true)
  | 40 => ("SweetLineModel", "isGood", "[Z", true)
  | 41 => ("SweetLineModel", "isShaken", "[Z", true)
  | 42 => ("SweetLineModel", "isFilled", "[Z", true)
  | 43 => ("SweetLineModel", "gears", "[I", true)
  | 44 => ("SweetLineModel", "poured", "I", false)
  | 45 => ("SweetLineModel", "beats", "I", false)
  | 46 => ("SweetLineModel", "missed", "I", false)
  | 47 => ("SweetLineModel", "came", "I", false)
  | 48 => ("SweetLineModel", "keptBars", "I", false)
  | 49 => ("SweetLineModel", "row", "[I", true)
  | 50 => ("SweetLineModel", "isMelted", "[Z", true)
  | 51 => ("SweetLineModel", "last", "[I", true)
  | 52 => ("SweetLineModel", "barsAll", "I", false)
  | 53 => ("SweetLineModel", "givenAway", "I", false)
  | 54 => ("SweetLineModel", "called", "I", false)
  | 55 => ("SweetLineModel", "order", "[I", true)
  | 56 => ("SweetLineModel", "bestOrder", "[I", true)
  | 57 => ("SweetLineModel", "trace", "[I", true)
  | _ => ("SweetLineModel", "traced", "I", false)
def tyX12 : Nat → FieldType := fun k => match k with
  | 0 => .int
  | 1 => .int
  | 2 => .array .int
  | 3 => .array .int
  | 4 => .array .int
  | 5 => .int
  | 6 => .array .int
  | 7 => .array .int
  | 8 => .array .int
  | 9 => .array .int
  | 10 => .array .int
  | 11 => .array .int
  | 12 => .int
  | 13 => .array .int
  | 14 => .int
  | 15 => .int
  | 16 => .int
  | 17 => .int
  | 18 => .int
  | 19 => .int
  | 20 => .int
  | 21 => .int
  | 22 => .int
  | 23 => .int
  | 24 => .int
  | 25 => .array .int
  | 26 => .array .int
  | 27 => .array .int
  | 28 => .array .int
  | 29 => .array .int
  | 30 => .array .int
  | 31 => .int
  | 32 => .int
  | 33 => .int
  | 34 => .int
  | 35 => .array .int
  | 36 => .array .int
  | 37 => .array .int
  | 38 => .array .int
  | 39 => .array .int
  | 40 => .array .boolean
  | 41 => .array .boolean
  | 42 => .array .boolean
  | 43 => .array .int
  | 44 => .int
  | 45 => .int
  | 46 => .int
  | 47 => .int
  | 48 => .int
  | 49 => .array .int
  | 50 => .array .boolean
  | 51 => .array .int
  | 52 => .int
  | 53 => .int
  | 54 => .int
  | 55 => .array .int
  | 56 => .array .int
  | 57 => .array .int
  | _ => .int
theorem nmX12 : ∀ a, a < 59 → ∀ b, b < 59 → a ≠ b → (TX12 a).2.1 ≠ (TX12 b).2.1 := by decide +kernel
theorem tyX12_ok : ∀ k, k < 59 → parseFieldDescriptor (TX12 k).2.2.1 = some (tyX12 k) := by decide +kernel
abbrev cX12_init : ByteArray := prog_14_method_1_code
def yX12_init : MethodName := ⟨RX12, "<init>", "()V"⟩
abbrev cX12_in : ByteArray := prog_14_method_3_code
def yX12_in : MethodName := ⟨RX12, "in", "(JJJ)Z"⟩
abbrev cX12_finding : ByteArray := prog_14_method_4_code
def yX12_finding : MethodName := ⟨RX12, "finding", "(I)I"⟩
abbrev cX12_isSheet : ByteArray := prog_14_method_5_code
def yX12_isSheet : MethodName := ⟨RX12, "isSheet", "(I)Z"⟩
abbrev cX12_sheet : ByteArray := prog_14_method_6_code
def yX12_sheet : MethodName := ⟨RX12, "sheet", "(III)I"⟩
abbrev cX12_set : ByteArray := prog_14_method_7_code
def yX12_set : MethodName := ⟨RX12, "set", "(III)I"⟩
abbrev cX12_copy : ByteArray := prog_14_method_8_code
def yX12_copy : MethodName := ⟨RX12, "copy", "(IIIII)I"⟩
abbrev cX12_drop : ByteArray := prog_14_method_9_code
def yX12_drop : MethodName := ⟨RX12, "drop", "(I)I"⟩
abbrev cX12_lookItems : ByteArray := prog_14_method_10_code
def yX12_lookItems : MethodName := ⟨RX12, "lookItems", "(III)I"⟩
abbrev cX12_feed : ByteArray := prog_14_method_11_code
def yX12_feed : MethodName := ⟨RX12, "feed", "(JI)I"⟩
abbrev cX12_byteAt : ByteArray := prog_14_method_12_code
def yX12_byteAt : MethodName := ⟨RX12, "byteAt", "(I)I"⟩
abbrev cX12_isLetter : ByteArray := prog_14_method_13_code
def yX12_isLetter : MethodName := ⟨RX12, "isLetter", "(I)Z"⟩
abbrev cX12_isFigure : ByteArray := prog_14_method_14_code
def yX12_isFigure : MethodName := ⟨RX12, "isFigure", "(I)Z"⟩
abbrev cX12_step : ByteArray := prog_14_method_15_code
def yX12_step : MethodName := ⟨RX12, "step", "()V"⟩
abbrev cX12_bad : ByteArray := prog_14_method_16_code
def yX12_bad : MethodName := ⟨RX12, "bad", "(I)V"⟩
abbrev cX12_must : ByteArray := prog_14_method_17_code
def yX12_must : MethodName := ⟨RX12, "must", "(Z)V"⟩
abbrev cX12_word : ByteArray := prog_14_method_18_code
def yX12_word : MethodName := ⟨RX12, "word", "()J"⟩
abbrev cX12_numberIn : ByteArray := prog_14_method_19_code
def yX12_numberIn : MethodName := ⟨RX12, "numberIn", "(II)I"⟩
abbrev cX12_readRecipe : ByteArray := prog_14_method_20_code
def yX12_readRecipe : MethodName := ⟨RX12, "readRecipe", "()V"⟩
abbrev cX12_recipes : ByteArray := prog_14_method_21_code
def yX12_recipes : MethodName := ⟨RX12, "recipes", "()I"⟩
abbrev cX12_fault : ByteArray := prog_14_method_22_code
def yX12_fault : MethodName := ⟨RX12, "fault", "()I"⟩
abbrev cX12_isRecipe : ByteArray := prog_14_method_23_code
def yX12_isRecipe : MethodName := ⟨RX12, "isRecipe", "(I)Z"⟩
abbrev cX12_temperBy : ByteArray := prog_14_method_24_code
def yX12_temperBy : MethodName := ⟨RX12, "temperBy", "(III)V"⟩
abbrev cX12_stateOf : ByteArray := prog_14_method_25_code
def yX12_stateOf : MethodName := ⟨RX12, "stateOf", "(II)I"⟩
abbrev cX12_temper : ByteArray := prog_14_method_26_code
def yX12_temper : MethodName := ⟨RX12, "temper", "(IIII)I"⟩
abbrev cX12_isTank : ByteArray := prog_14_method_27_code
def yX12_isTank : MethodName := ⟨RX12, "isTank", "(I)Z"⟩
abbrev cX12_fill : ByteArray := prog_14_method_28_code
def yX12_fill : MethodName := ⟨RX12, "fill", "(IIIII)I"⟩
abbrev cX12_ready : ByteArray := prog_14_method_29_code
def yX12_ready : MethodName := ⟨RX12, "ready", "(I)I"⟩
abbrev cX12_take : ByteArray := prog_14_method_30_code
def yX12_take : MethodName := ⟨RX12, "take", "(II)V"⟩
abbrev cX12_drain : ByteArray := prog_14_method_31_code
def yX12_drain : MethodName := ⟨RX12, "drain", "(I)I"⟩
abbrev cX12_tank : ByteArray := prog_14_method_32_code
def yX12_tank : MethodName := ⟨RX12, "tank", "(II)I"⟩
abbrev cX12_mouldAt : ByteArray := prog_14_method_33_code
def yX12_mouldAt : MethodName := ⟨RX12, "mouldAt", "(I)I"⟩
abbrev cX12_belt : ByteArray := prog_14_method_34_code
def yX12_belt : MethodName := ⟨RX12, "belt", "(I)I"⟩
abbrev cX12_gear : ByteArray := prog_14_method_35_code
def yX12_gear : MethodName := ⟨RX12, "gear", "(II)I"⟩
abbrev cX12_pour : ByteArray := prog_14_method_36_code
def yX12_pour : MethodName := ⟨RX12, "pour", "()V"⟩
abbrev cX12_beatOnce : ByteArray := prog_14_method_37_code
def yX12_beatOnce : MethodName := ⟨RX12, "beatOnce", "()V"⟩
abbrev cX12_beat : ByteArray := prog_14_method_38_code
def yX12_beat : MethodName := ⟨RX12, "beat", "(I)I"⟩
abbrev cX12_mould : ByteArray := prog_14_method_39_code
def yX12_mould : MethodName := ⟨RX12, "mould", "(II)I"⟩
abbrev cX12_turnOut : ByteArray := prog_14_method_40_code
def yX12_turnOut : MethodName := ⟨RX12, "turnOut", "(I)V"⟩
abbrev cX12_correct : ByteArray := prog_14_method_41_code
def yX12_correct : MethodName := ⟨RX12, "correct", "()I"⟩
abbrev cX12_isBar : ByteArray := prog_14_method_42_code
def yX12_isBar : MethodName := ⟨RX12, "isBar", "(I)Z"⟩
abbrev cX12_of : ByteArray := prog_14_method_43_code
def yX12_of : MethodName := ⟨RX12, "of", "(II)I"⟩
abbrev cX12_bar : ByteArray := prog_14_method_44_code
def yX12_bar : MethodName := ⟨RX12, "bar", "(II)I"⟩
abbrev cX12_recall : ByteArray := prog_14_method_45_code
def yX12_recall : MethodName := ⟨RX12, "recall", "(I)I"⟩
abbrev cX12_kindOf : ByteArray := prog_14_method_46_code
def yX12_kindOf : MethodName := ⟨RX12, "kindOf", "(I)I"⟩
abbrev cX12_melt : ByteArray := prog_14_method_47_code
def yX12_melt : MethodName := ⟨RX12, "melt", "(I)I"⟩
abbrev cX12_bin : ByteArray := prog_14_method_48_code
def yX12_bin : MethodName := ⟨RX12, "bin", "(I)I"⟩
abbrev cX12_grams : ByteArray := prog_14_method_49_code
def yX12_grams : MethodName := ⟨RX12, "grams", "(I)I"⟩
abbrev cX12_bloom : ByteArray := prog_14_method_50_code
def yX12_bloom : MethodName := ⟨RX12, "bloom", "(IIIII)I"⟩
abbrev cX12_costOf : ByteArray := prog_14_method_51_code
def yX12_costOf : MethodName := ⟨RX12, "costOf", "(II)I"⟩
abbrev cX12_nextRow : ByteArray := prog_14_method_52_code
def yX12_nextRow : MethodName := ⟨RX12, "nextRow", "(I)Z"⟩
abbrev cX12_orders : ByteArray := prog_14_method_53_code
def yX12_orders : MethodName := ⟨RX12, "orders", "(IIII)I"⟩
abbrev cX12_isOf : ByteArray := prog_14_method_54_code
def yX12_isOf : MethodName := ⟨RX12, "isOf", "(II)Z"⟩
abbrev cX12_kind : ByteArray := prog_14_method_55_code
def yX12_kind : MethodName := ⟨RX12, "kind", "(I)I"⟩
abbrev cX12_as : ByteArray := prog_14_method_56_code
def yX12_as : MethodName := ⟨RX12, "as", "(II)I"⟩
abbrev cX12_began : ByteArray := prog_14_method_57_code
def yX12_began : MethodName := ⟨RX12, "began", "(I)V"⟩
abbrev cX12_fullSize : ByteArray := prog_14_method_58_code
def yX12_fullSize : MethodName := ⟨RX12, "fullSize", "(II)I"⟩
abbrev cX12_markOf : ByteArray := prog_14_method_59_code
def yX12_markOf : MethodName := ⟨RX12, "markOf", "(II)I"⟩
abbrev cX12_sizeOf : ByteArray := prog_14_method_60_code
def yX12_sizeOf : MethodName := ⟨RX12, "sizeOf", "(II)I"⟩
abbrev cX12_ask : ByteArray := prog_14_method_61_code
def yX12_ask : MethodName := ⟨RX12, "ask", "(II)I"⟩
abbrev cX12_trace : ByteArray := prog_14_method_62_code
def yX12_trace : MethodName := ⟨RX12, "trace", "(I)I"⟩
abbrev cX12_count : ByteArray := prog_14_method_63_code
def yX12_count : MethodName := ⟨RX12, "count", "(I)I"⟩
abbrev cX12_status : ByteArray := prog_14_method_64_code
def yX12_status : MethodName := ⟨RX12, "status", "()I"⟩
def RJx8e188 : String := "java/lang/Cloneable"
def TJx8e188 : u_T := fun k => match k with
  | _ => ("", "", "", false)
def tyJx8e188 : Nat → FieldType := fun k => match k with
  | _ => .int
theorem nmJx8e188 : ∀ a, a < 0 → ∀ b, b < 0 → a ≠ b → (TJx8e188 a).2.1 ≠ (TJx8e188 b).2.1 := by decide +kernel
theorem tyJx8e188_ok : ∀ k, k < 0 → parseFieldDescriptor (TJx8e188 k).2.2.1 = some (tyJx8e188 k) := by decide +kernel
def RJ6 : String := "java/lang/Integer"
def TJ6 : u_T := fun k => match k with
  | _ => ("", "", "", false)
def tyJ6 : Nat → FieldType := fun k => match k with
  | _ => .int
theorem nmJ6 : ∀ a, a < 0 → ∀ b, b < 0 → a ≠ b → (TJ6 a).2.1 ≠ (TJ6 b).2.1 := by decide +kernel
theorem tyJ6_ok : ∀ k, k < 0 → parseFieldDescriptor (TJ6 k).2.2.1 = some (tyJ6 k) := by decide +kernel
abbrev cJ6_compare_7cf53 : ByteArray := prog_16_method_40_code
def yJ6_compare_7cf53 : MethodName := ⟨RJ6, "compare", "(II)I"⟩
def RJ9 : String := "java/lang/Math"
def TJ9 : u_T := fun k => match k with
  | _ => ("", "", "", false)
def tyJ9 : Nat → FieldType := fun k => match k with
  | _ => .int
theorem nmJ9 : ∀ a, a < 0 → ∀ b, b < 0 → a ≠ b → (TJ9 a).2.1 ≠ (TJ9 b).2.1 := by decide +kernel
theorem tyJ9_ok : ∀ k, k < 0 → parseFieldDescriptor (TJ9 k).2.2.1 = some (tyJ9 k) := by decide +kernel
abbrev cJ9_max_7cf53 : ByteArray := prog_17_method_65_code
def yJ9_max_7cf53 : MethodName := ⟨RJ9, "max", "(II)I"⟩
abbrev cJ9_min_7cf53 : ByteArray := prog_17_method_69_code
def yJ9_min_7cf53 : MethodName := ⟨RJ9, "min", "(II)I"⟩
def RJ0 : String := "java/lang/String"
def TJ0 : u_T := fun k => match k with
  | _ => ("", "", "", false)
def tyJ0 : Nat → FieldType := fun k => match k with
  | _ => .int
theorem nmJ0 : ∀ a, a < 0 → ∀ b, b < 0 → a ≠ b → (TJ0 a).2.1 ≠ (TJ0 b).2.1 := by decide +kernel
theorem tyJ0_ok : ∀ k, k < 0 → parseFieldDescriptor (TJ0 k).2.2.1 = some (tyJ0 k) := by decide +kernel
abbrev cJ0_length_8abf5 : ByteArray := prog_18_method_54_code
def yJ0_length_8abf5 : MethodName := ⟨RJ0, "length", "()I"⟩
abbrev cJ0_charAt_5068e : ByteArray := prog_18_method_56_code
def yJ0_charAt_5068e : MethodName := ⟨RJ0, "charAt", "(I)C"⟩
abbrev cJ0_coder_7d493 : ByteArray := prog_18_method_152_code
def yJ0_coder_7d493 : MethodName := ⟨RJ0, "coder", "()B"⟩
abbrev cJ0_isLatin1_aae02 : ByteArray := prog_18_method_154_code
def yJ0_isLatin1_aae02 : MethodName := ⟨RJ0, "isLatin1", "()Z"⟩
abbrev cJ0_checkIndex_df160 : ByteArray := prog_18_method_155_code
def yJ0_checkIndex_df160 : MethodName := ⟨RJ0, "checkIndex", "(II)V"⟩
def RJ1 : String := "java/lang/StringLatin1"
def TJ1 : u_T := fun k => match k with
  | _ => ("", "", "", false)
def tyJ1 : Nat → FieldType := fun k => match k with
  | _ => .int
theorem nmJ1 : ∀ a, a < 0 → ∀ b, b < 0 → a ≠ b → (TJ1 a).2.1 ≠ (TJ1 b).2.1 := by decide +kernel
theorem tyJ1_ok : ∀ k, k < 0 → parseFieldDescriptor (TJ1 k).2.2.1 = some (tyJ1 k) := by decide +kernel
abbrev cJ1_charAt_3b067 : ByteArray := prog_19_method_2_code
def yJ1_charAt_3b067 : MethodName := ⟨RJ1, "charAt", "([BI)C"⟩
def RJ2 : String := "java/lang/StringUTF16"
def TJ2 : u_T := fun k => match k with
  | _ => ("", "", "", false)
def tyJ2 : Nat → FieldType := fun k => match k with
  | _ => .int
theorem nmJ2 : ∀ a, a < 0 → ∀ b, b < 0 → a ≠ b → (TJ2 a).2.1 ≠ (TJ2 b).2.1 := by decide +kernel
theorem tyJ2_ok : ∀ k, k < 0 → parseFieldDescriptor (TJ2 k).2.2.1 = some (tyJ2 k) := by decide +kernel
abbrev cJ2_getChar_3b067 : ByteArray := prog_20_method_5_code
def yJ2_getChar_3b067 : MethodName := ⟨RJ2, "getChar", "([BI)C"⟩
abbrev cJ2_length_9d52b : ByteArray := prog_20_method_6_code
def yJ2_length_9d52b : MethodName := ⟨RJ2, "length", "([B)I"⟩
abbrev cJ2_charAt_3b067 : ByteArray := prog_20_method_83_code
def yJ2_charAt_3b067 : MethodName := ⟨RJ2, "charAt", "([BI)C"⟩
abbrev cJ2_checkIndex_2214a : ByteArray := prog_20_method_91_code
def yJ2_checkIndex_2214a : MethodName := ⟨RJ2, "checkIndex", "(I[B)V"⟩
def RJ10 : String := "java/lang/System"
def TJ10 : u_T := fun k => match k with
  | _ => ("", "", "", false)
def tyJ10 : Nat → FieldType := fun k => match k with
  | _ => .int
theorem nmJ10 : ∀ a, a < 0 → ∀ b, b < 0 → a ≠ b → (TJ10 a).2.1 ≠ (TJ10 b).2.1 := by decide +kernel
theorem tyJ10_ok : ∀ k, k < 0 → parseFieldDescriptor (TJ10 k).2.2.1 = some (tyJ10 k) := by decide +kernel
def RJ3 : String := "jdk/internal/util/Preconditions"
def TJ3 : u_T := fun k => match k with
  | _ => ("", "", "", false)
def tyJ3 : Nat → FieldType := fun k => match k with
  | _ => .int
theorem nmJ3 : ∀ a, a < 0 → ∀ b, b < 0 → a ≠ b → (TJ3 a).2.1 ≠ (TJ3 b).2.1 := by decide +kernel
theorem tyJ3_ok : ∀ k, k < 0 → parseFieldDescriptor (TJ3 k).2.2.1 = some (tyJ3 k) := by decide +kernel
abbrev cJ3_checkIndex_8e157 : ByteArray := prog_22_method_11_code
def yJ3_checkIndex_8e157 : MethodName := ⟨RJ3, "checkIndex", "(IILjava/util/function/BiFunction;)I"⟩
def RL : String := "SweetLineLaw"
end
section
/-! the classes of the system, by number -/
def ox_cls : List vw_C := [(RX0, TX0, 7), (RX1, TX1, 7), (RX2, TX2, 6), (RX3, TX3, 6), (RX4, TX4, 2), (RX5, TX5, 8), (RX6, TX6, 5), (RX7, TX7, 7), (RX8, TX8, 4), (RX9, TX9, 5), (RX10, TX10, 6), (RX11, TX11, 13), (RX12, TX12, 59)]
def ox_ty (ci : Nat) : Nat → FieldType := match ci with
  | 0 => tyX0
  | 1 => tyX1
  | 2 => tyX2
  | 3 => tyX3
  | 4 => tyX4
  | 5 => tyX5
  | 6 => tyX6
  | 7 => tyX7
  | 8 => tyX8
  | 9 => tyX9
  | 10 => tyX10
  | 11 => tyX11
  | _ => tyX12
def ox_isr (t : FieldType) : Bool := match t with
  | .object _ => true
  | .array _ => true
  | _ => false
/-- the words of the tables that last -/
def ox_W : List Cond := lw_tbl.filter goodWord
theorem ox_Wt {w : Cond} (i : Nat) (h : tables_1[i]? = some w) (hg : goodWord w = true) : w ∈ ox_W := List.mem_filter.mpr ⟨List.mem_append_right _ (List.mem_of_getElem? h), hg⟩
theorem ox_Wp {w : Cond} (i : Nat) (h : (k2_sels lw_privs)[i]? = some w) (hg : goodWord w = true) : w ∈ ox_W := List.mem_filter.mpr ⟨List.mem_append_left _ (List.mem_of_getElem? h), hg⟩
theorem ox_Wg {w : Cond} (h : w ∈ ox_W) : goodWord w = true := (List.mem_filter.mp h).2
theorem ox_good {a b : Cond} (h : b ∈ ox_W) : GoodIn (a :: ox_W) (b :: ox_W) := by
  intro w hw
  have hw2 : w ∈ ox_W := by
    rcases List.mem_cons.mp hw with e | e
    · rw [e]; exact h
    · exact e
  exact ⟨List.mem_cons_of_mem _ hw2, good_of_word (ox_Wg hw2)⟩
theorem ox_goodT {b : Cond} (h : b ∈ ox_W) : GoodIn ox_W (b :: ox_W) := by
  intro w hw
  have hw2 : w ∈ ox_W := by
    rcases List.mem_cons.mp hw with e | e
    · rw [e]; exact h
    · exact e
  exact ⟨hw2, good_of_word (ox_Wg hw2)⟩
theorem ox_Wof {w : Cond} (h : w ∈ tables_1 ∧ goodWord w = true) : w ∈ ox_W := List.mem_filter.mpr ⟨List.mem_append_right _ h.1, h.2⟩
theorem ox_ly0 : ∀ w ∈ u_ws RX0 TX0 7, w ∈ tables_1 ∧ goodWord w = true := by decide +kernel
theorem ox_ly1 : ∀ w ∈ u_ws RX1 TX1 7, w ∈ tables_1 ∧ goodWord w = true := by decide +kernel
theorem ox_ly2 : ∀ w ∈ u_ws RX2 TX2 6, w ∈ tables_1 ∧ goodWord w = true := by decide +kernel
theorem ox_ly3 : ∀ w ∈ u_ws RX3 TX3 6, w ∈ tables_1 ∧ goodWord w = true := by decide +kernel
theorem ox_ly4 : ∀ w ∈ u_ws RX4 TX4 2, w ∈ tables_1 ∧ goodWord w = true := by decide +kernel
theorem ox_ly5 : ∀ w ∈ u_ws RX5 TX5 8, w ∈ tables_1 ∧ goodWord w = true := by decide +kernel
theorem ox_ly6 : ∀ w ∈ u_ws RX6 TX6 5, w ∈ tables_1 ∧ goodWord w = true := by decide +kernel
theorem ox_ly7 : ∀ w ∈ u_ws RX7 TX7 7, w ∈ tables_1 ∧ goodWord w = true := by decide +kernel
theorem ox_ly8 : ∀ w ∈ u_ws RX8 TX8 4, w ∈ tables_1 ∧ goodWord w = true := by decide +kernel
theorem ox_ly9 : ∀ w ∈ u_ws RX9 TX9 5, w ∈ tables_1 ∧ goodWord w = true := by decide +kernel
theorem ox_ly10 : ∀ w ∈ u_ws RX10 TX10 6, w ∈ tables_1 ∧ goodWord w = true := by decide +kernel
theorem ox_ly11 : ∀ w ∈ u_ws RX11 TX11 13, w ∈ tables_1 ∧ goodWord w = true := by decide +kernel
theorem ox_ly12 : ∀ w ∈ u_ws RX12 TX12 59, w ∈ tables_1 ∧ goodWord w = true := by decide +kernel
/-! the abstract heap: shapes, numbers, references -/
abbrev ox_HP : Type := List (Nat × Nat) × (Nat → Nat → Int32) × (Nat → Nat → Nat)
abbrev ox_R : Type := Option Value × ox_HP
abbrev ox_L : Type := List (Nat × Value)
abbrev ox_K : Type := ox_L → List Value → ox_HP → Option ox_R
abbrev ox_F : Type := List Value → ox_HP → Option ox_R
/-- the place: where the new cells begin, where the old ones are, the classes' numbers, the array classes' -/
abbrev ox_G : Type := Nat × (Nat → Nat) × va_G × (Nat → ClassId)
def ox_sh (h : ox_HP) (a : Nat) : Nat × Nat := h.1.getD a (9, 0)
def ox_n (h : ox_HP) : Nat := h.1.length
def ox_sl (q : Nat × Nat) : Nat := if q.1 = 0 then ((ox_cls[q.2]?).map (fun z => z.2.2)).getD 0 else q.2
def ox_t (h : ox_HP) : Nat := (h.1.map ox_sl).sum
def ox_le (h h2 : ox_HP) : Prop := ox_n h ≤ ox_n h2 ∧ ox_t h ≤ ox_t h2
theorem ox_le.rf {h : ox_HP} : ox_le h h := ⟨Nat.le_refl _, Nat.le_refl _⟩
theorem ox_le.tr {a b d : ox_HP} (h1 : ox_le a b) (h2 : ox_le b d) : ox_le a d := ⟨Nat.le_trans h1.1 h2.1, Nat.le_trans h1.2 h2.2⟩
def ox_wi (h : ox_HP) (a i : Nat) (x : Int32) : ox_HP := (h.1, va_up h.2.1 a (upd (h.2.1 a) i x), h.2.2)
def ox_wa (h : ox_HP) (a : Nat) (f : Nat → Int32) : ox_HP := (h.1, va_up h.2.1 a f, h.2.2)
def ox_wr (h : ox_HP) (a i r : Nat) : ox_HP := (h.1, h.2.1, va_up h.2.2 a (va_up (h.2.2 a) i r))
def ox_nw (h : ox_HP) (q : Nat × Nat) (f : Nat → Int32) : ox_HP := (h.1 ++ [q], va_up h.2.1 h.1.length f, va_up h.2.2 h.1.length (fun _ => 0))
def ox_ca (g : ox_G) (a : Nat) : Nat := if a < 16 then g.2.1 a else g.1 + (a - 16)
def ox_rv (g : ox_G) (r : Nat) : Value := if r = 0 then .null else .ref (ox_ca g r)
def ox_cv (g : ox_G) (v : Value) : Value := match v with
  | .ref a => .ref (ox_ca g a)
  | v => v
def ox_cl (g : ox_G) (lv : ox_L) : ox_L := lv.map (fun q => (q.1, ox_cv g q.2))
def ox_fv (g : ox_G) (h : ox_HP) (ci a k : Nat) : Value := if ox_isr (ox_ty ci k) = true then ox_rv g (h.2.2 a k) else .int (h.2.1 a k)
def ox_Cel (g : ox_G) (h : ox_HP) (a : Nat) (H : Heap) : Prop :=
  (∀ ci, ox_sh h a = (0, ci) → ∃ q, ox_cls[ci]? = some q ∧ t_OB (ox_ca g a) (g.2.2.1.1 ci) q.2.2 (g.2.2.1.2 ci) H (ox_fv g h ci a)) ∧
  (∀ d n, ox_sh h a = (d, n) → (d = 1 ∨ d = 2 ∨ d = 3) → H[ox_ca g a]? = some (arrV (g.2.2.2 d) n (fun i => .int (h.2.1 a i)))) ∧
  (∀ ci n, ox_sh h a = (10 + ci, n) → H[ox_ca g a]? = some (arrV (g.2.2.2 (10 + ci)) n (fun i => ox_rv g (h.2.2 a i))))
def ox_A (g : ox_G) : Nat → Prop := fun q => g.1 ≤ q
def ox_Ext (g : ox_G) (h : ox_HP) (a : Nat) (U : State) (H : Heap) : Prop :=
  (5 ≤ (ox_sh h a).1 ∧ (ox_sh h a).1 ≤ 9) ∧
  (∀ n, ox_sh h a = (5, n) → va_T .int (ox_ca g a) n (fun i => .int (h.2.1 a i)) (ox_A g) U H) ∧
  (∀ n, ox_sh h a = (7, n) → va_T .byte (ox_ca g a) n (fun i => .int (h.2.1 a i)) (ox_A g) U H) ∧
  (∀ b, ox_sh h a = (6, b) → va_O "java/lang/String" (ox_ca g a) (ox_A g) U H ∧ va_OF "java/lang/String" "coder" "B" (.int 0) (ox_ca g a) (ox_A g) U H ∧ va_OF "java/lang/String" "value" "[B" (.ref (ox_ca g b)) (ox_ca g a) (ox_A g) U H)
def ox_Pic (g : ox_G) (h : ox_HP) (U : State) (H : Heap) : Prop :=
  H.size + 16 = g.1 + ox_n h ∧ 16 ≤ ox_n h ∧ (∀ a, 16 ≤ a → a < ox_n h → ox_Cel g h a H) ∧ ∀ a, a < 16 → ox_Ext g h a U H
/-! what the tables say all the time -/
def ox_tys (g : ox_G) : List (ClassId × FieldType) := [(g.2.2.2 1, .int), (g.2.2.2 2, .byte), (g.2.2.2 3, .boolean), (g.2.2.2 10, .object RX0), (g.2.2.2 15, .object RX5), (g.2.2.2 16, .object RX6), (g.2.2.2 18, .object RX8), (g.2.2.2 19, .object RX9)]
def ox_sts : List (String × String × String × Nat) := [("SweetLine$Belt", "GEAR_AT_FIRST", "[I", 2), ("SweetLine$Belt", "GEAR_LEAST", "[I", 3), ("SweetLine$Belt", "GEAR_MOST", "[I", 4), ("SweetLine", "SIZE_BODY", "[I", 5), ("SweetLine", "MARK_BODY", "[I", 6)]
def ox_strs : List (String × Nat × String × Nat) := [("SweetLine$Book", 37, "recipe", 7), ("SweetLine$Book", 69, "warm", 8), ("SweetLine$Book", 71, "seed", 9)]
def ox_nst : List (String × Nat × MethodName × String) := [("SweetLine$Book", 9, ⟨"SweetLine$Tape", "<init>", "()V"⟩, "SweetLine"), ("SweetLine$Book", 22, ⟨"SweetLine$Recipe", "<init>", "()V"⟩, "SweetLine"), ("SweetLine", 24, ⟨"SweetLine$Heat", "<init>", "()V"⟩, "SweetLine"), ("SweetLine$Belt", 31, ⟨"SweetLine$Mould", "<init>", "()V"⟩, "SweetLine"), ("SweetLine$Bars", 19, ⟨"SweetLine$Bar", "<init>", "()V"⟩, "SweetLine"), ("SweetLine", 55, ⟨"SweetLine$Rows", "<init>", "()V"⟩, "SweetLine"), ("SweetLine", 63, ⟨"SweetLine$Sheet", "<init>", "()V"⟩, "SweetLine"), ("SweetLine", 64, ⟨"SweetLine$Tank", "<init>", "()V"⟩, "SweetLine"), ("SweetLine$Tank", 9, ⟨"SweetLine$Heat", "<init>", "()V"⟩, "SweetLine"), ("SweetLine$Book", 83, ⟨"SweetLine", "within", "(III)Z"⟩, "SweetLine"), ("SweetLine$Heat", 46, ⟨"SweetLine", "within", "(III)Z"⟩, "SweetLine")]
def ox_ovs : List String := [RX8, RX9, RX6, RX5, RX0]
def ox_Wd (g : ox_G) (U : State) (H : Heap) : Prop :=
  va_K g.2.2.1 ox_cls (ox_tys g) U ∧ (∀ q ∈ ox_sts, va_Z q.1 q.2.1 q.2.2.1 (.ref (ox_ca g q.2.2.2)) (ox_A g) U H) ∧ va_Z "java/lang/String" "COMPACT_STRINGS" "Z" (.int 1) (ox_A g) U H ∧
  (∀ q ∈ ox_strs, vk_R q.1 q.2.1 q.2.2.1 (ox_ca g q.2.2.2) U) ∧ (∀ q ∈ ox_nst, va_Nw (.methodLinkNest q.1 q.2.1 q.2.2.1 q.2.2.2) U) ∧ (∀ C ∈ ox_ovs, va_AO C U) ∧ va_Nw (.castable "[I" "java/lang/Cloneable") U

/-! moving and keeping -/
theorem ox_cat (g : ox_G) (v : Value) : (ox_cv g v).category = v.category := by cases v <;> rfl
theorem ox_Ext.moved {g : ox_G} {h : ox_HP} {a : Nat} {u U : State} {H : Heap} (hvm : u.vm.Alike U.vm) (q : ox_Ext g h a u H) : ox_Ext g h a U H :=
  ⟨q.1, fun n e => (q.2.1 n e).moved hvm, fun n e => (q.2.2.1 n e).moved hvm, fun b e => ⟨(q.2.2.2 b e).1.moved hvm, (q.2.2.2 b e).2.1.moved hvm, (q.2.2.2 b e).2.2.moved hvm⟩⟩
theorem ox_Pic.moved {g : ox_G} {h : ox_HP} {u U : State} {H : Heap} (hvm : u.vm.Alike U.vm) (q : ox_Pic g h u H) : ox_Pic g h U H :=
  ⟨q.1, q.2.1, q.2.2.1, fun a ha => (q.2.2.2 a ha).moved hvm⟩
theorem ox_Wd.warm {g : ox_G} {u U : State} {H H1 : Heap} (hW : u.WarmedH U.vm) (hq : ∀ a : Nat, a < H.size → ¬ ox_A g a → H1[a]? = H[a]?) (q : ox_Wd g u H) : ox_Wd g U H1 := by
  obtain ⟨h1, h2, h3, h4, h5, h6, h7⟩ := q
  exact ⟨va_K.moved hW.alike h1, fun z hz => ((h2 z hz).kept hq).moved hW.alike, (h3.kept hq).moved hW.alike, fun z hz => (h4 z hz).warm hW, fun z hz => (h5 z hz).warmM hW, fun z hz => (h6 z hz).moved hW.alike, h7.warmC hW⟩
theorem ox_Wd.same {g : ox_G} {u U : State} {H : Heap} (hv : u.vm = U.vm) (q : ox_Wd g u H) : ox_Wd g U H := by
  obtain ⟨h1, h2, h3, h4, h5, h6, h7⟩ := q
  have ha : u.vm.Alike U.vm := by rw [hv]; exact Vm.Alike.refl _
  exact ⟨va_K.moved ha h1, fun z hz => (h2 z hz).moved ha, h3.moved ha, fun z hz => vk_R.same hv.symm (h4 z hz), fun z hz => (h5 z hz).same rfl hv, fun z hz => (h6 z hz).moved ha, h7.same rfl hv⟩
theorem ox_sh_lt {h : ox_HP} {a d n : Nat} (e : ox_sh h a = (d, n)) (hd : d ≠ 9) : a < ox_n h := by
  rcases Nat.lt_or_ge a h.1.length with q | q
  · exact q
  · exfalso
    unfold ox_sh at e
    rw [List.getD_eq_getElem?_getD, List.getElem?_eq_none q] at e
    exact hd (congrArg Prod.fst e).symm
theorem ox_in {g : ox_G} {h : ox_HP} {U : State} {H : Heap} (hP : ox_Pic g h U H) {a d n : Nat} (e : ox_sh h a = (d, n)) (hd : d < 5 ∨ 9 < d) : 16 ≤ a ∧ a < ox_n h := by
  have hlt := ox_sh_lt e (by omega)
  refine ⟨?_, hlt⟩
  rcases Nat.lt_or_ge a 16 with q | q
  · have := (hP.2.2.2 a q).1
    rw [e] at this
    dsimp only at this
    omega
  · exact q
theorem ox_ca_in {g : ox_G} {a : Nat} (h : 16 ≤ a) : ox_ca g a = g.1 + (a - 16) := by unfold ox_ca; rw [if_neg (by omega)]
theorem ox_ca_ne {g : ox_G} {a b : Nat} (ha : 16 ≤ a) (hb : 16 ≤ b) (h : a ≠ b) : ox_ca g a ≠ ox_ca g b := by rw [ox_ca_in ha, ox_ca_in hb]; omega
theorem ox_Ext.kept {g : ox_G} {h h2 : ox_HP} {a : Nat} {U : State} {H H1 : Heap} (q : ox_Ext g h a U H) (hs : ox_sh h2 a = ox_sh h a) (hi : h2.2.1 a = h.2.1 a) (hq : ∀ b : Nat, b < H.size → ¬ ox_A g b → H1[b]? = H[b]?) : ox_Ext g h2 a U H1 := by
  unfold ox_Ext
  rw [hs, hi]
  exact ⟨q.1, fun n e => (q.2.1 n e).kept hq, fun n e => (q.2.2.1 n e).kept hq, fun b e => ⟨(q.2.2.2 b e).1.kept hq, (q.2.2.2 b e).2.1.kept hq, (q.2.2.2 b e).2.2.kept hq⟩⟩
theorem ox_Cel.kept {g : ox_G} {h h2 : ox_HP} {a : Nat} {H H1 : Heap} (q : ox_Cel g h a H) (hs : ox_sh h2 a = ox_sh h a) (hi : h2.2.1 a = h.2.1 a) (hr : h2.2.2 a = h.2.2 a) (hq : H1[ox_ca g a]? = H[ox_ca g a]?) : ox_Cel g h2 a H1 := by
  unfold ox_Cel ox_fv
  rw [hs, hi, hr, hq]
  refine ⟨fun ci e => ?_, q.2.1, q.2.2⟩
  obtain ⟨z, h1, h3⟩ := q.1 ci e
  exact ⟨z, h1, h3.kept hq⟩
/-- one cell is written -/
theorem ox_Pic.put {g : ox_G} {h h2 : ox_HP} {U : State} {H H1 : Heap} {a : Nat} (hP : ox_Pic g h U H) (ha : 16 ≤ a) (hs : h2.1 = h.1) (hi : ∀ b, b ≠ a → h2.2.1 b = h.2.1 b) (hr : ∀ b, b ≠ a → h2.2.2 b = h.2.2 b) (z : H1.size = H.size) (oq : ∀ q : Nat, q ≠ ox_ca g a → H1[q]? = H[q]?) (hc : ox_Cel g h2 a H1) : ox_Pic g h2 U H1 := by
  obtain ⟨p1, p2, p3, p4⟩ := hP
  have hn : ox_n h2 = ox_n h := by unfold ox_n; rw [hs]
  have hsh : ∀ b, ox_sh h2 b = ox_sh h b := fun b => by unfold ox_sh; rw [hs]
  refine ⟨by rw [z, hn]; exact p1, by rw [hn]; exact p2, fun b hb1 hb2 => ?_, fun b hb => ?_⟩
  · by_cases e : b = a
    · rw [e]; exact hc
    · exact (p3 b hb1 (by rw [← hn]; exact hb2)).kept (hsh b) (hi b e) (hr b e) (oq _ (ox_ca_ne hb1 ha e))
  · have e : b ≠ a := by omega
    refine (p4 b hb).kept (hsh b) (hi b e) (fun q _ h2 => oq q (fun e2 => h2 ?_))
    rw [e2, ox_ca_in ha]
    exact Nat.le_add_right _ _
theorem ox_sh_app {h : ox_HP} {q : Nat × Nat} {f : Nat → Int32} {b : Nat} (hb : b < ox_n h) : ox_sh (ox_nw h q f) b = ox_sh h b := by
  unfold ox_sh ox_nw
  rw [List.getD_eq_getElem?_getD, List.getD_eq_getElem?_getD]
  dsimp only
  rw [List.getElem?_append_left hb]
theorem ox_sh_new {h : ox_HP} {q : Nat × Nat} {f : Nat → Int32} : ox_sh (ox_nw h q f) (ox_n h) = q := by
  unfold ox_sh ox_nw ox_n
  rw [List.getD_eq_getElem?_getD]
  dsimp only
  rw [List.getElem?_append_right (Nat.le_refl _), Nat.sub_self]
  rfl
theorem ox_n_new {h : ox_HP} {q : Nat × Nat} {f : Nat → Int32} : ox_n (ox_nw h q f) = ox_n h + 1 := by simp [ox_n, ox_nw]
theorem ox_t_new {h : ox_HP} {q : Nat × Nat} {f : Nat → Int32} : ox_t (ox_nw h q f) = ox_t h + ox_sl q := by simp [ox_t, ox_nw]
/-- one cell is made -/
theorem ox_Pic.new {g : ox_G} {h : ox_HP} {q : Nat × Nat} {f : Nat → Int32} {U : State} {H H1 : Heap} (hP : ox_Pic g h U H) (z : H1.size = H.size + 1) (o1 : ∀ b : Nat, b < H.size → H1[b]? = H[b]?) (hc : ox_Cel g (ox_nw h q f) (ox_n h) H1) : ox_Pic g (ox_nw h q f) U H1 := by
  obtain ⟨p1, p2, p3, p4⟩ := hP
  refine ⟨by rw [z, ox_n_new]; omega, by rw [ox_n_new]; omega, fun b hb1 hb2 => ?_, fun b hb => ?_⟩
  · rw [ox_n_new] at hb2
    by_cases e : b = ox_n h
    · rw [e]; exact hc
    · have hb3 : b < ox_n h := by omega
      refine (p3 b hb1 hb3).kept (ox_sh_app hb3) (show va_up h.2.1 (ox_n h) f b = h.2.1 b from if_neg e) (show va_up h.2.2 (ox_n h) (fun _ => 0) b = h.2.2 b from if_neg e) (o1 _ ?_)
      rw [ox_ca_in hb1]
      omega
  · have e : b ≠ ox_n h := by omega
    exact (p4 b hb).kept (ox_sh_app (by omega)) (show va_up h.2.1 (ox_n h) f b = h.2.1 b from if_neg e) (fun q1 h1 _ => o1 q1 h1)
theorem ox_new_ca {g : ox_G} {h : ox_HP} {U : State} {H : Heap} (hP : ox_Pic g h U H) : ox_ca g (ox_n h) = H.size := by
  rw [ox_ca_in hP.2.1]
  have := hP.1
  have := hP.2.1
  omega
/-! locals -/
def ox_lk : ox_L → Nat → Option Value
  | [], _ => none
  | q :: t, i => if q.1 = i then some q.2 else ox_lk t i
def ox_kp (q : Nat × Value) (i : Nat) : Bool := !(q.1 == i) && !(q.1 + 1 == i && q.2.category == 2)
def ox_kp2 (q : Nat × Value) (i : Nat) : Bool := !(q.1 == i) && (!(q.1 == i + 1) && !(q.1 + 1 == i && q.2.category == 2))
def ox_st (i : Nat) (v : Value) (lv : ox_L) : ox_L := (i, v) :: lv.filter (fun q => ox_kp q i)
def ox_st2 (i : Nat) (v : Value) (lv : ox_L) : ox_L := (i, v) :: lv.filter (fun q => ox_kp2 q i)
theorem ox_lk_mem : ∀ {lv : ox_L} {i : Nat} {v : Value}, ox_lk lv i = some v → (i, v) ∈ lv
  | [], i, v, h => by cases h
  | q :: t, i, v, h => by
    unfold ox_lk at h
    split at h
    · next e => cases h; rw [← e]; exact List.mem_cons_self
    · exact List.mem_cons_of_mem _ (ox_lk_mem h)
theorem ox_lk_ls {g : ox_G} {lv : ox_L} {i nL : Nat} {v : Value} {ls : Array Slot} (hl : lv_has ls nL (ox_cl g lv)) (h : ox_lk lv i = some v) : ls[i]? = some (.val (ox_cv g v)) :=
  hl.2.2 (i, ox_cv g v) (List.mem_map.mpr ⟨(i, v), ox_lk_mem h, rfl⟩)
theorem ox_st_eq (g : ox_G) (i : Nat) (v : Value) (lv : ox_L) : (i, ox_cv g v) :: (ox_cl g lv).filter (fun q => !(q.1 == i) && !(q.1 + 1 == i && q.2.category == 2)) = ox_cl g (ox_st i v lv) := by
  unfold ox_st ox_cl
  rw [List.map_cons, List.filter_map]
  rw [show lv.filter ((fun q : Nat × Value => !(q.1 == i) && !(q.1 + 1 == i && q.2.category == 2)) ∘ fun q => (q.1, ox_cv g q.2)) = lv.filter (fun q => ox_kp q i) from List.filter_congr (fun q _ => by simp only [Function.comp, ox_cat, ox_kp])]
theorem ox_st2_eq (g : ox_G) (i : Nat) (v : Value) (lv : ox_L) : (i, ox_cv g v) :: (ox_cl g lv).filter (fun q => !(q.1 == i) && (!(q.1 == i + 1) && !(q.1 + 1 == i && q.2.category == 2))) = ox_cl g (ox_st2 i v lv) := by
  unfold ox_st2 ox_cl
  rw [List.map_cons, List.filter_map]
  rw [show lv.filter ((fun q : Nat × Value => !(q.1 == i) && (!(q.1 == i + 1) && !(q.1 + 1 == i && q.2.category == 2))) ∘ fun q => (q.1, ox_cv g q.2)) = lv.filter (fun q => ox_kp2 q i) from List.filter_congr (fun q _ => by simp only [Function.comp, ox_cat, ox_kp2])]

/-! soundness: at pc, with these locals, this stack and this heap, the machine comes where the shallow program says -/
def ox_Wn (p : Program) (l : Launch) (e : Env) (R : Room) (s : State) (m : MethodId) (args : Array Value) (below : List Frame) (meth : Method) (c : Code) (g : ox_G) (nL c0 t0 : Nat) (Qf : ox_R → State → Prop) (pc : Nat) (lv : ox_L) (st : List Value) (h : ox_HP) (r : ox_R) : Prop :=
  ∀ (H : Heap) (locs : List Loc) (ls : Array Slot), ox_Pic g h s H → va_S (ox_A g) s.heap H locs → lv_has ls nL (ox_cl g lv) → (c0 ≤ ox_n h ∧ t0 ≤ ox_t h ∧ ox_n r.2 ≤ R.cells + c0 ∧ ox_t r.2 ≤ R.slots + t0) → W p l e R s m args below meth c H locs (ox_n h - c0) (ox_t h - t0) (Qf r) (F0 m pc ls (st.map (ox_cv g)))
def ox_S (p : Program) (l : Launch) (e : Env) (R : Room) (s : State) (m : MethodId) (args : Array Value) (below : List Frame) (meth : Method) (c : Code) (g : ox_G) (nL c0 t0 : Nat) (Qf : ox_R → State → Prop) (pc : Nat) (k : ox_K) : Prop :=
  ∀ (lv : ox_L) (st : List Value) (h : ox_HP) (r : ox_R), k lv st h = some r → ox_le h r.2 ∧ ox_Wn p l e R s m args below meth c g nL c0 t0 Qf pc lv st h r
def ox_C (p : Program) (s : State) (m : MethodId) (args : Array Value) (c : Code) (g : ox_G) (nL : Nat) (cc : ByteArray) (own : String) : Prop :=
  p.tables.exec = Jvm.exec ∧ c.code = cc ∧ c.maxLocals = nL ∧ s.vm.findClass own = some m.cls ∧ (∀ w ∈ ox_W, w.before args s = true) ∧ ox_Wd g s s.heap
def ox_no : ox_K := fun _ _ _ => none
def ox_run (bs : Nat → (Nat → ox_K) → ox_K) : Nat → Nat → ox_K
  | 0, _ => ox_no
  | n + 1, b => bs b (ox_run bs n)
section OXS
variable {p : Program} {l : Launch} {e : Env} {R : Room} {s : State} {m : MethodId} {args : Array Value} {below : List Frame} {meth : Method} {c : Code}
variable {g : ox_G} {nL c0 t0 : Nat} {Qf : ox_R → State → Prop} {cc : ByteArray} {own : String} {pc : Nat} {k kt kf : ox_K}

theorem s_no : ox_S p l e R s m args below meth c g nL c0 t0 Qf pc ox_no := fun _ _ _ _ h => by cases h
theorem s_run {bs : Nat → (Nat → ox_K) → ox_K} (h : ∀ rc : Nat → ox_K, (∀ b, ox_S p l e R s m args below meth c g nL c0 t0 Qf b (rc b)) → ∀ b, ox_S p l e R s m args below meth c g nL c0 t0 Qf b (bs b rc)) : ∀ n b, ox_S p l e R s m args below meth c g nL c0 t0 Qf b (ox_run bs n b)
  | 0, b => s_no
  | n + 1, b => h _ (s_run h n) b
/-- at a join: only these locals go on -/
def o_keep (is : List Nat) (k : ox_K) : ox_K := fun lv st h => k (is.filterMap (fun i => (ox_lk lv i).map (fun v => (i, v)))) st h
theorem s_keep {is : List Nat} (hk : ox_S p l e R s m args below meth c g nL c0 t0 Qf pc k) : ox_S p l e R s m args below meth c g nL c0 t0 Qf pc (o_keep is k) := by
  intro lv st h r e
  obtain ⟨h1, h2⟩ := hk _ _ _ _ e
  refine ⟨h1, fun H locs ls a1 a2 a3 a4 => h2 H locs ls a1 a2 ⟨a3.1, a3.2.1, fun q hq => ?_⟩ a4⟩
  obtain ⟨z, hz, rfl⟩ := List.mem_map.mp hq
  obtain ⟨i, -, hi⟩ := List.mem_filterMap.mp hz
  cases hlk : ox_lk lv i with
  | none => rw [hlk] at hi; cases hi
  | some v =>
    rw [hlk] at hi
    cases hi
    exact ox_lk_ls a3 hlk
def o_ic (v : Int32) (k : ox_K) : ox_K := fun lv st h => k lv (.int v :: st) h
def o_lc (v : Int64) (k : ox_K) : ox_K := fun lv st h => k lv (.long v :: st) h
theorem s_iconst {n : Int} {v : Int32} (C : ox_C p s m args c g nL cc own) (d : decode cc pc = .ok (.iconst n, 1)) (hv : Int32.ofInt n = v) (hk : ox_S p l e R s m args below meth c g nL c0 t0 Qf (pc + 1) k) : ox_S p l e R s m args below meth c g nL c0 t0 Qf pc (o_ic v k) := by
  intro lv st h r e
  obtain ⟨h1, h2⟩ := hk _ _ _ _ e
  exact ⟨h1, fun H locs ls a1 a2 a3 a4 => lv_iconst C.1 C.2.1 d hv (h2 H locs ls a1 a2 a3 a4)⟩
theorem s_bipush {n : Int} {v : Int32} (C : ox_C p s m args c g nL cc own) (d : decode cc pc = .ok (.bipush n, 2)) (hv : (Int8.ofInt n).toInt32 = v) (hk : ox_S p l e R s m args below meth c g nL c0 t0 Qf (pc + 2) k) : ox_S p l e R s m args below meth c g nL c0 t0 Qf pc (o_ic v k) := by
  intro lv st h r e
  obtain ⟨h1, h2⟩ := hk _ _ _ _ e
  exact ⟨h1, fun H locs ls a1 a2 a3 a4 => lv_bipush C.1 C.2.1 d hv (h2 H locs ls a1 a2 a3 a4)⟩
theorem s_sipush {n : Int} {v : Int32} (C : ox_C p s m args c g nL cc own) (d : decode cc pc = .ok (.sipush n, 3)) (hv : (Int16.ofInt n).toInt32 = v) (hk : ox_S p l e R s m args below meth c g nL c0 t0 Qf (pc + 3) k) : ox_S p l e R s m args below meth c g nL c0 t0 Qf pc (o_ic v k) := by
  intro lv st h r e
  obtain ⟨h1, h2⟩ := hk _ _ _ _ e
  exact ⟨h1, fun H locs ls a1 a2 a3 a4 => lv_sipush C.1 C.2.1 d hv (h2 H locs ls a1 a2 a3 a4)⟩
theorem s_ldc {idx : Nat} {v : Int32} (C : ox_C p s m args c g nL cc own) (hw : Cond.constant own idx v ∈ ox_W) (d : decode cc pc = .ok (.ldc idx, 2)) (hk : ox_S p l e R s m args below meth c g nL c0 t0 Qf (pc + 2) k) : ox_S p l e R s m args below meth c g nL c0 t0 Qf pc (o_ic v k) := by
  intro lv st h r e
  obtain ⟨h1, h2⟩ := hk _ _ _ _ e
  exact ⟨h1, fun H locs ls a1 a2 a3 a4 => lv_ldc C.1 C.2.1 C.2.2.2.1 (C.2.2.2.2.1 _ hw) d (h2 H locs ls a1 a2 a3 a4)⟩
theorem s_ldcw {idx : Nat} {v : Int32} (C : ox_C p s m args c g nL cc own) (hw : Cond.constant own idx v ∈ ox_W) (d : decode cc pc = .ok (.ldc_w idx, 3)) (hk : ox_S p l e R s m args below meth c g nL c0 t0 Qf (pc + 3) k) : ox_S p l e R s m args below meth c g nL c0 t0 Qf pc (o_ic v k) := by
  intro lv st h r e
  obtain ⟨h1, h2⟩ := hk _ _ _ _ e
  exact ⟨h1, fun H locs ls a1 a2 a3 a4 => lv_ldcw C.1 C.2.1 C.2.2.2.1 (C.2.2.2.2.1 _ hw) d (h2 H locs ls a1 a2 a3 a4)⟩
theorem s_ldc2 {idx : Nat} {v : Int64} (C : ox_C p s m args c g nL cc own) (hw : Cond.constantLong own idx v ∈ ox_W) (d : decode cc pc = .ok (.ldc2_w idx, 3)) (hk : ox_S p l e R s m args below meth c g nL c0 t0 Qf (pc + 3) k) : ox_S p l e R s m args below meth c g nL c0 t0 Qf pc (o_lc v k) := by
  intro lv st h r e
  obtain ⟨h1, h2⟩ := hk _ _ _ _ e
  exact ⟨h1, fun H locs ls a1 a2 a3 a4 => W.ldc2 C.1 C.2.1 C.2.2.2.1 (C.2.2.2.2.1 _ hw) rfl d (h2 H locs ls a1 a2 a3 a4)⟩
theorem s_lconst {n : Fin 2} {v : Int64} (C : ox_C p s m args c g nL cc own) (d : decode cc pc = .ok (.lconst n, 1)) (hv : Int64.ofNat (n : Nat) = v) (hk : ox_S p l e R s m args below meth c g nL c0 t0 Qf (pc + 1) k) : ox_S p l e R s m args below meth c g nL c0 t0 Qf pc (o_lc v k) := by
  intro lv st h r e
  obtain ⟨h1, h2⟩ := hk _ _ _ _ e
  exact ⟨h1, fun H locs ls a1 a2 a3 a4 => lv_lconst C.1 C.2.1 d hv (h2 H locs ls a1 a2 a3 a4)⟩
def o_il (i : Nat) (k : ox_K) : ox_K := fun lv st h => match ox_lk lv i with
  | some (.int x) => k lv (.int x :: st) h
  | _ => none
def o_ll (i : Nat) (k : ox_K) : ox_K := fun lv st h => match ox_lk lv i with
  | some (.long x) => k lv (.long x :: st) h
  | _ => none
def o_al (i : Nat) (k : ox_K) : ox_K := fun lv st h => match ox_lk lv i with
  | some (.ref x) => k lv (.ref x :: st) h
  | _ => none
def o_is (i : Nat) (k : ox_K) : ox_K := fun lv st h => match st with
  | .int x :: st => k (ox_st i (.int x) lv) st h
  | _ => none
def o_ls (i : Nat) (k : ox_K) : ox_K := fun lv st h => match st with
  | .long x :: st => k (ox_st2 i (.long x) lv) st h
  | _ => none
def o_as (i : Nat) (k : ox_K) : ox_K := fun lv st h => match st with
  | .ref x :: st => k (ox_st i (.ref x) lv) st h
  | _ => none
def o_inc (i : Nat) (v : Int32) (k : ox_K) : ox_K := fun lv st h => match ox_lk lv i with
  | some (.int x) => k (ox_st i (.int (x + v)) lv) st h
  | _ => none
theorem s_iload_n {i : Fin 4} {j : Nat} (C : ox_C p s m args c g nL cc own) (d : decode cc pc = .ok (.iload_n i, 1)) (hi : (i : Nat) = j) (hk : ox_S p l e R s m args below meth c g nL c0 t0 Qf (pc + 1) k) : ox_S p l e R s m args below meth c g nL c0 t0 Qf pc (o_il j k) := by
  intro lv st h r e
  unfold o_il at e
  split at e
  · next x hx =>
    obtain ⟨h1, h2⟩ := hk _ _ _ _ e
    exact ⟨h1, fun H locs ls a1 a2 a3 a4 => lv_iload_n C.1 C.2.1 d hi (ox_lk_ls a3 hx) (h2 H locs ls a1 a2 a3 a4)⟩
  · cases e
theorem s_iload {j : Nat} (C : ox_C p s m args c g nL cc own) (d : decode cc pc = .ok (.iload j, 2)) (hk : ox_S p l e R s m args below meth c g nL c0 t0 Qf (pc + 2) k) : ox_S p l e R s m args below meth c g nL c0 t0 Qf pc (o_il j k) := by
  intro lv st h r e
  unfold o_il at e
  split at e
  · next x hx =>
    obtain ⟨h1, h2⟩ := hk _ _ _ _ e
    exact ⟨h1, fun H locs ls a1 a2 a3 a4 => lv_iload C.1 C.2.1 d (ox_lk_ls a3 hx) (h2 H locs ls a1 a2 a3 a4)⟩
  · cases e
theorem s_lload_n {i : Fin 4} {j : Nat} (C : ox_C p s m args c g nL cc own) (d : decode cc pc = .ok (.lload_n i, 1)) (hi : (i : Nat) = j) (hk : ox_S p l e R s m args below meth c g nL c0 t0 Qf (pc + 1) k) : ox_S p l e R s m args below meth c g nL c0 t0 Qf pc (o_ll j k) := by
  intro lv st h r e
  unfold o_ll at e
  split at e
  · next x hx =>
    obtain ⟨h1, h2⟩ := hk _ _ _ _ e
    exact ⟨h1, fun H locs ls a1 a2 a3 a4 => lv_lload_n C.1 C.2.1 d hi (ox_lk_ls a3 hx) (h2 H locs ls a1 a2 a3 a4)⟩
  · cases e
theorem s_lload {j : Nat} (C : ox_C p s m args c g nL cc own) (d : decode cc pc = .ok (.lload j, 2)) (hk : ox_S p l e R s m args below meth c g nL c0 t0 Qf (pc + 2) k) : ox_S p l e R s m args below meth c g nL c0 t0 Qf pc (o_ll j k) := by
  intro lv st h r e
  unfold o_ll at e
  split at e
  · next x hx =>
    obtain ⟨h1, h2⟩ := hk _ _ _ _ e
    exact ⟨h1, fun H locs ls a1 a2 a3 a4 => lv_lload C.1 C.2.1 d (ox_lk_ls a3 hx) (h2 H locs ls a1 a2 a3 a4)⟩
  · cases e
theorem s_aload_n {i : Fin 4} {j : Nat} (C : ox_C p s m args c g nL cc own) (d : decode cc pc = .ok (.aload_n i, 1)) (hi : (i : Nat) = j) (hk : ox_S p l e R s m args below meth c g nL c0 t0 Qf (pc + 1) k) : ox_S p l e R s m args below meth c g nL c0 t0 Qf pc (o_al j k) := by
  intro lv st h r e
  unfold o_al at e
  split at e
  · next x hx =>
    obtain ⟨h1, h2⟩ := hk _ _ _ _ e
    exact ⟨h1, fun H locs ls a1 a2 a3 a4 => lv_aload_n C.1 C.2.1 d hi (ox_lk_ls a3 hx) (h2 H locs ls a1 a2 a3 a4)⟩
  · cases e
theorem s_aload {j : Nat} (C : ox_C p s m args c g nL cc own) (d : decode cc pc = .ok (.aload j, 2)) (hk : ox_S p l e R s m args below meth c g nL c0 t0 Qf (pc + 2) k) : ox_S p l e R s m args below meth c g nL c0 t0 Qf pc (o_al j k) := by
  intro lv st h r e
  unfold o_al at e
  split at e
  · next x hx =>
    obtain ⟨h1, h2⟩ := hk _ _ _ _ e
    exact ⟨h1, fun H locs ls a1 a2 a3 a4 => lv_aload C.1 C.2.1 d (ox_lk_ls a3 hx) (h2 H locs ls a1 a2 a3 a4)⟩
  · cases e
theorem s_istore_n {i : Fin 4} {j : Nat} (C : ox_C p s m args c g nL cc own) (d : decode cc pc = .ok (.istore_n i, 1)) (hi : (i : Nat) = j) (hn : j < nL) (hk : ox_S p l e R s m args below meth c g nL c0 t0 Qf (pc + 1) k) : ox_S p l e R s m args below meth c g nL c0 t0 Qf pc (o_is j k) := by
  intro lv st h r e
  unfold o_is at e
  split at e
  · next x st2 =>
    obtain ⟨h1, h2⟩ := hk _ _ _ _ e
    exact ⟨h1, fun H locs ls a1 a2 a3 a4 => lv_istore_n C.1 C.2.1 d hi a3 hn (ox_st_eq g j (.int x) lv) (fun ls2 a5 => h2 H locs ls2 a1 a2 a5 a4)⟩
  · cases e
theorem s_istore {j : Nat} (C : ox_C p s m args c g nL cc own) (d : decode cc pc = .ok (.istore j, 2)) (hn : j < nL) (hk : ox_S p l e R s m args below meth c g nL c0 t0 Qf (pc + 2) k) : ox_S p l e R s m args below meth c g nL c0 t0 Qf pc (o_is j k) := by
  intro lv st h r e
  unfold o_is at e
  split at e
  · next x st2 =>
    obtain ⟨h1, h2⟩ := hk _ _ _ _ e
    exact ⟨h1, fun H locs ls a1 a2 a3 a4 => lv_istore C.1 C.2.1 d a3 hn (ox_st_eq g j (.int x) lv) (fun ls2 a5 => h2 H locs ls2 a1 a2 a5 a4)⟩
  · cases e
theorem s_lstore_n {i : Fin 4} {j : Nat} (C : ox_C p s m args c g nL cc own) (d : decode cc pc = .ok (.lstore_n i, 1)) (hi : (i : Nat) = j) (hn : j + 1 < nL) (hk : ox_S p l e R s m args below meth c g nL c0 t0 Qf (pc + 1) k) : ox_S p l e R s m args below meth c g nL c0 t0 Qf pc (o_ls j k) := by
  intro lv st h r e
  unfold o_ls at e
  split at e
  · next x st2 =>
    obtain ⟨h1, h2⟩ := hk _ _ _ _ e
    exact ⟨h1, fun H locs ls a1 a2 a3 a4 => lv_lstore_n C.1 C.2.1 d hi a3 hn (ox_st2_eq g j (.long x) lv) (fun ls2 a5 => h2 H locs ls2 a1 a2 a5 a4)⟩
  · cases e
theorem s_lstore {j : Nat} (C : ox_C p s m args c g nL cc own) (d : decode cc pc = .ok (.lstore j, 2)) (hn : j + 1 < nL) (hk : ox_S p l e R s m args below meth c g nL c0 t0 Qf (pc + 2) k) : ox_S p l e R s m args below meth c g nL c0 t0 Qf pc (o_ls j k) := by
  intro lv st h r e
  unfold o_ls at e
  split at e
  · next x st2 =>
    obtain ⟨h1, h2⟩ := hk _ _ _ _ e
    exact ⟨h1, fun H locs ls a1 a2 a3 a4 => lv_lstore C.1 C.2.1 d a3 hn (ox_st2_eq g j (.long x) lv) (fun ls2 a5 => h2 H locs ls2 a1 a2 a5 a4)⟩
  · cases e
theorem s_astore_n {i : Fin 4} {j : Nat} (C : ox_C p s m args c g nL cc own) (d : decode cc pc = .ok (.astore_n i, 1)) (hi : (i : Nat) = j) (hn : j < nL) (hk : ox_S p l e R s m args below meth c g nL c0 t0 Qf (pc + 1) k) : ox_S p l e R s m args below meth c g nL c0 t0 Qf pc (o_as j k) := by
  intro lv st h r e
  unfold o_as at e
  split at e
  · next x st2 =>
    obtain ⟨h1, h2⟩ := hk _ _ _ _ e
    exact ⟨h1, fun H locs ls a1 a2 a3 a4 => lv_astore_n C.1 C.2.1 d hi a3 hn (ox_st_eq g j (.ref x) lv) (fun ls2 a5 => h2 H locs ls2 a1 a2 a5 a4)⟩
  · cases e
theorem s_astore {j : Nat} (C : ox_C p s m args c g nL cc own) (d : decode cc pc = .ok (.astore j, 2)) (hn : j < nL) (hk : ox_S p l e R s m args below meth c g nL c0 t0 Qf (pc + 2) k) : ox_S p l e R s m args below meth c g nL c0 t0 Qf pc (o_as j k) := by
  intro lv st h r e
  unfold o_as at e
  split at e
  · next x st2 =>
    obtain ⟨h1, h2⟩ := hk _ _ _ _ e
    exact ⟨h1, fun H locs ls a1 a2 a3 a4 => lv_astore C.1 C.2.1 d a3 hn (ox_st_eq g j (.ref x) lv) (fun ls2 a5 => h2 H locs ls2 a1 a2 a5 a4)⟩
  · cases e
theorem s_iinc {j : Nat} {n : Int} {v : Int32} (C : ox_C p s m args c g nL cc own) (d : decode cc pc = .ok (.iinc j n, 3)) (hv : Int32.ofInt n = v) (hn : j < nL) (hk : ox_S p l e R s m args below meth c g nL c0 t0 Qf (pc + 3) k) : ox_S p l e R s m args below meth c g nL c0 t0 Qf pc (o_inc j v k) := by
  intro lv st h r e
  unfold o_inc at e
  split at e
  · next x hx =>
    obtain ⟨h1, h2⟩ := hk _ _ _ _ e
    refine ⟨h1, fun H locs ls a1 a2 a3 a4 => ?_⟩
    obtain ⟨z, hz⟩ := List.getElem?_of_mem (List.mem_map.mpr ⟨(j, Value.int x), ox_lk_mem hx, rfl⟩ : (j, Value.int x) ∈ ox_cl g lv)
    exact lv_iinc C.1 C.2.1 d a3 hz (by rw [hv]) hn (ox_st_eq g j (.int (x + v)) lv) (fun ls2 a5 => h2 H locs ls2 a1 a2 a5 a4)
  · cases e
def o_iadd (k : ox_K) : ox_K := fun lv st h => match st with
  | .int y :: .int x :: st => k lv (.int (x + y) :: st) h
  | _ => none
theorem s_iadd (C : ox_C p s m args c g nL cc own) (d : decode cc pc = .ok (.iadd, 1)) (hk : ox_S p l e R s m args below meth c g nL c0 t0 Qf (pc + 1) k) : ox_S p l e R s m args below meth c g nL c0 t0 Qf pc (o_iadd k) := by
  intro lv st h r e
  unfold o_iadd at e
  split at e
  · obtain ⟨h1, h2⟩ := hk _ _ _ _ e
    exact ⟨h1, fun H locs ls a1 a2 a3 a4 => lv_iadd C.1 C.2.1 d (h2 H locs ls a1 a2 a3 a4)⟩
  · cases e
def o_isub (k : ox_K) : ox_K := fun lv st h => match st with
  | .int y :: .int x :: st => k lv (.int (x - y) :: st) h
  | _ => none
theorem s_isub (C : ox_C p s m args c g nL cc own) (d : decode cc pc = .ok (.isub, 1)) (hk : ox_S p l e R s m args below meth c g nL c0 t0 Qf (pc + 1) k) : ox_S p l e R s m args below meth c g nL c0 t0 Qf pc (o_isub k) := by
  intro lv st h r e
  unfold o_isub at e
  split at e
  · obtain ⟨h1, h2⟩ := hk _ _ _ _ e
    exact ⟨h1, fun H locs ls a1 a2 a3 a4 => lv_isub C.1 C.2.1 d (h2 H locs ls a1 a2 a3 a4)⟩
  · cases e
def o_imul (k : ox_K) : ox_K := fun lv st h => match st with
  | .int y :: .int x :: st => k lv (.int (x * y) :: st) h
  | _ => none
theorem s_imul (C : ox_C p s m args c g nL cc own) (d : decode cc pc = .ok (.imul, 1)) (hk : ox_S p l e R s m args below meth c g nL c0 t0 Qf (pc + 1) k) : ox_S p l e R s m args below meth c g nL c0 t0 Qf pc (o_imul k) := by
  intro lv st h r e
  unfold o_imul at e
  split at e
  · obtain ⟨h1, h2⟩ := hk _ _ _ _ e
    exact ⟨h1, fun H locs ls a1 a2 a3 a4 => lv_imul C.1 C.2.1 d (h2 H locs ls a1 a2 a3 a4)⟩
  · cases e
def o_iand (k : ox_K) : ox_K := fun lv st h => match st with
  | .int y :: .int x :: st => k lv (.int (x &&& y) :: st) h
  | _ => none
theorem s_iand (C : ox_C p s m args c g nL cc own) (d : decode cc pc = .ok (.iand, 1)) (hk : ox_S p l e R s m args below meth c g nL c0 t0 Qf (pc + 1) k) : ox_S p l e R s m args below meth c g nL c0 t0 Qf pc (o_iand k) := by
  intro lv st h r e
  unfold o_iand at e
  split at e
  · obtain ⟨h1, h2⟩ := hk _ _ _ _ e
    exact ⟨h1, fun H locs ls a1 a2 a3 a4 => lv_iand C.1 C.2.1 d (h2 H locs ls a1 a2 a3 a4)⟩
  · cases e
def o_ior (k : ox_K) : ox_K := fun lv st h => match st with
  | .int y :: .int x :: st => k lv (.int (x ||| y) :: st) h
  | _ => none
theorem s_ior (C : ox_C p s m args c g nL cc own) (d : decode cc pc = .ok (.ior, 1)) (hk : ox_S p l e R s m args below meth c g nL c0 t0 Qf (pc + 1) k) : ox_S p l e R s m args below meth c g nL c0 t0 Qf pc (o_ior k) := by
  intro lv st h r e
  unfold o_ior at e
  split at e
  · obtain ⟨h1, h2⟩ := hk _ _ _ _ e
    exact ⟨h1, fun H locs ls a1 a2 a3 a4 => lv_ior C.1 C.2.1 d (h2 H locs ls a1 a2 a3 a4)⟩
  · cases e
def o_ixor (k : ox_K) : ox_K := fun lv st h => match st with
  | .int y :: .int x :: st => k lv (.int (x ^^^ y) :: st) h
  | _ => none
theorem s_ixor (C : ox_C p s m args c g nL cc own) (d : decode cc pc = .ok (.ixor, 1)) (hk : ox_S p l e R s m args below meth c g nL c0 t0 Qf (pc + 1) k) : ox_S p l e R s m args below meth c g nL c0 t0 Qf pc (o_ixor k) := by
  intro lv st h r e
  unfold o_ixor at e
  split at e
  · obtain ⟨h1, h2⟩ := hk _ _ _ _ e
    exact ⟨h1, fun H locs ls a1 a2 a3 a4 => lv_ixor C.1 C.2.1 d (h2 H locs ls a1 a2 a3 a4)⟩
  · cases e
def o_ishl (k : ox_K) : ox_K := fun lv st h => match st with
  | .int y :: .int x :: st => k lv (.int (x <<< (y &&& 31)) :: st) h
  | _ => none
theorem s_ishl (C : ox_C p s m args c g nL cc own) (d : decode cc pc = .ok (.ishl, 1)) (hk : ox_S p l e R s m args below meth c g nL c0 t0 Qf (pc + 1) k) : ox_S p l e R s m args below meth c g nL c0 t0 Qf pc (o_ishl k) := by
  intro lv st h r e
  unfold o_ishl at e
  split at e
  · obtain ⟨h1, h2⟩ := hk _ _ _ _ e
    exact ⟨h1, fun H locs ls a1 a2 a3 a4 => lv_ishl C.1 C.2.1 d (h2 H locs ls a1 a2 a3 a4)⟩
  · cases e
def o_ishr (k : ox_K) : ox_K := fun lv st h => match st with
  | .int y :: .int x :: st => k lv (.int (x >>> (y &&& 31)) :: st) h
  | _ => none
theorem s_ishr (C : ox_C p s m args c g nL cc own) (d : decode cc pc = .ok (.ishr, 1)) (hk : ox_S p l e R s m args below meth c g nL c0 t0 Qf (pc + 1) k) : ox_S p l e R s m args below meth c g nL c0 t0 Qf pc (o_ishr k) := by
  intro lv st h r e
  unfold o_ishr at e
  split at e
  · obtain ⟨h1, h2⟩ := hk _ _ _ _ e
    exact ⟨h1, fun H locs ls a1 a2 a3 a4 => lv_ishr C.1 C.2.1 d (h2 H locs ls a1 a2 a3 a4)⟩
  · cases e
def o_idiv (k : ox_K) : ox_K := fun lv st h => match st with
  | .int y :: .int x :: st => if y = 0 then none else k lv (.int (x / y) :: st) h
  | _ => none
theorem s_idiv (C : ox_C p s m args c g nL cc own) (d : decode cc pc = .ok (.idiv, 1)) (hk : ox_S p l e R s m args below meth c g nL c0 t0 Qf (pc + 1) k) : ox_S p l e R s m args below meth c g nL c0 t0 Qf pc (o_idiv k) := by
  intro lv st h r e
  unfold o_idiv at e
  split at e
  · split at e
    · cases e
    · next hy =>
      obtain ⟨h1, h2⟩ := hk _ _ _ _ e
      exact ⟨h1, fun H locs ls a1 a2 a3 a4 => lv_idiv C.1 C.2.1 d hy (h2 H locs ls a1 a2 a3 a4)⟩
  · cases e
def o_irem (k : ox_K) : ox_K := fun lv st h => match st with
  | .int y :: .int x :: st => if y = 0 then none else k lv (.int (x - x / y * y) :: st) h
  | _ => none
theorem s_irem (C : ox_C p s m args c g nL cc own) (d : decode cc pc = .ok (.irem, 1)) (hk : ox_S p l e R s m args below meth c g nL c0 t0 Qf (pc + 1) k) : ox_S p l e R s m args below meth c g nL c0 t0 Qf pc (o_irem k) := by
  intro lv st h r e
  unfold o_irem at e
  split at e
  · split at e
    · cases e
    · next hy =>
      obtain ⟨h1, h2⟩ := hk _ _ _ _ e
      exact ⟨h1, fun H locs ls a1 a2 a3 a4 => lv_irem C.1 C.2.1 d hy (h2 H locs ls a1 a2 a3 a4)⟩
  · cases e
def o_ladd (k : ox_K) : ox_K := fun lv st h => match st with
  | .long y :: .long x :: st => k lv (.long (x + y) :: st) h
  | _ => none
theorem s_ladd (C : ox_C p s m args c g nL cc own) (d : decode cc pc = .ok (.ladd, 1)) (hk : ox_S p l e R s m args below meth c g nL c0 t0 Qf (pc + 1) k) : ox_S p l e R s m args below meth c g nL c0 t0 Qf pc (o_ladd k) := by
  intro lv st h r e
  unfold o_ladd at e
  split at e
  · obtain ⟨h1, h2⟩ := hk _ _ _ _ e
    exact ⟨h1, fun H locs ls a1 a2 a3 a4 => lv_ladd C.1 C.2.1 d (h2 H locs ls a1 a2 a3 a4)⟩
  · cases e
def o_lmul (k : ox_K) : ox_K := fun lv st h => match st with
  | .long y :: .long x :: st => k lv (.long (x * y) :: st) h
  | _ => none
theorem s_lmul (C : ox_C p s m args c g nL cc own) (d : decode cc pc = .ok (.lmul, 1)) (hk : ox_S p l e R s m args below meth c g nL c0 t0 Qf (pc + 1) k) : ox_S p l e R s m args below meth c g nL c0 t0 Qf pc (o_lmul k) := by
  intro lv st h r e
  unfold o_lmul at e
  split at e
  · obtain ⟨h1, h2⟩ := hk _ _ _ _ e
    exact ⟨h1, fun H locs ls a1 a2 a3 a4 => lv_lmul C.1 C.2.1 d (h2 H locs ls a1 a2 a3 a4)⟩
  · cases e
def o_land (k : ox_K) : ox_K := fun lv st h => match st with
  | .long y :: .long x :: st => k lv (.long (x &&& y) :: st) h
  | _ => none
theorem s_land (C : ox_C p s m args c g nL cc own) (d : decode cc pc = .ok (.land, 1)) (hk : ox_S p l e R s m args below meth c g nL c0 t0 Qf (pc + 1) k) : ox_S p l e R s m args below meth c g nL c0 t0 Qf pc (o_land k) := by
  intro lv st h r e
  unfold o_land at e
  split at e
  · obtain ⟨h1, h2⟩ := hk _ _ _ _ e
    exact ⟨h1, fun H locs ls a1 a2 a3 a4 => lv_land C.1 C.2.1 d (h2 H locs ls a1 a2 a3 a4)⟩
  · cases e
def o_lor (k : ox_K) : ox_K := fun lv st h => match st with
  | .long y :: .long x :: st => k lv (.long (x ||| y) :: st) h
  | _ => none
theorem s_lor (C : ox_C p s m args c g nL cc own) (d : decode cc pc = .ok (.lor, 1)) (hk : ox_S p l e R s m args below meth c g nL c0 t0 Qf (pc + 1) k) : ox_S p l e R s m args below meth c g nL c0 t0 Qf pc (o_lor k) := by
  intro lv st h r e
  unfold o_lor at e
  split at e
  · obtain ⟨h1, h2⟩ := hk _ _ _ _ e
    exact ⟨h1, fun H locs ls a1 a2 a3 a4 => lv_lor C.1 C.2.1 d (h2 H locs ls a1 a2 a3 a4)⟩
  · cases e
def o_ldiv (k : ox_K) : ox_K := fun lv st h => match st with
  | .long y :: .long x :: st => if y = 0 then none else k lv (.long (x / y) :: st) h
  | _ => none
theorem s_ldiv (C : ox_C p s m args c g nL cc own) (d : decode cc pc = .ok (.ldiv, 1)) (hk : ox_S p l e R s m args below meth c g nL c0 t0 Qf (pc + 1) k) : ox_S p l e R s m args below meth c g nL c0 t0 Qf pc (o_ldiv k) := by
  intro lv st h r e
  unfold o_ldiv at e
  split at e
  · split at e
    · cases e
    · next hy =>
      obtain ⟨h1, h2⟩ := hk _ _ _ _ e
      exact ⟨h1, fun H locs ls a1 a2 a3 a4 => lv_ldiv C.1 C.2.1 d hy (h2 H locs ls a1 a2 a3 a4)⟩
  · cases e
def o_lcmp (k : ox_K) : ox_K := fun lv st h => match st with
  | .long y :: .long x :: st => k lv (.int (lg_cmp x y) :: st) h
  | _ => none
theorem s_lcmp (C : ox_C p s m args c g nL cc own) (d : decode cc pc = .ok (.lcmp, 1)) (hk : ox_S p l e R s m args below meth c g nL c0 t0 Qf (pc + 1) k) : ox_S p l e R s m args below meth c g nL c0 t0 Qf pc (o_lcmp k) := by
  intro lv st h r e
  unfold o_lcmp at e
  split at e
  · obtain ⟨h1, h2⟩ := hk _ _ _ _ e
    exact ⟨h1, fun H locs ls a1 a2 a3 a4 => W.lcmp C.1 C.2.1 d (h2 H locs ls a1 a2 a3 a4)⟩
  · cases e
def o_lshl (k : ox_K) : ox_K := fun lv st h => match st with
  | .int y :: .long x :: st => k lv (.long (x <<< (y.toInt64 &&& 63)) :: st) h
  | _ => none
theorem s_lshl (C : ox_C p s m args c g nL cc own) (d : decode cc pc = .ok (.lshl, 1)) (hk : ox_S p l e R s m args below meth c g nL c0 t0 Qf (pc + 1) k) : ox_S p l e R s m args below meth c g nL c0 t0 Qf pc (o_lshl k) := by
  intro lv st h r e
  unfold o_lshl at e
  split at e
  · obtain ⟨h1, h2⟩ := hk _ _ _ _ e
    exact ⟨h1, fun H locs ls a1 a2 a3 a4 => lv_lshl C.1 C.2.1 d rfl (h2 H locs ls a1 a2 a3 a4)⟩
  · cases e
def o_lshr (k : ox_K) : ox_K := fun lv st h => match st with
  | .int y :: .long x :: st => k lv (.long (x >>> (y.toInt64 &&& 63)) :: st) h
  | _ => none
theorem s_lshr (C : ox_C p s m args c g nL cc own) (d : decode cc pc = .ok (.lshr, 1)) (hk : ox_S p l e R s m args below meth c g nL c0 t0 Qf (pc + 1) k) : ox_S p l e R s m args below meth c g nL c0 t0 Qf pc (o_lshr k) := by
  intro lv st h r e
  unfold o_lshr at e
  split at e
  · obtain ⟨h1, h2⟩ := hk _ _ _ _ e
    exact ⟨h1, fun H locs ls a1 a2 a3 a4 => lv_lshr C.1 C.2.1 d rfl (h2 H locs ls a1 a2 a3 a4)⟩
  · cases e
def o_lushr (k : ox_K) : ox_K := fun lv st h => match st with
  | .int y :: .long x :: st => k lv (.long ((x.toUInt64 >>> (y.toInt64.toUInt64 &&& Int64.toUInt64 63)).toInt64) :: st) h
  | _ => none
theorem s_lushr (C : ox_C p s m args c g nL cc own) (d : decode cc pc = .ok (.lushr, 1)) (hk : ox_S p l e R s m args below meth c g nL c0 t0 Qf (pc + 1) k) : ox_S p l e R s m args below meth c g nL c0 t0 Qf pc (o_lushr k) := by
  intro lv st h r e
  unfold o_lushr at e
  split at e
  · obtain ⟨h1, h2⟩ := hk _ _ _ _ e
    exact ⟨h1, fun H locs ls a1 a2 a3 a4 => lv_lushr C.1 C.2.1 d rfl (h2 H locs ls a1 a2 a3 a4)⟩
  · cases e
def o_ineg (k : ox_K) : ox_K := fun lv st h => match st with
  | .int x :: st => k lv (.int (-x) :: st) h
  | _ => none
theorem s_ineg (C : ox_C p s m args c g nL cc own) (d : decode cc pc = .ok (.ineg, 1)) (hk : ox_S p l e R s m args below meth c g nL c0 t0 Qf (pc + 1) k) : ox_S p l e R s m args below meth c g nL c0 t0 Qf pc (o_ineg k) := by
  intro lv st h r e
  unfold o_ineg at e
  split at e
  · obtain ⟨h1, h2⟩ := hk _ _ _ _ e
    exact ⟨h1, fun H locs ls a1 a2 a3 a4 => lv_ineg C.1 C.2.1 d (h2 H locs ls a1 a2 a3 a4)⟩
  · cases e
def o_i2l (k : ox_K) : ox_K := fun lv st h => match st with
  | .int x :: st => k lv (.long (x.toInt64) :: st) h
  | _ => none
theorem s_i2l (C : ox_C p s m args c g nL cc own) (d : decode cc pc = .ok (.i2l, 1)) (hk : ox_S p l e R s m args below meth c g nL c0 t0 Qf (pc + 1) k) : ox_S p l e R s m args below meth c g nL c0 t0 Qf pc (o_i2l k) := by
  intro lv st h r e
  unfold o_i2l at e
  split at e
  · obtain ⟨h1, h2⟩ := hk _ _ _ _ e
    exact ⟨h1, fun H locs ls a1 a2 a3 a4 => lv_i2l C.1 C.2.1 d rfl (h2 H locs ls a1 a2 a3 a4)⟩
  · cases e
def o_l2i (k : ox_K) : ox_K := fun lv st h => match st with
  | .long x :: st => k lv (.int (x.toInt32) :: st) h
  | _ => none
theorem s_l2i (C : ox_C p s m args c g nL cc own) (d : decode cc pc = .ok (.l2i, 1)) (hk : ox_S p l e R s m args below meth c g nL c0 t0 Qf (pc + 1) k) : ox_S p l e R s m args below meth c g nL c0 t0 Qf pc (o_l2i k) := by
  intro lv st h r e
  unfold o_l2i at e
  split at e
  · obtain ⟨h1, h2⟩ := hk _ _ _ _ e
    exact ⟨h1, fun H locs ls a1 a2 a3 a4 => lv_l2i C.1 C.2.1 d rfl (h2 H locs ls a1 a2 a3 a4)⟩
  · cases e
def o_i2b (k : ox_K) : ox_K := fun lv st h => match st with
  | .int x :: st => k lv (.int (x.toInt8.toInt32) :: st) h
  | _ => none
theorem s_i2b (C : ox_C p s m args c g nL cc own) (d : decode cc pc = .ok (.i2b, 1)) (hk : ox_S p l e R s m args below meth c g nL c0 t0 Qf (pc + 1) k) : ox_S p l e R s m args below meth c g nL c0 t0 Qf pc (o_i2b k) := by
  intro lv st h r e
  unfold o_i2b at e
  split at e
  · obtain ⟨h1, h2⟩ := hk _ _ _ _ e
    exact ⟨h1, fun H locs ls a1 a2 a3 a4 => lv_i2b C.1 C.2.1 d rfl (h2 H locs ls a1 a2 a3 a4)⟩
  · cases e
def o_i2s (k : ox_K) : ox_K := fun lv st h => match st with
  | .int x :: st => k lv (.int (x.toInt16.toInt32) :: st) h
  | _ => none
theorem s_i2s (C : ox_C p s m args c g nL cc own) (d : decode cc pc = .ok (.i2s, 1)) (hk : ox_S p l e R s m args below meth c g nL c0 t0 Qf (pc + 1) k) : ox_S p l e R s m args below meth c g nL c0 t0 Qf pc (o_i2s k) := by
  intro lv st h r e
  unfold o_i2s at e
  split at e
  · obtain ⟨h1, h2⟩ := hk _ _ _ _ e
    exact ⟨h1, fun H locs ls a1 a2 a3 a4 => lv_i2s C.1 C.2.1 d rfl (h2 H locs ls a1 a2 a3 a4)⟩
  · cases e
def o_i2c (k : ox_K) : ox_K := fun lv st h => match st with
  | .int x :: st => k lv (.int ((x.toUInt32 % 65536).toInt32) :: st) h
  | _ => none
theorem s_i2c (C : ox_C p s m args c g nL cc own) (d : decode cc pc = .ok (.i2c, 1)) (hk : ox_S p l e R s m args below meth c g nL c0 t0 Qf (pc + 1) k) : ox_S p l e R s m args below meth c g nL c0 t0 Qf pc (o_i2c k) := by
  intro lv st h r e
  unfold o_i2c at e
  split at e
  · obtain ⟨h1, h2⟩ := hk _ _ _ _ e
    exact ⟨h1, fun H locs ls a1 a2 a3 a4 => lv_i2c C.1 C.2.1 d rfl (h2 H locs ls a1 a2 a3 a4)⟩
  · cases e
def o_dup (k : ox_K) : ox_K := fun lv st h => match st with
  | v :: st => if v.category = 1 then k lv (v :: v :: st) h else none
  | _ => none
theorem s_dup (C : ox_C p s m args c g nL cc own) (d : decode cc pc = .ok (.dup, 1)) (hk : ox_S p l e R s m args below meth c g nL c0 t0 Qf (pc + 1) k) : ox_S p l e R s m args below meth c g nL c0 t0 Qf pc (o_dup k) := by
  intro lv st h r e
  unfold o_dup at e
  split at e
  · split at e
    · next hv =>
      obtain ⟨h1, h2⟩ := hk _ _ _ _ e
      exact ⟨h1, fun H locs ls a1 a2 a3 a4 => lv_dup C.1 C.2.1 d ((ox_cat g _).trans hv) (h2 H locs ls a1 a2 a3 a4)⟩
    · cases e
  · cases e
def o_dup2 (k : ox_K) : ox_K := fun lv st h => match st with
  | v :: u :: st => if v.category = 1 ∧ u.category = 1 then k lv (v :: u :: v :: u :: st) h else none
  | _ => none
theorem s_dup2 (C : ox_C p s m args c g nL cc own) (d : decode cc pc = .ok (.dup2, 1)) (hk : ox_S p l e R s m args below meth c g nL c0 t0 Qf (pc + 1) k) : ox_S p l e R s m args below meth c g nL c0 t0 Qf pc (o_dup2 k) := by
  intro lv st h r e
  unfold o_dup2 at e
  split at e
  · split at e
    · next hv =>
      obtain ⟨h1, h2⟩ := hk _ _ _ _ e
      exact ⟨h1, fun H locs ls a1 a2 a3 a4 => lv_dup2_11 C.1 C.2.1 d ((ox_cat g _).trans hv.1) ((ox_cat g _).trans hv.2) (h2 H locs ls a1 a2 a3 a4)⟩
    · cases e
  · cases e
def o_pop (k : ox_K) : ox_K := fun lv st h => match st with
  | v :: st => if v.category = 1 then k lv st h else none
  | _ => none
theorem s_pop (C : ox_C p s m args c g nL cc own) (d : decode cc pc = .ok (.pop, 1)) (hk : ox_S p l e R s m args below meth c g nL c0 t0 Qf (pc + 1) k) : ox_S p l e R s m args below meth c g nL c0 t0 Qf pc (o_pop k) := by
  intro lv st h r e
  unfold o_pop at e
  split at e
  · split at e
    · next hv =>
      obtain ⟨h1, h2⟩ := hk _ _ _ _ e
      exact ⟨h1, fun H locs ls a1 a2 a3 a4 => lv_pop C.1 C.2.1 d ((ox_cat g _).trans hv) (h2 H locs ls a1 a2 a3 a4)⟩
    · cases e
  · cases e
def o_ifeq (kt kf : ox_K) : ox_K := fun lv st h => match st with
  | .int x :: st => if x = 0 then kt lv st h else kf lv st h
  | _ => none
theorem s_ifeq {off : Int} (tgt : Nat) (C : ox_C p s m args c g nL cc own) (d : decode cc pc = .ok (.ifCond .eq off, 3)) (ht : (pc : Int) + off = (tgt : Int)) (hk1 : ox_S p l e R s m args below meth c g nL c0 t0 Qf tgt kt) (hk2 : ox_S p l e R s m args below meth c g nL c0 t0 Qf (pc + 3) kf) : ox_S p l e R s m args below meth c g nL c0 t0 Qf pc (o_ifeq kt kf) := by
  intro lv st h r e
  unfold o_ifeq at e
  split at e
  · split at e
    · next hc =>
      obtain ⟨h1, h2⟩ := hk1 _ _ _ _ e
      exact ⟨h1, fun H locs ls a1 a2 a3 a4 => lv_if_eq C.1 C.2.1 d ht (fun q => h2 H locs ls a1 a2 a3 a4) (fun q => absurd hc q)⟩
    · next hc =>
      obtain ⟨h1, h2⟩ := hk2 _ _ _ _ e
      exact ⟨h1, fun H locs ls a1 a2 a3 a4 => lv_if_eq C.1 C.2.1 d ht (fun q => absurd q hc) (fun q => h2 H locs ls a1 a2 a3 a4)⟩
  · cases e
def o_iceq (kt kf : ox_K) : ox_K := fun lv st h => match st with
  | .int y :: .int x :: st => if x = y then kt lv st h else kf lv st h
  | _ => none
theorem s_icmpeq {off : Int} (tgt : Nat) (C : ox_C p s m args c g nL cc own) (d : decode cc pc = .ok (.if_icmp .eq off, 3)) (ht : (pc : Int) + off = (tgt : Int)) (hk1 : ox_S p l e R s m args below meth c g nL c0 t0 Qf tgt kt) (hk2 : ox_S p l e R s m args below meth c g nL c0 t0 Qf (pc + 3) kf) : ox_S p l e R s m args below meth c g nL c0 t0 Qf pc (o_iceq kt kf) := by
  intro lv st h r e
  unfold o_iceq at e
  split at e
  · split at e
    · next hc =>
      obtain ⟨h1, h2⟩ := hk1 _ _ _ _ e
      exact ⟨h1, fun H locs ls a1 a2 a3 a4 => lv_icmp_eq C.1 C.2.1 d ht (fun q => h2 H locs ls a1 a2 a3 a4) (fun q => absurd hc q)⟩
    · next hc =>
      obtain ⟨h1, h2⟩ := hk2 _ _ _ _ e
      exact ⟨h1, fun H locs ls a1 a2 a3 a4 => lv_icmp_eq C.1 C.2.1 d ht (fun q => absurd q hc) (fun q => h2 H locs ls a1 a2 a3 a4)⟩
  · cases e
def o_ifne (kt kf : ox_K) : ox_K := fun lv st h => match st with
  | .int x :: st => if x = 0 then kf lv st h else kt lv st h
  | _ => none
theorem s_ifne {off : Int} (tgt : Nat) (C : ox_C p s m args c g nL cc own) (d : decode cc pc = .ok (.ifCond .ne off, 3)) (ht : (pc : Int) + off = (tgt : Int)) (hk1 : ox_S p l e R s m args below meth c g nL c0 t0 Qf tgt kt) (hk2 : ox_S p l e R s m args below meth c g nL c0 t0 Qf (pc + 3) kf) : ox_S p l e R s m args below meth c g nL c0 t0 Qf pc (o_ifne kt kf) := by
  intro lv st h r e
  unfold o_ifne at e
  split at e
  · split at e
    · next hc =>
      obtain ⟨h1, h2⟩ := hk2 _ _ _ _ e
      exact ⟨h1, fun H locs ls a1 a2 a3 a4 => lv_if_ne C.1 C.2.1 d ht (fun q => absurd hc q) (fun q => h2 H locs ls a1 a2 a3 a4)⟩
    · next hc =>
      obtain ⟨h1, h2⟩ := hk1 _ _ _ _ e
      exact ⟨h1, fun H locs ls a1 a2 a3 a4 => lv_if_ne C.1 C.2.1 d ht (fun q => h2 H locs ls a1 a2 a3 a4) (fun q => absurd q hc)⟩
  · cases e
def o_icne (kt kf : ox_K) : ox_K := fun lv st h => match st with
  | .int y :: .int x :: st => if x = y then kf lv st h else kt lv st h
  | _ => none
theorem s_icmpne {off : Int} (tgt : Nat) (C : ox_C p s m args c g nL cc own) (d : decode cc pc = .ok (.if_icmp .ne off, 3)) (ht : (pc : Int) + off = (tgt : Int)) (hk1 : ox_S p l e R s m args below meth c g nL c0 t0 Qf tgt kt) (hk2 : ox_S p l e R s m args below meth c g nL c0 t0 Qf (pc + 3) kf) : ox_S p l e R s m args below meth c g nL c0 t0 Qf pc (o_icne kt kf) := by
  intro lv st h r e
  unfold o_icne at e
  split at e
  · split at e
    · next hc =>
      obtain ⟨h1, h2⟩ := hk2 _ _ _ _ e
      exact ⟨h1, fun H locs ls a1 a2 a3 a4 => lv_icmp_ne C.1 C.2.1 d ht (fun q => absurd hc q) (fun q => h2 H locs ls a1 a2 a3 a4)⟩
    · next hc =>
      obtain ⟨h1, h2⟩ := hk1 _ _ _ _ e
      exact ⟨h1, fun H locs ls a1 a2 a3 a4 => lv_icmp_ne C.1 C.2.1 d ht (fun q => h2 H locs ls a1 a2 a3 a4) (fun q => absurd q hc)⟩
  · cases e
def o_iflt (kt kf : ox_K) : ox_K := fun lv st h => match st with
  | .int x :: st => if x < 0 then kt lv st h else kf lv st h
  | _ => none
theorem s_iflt {off : Int} (tgt : Nat) (C : ox_C p s m args c g nL cc own) (d : decode cc pc = .ok (.ifCond .lt off, 3)) (ht : (pc : Int) + off = (tgt : Int)) (hk1 : ox_S p l e R s m args below meth c g nL c0 t0 Qf tgt kt) (hk2 : ox_S p l e R s m args below meth c g nL c0 t0 Qf (pc + 3) kf) : ox_S p l e R s m args below meth c g nL c0 t0 Qf pc (o_iflt kt kf) := by
  intro lv st h r e
  unfold o_iflt at e
  split at e
  · split at e
    · next hc =>
      obtain ⟨h1, h2⟩ := hk1 _ _ _ _ e
      exact ⟨h1, fun H locs ls a1 a2 a3 a4 => lv_if_lt C.1 C.2.1 d ht (fun q => h2 H locs ls a1 a2 a3 a4) (fun q => absurd hc q)⟩
    · next hc =>
      obtain ⟨h1, h2⟩ := hk2 _ _ _ _ e
      exact ⟨h1, fun H locs ls a1 a2 a3 a4 => lv_if_lt C.1 C.2.1 d ht (fun q => absurd q hc) (fun q => h2 H locs ls a1 a2 a3 a4)⟩
  · cases e
def o_iclt (kt kf : ox_K) : ox_K := fun lv st h => match st with
  | .int y :: .int x :: st => if x < y then kt lv st h else kf lv st h
  | _ => none
theorem s_icmplt {off : Int} (tgt : Nat) (C : ox_C p s m args c g nL cc own) (d : decode cc pc = .ok (.if_icmp .lt off, 3)) (ht : (pc : Int) + off = (tgt : Int)) (hk1 : ox_S p l e R s m args below meth c g nL c0 t0 Qf tgt kt) (hk2 : ox_S p l e R s m args below meth c g nL c0 t0 Qf (pc + 3) kf) : ox_S p l e R s m args below meth c g nL c0 t0 Qf pc (o_iclt kt kf) := by
  intro lv st h r e
  unfold o_iclt at e
  split at e
  · split at e
    · next hc =>
      obtain ⟨h1, h2⟩ := hk1 _ _ _ _ e
      exact ⟨h1, fun H locs ls a1 a2 a3 a4 => lv_icmp_lt C.1 C.2.1 d ht (fun q => h2 H locs ls a1 a2 a3 a4) (fun q => absurd hc q)⟩
    · next hc =>
      obtain ⟨h1, h2⟩ := hk2 _ _ _ _ e
      exact ⟨h1, fun H locs ls a1 a2 a3 a4 => lv_icmp_lt C.1 C.2.1 d ht (fun q => absurd q hc) (fun q => h2 H locs ls a1 a2 a3 a4)⟩
  · cases e
def o_ifge (kt kf : ox_K) : ox_K := fun lv st h => match st with
  | .int x :: st => if 0 ≤ x then kt lv st h else kf lv st h
  | _ => none
theorem s_ifge {off : Int} (tgt : Nat) (C : ox_C p s m args c g nL cc own) (d : decode cc pc = .ok (.ifCond .ge off, 3)) (ht : (pc : Int) + off = (tgt : Int)) (hk1 : ox_S p l e R s m args below meth c g nL c0 t0 Qf tgt kt) (hk2 : ox_S p l e R s m args below meth c g nL c0 t0 Qf (pc + 3) kf) : ox_S p l e R s m args below meth c g nL c0 t0 Qf pc (o_ifge kt kf) := by
  intro lv st h r e
  unfold o_ifge at e
  split at e
  · split at e
    · next hc =>
      obtain ⟨h1, h2⟩ := hk1 _ _ _ _ e
      exact ⟨h1, fun H locs ls a1 a2 a3 a4 => lv_if_ge C.1 C.2.1 d ht (fun q => h2 H locs ls a1 a2 a3 a4) (fun q => absurd hc q)⟩
    · next hc =>
      obtain ⟨h1, h2⟩ := hk2 _ _ _ _ e
      exact ⟨h1, fun H locs ls a1 a2 a3 a4 => lv_if_ge C.1 C.2.1 d ht (fun q => absurd q hc) (fun q => h2 H locs ls a1 a2 a3 a4)⟩
  · cases e
def o_icge (kt kf : ox_K) : ox_K := fun lv st h => match st with
  | .int y :: .int x :: st => if y ≤ x then kt lv st h else kf lv st h
  | _ => none
theorem s_icmpge {off : Int} (tgt : Nat) (C : ox_C p s m args c g nL cc own) (d : decode cc pc = .ok (.if_icmp .ge off, 3)) (ht : (pc : Int) + off = (tgt : Int)) (hk1 : ox_S p l e R s m args below meth c g nL c0 t0 Qf tgt kt) (hk2 : ox_S p l e R s m args below meth c g nL c0 t0 Qf (pc + 3) kf) : ox_S p l e R s m args below meth c g nL c0 t0 Qf pc (o_icge kt kf) := by
  intro lv st h r e
  unfold o_icge at e
  split at e
  · split at e
    · next hc =>
      obtain ⟨h1, h2⟩ := hk1 _ _ _ _ e
      exact ⟨h1, fun H locs ls a1 a2 a3 a4 => lv_icmp_ge C.1 C.2.1 d ht (fun q => h2 H locs ls a1 a2 a3 a4) (fun q => absurd hc q)⟩
    · next hc =>
      obtain ⟨h1, h2⟩ := hk2 _ _ _ _ e
      exact ⟨h1, fun H locs ls a1 a2 a3 a4 => lv_icmp_ge C.1 C.2.1 d ht (fun q => absurd q hc) (fun q => h2 H locs ls a1 a2 a3 a4)⟩
  · cases e
def o_ifgt (kt kf : ox_K) : ox_K := fun lv st h => match st with
  | .int x :: st => if 0 < x then kt lv st h else kf lv st h
  | _ => none
theorem s_ifgt {off : Int} (tgt : Nat) (C : ox_C p s m args c g nL cc own) (d : decode cc pc = .ok (.ifCond .gt off, 3)) (ht : (pc : Int) + off = (tgt : Int)) (hk1 : ox_S p l e R s m args below meth c g nL c0 t0 Qf tgt kt) (hk2 : ox_S p l e R s m args below meth c g nL c0 t0 Qf (pc + 3) kf) : ox_S p l e R s m args below meth c g nL c0 t0 Qf pc (o_ifgt kt kf) := by
  intro lv st h r e
  unfold o_ifgt at e
  split at e
  · split at e
    · next hc =>
      obtain ⟨h1, h2⟩ := hk1 _ _ _ _ e
      exact ⟨h1, fun H locs ls a1 a2 a3 a4 => lv_if_gt C.1 C.2.1 d ht (fun q => h2 H locs ls a1 a2 a3 a4) (fun q => absurd hc q)⟩
    · next hc =>
      obtain ⟨h1, h2⟩ := hk2 _ _ _ _ e
      exact ⟨h1, fun H locs ls a1 a2 a3 a4 => lv_if_gt C.1 C.2.1 d ht (fun q => absurd q hc) (fun q => h2 H locs ls a1 a2 a3 a4)⟩
  · cases e
def o_icgt (kt kf : ox_K) : ox_K := fun lv st h => match st with
  | .int y :: .int x :: st => if y < x then kt lv st h else kf lv st h
  | _ => none
theorem s_icmpgt {off : Int} (tgt : Nat) (C : ox_C p s m args c g nL cc own) (d : decode cc pc = .ok (.if_icmp .gt off, 3)) (ht : (pc : Int) + off = (tgt : Int)) (hk1 : ox_S p l e R s m args below meth c g nL c0 t0 Qf tgt kt) (hk2 : ox_S p l e R s m args below meth c g nL c0 t0 Qf (pc + 3) kf) : ox_S p l e R s m args below meth c g nL c0 t0 Qf pc (o_icgt kt kf) := by
  intro lv st h r e
  unfold o_icgt at e
  split at e
  · split at e
    · next hc =>
      obtain ⟨h1, h2⟩ := hk1 _ _ _ _ e
      exact ⟨h1, fun H locs ls a1 a2 a3 a4 => lv_icmp_gt C.1 C.2.1 d ht (fun q => h2 H locs ls a1 a2 a3 a4) (fun q => absurd hc q)⟩
    · next hc =>
      obtain ⟨h1, h2⟩ := hk2 _ _ _ _ e
      exact ⟨h1, fun H locs ls a1 a2 a3 a4 => lv_icmp_gt C.1 C.2.1 d ht (fun q => absurd q hc) (fun q => h2 H locs ls a1 a2 a3 a4)⟩
  · cases e
def o_ifle (kt kf : ox_K) : ox_K := fun lv st h => match st with
  | .int x :: st => if x ≤ 0 then kt lv st h else kf lv st h
  | _ => none
theorem s_ifle {off : Int} (tgt : Nat) (C : ox_C p s m args c g nL cc own) (d : decode cc pc = .ok (.ifCond .le off, 3)) (ht : (pc : Int) + off = (tgt : Int)) (hk1 : ox_S p l e R s m args below meth c g nL c0 t0 Qf tgt kt) (hk2 : ox_S p l e R s m args below meth c g nL c0 t0 Qf (pc + 3) kf) : ox_S p l e R s m args below meth c g nL c0 t0 Qf pc (o_ifle kt kf) := by
  intro lv st h r e
  unfold o_ifle at e
  split at e
  · split at e
    · next hc =>
      obtain ⟨h1, h2⟩ := hk1 _ _ _ _ e
      exact ⟨h1, fun H locs ls a1 a2 a3 a4 => lv_if_le C.1 C.2.1 d ht (fun q => h2 H locs ls a1 a2 a3 a4) (fun q => absurd hc q)⟩
    · next hc =>
      obtain ⟨h1, h2⟩ := hk2 _ _ _ _ e
      exact ⟨h1, fun H locs ls a1 a2 a3 a4 => lv_if_le C.1 C.2.1 d ht (fun q => absurd q hc) (fun q => h2 H locs ls a1 a2 a3 a4)⟩
  · cases e
def o_icle (kt kf : ox_K) : ox_K := fun lv st h => match st with
  | .int y :: .int x :: st => if x ≤ y then kt lv st h else kf lv st h
  | _ => none
theorem s_icmple {off : Int} (tgt : Nat) (C : ox_C p s m args c g nL cc own) (d : decode cc pc = .ok (.if_icmp .le off, 3)) (ht : (pc : Int) + off = (tgt : Int)) (hk1 : ox_S p l e R s m args below meth c g nL c0 t0 Qf tgt kt) (hk2 : ox_S p l e R s m args below meth c g nL c0 t0 Qf (pc + 3) kf) : ox_S p l e R s m args below meth c g nL c0 t0 Qf pc (o_icle kt kf) := by
  intro lv st h r e
  unfold o_icle at e
  split at e
  · split at e
    · next hc =>
      obtain ⟨h1, h2⟩ := hk1 _ _ _ _ e
      exact ⟨h1, fun H locs ls a1 a2 a3 a4 => lv_icmp_le C.1 C.2.1 d ht (fun q => h2 H locs ls a1 a2 a3 a4) (fun q => absurd hc q)⟩
    · next hc =>
      obtain ⟨h1, h2⟩ := hk2 _ _ _ _ e
      exact ⟨h1, fun H locs ls a1 a2 a3 a4 => lv_icmp_le C.1 C.2.1 d ht (fun q => absurd q hc) (fun q => h2 H locs ls a1 a2 a3 a4)⟩
  · cases e
theorem s_goto {off : Int} (tgt : Nat) (C : ox_C p s m args c g nL cc own) (d : decode cc pc = .ok (.goto off, 3)) (ht : (pc : Int) + off = (tgt : Int)) (hk : ox_S p l e R s m args below meth c g nL c0 t0 Qf tgt k) : ox_S p l e R s m args below meth c g nL c0 t0 Qf pc k := by
  intro lv st h r e
  obtain ⟨h1, h2⟩ := hk _ _ _ _ e
  exact ⟨h1, fun H locs ls a1 a2 a3 a4 => lv_goto C.1 C.2.1 d ht (h2 H locs ls a1 a2 a3 a4)⟩
def o_tsw (lo : Int) (ks : List ox_K) (kd : ox_K) : ox_K := fun lv st h => match st with
  | .int x :: st => if x.toInt < lo ∨ lo + (ks.length : Int) ≤ x.toInt then kd lv st h else (ks.getD (x.toInt - lo).toNat ox_no) lv st h
  | _ => none
theorem s_tsw {dflt lo hi : Int} {offs : Array Int} {len : Nat} {ks : List ox_K} {kd : ox_K} (td : Nat) (ts : List Nat) (C : ox_C p s m args c g nL cc own) (d : decode cc pc = .ok (.tableswitch dflt lo hi offs, len)) (hd : (pc : Int) + dflt = (td : Int)) (hh : hi + 1 = lo + (ks.length : Int)) (ho : offs.toList = ts.map (fun t : Nat => (t : Int) - (pc : Int))) (hkd : ox_S p l e R s m args below meth c g nL c0 t0 Qf td kd) (hks : ∀ (i t : Nat) (k : ox_K), ts[i]? = some t → ks[i]? = some k → ox_S p l e R s m args below meth c g nL c0 t0 Qf t k) (hn : ts.length = ks.length) : ox_S p l e R s m args below meth c g nL c0 t0 Qf pc (o_tsw lo ks kd) := by
  intro lv st h r e
  unfold o_tsw at e
  split at e
  · next x st2 =>
    split at e
    · next hc =>
      obtain ⟨h1, h2⟩ := hkd _ _ _ _ e
      exact ⟨h1, fun H locs ls a1 a2 a3 a4 => lv_tableOut C.1 C.2.1 d (by omega) hd (h2 H locs ls a1 a2 a3 a4)⟩
    · next hc =>
      have hi : (x.toInt - lo).toNat < ks.length := by omega
      obtain ⟨k1, hk1⟩ : ∃ k1, ks[(x.toInt - lo).toNat]? = some k1 := ⟨_, List.getElem?_eq_getElem hi⟩
      obtain ⟨t1, ht1⟩ : ∃ t1, ts[(x.toInt - lo).toNat]? = some t1 := ⟨_, List.getElem?_eq_getElem (by rw [hn]; exact hi)⟩
      rw [List.getD_eq_getElem?_getD, hk1] at e
      obtain ⟨h1, h2⟩ := hks _ _ _ ht1 hk1 _ _ _ _ e
      refine ⟨h1, fun H locs ls a1 a2 a3 a4 => lv_tableIn (off := (t1 : Int) - (pc : Int)) (tgt := t1) C.1 C.2.1 d (by omega) (by omega) ?_ (by omega) (h2 H locs ls a1 a2 a3 a4)⟩
      rw [← Array.getElem?_toList, ho, List.getElem?_map, ht1]
      rfl
  · cases e
theorem ox_cok1 {ci k : Nat} {q : vw_C} (hq : ox_cls[ci]? = some q) (hk : k < q.2.2) : parseFieldDescriptor (q.2.1 k).2.2.1 = some (ox_ty ci k) := by
  match ci, hq with
  | 0, hq => cases hq; exact tyX0_ok k hk
  | 1, hq => cases hq; exact tyX1_ok k hk
  | 2, hq => cases hq; exact tyX2_ok k hk
  | 3, hq => cases hq; exact tyX3_ok k hk
  | 4, hq => cases hq; exact tyX4_ok k hk
  | 5, hq => cases hq; exact tyX5_ok k hk
  | 6, hq => cases hq; exact tyX6_ok k hk
  | 7, hq => cases hq; exact tyX7_ok k hk
  | 8, hq => cases hq; exact tyX8_ok k hk
  | 9, hq => cases hq; exact tyX9_ok k hk
  | 10, hq => cases hq; exact tyX10_ok k hk
  | 11, hq => cases hq; exact tyX11_ok k hk
  | 12, hq => cases hq; exact tyX12_ok k hk
  | n + 13, hq => simp [ox_cls] at hq
theorem ox_cok2 {ci : Nat} {q : vw_C} (hq : ox_cls[ci]? = some q) : ∀ a, a < q.2.2 → ∀ b, b < q.2.2 → a ≠ b → (q.2.1 a).2.1 ≠ (q.2.1 b).2.1 := by
  match ci, hq with
  | 0, hq => cases hq; exact nmX0
  | 1, hq => cases hq; exact nmX1
  | 2, hq => cases hq; exact nmX2
  | 3, hq => cases hq; exact nmX3
  | 4, hq => cases hq; exact nmX4
  | 5, hq => cases hq; exact nmX5
  | 6, hq => cases hq; exact nmX6
  | 7, hq => cases hq; exact nmX7
  | 8, hq => cases hq; exact nmX8
  | 9, hq => cases hq; exact nmX9
  | 10, hq => cases hq; exact nmX10
  | 11, hq => cases hq; exact nmX11
  | 12, hq => cases hq; exact nmX12
  | n + 13, hq => simp [ox_cls] at hq
theorem ox_obj {h : ox_HP} {U : State} {H : Heap} (hP : ox_Pic g h U H) {a ci : Nat} (e : ox_sh h a = (0, ci)) : 16 ≤ a ∧ a < ox_n h ∧ ∃ q, ox_cls[ci]? = some q ∧ t_OB (ox_ca g a) (g.2.2.1.1 ci) q.2.2 (g.2.2.1.2 ci) H (ox_fv g h ci a) := by
  obtain ⟨h1, h2⟩ := ox_in hP e (by omega)
  exact ⟨h1, h2, (hP.2.2.1 a h1 h2).1 ci e⟩
theorem ox_arr {h : ox_HP} {U : State} {H : Heap} (hP : ox_Pic g h U H) {a d n : Nat} (e : ox_sh h a = (d, n)) (hd : d = 1 ∨ d = 2 ∨ d = 3) : 16 ≤ a ∧ a < ox_n h ∧ H[ox_ca g a]? = some (arrV (g.2.2.2 d) n (fun i => .int (h.2.1 a i))) := by
  obtain ⟨h1, h2⟩ := ox_in hP e (by omega)
  exact ⟨h1, h2, (hP.2.2.1 a h1 h2).2.1 d n e hd⟩
theorem ox_rar {h : ox_HP} {U : State} {H : Heap} (hP : ox_Pic g h U H) {a ci n : Nat} (e : ox_sh h a = (10 + ci, n)) : 16 ≤ a ∧ a < ox_n h ∧ H[ox_ca g a]? = some (arrV (g.2.2.2 (10 + ci)) n (fun i => ox_rv g (h.2.2 a i))) := by
  obtain ⟨h1, h2⟩ := ox_in hP e (by omega)
  exact ⟨h1, h2, (hP.2.2.1 a h1 h2).2.2 ci n e⟩
/-- every class's rows of the tables -/
theorem ox_lays {ci : Nat} {q : vw_C} (hq : ox_cls[ci]? = some q) : ∀ w ∈ u_ws q.1 q.2.1 q.2.2, w ∈ ox_W := by
  match ci, hq with
  | 0, hq => cases hq; exact fun w h => ox_Wof (ox_ly0 w h)
  | 1, hq => cases hq; exact fun w h => ox_Wof (ox_ly1 w h)
  | 2, hq => cases hq; exact fun w h => ox_Wof (ox_ly2 w h)
  | 3, hq => cases hq; exact fun w h => ox_Wof (ox_ly3 w h)
  | 4, hq => cases hq; exact fun w h => ox_Wof (ox_ly4 w h)
  | 5, hq => cases hq; exact fun w h => ox_Wof (ox_ly5 w h)
  | 6, hq => cases hq; exact fun w h => ox_Wof (ox_ly6 w h)
  | 7, hq => cases hq; exact fun w h => ox_Wof (ox_ly7 w h)
  | 8, hq => cases hq; exact fun w h => ox_Wof (ox_ly8 w h)
  | 9, hq => cases hq; exact fun w h => ox_Wof (ox_ly9 w h)
  | 10, hq => cases hq; exact fun w h => ox_Wof (ox_ly10 w h)
  | 11, hq => cases hq; exact fun w h => ox_Wof (ox_ly11 w h)
  | 12, hq => cases hq; exact fun w h => ox_Wof (ox_ly12 w h)
  | n + 13, hq => simp [ox_cls] at hq
def o_geti (ci j : Nat) (k : ox_K) : ox_K := fun lv st h => match st with
  | .ref a :: st => if ox_sh h a = (0, ci) then k lv (.int (h.2.1 a j) :: st) h else none
  | _ => none
def o_getr (ci j : Nat) (k : ox_K) : ox_K := fun lv st h => match st with
  | .ref a :: st => if ox_sh h a = (0, ci) then (if h.2.2 a j = 0 then none else k lv (.ref (h.2.2 a j) :: st) h) else none
  | _ => none
theorem ox_getf {ci j idx : Nat} {q : vw_C} (C : ox_C p s m args c g nL cc own) (hq : ox_cls[ci]? = some q) (hj : j < q.2.2) (hw : Cond.fieldLink own idx (q.2.1 j).1 (q.2.1 j).2.1 (q.2.1 j).2.2.1 ∈ ox_W) (d : decode cc pc = .ok (.getfield idx, 3)) {h : ox_HP} {H : Heap} (hP : ox_Pic g h s H) {a : Nat} (ha : ox_sh h a = (0, ci)) {locs : List Loc} {cells slots : Nat} {Q : State → Prop} {ls : Array Slot} {rest : List Value}
    (kk : W p l e R s m args below meth c H locs cells slots Q (F0 m (pc + 3) ls (ox_fv g h ci a j :: rest))) : W p l e R s m args below meth c H locs cells slots Q (F0 m pc ls (.ref (ox_ca g a) :: rest)) := by
  obtain ⟨-, -, q2, hq2, cell, q1, q3, q4, q5⟩ := ox_obj hP ha
  cases hq.symm.trans hq2
  obtain ⟨hx, hb, -, hown, hts, hWd⟩ := C
  obtain ⟨hS, hfc, kC, hkC, hkind⟩ := hWd.1.1 ci _ hq
  obtain ⟨cf, kf, fi, f, hi, hsl⟩ := hS j hj
  refine W.getf hx hb hown (hts _ hw) hi (u_facts hfc hkC (u_lays hts (ox_lays hq) hj) hi).1 q1 (by rw [q4]; exact fun h => by cases h) (v := ox_fv g h ci a j) ?_ rfl rfl d kk
  rw [hsl, q5 j hj]
theorem s_geti {ci j idx : Nat} {q : vw_C} (C : ox_C p s m args c g nL cc own) (hq : ox_cls[ci]? = some q) (hj : j < q.2.2) (hn : ox_isr (ox_ty ci j) = false) (hw : Cond.fieldLink own idx (q.2.1 j).1 (q.2.1 j).2.1 (q.2.1 j).2.2.1 ∈ ox_W) (d : decode cc pc = .ok (.getfield idx, 3)) (hk : ox_S p l e R s m args below meth c g nL c0 t0 Qf (pc + 3) k) : ox_S p l e R s m args below meth c g nL c0 t0 Qf pc (o_geti ci j k) := by
  intro lv st h r e
  unfold o_geti at e
  split at e
  · next a st2 =>
    split at e
    · next ha =>
      obtain ⟨h1, h2⟩ := hk _ _ _ _ e
      refine ⟨h1, fun H locs ls a1 a2 a3 a4 => ox_getf C hq hj hw d a1 ha ?_⟩
      unfold ox_fv
      rw [if_neg (by rw [hn]; decide)]
      exact h2 H locs ls a1 a2 a3 a4
    · cases e
  · cases e
theorem s_getr {ci j idx : Nat} {q : vw_C} (C : ox_C p s m args c g nL cc own) (hq : ox_cls[ci]? = some q) (hj : j < q.2.2) (hn : ox_isr (ox_ty ci j) = true) (hw : Cond.fieldLink own idx (q.2.1 j).1 (q.2.1 j).2.1 (q.2.1 j).2.2.1 ∈ ox_W) (d : decode cc pc = .ok (.getfield idx, 3)) (hk : ox_S p l e R s m args below meth c g nL c0 t0 Qf (pc + 3) k) : ox_S p l e R s m args below meth c g nL c0 t0 Qf pc (o_getr ci j k) := by
  intro lv st h r e
  unfold o_getr at e
  split at e
  · next a st2 =>
    split at e
    · next ha =>
      split at e
      · cases e
      · next hz =>
        obtain ⟨h1, h2⟩ := hk _ _ _ _ e
        refine ⟨h1, fun H locs ls a1 a2 a3 a4 => ox_getf C hq hj hw d a1 ha ?_⟩
        unfold ox_fv
        rw [if_pos hn]
        unfold ox_rv
        rw [if_neg hz]
        exact h2 H locs ls a1 a2 a3 a4
    · cases e
  · cases e
/-- arrays of ints: own ones, and those that were there -/
def o_ia (k : ox_K) : ox_K := fun lv st h => match st with
  | .int i :: .ref a :: st => if ((ox_sh h a).1 = 1 ∨ ((ox_sh h a).1 = 5 ∧ a < 16)) ∧ 0 ≤ i.toInt ∧ i.toInt < ((ox_sh h a).2 : Int) then k lv (.int (h.2.1 a i.toNatClampNeg) :: st) h else none
  | _ => none
theorem ox_vin {i : Int32} {n : Nat} (h1 : 0 ≤ i.toInt) (h2 : i.toInt < (n : Int)) : vp_in i n := vp_in_iff.mpr ⟨h1, h2⟩
theorem s_ia (C : ox_C p s m args c g nL cc own) (d : decode cc pc = .ok (.iaload, 1)) (hk : ox_S p l e R s m args below meth c g nL c0 t0 Qf (pc + 1) k) : ox_S p l e R s m args below meth c g nL c0 t0 Qf pc (o_ia k) := by
  intro lv st h r e
  unfold o_ia at e
  split at e
  · next i a st2 =>
    split at e
    · next hc =>
      obtain ⟨hc1, hc2, hc3⟩ := hc
      obtain ⟨h1, h2⟩ := hk _ _ _ _ e
      refine ⟨h1, fun H locs ls a1 a2 a3 a4 => ?_⟩
      have hin := ox_vin hc2 hc3
      have hlt : i.toNatClampNeg < (ox_sh h a).2 := Nat.not_le.mp fun q => hin (Or.inr q)
      rcases hc1 with hc1 | hc1
      · obtain ⟨-, -, hcell⟩ := ox_arr a1 (a := a) (d := 1) (n := (ox_sh h a).2) (by rw [← hc1]) (Or.inl rfl)
        have hAT := (C.2.2.2.2.2.1.2 0 (g.2.2.2 1, .int) rfl).1
        exact W.iald (v := .int (h.2.1 a i.toNatClampNeg)) C.1 C.2.1 hcell (hAT _ _) (fun q => by cases q) (by rw [arrV_size]; exact hin) (by rw [arrV_read _ _ hlt]) rfl rfl d (h2 H locs ls a1 a2 a3 a4)
      · obtain ⟨hc1, ha16⟩ := hc1
        obtain ⟨cell, g1, g2, g3, g4, g5, g6, g7⟩ := (a1.2.2.2 a ha16).2.1 (ox_sh h a).2 (by rw [← hc1])
        exact W.iald (v := .int (h.2.1 a i.toNatClampNeg)) C.1 C.2.1 g1 g2 g3 (fun q => by
          rcases q with q | q
          · exact hin (Or.inl q)
          · omega) (by rw [g6 _ hlt]) rfl rfl d (h2 H locs ls a1 a2 a3 a4)
    · cases e
  · cases e
def o_ba (k : ox_K) : ox_K := fun lv st h => match st with
  | .int i :: .ref a :: st => if ((ox_sh h a).1 = 2 ∨ (ox_sh h a).1 = 3 ∨ ((ox_sh h a).1 = 7 ∧ a < 16)) ∧ 0 ≤ i.toInt ∧ i.toInt < ((ox_sh h a).2 : Int) then k lv (.int (h.2.1 a i.toNatClampNeg) :: st) h else none
  | _ => none
theorem s_ba (C : ox_C p s m args c g nL cc own) (d : decode cc pc = .ok (.baload, 1)) (hk : ox_S p l e R s m args below meth c g nL c0 t0 Qf (pc + 1) k) : ox_S p l e R s m args below meth c g nL c0 t0 Qf pc (o_ba k) := by
  intro lv st h r e
  unfold o_ba at e
  split at e
  · next i a st2 =>
    split at e
    · next hc =>
      obtain ⟨hc1, hc2, hc3⟩ := hc
      obtain ⟨h1, h2⟩ := hk _ _ _ _ e
      refine ⟨h1, fun H locs ls a1 a2 a3 a4 => ?_⟩
      have hin := ox_vin hc2 hc3
      have hlt : i.toNatClampNeg < (ox_sh h a).2 := Nat.not_le.mp fun q => hin (Or.inr q)
      rcases hc1 with hc1 | hc1 | ⟨hc1, ha16⟩
      · obtain ⟨-, -, hcell⟩ := ox_arr a1 (a := a) (d := 2) (n := (ox_sh h a).2) (by rw [← hc1]) (Or.inr (Or.inl rfl))
        have hAT := (C.2.2.2.2.2.1.2 1 (g.2.2.2 2, .byte) rfl).1
        exact W.bald (v := .int (h.2.1 a i.toNatClampNeg)) C.1 C.2.1 hcell (hAT _ _) (fun q => by cases q) (by rw [arrV_size]; exact hin) (by rw [arrV_read _ _ hlt]) rfl rfl d (h2 H locs ls a1 a2 a3 a4)
      · obtain ⟨-, -, hcell⟩ := ox_arr a1 (a := a) (d := 3) (n := (ox_sh h a).2) (by rw [← hc1]) (Or.inr (Or.inr rfl))
        have hAT := (C.2.2.2.2.2.1.2 2 (g.2.2.2 3, .boolean) rfl).1
        exact W.zald (v := .int (h.2.1 a i.toNatClampNeg)) C.1 C.2.1 hcell (hAT _ _) (fun q => by cases q) (by rw [arrV_size]; exact hin) (by rw [arrV_read _ _ hlt]) rfl rfl d (h2 H locs ls a1 a2 a3 a4)
      · obtain ⟨cell, g1, g2, g3, g4, g5, g6, g7⟩ := (a1.2.2.2 a ha16).2.2.1 (ox_sh h a).2 (by rw [← hc1])
        exact W.bald (v := .int (h.2.1 a i.toNatClampNeg)) C.1 C.2.1 g1 g2 g3 (fun q => by
          rcases q with q | q
          · exact hin (Or.inl q)
          · omega) (by rw [g6 _ hlt]) rfl rfl d (h2 H locs ls a1 a2 a3 a4)
    · cases e
  · cases e
/-- arrays of references to objects of class ci -/
def o_aa (ci : Nat) (k : ox_K) : ox_K := fun lv st h => match st with
  | .int i :: .ref a :: st => if (ox_sh h a).1 = 10 + ci ∧ 0 ≤ i.toInt ∧ i.toInt < ((ox_sh h a).2 : Int) then (if h.2.2 a i.toNatClampNeg = 0 then none else k lv (.ref (h.2.2 a i.toNatClampNeg) :: st) h) else none
  | _ => none
theorem s_aa {ci : Nat} {q : vw_C} (t0' : Nat) (C : ox_C p s m args c g nL cc own) (hty : (ox_tys g)[t0']? = some (g.2.2.2 (10 + ci), .object q.1)) (d : decode cc pc = .ok (.aaload, 1)) (hk : ox_S p l e R s m args below meth c g nL c0 t0 Qf (pc + 1) k) : ox_S p l e R s m args below meth c g nL c0 t0 Qf pc (o_aa ci k) := by
  intro lv st h r e
  unfold o_aa at e
  split at e
  · next i a st2 =>
    split at e
    · next hc =>
      split at e
      · cases e
      · next hz =>
        obtain ⟨hc1, hc2, hc3⟩ := hc
        obtain ⟨h1, h2⟩ := hk _ _ _ _ e
        refine ⟨h1, fun H locs ls a1 a2 a3 a4 => ?_⟩
        have hin := ox_vin hc2 hc3
        have hlt : i.toNatClampNeg < (ox_sh h a).2 := Nat.not_le.mp fun q => hin (Or.inr q)
        obtain ⟨-, -, hcell⟩ := ox_rar a1 (a := a) (ci := ci) (n := (ox_sh h a).2) (by rw [← hc1])
        have hAT := (C.2.2.2.2.2.1.2 t0' _ hty).1
        refine W.aald (ty := .object q.1) (v := ox_rv g (h.2.2 a i.toNatClampNeg)) C.1 C.2.1 hcell (hAT _ _) rfl (fun q => by cases q) (by rw [arrV_size]; exact hin) (by rw [arrV_read _ _ hlt]) rfl rfl d ?_
        unfold ox_rv
        rw [if_neg hz]
        exact h2 H locs ls a1 a2 a3 a4
    · cases e
  · cases e
def o_len (k : ox_K) : ox_K := fun lv st h => match st with
  | .ref a :: st => if ((ox_sh h a).1 = 5 ∨ (ox_sh h a).1 = 7) ∧ a < 16 then k lv (.int (Int32.ofNat (ox_sh h a).2) :: st) h else none
  | _ => none
theorem s_len (C : ox_C p s m args c g nL cc own) (d : decode cc pc = .ok (.arraylength, 1)) (hk : ox_S p l e R s m args below meth c g nL c0 t0 Qf (pc + 1) k) : ox_S p l e R s m args below meth c g nL c0 t0 Qf pc (o_len k) := by
  intro lv st h r e
  unfold o_len at e
  split at e
  · next a st2 =>
    split at e
    · next hc =>
      obtain ⟨hc1, ha16⟩ := hc
      obtain ⟨h1, h2⟩ := hk _ _ _ _ e
      refine ⟨h1, fun H locs ls a1 a2 a3 a4 => ?_⟩
      rcases hc1 with hc1 | hc1
      · obtain ⟨cell, g1, g2, g3, g4, g5, g6, g7⟩ := (a1.2.2.2 a ha16).2.1 (ox_sh h a).2 (by rw [← hc1])
        exact W.alen (n := Int32.ofNat (ox_sh h a).2) C.1 C.2.1 g1 g2 g5 rfl rfl d (h2 H locs ls a1 a2 a3 a4)
      · obtain ⟨cell, g1, g2, g3, g4, g5, g6, g7⟩ := (a1.2.2.2 a ha16).2.2.1 (ox_sh h a).2 (by rw [← hc1])
        exact W.alen (n := Int32.ofNat (ox_sh h a).2) C.1 C.2.1 g1 g2 g5 rfl rfl d (h2 H locs ls a1 a2 a3 a4)
    · cases e
  · cases e
theorem ox_le_wi {h : ox_HP} {a i : Nat} {x : Int32} {r : ox_HP} (q : ox_le (ox_wi h a i x) r) : ox_le h r := q
theorem ox_le_wr {h : ox_HP} {a i x : Nat} {r : ox_HP} (q : ox_le (ox_wr h a i x) r) : ox_le h r := q
theorem ox_wi_ne {h : ox_HP} {a i : Nat} {x : Int32} {b : Nat} (hb : b ≠ a) : (ox_wi h a i x).2.1 b = h.2.1 b := by
  unfold ox_wi va_up
  exact funext fun _ => by simp [hb]
theorem ox_wr_ne {h : ox_HP} {a i x b : Nat} (hb : b ≠ a) : (ox_wr h a i x).2.2 b = h.2.2 b := by
  unfold ox_wr va_up
  exact funext fun _ => by simp [hb]
theorem ox_A_in {a : Nat} (ha : 16 ≤ a) : ox_A g (ox_ca g a) := by
  rw [ox_ca_in ha]
  exact Nat.le_add_right _ _
/-- an int into a place of an own int array -/
def o_iast (k : ox_K) : ox_K := fun lv st h => match st with
  | .int x :: .int i :: .ref a :: st => if (ox_sh h a).1 = 1 ∧ 0 ≤ i.toInt ∧ i.toInt < ((ox_sh h a).2 : Int) then k lv st (ox_wi h a i.toNatClampNeg x) else none
  | _ => none
theorem ox_Cel_wi {h : ox_HP} {a d n j : Nat} {x : Int32} {H1 : Heap} (hs : ox_sh h a = (d, n)) (hd : d = 1 ∨ d = 2 ∨ d = 3) (e : H1[ox_ca g a]? = some ((arrV (g.2.2.2 d) n (fun i => .int (h.2.1 a i))).setSlot j (.int x))) : ox_Cel g (ox_wi h a j x) a H1 := by
  have hs2 : ox_sh (ox_wi h a j x) a = (d, n) := hs
  refine ⟨fun ci q => ?_, fun d2 n2 q _ => ?_, fun ci n2 q => ?_⟩
  · rw [hs2] at q
    have := (Prod.mk.inj q).1
    omega
  · rw [hs2] at q
    cases q
    rw [e, arrV_store]
    congr 2
    funext i
    unfold ox_wi va_up updV upd
    dsimp only
    rw [if_pos rfl]
    by_cases hij : i = j
    · rw [if_pos hij, if_pos hij]
    · rw [if_neg hij, if_neg hij]
  · rw [hs2] at q
    have := (Prod.mk.inj q).1
    omega
theorem s_iast (C : ox_C p s m args c g nL cc own) (d : decode cc pc = .ok (.iastore, 1)) (hk : ox_S p l e R s m args below meth c g nL c0 t0 Qf (pc + 1) k) : ox_S p l e R s m args below meth c g nL c0 t0 Qf pc (o_iast k) := by
  intro lv st h r e
  unfold o_iast at e
  split at e
  · next x i a st2 =>
    split at e
    · next hc =>
      obtain ⟨hc1, hc2, hc3⟩ := hc
      obtain ⟨h1, h2⟩ := hk _ _ _ _ e
      refine ⟨ox_le_wi h1, fun H locs ls a1 a2 a3 a4 => ?_⟩
      have hin := ox_vin hc2 hc3
      have hsh : ox_sh h a = (1, (ox_sh h a).2) := by rw [← hc1]
      obtain ⟨ha, -, hcell⟩ := ox_arr a1 hsh (Or.inl rfl)
      have hAT := (C.2.2.2.2.2.1.2 0 (g.2.2.2 1, .int) rfl).1
      refine W.iast C.1 C.2.1 hcell (hAT _ _) (fun q => by cases q) (by rw [arrV_size]; exact hin) rfl rfl d fun H1 e1 z oq => ?_
      exact h2 H1 _ ls (a1.put ha rfl (fun b hb => ox_wi_ne hb) (fun b hb => rfl) z oq (ox_Cel_wi hsh (Or.inl rfl) e1)) (a2.put z oq (ox_A_in ha)) a3 a4
    · cases e
  · cases e
/-- a byte into an own byte array, a truth into an own array of truths -/
def o_bast (k : ox_K) : ox_K := fun lv st h => match st with
  | .int x :: .int i :: .ref a :: st => if (ox_sh h a).1 = 2 ∧ 0 ≤ i.toInt ∧ i.toInt < ((ox_sh h a).2 : Int) then k lv st (ox_wi h a i.toNatClampNeg x.toInt8.toInt32) else none
  | _ => none
theorem s_bast (C : ox_C p s m args c g nL cc own) (d : decode cc pc = .ok (.bastore, 1)) (hk : ox_S p l e R s m args below meth c g nL c0 t0 Qf (pc + 1) k) : ox_S p l e R s m args below meth c g nL c0 t0 Qf pc (o_bast k) := by
  intro lv st h r e
  unfold o_bast at e
  split at e
  · next x i a st2 =>
    split at e
    · next hc =>
      obtain ⟨hc1, hc2, hc3⟩ := hc
      obtain ⟨h1, h2⟩ := hk _ _ _ _ e
      refine ⟨ox_le_wi h1, fun H locs ls a1 a2 a3 a4 => ?_⟩
      have hin := ox_vin hc2 hc3
      have hsh : ox_sh h a = (2, (ox_sh h a).2) := by rw [← hc1]
      obtain ⟨ha, -, hcell⟩ := ox_arr a1 hsh (Or.inr (Or.inl rfl))
      have hAT := (C.2.2.2.2.2.1.2 1 (g.2.2.2 2, .byte) rfl).1
      refine W.bast C.1 C.2.1 hcell (hAT _ _) (fun q => by cases q) (by rw [arrV_size]; exact hin) rfl rfl d fun H1 e1 z oq => ?_
      exact h2 H1 _ ls (a1.put ha rfl (fun b hb => ox_wi_ne hb) (fun b hb => rfl) z oq (ox_Cel_wi hsh (Or.inr (Or.inl rfl)) e1)) (a2.put z oq (ox_A_in ha)) a3 a4
    · cases e
  · cases e
def o_zast (k : ox_K) : ox_K := fun lv st h => match st with
  | .int x :: .int i :: .ref a :: st => if (ox_sh h a).1 = 3 ∧ 0 ≤ i.toInt ∧ i.toInt < ((ox_sh h a).2 : Int) then k lv st (ox_wi h a i.toNatClampNeg (x &&& 1)) else none
  | _ => none
theorem s_zast (C : ox_C p s m args c g nL cc own) (d : decode cc pc = .ok (.bastore, 1)) (hk : ox_S p l e R s m args below meth c g nL c0 t0 Qf (pc + 1) k) : ox_S p l e R s m args below meth c g nL c0 t0 Qf pc (o_zast k) := by
  intro lv st h r e
  unfold o_zast at e
  split at e
  · next x i a st2 =>
    split at e
    · next hc =>
      obtain ⟨hc1, hc2, hc3⟩ := hc
      obtain ⟨h1, h2⟩ := hk _ _ _ _ e
      refine ⟨ox_le_wi h1, fun H locs ls a1 a2 a3 a4 => ?_⟩
      have hin := ox_vin hc2 hc3
      have hsh : ox_sh h a = (3, (ox_sh h a).2) := by rw [← hc1]
      obtain ⟨ha, -, hcell⟩ := ox_arr a1 hsh (Or.inr (Or.inr rfl))
      have hAT := (C.2.2.2.2.2.1.2 2 (g.2.2.2 3, .boolean) rfl).1
      refine W.zast C.1 C.2.1 hcell (hAT _ _) (fun q => by cases q) (by rw [arrV_size]; exact hin) rfl rfl d fun H1 e1 z oq => ?_
      exact h2 H1 _ ls (a1.put ha rfl (fun b hb => ox_wi_ne hb) (fun b hb => rfl) z oq (ox_Cel_wi hsh (Or.inr (Or.inr rfl)) e1)) (a2.put z oq (ox_A_in ha)) a3 a4
    · cases e
  · cases e
/-- a reference to an own object of class ci into an own array of such -/
def o_aast (ci : Nat) (k : ox_K) : ox_K := fun lv st h => match st with
  | .ref x :: .int i :: .ref a :: st => if (ox_sh h a).1 = 10 + ci ∧ 0 ≤ i.toInt ∧ i.toInt < ((ox_sh h a).2 : Int) ∧ ox_sh h x = (0, ci) then k lv st (ox_wr h a i.toNatClampNeg x) else none
  | _ => none
theorem s_aast {ci : Nat} {q : vw_C} (t0' : Nat) (hq : ox_cls[ci]? = some q) (C : ox_C p s m args c g nL cc own) (hty : (ox_tys g)[t0']? = some (g.2.2.2 (10 + ci), .object q.1)) (d : decode cc pc = .ok (.aastore, 1)) (hk : ox_S p l e R s m args below meth c g nL c0 t0 Qf (pc + 1) k) : ox_S p l e R s m args below meth c g nL c0 t0 Qf pc (o_aast ci k) := by
  intro lv st h r e
  unfold o_aast at e
  split at e
  · next x i a st2 =>
    split at e
    · next hc =>
      obtain ⟨hc1, hc2, hc3, hx⟩ := hc
      obtain ⟨h1, h2⟩ := hk _ _ _ _ e
      refine ⟨ox_le_wr h1, fun H locs ls a1 a2 a3 a4 => ?_⟩
      have hin := ox_vin hc2 hc3
      have hlt : i.toNatClampNeg < (ox_sh h a).2 := Nat.not_le.mp fun q => hin (Or.inr q)
      have hsh : ox_sh h a = (10 + ci, (ox_sh h a).2) := by rw [← hc1]
      obtain ⟨ha, -, hcell⟩ := ox_rar a1 hsh
      obtain ⟨hx16, -, q2, hq2, cellv, v1, v2, v3, v4⟩ := ox_obj a1 hx
      cases hq.symm.trans hq2
      obtain ⟨-, hRA⟩ := C.2.2.2.2.2.1.2 t0' _ hty
      obtain ⟨kA, comp, r1, r2, r3, r4⟩ := hRA
      obtain ⟨-, hfc, kC, hkC, hkind⟩ := C.2.2.2.2.2.1.1 ci _ hq
      have ecomp : comp = g.2.2.1.1 ci := Option.some.inj (r3.symm.trans hfc)
      subst ecomp
      refine W.aast (t := .object q.1) C.1 C.2.1 hcell (fun q h => by cases h) (fun q => by cases q) r1 r2 rfl hkC ⟨fun h => hin (Or.inl h), by rw [arrV_size]; exact hlt⟩ v1 (fun q h => by rw [v3] at h; cases h) (by rw [v2]; exact hkC) (by rw [v2]; exact va_asg _ _) rfl rfl d fun H1 e1 z oq => ?_
      refine h2 H1 _ ls (a1.put ha rfl (fun b hb => rfl) (fun b hb => ox_wr_ne hb) z oq ?_) (a2.put z oq (ox_A_in ha)) a3 a4
      have hs2 : ox_sh (ox_wr h a i.toNatClampNeg x) a = (10 + ci, (ox_sh h a).2) := hsh
      refine ⟨fun ci2 qq => ?_, fun d2 n2 qq hd2 => ?_, fun ci2 n2 qq => ?_⟩
      · rw [hs2] at qq
        have := (Prod.mk.inj qq).1
        omega
      · rw [hs2] at qq
        have := (Prod.mk.inj qq).1
        omega
      · rw [hs2] at qq
        obtain ⟨qa, qb⟩ := Prod.mk.inj qq
        have qc : ci2 = ci := by omega
        subst qc
        subst qb
        rw [e1, arrV_store]
        congr 2
        funext j
        unfold ox_wr va_up updV
        dsimp only
        rw [if_pos rfl]
        by_cases hij : j = i.toNatClampNeg
        · rw [if_pos hij, if_pos hij]
          unfold ox_rv
          rw [if_neg (by omega)]
        · rw [if_neg hij, if_neg hij]
    · cases e
  · cases e
theorem ox_Cel_of {h2 : ox_HP} {a ci : Nat} {q : vw_C} {H1 : Heap} (hq : ox_cls[ci]? = some q) (hs : ox_sh h2 a = (0, ci)) (hc : t_OB (ox_ca g a) (g.2.2.1.1 ci) q.2.2 (g.2.2.1.2 ci) H1 (ox_fv g h2 ci a)) : ox_Cel g h2 a H1 := by
  refine ⟨fun ci2 qq => ?_, fun d2 n2 qq hd => ?_, fun ci2 n2 qq => ?_⟩
  · rw [hs] at qq
    cases qq
    exact ⟨q, hq, hc⟩
  · rw [hs] at qq
    have := (Prod.mk.inj qq).1
    omega
  · rw [hs] at qq
    have := (Prod.mk.inj qq).1
    omega
/-- a value into a field of an own object: not final, or final and in the constructor -/
theorem ox_putf {ci j idx : Nat} {q : vw_C} (C : ox_C p s m args c g nL cc own) (hq : ox_cls[ci]? = some q) (hj : j < q.2.2) (hw : Cond.fieldLink own idx (q.2.1 j).1 (q.2.1 j).2.1 (q.2.1 j).2.2.1 ∈ ox_W) (hfin : (q.2.1 j).2.2.2 = false ∨ ((q.2.1 j).2.2.2 = true ∧ meth.name = "<init>" ∧ (q.2.1 j).1 = own)) (d : decode cc pc = .ok (.putfield idx, 3)) {h h2 : ox_HP} {H : Heap} (hP : ox_Pic g h s H) {a : Nat} (ha : ox_sh h a = (0, ci)) {v : Value} (hn : narrow (ox_ty ci j) v = v) (hfit : fits (ox_ty ci j) v = true)
    (hs : h2.1 = h.1) (hi : ∀ b, b ≠ a → h2.2.1 b = h.2.1 b) (hr : ∀ b, b ≠ a → h2.2.2 b = h.2.2 b) (hv : ∀ t, t < q.2.2 → ox_fv g h2 ci a t = updV (ox_fv g h ci a) j v t) {locs : List Loc} {cells slots : Nat} {Q : State → Prop} {ls : Array Slot} {rest : List Value} (hS0 : va_S (ox_A g) s.heap H locs)
    (kk : ∀ (H1 : Heap) (locs1 : List Loc), ox_Pic g h2 s H1 → va_S (ox_A g) s.heap H1 locs1 → W p l e R s m args below meth c H1 locs1 cells slots Q (F0 m (pc + 3) ls rest)) : W p l e R s m args below meth c H locs cells slots Q (F0 m pc ls (v :: .ref (ox_ca g a) :: rest)) := by
  obtain ⟨ha16, -, q2, hq2, cell, q1, q3, q4, q5⟩ := ox_obj hP ha
  cases hq.symm.trans hq2
  have hap := va_apart (own := own) (D := g.2.2.1) (cl := ox_cls) C.2.2.2.2.1 (ox_lays hq) (ox_ty ci) (fun k hk => ox_cok1 hq hk) (ox_cok2 hq) C.2.2.2.2.2.1 hq
  obtain ⟨hx, hb, -, hown, hts, hWd⟩ := C
  obtain ⟨hS, hfc, kC, hkC, hkind⟩ := hWd.1.1 ci _ hq
  obtain ⟨cf, kf, fi, f, hif, hsl⟩ := hS j hj
  have hlay := hts _ (ox_lays hq _ (u_in_lay hj))
  unfold u_lay at hlay
  have hst := (u_facts hfc hkC (u_lays hts (ox_lays hq) hj) hif).1
  have fin : ∀ H' : Heap, H'[ox_ca g a]? = some (cell.setSlot f.slot v) → H'.size = H.size → (∀ x, x ≠ ox_ca g a → H'[x]? = H[x]?) → W p l e R s m args below meth c H' (locs ++ [⟨ox_ca g a, f.slot⟩]) cells slots Q (F0 m (pc + 3) ls rest) := by
    intro H' e1 e2 e3
    refine kk H' _ (hP.put ha16 hs hi hr e2 e3 (ox_Cel_of hq (by unfold ox_sh; rw [hs]; exact ha) ?_)) (hS0.put e2 e3 (ox_A_in ha16))
    rw [hsl] at e1
    exact t_OB.to (V := updV (ox_fv g h ci a) j v) ⟨_, e1, q3, q4, t_set q5 hap hj v⟩ (fun t ht => (hv t ht).symm)
  rcases hfin with hfin | ⟨hfin, hini, hdecl⟩
  · rw [if_neg (by rw [hfin]; decide)] at hlay
    have h6 := u_store hfc hkC hkind hlay hif (ox_cok1 hq hj) hn hfit
    exact W.putK hx hb (f := f) ⟨hown, hts _ hw, ⟨_, _, _, hif⟩, hst⟩ (by rw [q3]; exact h6) q1 q4 (by rw [hsl]; exact k2_hasslot (q5 j hj)) rfl rfl d fin
  · rw [if_pos hfin] at hlay
    have hcf : m.cls = cf := by
      obtain ⟨_, _, c', _, _, _, -, -, hf', -, -, -, hown2, -⟩ := Cond.laysFinal_spec hlay
      have e1 : c' = cf := by have := hif.symm.trans hf'; simp at this; exact this.1.symm
      rw [hdecl] at hown2
      rw [← e1]; exact Option.some.inj (hown.symm.trans hown2)
    have h6 := u_fits hfc hkC hkind (Or.inr hlay) hif (ox_cok1 hq hj) hn hfit
    exact W.putFinK hx hb hown (hts _ hw) hif hst hcf hini (by rw [q3]; exact h6) q1 q4 (by rw [hsl]; exact k2_hasslot (q5 j hj)) rfl rfl d fin
def o_puti (ci j : Nat) (k : ox_K) : ox_K := fun lv st h => match st with
  | .int x :: .ref a :: st => if ox_sh h a = (0, ci) then k lv st (ox_wi h a j x) else none
  | _ => none
def o_putz (ci j : Nat) (k : ox_K) : ox_K := fun lv st h => match st with
  | .int x :: .ref a :: st => if ox_sh h a = (0, ci) ∧ (x = 0 ∨ x = 1) then k lv st (ox_wi h a j x) else none
  | _ => none
def o_putr (ci j : Nat) (k : ox_K) : ox_K := fun lv st h => match st with
  | .ref x :: .ref a :: st => if ox_sh h a = (0, ci) ∧ x ≠ 0 then k lv st (ox_wr h a j x) else none
  | _ => none
theorem ox_fv_wi {h : ox_HP} {a ci j : Nat} {x : Int32} (hn : ox_isr (ox_ty ci j) = false) (t : Nat) : ox_fv g (ox_wi h a j x) ci a t = updV (ox_fv g h ci a) j (.int x) t := by
  unfold ox_fv ox_wi updV va_up upd
  dsimp only
  by_cases e : t = j
  · subst e
    rw [if_neg (by rw [hn]; decide), if_pos rfl, if_pos rfl, if_pos rfl]
  · rw [if_neg e]
    by_cases hr : ox_isr (ox_ty ci t) = true
    · rw [if_pos hr, if_pos hr]
    · rw [if_neg hr, if_neg hr, if_pos rfl, if_neg e]
theorem ox_fv_wr {h : ox_HP} {a ci j x : Nat} (hn : ox_isr (ox_ty ci j) = true) (hx : x ≠ 0) (t : Nat) : ox_fv g (ox_wr h a j x) ci a t = updV (ox_fv g h ci a) j (.ref (ox_ca g x)) t := by
  by_cases e : t = j
  · subst e
    simp [ox_fv, ox_wr, updV, va_up, ox_rv, hn, hx]
  · simp [ox_fv, ox_wr, updV, va_up, ox_rv, e]
theorem s_puti {ci j idx : Nat} {q : vw_C} (C : ox_C p s m args c g nL cc own) (hq : ox_cls[ci]? = some q) (hj : j < q.2.2) (hn : ox_ty ci j = .int) (hfin : (q.2.1 j).2.2.2 = false ∨ ((q.2.1 j).2.2.2 = true ∧ meth.name = "<init>" ∧ (q.2.1 j).1 = own)) (hw : Cond.fieldLink own idx (q.2.1 j).1 (q.2.1 j).2.1 (q.2.1 j).2.2.1 ∈ ox_W) (d : decode cc pc = .ok (.putfield idx, 3)) (hk : ox_S p l e R s m args below meth c g nL c0 t0 Qf (pc + 3) k) : ox_S p l e R s m args below meth c g nL c0 t0 Qf pc (o_puti ci j k) := by
  intro lv st h r e
  unfold o_puti at e
  split at e
  · next x a st2 =>
    split at e
    · next ha =>
      obtain ⟨h1, h2⟩ := hk _ _ _ _ e
      exact ⟨ox_le_wi h1, fun H locs ls a1 a2 a3 a4 => ox_putf C hq hj hw hfin d a1 ha (v := .int x) (h2 := ox_wi h a j x) (by rw [hn]; rfl) (by rw [hn]; rfl) rfl (fun b hb => ox_wi_ne hb) (fun b hb => rfl) (fun t _ => ox_fv_wi (by rw [hn]; rfl) t) a2 (fun H1 locs1 b1 b2 => h2 H1 locs1 ls b1 b2 a3 a4)⟩
    · cases e
  · cases e
theorem s_putz {ci j idx : Nat} {q : vw_C} (C : ox_C p s m args c g nL cc own) (hq : ox_cls[ci]? = some q) (hj : j < q.2.2) (hn : ox_ty ci j = .boolean) (hfin : (q.2.1 j).2.2.2 = false ∨ ((q.2.1 j).2.2.2 = true ∧ meth.name = "<init>" ∧ (q.2.1 j).1 = own)) (hw : Cond.fieldLink own idx (q.2.1 j).1 (q.2.1 j).2.1 (q.2.1 j).2.2.1 ∈ ox_W) (d : decode cc pc = .ok (.putfield idx, 3)) (hk : ox_S p l e R s m args below meth c g nL c0 t0 Qf (pc + 3) k) : ox_S p l e R s m args below meth c g nL c0 t0 Qf pc (o_putz ci j k) := by
  intro lv st h r e
  unfold o_putz at e
  split at e
  · next x a st2 =>
    split at e
    · next hc =>
      obtain ⟨ha, hx⟩ := hc
      obtain ⟨h1, h2⟩ := hk _ _ _ _ e
      exact ⟨ox_le_wi h1, fun H locs ls a1 a2 a3 a4 => ox_putf C hq hj hw hfin d a1 ha (v := .int x) (h2 := ox_wi h a j x) (by rw [hn]; rcases hx with hx | hx <;> subst hx <;> rfl) (by rw [hn]; rcases hx with hx | hx <;> subst hx <;> rfl) rfl (fun b hb => ox_wi_ne hb) (fun b hb => rfl) (fun t _ => ox_fv_wi (by rw [hn]; rfl) t) a2 (fun H1 locs1 b1 b2 => h2 H1 locs1 ls b1 b2 a3 a4)⟩
    · cases e
  · cases e
theorem s_putr {ci j idx : Nat} {q : vw_C} (C : ox_C p s m args c g nL cc own) (hq : ox_cls[ci]? = some q) (hj : j < q.2.2) (hn : ox_isr (ox_ty ci j) = true) (hfin : (q.2.1 j).2.2.2 = false ∨ ((q.2.1 j).2.2.2 = true ∧ meth.name = "<init>" ∧ (q.2.1 j).1 = own)) (hw : Cond.fieldLink own idx (q.2.1 j).1 (q.2.1 j).2.1 (q.2.1 j).2.2.1 ∈ ox_W) (d : decode cc pc = .ok (.putfield idx, 3)) (hk : ox_S p l e R s m args below meth c g nL c0 t0 Qf (pc + 3) k) : ox_S p l e R s m args below meth c g nL c0 t0 Qf pc (o_putr ci j k) := by
  intro lv st h r e
  unfold o_putr at e
  split at e
  · next x a st2 =>
    split at e
    · next hc =>
      obtain ⟨ha, hx⟩ := hc
      obtain ⟨h1, h2⟩ := hk _ _ _ _ e
      exact ⟨ox_le_wr h1, fun H locs ls a1 a2 a3 a4 => ox_putf C hq hj hw hfin d a1 ha (v := .ref (ox_ca g x)) (h2 := ox_wr h a j x) (by cases hT : ox_ty ci j <;> rfl) (by cases hT : ox_ty ci j <;> rw [hT] at hn <;> first | rfl | (exact absurd hn (by decide))) rfl (fun b hb => rfl) (fun b hb => ox_wr_ne hb) (fun t _ => ox_fv_wr hn hx t) a2 (fun H1 locs1 b1 b2 => h2 H1 locs1 ls b1 b2 a3 a4)⟩
    · cases e
  · cases e
end OXS
end
section
section OXT
variable {p : Program} {l : Launch} {e : Env} {R : Room} {s : State} {m : MethodId} {args : Array Value} {below : List Frame} {meth : Method} {c : Code}
variable {g : ox_G} {nL c0 t0 : Nat} {Qf : ox_R → State → Prop} {cc : ByteArray} {own : String} {pc : Nat} {k kt kf : ox_K}

/-- a new object, a new array -/
def o_new (ci : Nat) (k : ox_K) : ox_K := fun lv st h => k lv (.ref (ox_n h) :: st) (ox_nw h (0, ci) (fun _ => 0))
theorem ox_nw_i {h : ox_HP} {q : Nat × Nat} {f : Nat → Int32} : (ox_nw h q f).2.1 (ox_n h) = f := if_pos rfl
theorem ox_nw_r {h : ox_HP} {q : Nat × Nat} {f : Nat → Int32} : (ox_nw h q f).2.2 (ox_n h) = fun _ => 0 := if_pos rfl
theorem ox_le_nw {h r : ox_HP} {q : Nat × Nat} {f : Nat → Int32} (e : ox_le (ox_nw h q f) r) : ox_le h r ∧ ox_n h + 1 ≤ ox_n r ∧ ox_t h + ox_sl q ≤ ox_t r := by
  obtain ⟨e1, e2⟩ := e
  rw [ox_n_new] at e1
  rw [ox_t_new] at e2
  exact ⟨⟨by omega, by omega⟩, e1, e2⟩
theorem ox_def {ci j : Nat} {h : ox_HP} (hr : h.2.2 = h.2.2) {a : Nat} (hi : h.2.1 a = fun _ => 0) (hr : h.2.2 a = fun _ => 0) (hty : ∀ t, ox_ty ci j = t → t = .int ∨ t = .boolean ∨ t = .byte ∨ ox_isr t = true) : defaultValue (ox_ty ci j) = ox_fv g h ci a j := by
  unfold ox_fv ox_rv
  rw [hi, hr]
  rcases hty _ rfl with e | e | e | e
  · rw [e]; rfl
  · rw [e]; rfl
  · rw [e]; rfl
  · rw [if_pos e, if_pos rfl]
    cases hT : ox_ty ci j <;> rw [hT] at e <;> first | rfl | (exact absurd e (by decide))
theorem s_new {ci idx : Nat} {q : vw_C} (C : ox_C p s m args c g nL cc own) (hq : ox_cls[ci]? = some q) (hty : ∀ j, j < q.2.2 → ∀ t, ox_ty ci j = t → t = .int ∨ t = .boolean ∨ t = .byte ∨ ox_isr t = true) (w1 : Cond.classLink own idx q.1 ∈ ox_W) (w2 : Cond.instantiable q.1 q.2.2 ∈ ox_W) (w3 : Cond.initialized q.1 ∈ ox_W) (d : decode cc pc = .ok (.new idx, 3)) (hk : ox_S p l e R s m args below meth c g nL c0 t0 Qf (pc + 3) k) : ox_S p l e R s m args below meth c g nL c0 t0 Qf pc (o_new ci k) := by
  intro lv st h r e
  obtain ⟨h1, h2⟩ := hk _ _ _ _ e
  obtain ⟨h3, h4, h5⟩ := ox_le_nw h1
  have hsl : ox_sl (0, ci) = q.2.2 := by unfold ox_sl; rw [if_pos rfl, hq]; rfl
  rw [hsl] at h5
  refine ⟨h3, fun H locs ls a1 a2 a3 a4 => ?_⟩
  obtain ⟨b1, b2, b3, b4⟩ := a4
  have hKn := C.2.2.2.2.2.1.1 ci _ hq
  refine W.newcK C.1 C.2.1 C.2.2.2.1 (C.2.2.2.2.1 _ w1) (C.2.2.2.2.1 _ w2) (C.2.2.2.2.1 _ w3) rfl d (by omega) (by omega) hKn.2.1 rfl fun H1 kC hkC e1 z1 o1 => ?_
  have hca := ox_new_ca a1
  have hpic : ox_Pic g (ox_nw h (0, ci) (fun _ => 0)) s H1 := a1.new z1 o1 (ox_Cel_of hq ox_sh_new (by
    rw [hca]
    refine (u_born (ox_ty ci) C.2.2.2.2.1 (ox_lays hq) hKn hkC e1 (fun k hk => ox_cok1 hq hk)).to (fun j hj => ?_)
    exact ox_def rfl ox_nw_i ox_nw_r (hty j hj)))
  have := h2 H1 locs ls hpic ⟨by have := a2.1; omega, fun x g1 g2 => (o1 x (Nat.lt_of_lt_of_le g1 a2.1)).trans (a2.2.1 x g1 g2), a2.2.2⟩ a3 ⟨by rw [ox_n_new]; omega, by rw [ox_t_new]; omega, b3, b4⟩
  rw [ox_n_new, ox_t_new, hsl, show ox_n h + 1 - c0 = ox_n h - c0 + 1 by omega, show ox_t h + q.2.2 - t0 = ox_t h - t0 + q.2.2 by omega] at this
  rw [List.map_cons, show ox_cv g (.ref (ox_n h)) = .ref (ox_ca g (ox_n h)) from rfl, hca] at this
  exact this
def ox_at (d : Nat) : FieldType := if d = 1 then .int else if d = 2 then .byte else .boolean
def o_newa (d : Nat) (k : ox_K) : ox_K := fun lv st h => match st with
  | .int n :: st => if 0 ≤ n.toInt ∧ n.toInt ≤ 100000 then k lv (.ref (ox_n h) :: st) (ox_nw h (d, n.toNatClampNeg) (fun _ => 0)) else none
  | _ => none
theorem s_newa {dd : Nat} {aty : ArrayType} {ty : FieldType} (C : ox_C p s m args c g nL cc own) (hty : newarray.typeOf aty = ty) (hdd : (dd = 1 ∧ ty = .int) ∨ (dd = 2 ∧ ty = .byte) ∨ (dd = 3 ∧ ty = .boolean)) (w1 : Cond.arrayClass ty ∈ ox_W) (d : decode cc pc = .ok (.newarray aty, 2)) (hk : ox_S p l e R s m args below meth c g nL c0 t0 Qf (pc + 2) k) : ox_S p l e R s m args below meth c g nL c0 t0 Qf pc (o_newa dd k) := by
  intro lv st h r e
  unfold o_newa at e
  split at e
  · next n st2 =>
    split at e
    · next hn =>
      obtain ⟨h1, h2⟩ := hk _ _ _ _ e
      obtain ⟨h3, h4, h5⟩ := ox_le_nw h1
      have hd3 : dd = 1 ∨ dd = 2 ∨ dd = 3 := by omega
      have hsl : ox_sl (dd, n.toNatClampNeg) = n.toNatClampNeg := by unfold ox_sl; rw [if_neg (by omega)]
      rw [hsl] at h5
      refine ⟨h3, fun H locs ls a1 a2 a3 a4 => ?_⟩
      obtain ⟨b1, b2, b3, b4⟩ := a4
      have hn0 : ¬ n < 0 := fun q => by
        have := Int32.lt_iff_toInt_lt.mp q
        have e0 : (0 : Int32).toInt = 0 := rfl
        omega
      have hnN : (n.toNatClampNeg : Int) = n.toInt := by
        show ((n.toInt.toNat : Nat) : Int) = n.toInt
        omega
      subst hty
      have hcb : componentBytes (newarray.typeOf aty) ≤ 8 := by cases aty <;> decide
      refine va_newaK C.1 C.2.1 (C.2.2.2.2.1 _ w1) rfl d rfl hn0 rfl (Nat.le_trans (Nat.mul_le_mul (show n.toNatClampNeg ≤ 100000 by omega) hcb) (by decide)) (by omega) (by omega) rfl fun H1 cA e1 z1 o1 hAr hNm => ?_
      have hca := ox_new_ca a1
      have hcA : cA = g.2.2.2 dd := by
        rcases hdd with ⟨q1, q2⟩ | ⟨q1, q2⟩ | ⟨q1, q2⟩
        · have := (C.2.2.2.2.2.1.2 0 (g.2.2.2 1, .int) rfl).2
          rw [q2] at hNm
          rw [q1]
          exact Option.some.inj (hNm.symm.trans this)
        · have := (C.2.2.2.2.2.1.2 1 (g.2.2.2 2, .byte) rfl).2
          rw [q2] at hNm
          rw [q1]
          exact Option.some.inj (hNm.symm.trans this)
        · have := (C.2.2.2.2.2.1.2 2 (g.2.2.2 3, .boolean) rfl).2
          rw [q2] at hNm
          rw [q1]
          exact Option.some.inj (hNm.symm.trans this)
      have hdv : defaultValue (newarray.typeOf aty) = .int 0 := by
        rcases hdd with ⟨q1, q2⟩ | ⟨q1, q2⟩ | ⟨q1, q2⟩ <;> rw [q2] <;> rfl
      have hpic : ox_Pic g (ox_nw h (dd, n.toNatClampNeg) (fun _ => 0)) s H1 := a1.new z1 o1 (by
        refine ⟨fun ci qq => ?_, fun d2 n2 qq _ => ?_, fun ci n2 qq => ?_⟩
        · rw [ox_sh_new] at qq
          have := (Prod.mk.inj qq).1
          omega
        · rw [ox_sh_new] at qq
          cases qq
          rw [hca, e1, hcA, hdv, ox_nw_i]
        · rw [ox_sh_new] at qq
          have := (Prod.mk.inj qq).1
          omega)
      have := h2 H1 locs ls hpic ⟨by have := a2.1; omega, fun x g1 g2 => (o1 x (Nat.lt_of_lt_of_le g1 a2.1)).trans (a2.2.1 x g1 g2), a2.2.2⟩ a3 ⟨by rw [ox_n_new]; omega, by rw [ox_t_new]; omega, b3, b4⟩
      rw [ox_n_new, ox_t_new, hsl, show ox_n h + 1 - c0 = ox_n h - c0 + 1 by omega, show ox_t h + n.toNatClampNeg - t0 = ox_t h - t0 + n.toNatClampNeg by omega] at this
      rw [List.map_cons, show ox_cv g (.ref (ox_n h)) = .ref (ox_ca g (ox_n h)) from rfl, hca] at this
      exact this
    · cases e
  · cases e
def o_newr (ci : Nat) (k : ox_K) : ox_K := fun lv st h => match st with
  | .int n :: st => if 0 ≤ n.toInt ∧ n.toInt ≤ 100000 then k lv (.ref (ox_n h) :: st) (ox_nw h (10 + ci, n.toNatClampNeg) (fun _ => 0)) else none
  | _ => none
theorem s_newr {ci idx : Nat} {q : vw_C} (t0' : Nat) (C : ox_C p s m args c g nL cc own) (hq : ox_cls[ci]? = some q) (hty : (ox_tys g)[t0']? = some (g.2.2.2 (10 + ci), .object q.1)) (w1 : Cond.classLink own idx q.1 ∈ ox_W) (ho : q.1 ∈ ox_ovs) (d : decode cc pc = .ok (.anewarray idx, 3)) (hk : ox_S p l e R s m args below meth c g nL c0 t0 Qf (pc + 3) k) : ox_S p l e R s m args below meth c g nL c0 t0 Qf pc (o_newr ci k) := by
  intro lv st h r e
  unfold o_newr at e
  split at e
  · next n st2 =>
    split at e
    · next hn =>
      obtain ⟨h1, h2⟩ := hk _ _ _ _ e
      obtain ⟨h3, h4, h5⟩ := ox_le_nw h1
      have hsl : ox_sl (10 + ci, n.toNatClampNeg) = n.toNatClampNeg := by unfold ox_sl; rw [if_neg (by omega)]
      rw [hsl] at h5
      refine ⟨h3, fun H locs ls a1 a2 a3 a4 => ?_⟩
      obtain ⟨b1, b2, b3, b4⟩ := a4
      have hn0 : ¬ n < 0 := fun q => by
        have := Int32.lt_iff_toInt_lt.mp q
        have e0 : (0 : Int32).toInt = 0 := rfl
        omega
      have hnN : (n.toNatClampNeg : Int) = n.toInt := by
        show ((n.toInt.toNat : Nat) : Int) = n.toInt
        omega
      refine W.anew C.1 C.2.1 C.2.2.2.1 (C.2.2.2.2.1 _ w1) ((C.2.2.2.2.2.2.2.2.2.2.1 _ ho).use) rfl d rfl hn0 (by omega) (by omega) (by omega) fun cA kA comp f1 f2 f3 f4 => ?_
      have hca := ox_new_ca a1
      obtain ⟨-, kA2, comp2, r1, r2, r3, r4⟩ := C.2.2.2.2.2.1.2 t0' _ hty
      have hcA : cA = g.2.2.2 (10 + ci) := Option.some.inj (f1.symm.trans r4)
      have hpic : ox_Pic g (ox_nw h (10 + ci, n.toNatClampNeg) (fun _ => 0)) s (H.push { cls := cA, slots := Array.replicate n.toNatClampNeg .null, vm := .none }) := a1.new (by rw [Array.size_push]) (fun b hb => by rw [Array.getElem?_push, if_neg (Nat.ne_of_lt hb)]) (by
        refine ⟨fun c2 qq => ?_, fun d2 n2 qq hd2 => ?_, fun c2 n2 qq => ?_⟩
        · rw [ox_sh_new] at qq
          have := (Prod.mk.inj qq).1
          omega
        · rw [ox_sh_new] at qq
          have := (Prod.mk.inj qq).1
          omega
        · rw [ox_sh_new] at qq
          obtain ⟨qa, qb⟩ := Prod.mk.inj qq
          have qc : c2 = ci := by omega
          subst qc
          subst qb
          rw [hca, Array.getElem?_push_size, arrV_new, hcA, ox_nw_r]
          rfl)
      have := h2 _ locs ls hpic ⟨by have := a2.1; rw [Array.size_push]; omega, fun x g1 g2 => by
        have hx := Nat.lt_of_lt_of_le g1 a2.1
        rw [Array.getElem?_push, if_neg (Nat.ne_of_lt hx)]
        exact a2.2.1 x g1 g2, a2.2.2⟩ a3 ⟨by rw [ox_n_new]; omega, by rw [ox_t_new]; omega, b3, b4⟩
      rw [ox_n_new, ox_t_new, hsl, show ox_n h + 1 - c0 = ox_n h - c0 + 1 by omega, show ox_t h + n.toNatClampNeg - t0 = ox_t h - t0 + n.toNatClampNeg by omega] at this
      rw [List.map_cons, show ox_cv g (.ref (ox_n h)) = .ref (ox_ca g (ox_n h)) from rfl, hca] at this
      exact this
    · cases e
  · cases e
/-- statics, texts -/
def o_gs (a : Nat) (k : ox_K) : ox_K := fun lv st h => k lv (.ref a :: st) h
theorem s_gs {a idx : Nat} {C1 n1 d1 : String} (C : ox_C p s m args c g nL cc own) (hq : (C1, n1, d1, a) ∈ ox_sts) (hw : Cond.fieldLink own idx C1 n1 d1 ∈ ox_W) (d : decode cc pc = .ok (.getstatic idx, 3)) (hk : ox_S p l e R s m args below meth c g nL c0 t0 Qf (pc + 3) k) : ox_S p l e R s m args below meth c g nL c0 t0 Qf pc (o_gs a k) := by
  intro lv st h r e
  obtain ⟨h1, h2⟩ := hk _ _ _ _ e
  exact ⟨h1, fun H locs ls a1 a2 a3 a4 => va_gets C.1 C.2.1 (C.2.2.2.2.2.2.1 _ hq) a2 C.2.2.2.1 (C.2.2.2.2.1 _ hw) (fun _ z => z) d (h2 H locs ls a1 a2 a3 a4)⟩
theorem s_gsc {idx : Nat} (C : ox_C p s m args c g nL cc own) (hw : Cond.fieldLink own idx "java/lang/String" "COMPACT_STRINGS" "Z" ∈ ox_W) (d : decode cc pc = .ok (.getstatic idx, 3)) (hk : ox_S p l e R s m args below meth c g nL c0 t0 Qf (pc + 3) k) : ox_S p l e R s m args below meth c g nL c0 t0 Qf pc (o_ic 1 k) := by
  intro lv st h r e
  obtain ⟨h1, h2⟩ := hk _ _ _ _ e
  exact ⟨h1, fun H locs ls a1 a2 a3 a4 => va_gets C.1 C.2.1 C.2.2.2.2.2.2.2.1 a2 C.2.2.2.1 (C.2.2.2.2.1 _ hw) (fun _ z => z) d (h2 H locs ls a1 a2 a3 a4)⟩
theorem s_str {a idx : Nat} {tx : String} (C : ox_C p s m args c g nL cc own) (hq : (own, idx, tx, a) ∈ ox_strs) (d : decode cc pc = .ok (.ldc idx, 2)) (hk : ox_S p l e R s m args below meth c g nL c0 t0 Qf (pc + 2) k) : ox_S p l e R s m args below meth c g nL c0 t0 Qf pc (o_gs a k) := by
  intro lv st h r e
  obtain ⟨h1, h2⟩ := hk _ _ _ _ e
  exact ⟨h1, fun H locs ls a1 a2 a3 a4 => va_ldcS C.1 C.2.1 C.2.2.2.1 (C.2.2.2.2.2.2.2.2.1 _ hq) d (h2 H locs ls a1 a2 a3 a4)⟩
def o_sv (k : ox_K) : ox_K := fun lv st h => match st with
  | .ref a :: st => if (ox_sh h a).1 = 6 ∧ a < 16 then k lv (.ref (ox_sh h a).2 :: st) h else none
  | _ => none
def o_sc (k : ox_K) : ox_K := fun lv st h => match st with
  | .ref a :: st => if (ox_sh h a).1 = 6 ∧ a < 16 then k lv (.int 0 :: st) h else none
  | _ => none
theorem s_sv {idx : Nat} (C : ox_C p s m args c g nL cc own) (hw : Cond.fieldLink own idx "java/lang/String" "value" "[B" ∈ ox_W) (d : decode cc pc = .ok (.getfield idx, 3)) (hk : ox_S p l e R s m args below meth c g nL c0 t0 Qf (pc + 3) k) : ox_S p l e R s m args below meth c g nL c0 t0 Qf pc (o_sv k) := by
  intro lv st h r e
  unfold o_sv at e
  split at e
  · next a st2 =>
    split at e
    · next hc =>
      obtain ⟨h1, h2⟩ := hk _ _ _ _ e
      refine ⟨h1, fun H locs ls a1 a2 a3 a4 => ?_⟩
      obtain ⟨cf, k1, fi, f, cell, g1, g2, g3, g4, g5, g6⟩ := ((a1.2.2.2 a hc.2).2.2.2 (ox_sh h a).2 (by rw [← hc.1])).2.2
      exact W.getf C.1 C.2.1 C.2.2.2.1 (C.2.2.2.2.1 _ hw) g1 g2 g3 g4 (v := .ref (ox_ca g (ox_sh h a).2)) g5 rfl rfl d (h2 H locs ls a1 a2 a3 a4)
    · cases e
  · cases e
theorem s_sc {idx : Nat} (C : ox_C p s m args c g nL cc own) (hw : Cond.fieldLink own idx "java/lang/String" "coder" "B" ∈ ox_W) (d : decode cc pc = .ok (.getfield idx, 3)) (hk : ox_S p l e R s m args below meth c g nL c0 t0 Qf (pc + 3) k) : ox_S p l e R s m args below meth c g nL c0 t0 Qf pc (o_sc k) := by
  intro lv st h r e
  unfold o_sc at e
  split at e
  · next a st2 =>
    split at e
    · next hc =>
      obtain ⟨h1, h2⟩ := hk _ _ _ _ e
      refine ⟨h1, fun H locs ls a1 a2 a3 a4 => ?_⟩
      obtain ⟨cf, k1, fi, f, cell, g1, g2, g3, g4, g5, g6⟩ := ((a1.2.2.2 a hc.2).2.2.2 (ox_sh h a).2 (by rw [← hc.1])).2.1
      exact W.getf C.1 C.2.1 C.2.2.2.1 (C.2.2.2.2.1 _ hw) g1 g2 g3 g4 (v := .int 0) g5 rfl rfl d (h2 H locs ls a1 a2 a3 a4)
    · cases e
  · cases e
/-! contracts -/
def ox_Q (g : ox_G) (r : ox_R) : Array Value → State → Outcome → State → Prop := fun _ st o t =>
  o = .returned (r.1.map (ox_cv g)) ∧ ox_Pic g r.2 t t.heap ∧ st.heap.size ≤ t.heap.size ∧ ∀ q : Nat, q < st.heap.size → ¬ ox_A g q → t.heap[q]? = st.heap[q]?
def ox_rm (dp : Nat) (h h2 : ox_HP) : Room := { frames := dp, cells := ox_n h2 - ox_n h, slots := ox_t h2 - ox_t h, locals := 60 * dp }
def ox_Pc (g : ox_G) (as : List Value) (h : ox_HP) : Array Value → State → Prop := va_Pc (as.map (ox_cv g)) (fun U => ox_Pic g h U U.heap ∧ ox_Wd g U U.heap)
def ox_Met (l : Launch) (g : ox_G) (y : MethodName) (by_ : ByteArray) (maxL : Nat) (ret : Option FieldType) (dp : Nat) (as : List Value) (h : ox_HP) (r : ox_R) : Prop :=
  Met l y (Cond.code y by_ maxL ret :: ox_W) (ox_rm dp h r.2) (ox_Pc g as h) (ox_Q g r) (ox_n r.2 - ox_n h) (ox_t r.2 - ox_t h) (ox_A g)
def ox_Sem (y : MethodName) (by_ : ByteArray) (maxL : Nat) (ret : Option FieldType) (dp : Nat) (f : ox_F) : Prop :=
  ∀ (l : Launch) (g : ox_G) (as : List Value) (h : ox_HP) (r : ox_R), f as h = some r → ox_le h r.2 ∧ ox_Met l g y by_ maxL ret dp as h r
theorem ox_blind {as : List Value} {h : ox_HP} : FrameBlind (ox_Pc g as h) := by
  intro a U g1 mk q
  obtain ⟨q0, q1, q2⟩ := q
  exact ⟨q0, ox_Pic.moved (u := U) (U := U.calling g1 mk a) (Vm.Alike.refl U.vm) q1, ox_Wd.same (u := U) (U := U.calling g1 mk a) rfl q2⟩
theorem ox_pre {as : List Value} {h : ox_HP} {H : Heap} {locs : List Loc} (C : ox_C p s m args c g nL cc own) (hP : ox_Pic g h s H) (hS : va_S (ox_A g) s.heap H locs) : ∀ U : State, U.heap = H → s.WarmedH U.vm → ox_Pc g as h (as.map (ox_cv g)).toArray U := by
  intro U hU hW
  refine ⟨rfl, ?_, ?_⟩
  · rw [hU]
    exact hP.moved hW.alike
  · rw [hU]
    exact ox_Wd.warm hW hS.2.1 C.2.2.2.2.2
theorem ox_call {Q : State → Prop} {H : Heap} {locs : List Loc} {cells slots mc ms : Nat} {pc : Nat} {ls : Array Slot} {rest st0 : List Value} {Qa : State → Outcome → State → Prop} {r : ox_R} {a : Array Value} (hr : va_Run p l e R s m args below meth c H locs cells slots mc ms (F0 m pc ls st0) rest (ox_Q g r a) (ox_A g)) (hS : va_S (ox_A g) s.heap H locs)
    (kk : ∀ (H1 : Heap) (locs1 : List Loc), ox_Pic g r.2 s H1 → va_S (ox_A g) s.heap H1 locs1 → W p l e R s m args below meth c H1 locs1 (cells + mc) (slots + ms) Q (F0 m (pc + 3) ls ((r.1.map (ox_cv g)).toList ++ rest))) : W p l e R s m args below meth c H locs cells slots Q (F0 m pc ls st0) := by
  intro T hT X
  obtain ⟨v, st₀, t, T', L, h0, X', hL, e1, e2, ⟨hv, hp, hz, hk⟩, st⟩ := hr T hT X
  cases hv
  rw [h0] at hz hk
  have hal : t.vm.Alike s.vm := by rw [← e2]; exact X'.warmed.alike.symm
  obtain ⟨t2, a1, b1⟩ := kk T'.heap (locs ++ L) (by rw [e1]; exact hp.moved hal) ⟨Nat.le_trans hS.1 (by rw [e1]; exact hz), fun q h1 h2 => by rw [e1, hk q (Nat.lt_of_lt_of_le h1 hS.1) h2]; exact hS.2.1 q h1 h2, fun q hq => by
      rcases List.mem_append.mp hq with h | h
      · exact hS.2.2 q h
      · exact hL q h⟩ T' rfl X'
  exact ⟨t2, st t2 a1, b1⟩
/-- a call: so many arguments, the method's meaning f -/
def ox_cs (st : List Value) : Nat := (st.map fun v => v.category).sum
theorem ox_cs_map (st : List Value) : ((st.map (ox_cv g)).map fun v => v.category).sum = ox_cs st := by
  unfold ox_cs
  rw [List.map_map]
  congr 1
  exact List.map_congr_left (fun v _ => ox_cat g v)
def o_cv (f : ox_F) (ci n : Nat) (k : ox_K) : ox_K := fun lv st h => match st.drop n with
  | .ref b :: rest => if ox_sh h b = (0, ci) ∧ ox_cs rest ≤ 8 ∧ (st.take n).length = n then (match f (.ref b :: (st.take n).reverse) h with
    | some r => k lv (r.1.toList ++ rest) r.2
    | none => none) else none
  | _ => none
def o_cn (f : ox_F) (n : Nat) (k : ox_K) : ox_K := fun lv st h => match st.drop n with
  | .ref b :: rest => if ox_cs rest ≤ 8 ∧ (st.take n).length = n then (match f (.ref b :: (st.take n).reverse) h with
    | some r => k lv (r.1.toList ++ rest) r.2
    | none => none) else none
  | _ => none
def o_ct (f : ox_F) (n : Nat) (k : ox_K) : ox_K := fun lv st h => if ox_cs (st.drop n) ≤ 8 ∧ (st.take n).length = n then (match f (st.take n).reverse h with
    | some r => k lv (r.1.toList ++ st.drop n) r.2
    | none => none) else none
theorem ox_stk (st : List Value) (n : Nat) : st.map (ox_cv g) = ((st.take n).reverse.map (ox_cv g)).reverse ++ (st.drop n).map (ox_cv g) := by
  rw [List.map_reverse, List.reverse_reverse, ← List.map_append, List.take_append_drop]
theorem ox_tail {r1 : Option Value} {rest : List Value} : (r1.map (ox_cv g)).toList ++ rest.map (ox_cv g) = (r1.toList ++ rest).map (ox_cv g) := by
  cases r1 <;> simp
theorem s_cv {y : MethodName} {by_ : ByteArray} {maxL dp ci n idx : Nat} {ret : Option FieldType} {f : ox_F} {q : vw_C} (C : ox_C p s m args c g nL cc own) (hf : ox_Sem y by_ maxL ret dp f) (hq : ox_cls[ci]? = some q) (w1 : Cond.methodLink own idx y ∈ ox_W) (w2 : Cond.instanceMethod y ∈ ox_W) (w3 : Cond.selects q.1 y y ∈ ox_W) (w4 : Cond.initialized q.1 ∈ ox_W) (w5 : Cond.code y by_ maxL ret ∈ ox_W) (hd : y.cls = q.1 ∧ y.cls ≠ "java/lang/invoke/MethodHandle" ∧ y.cls ≠ "java/lang/invoke/VarHandle" ∧ (parseMethodDescriptor y.desc).map (fun d => d.parameters.length) = some n) (hR : dp + 1 ≤ R.frames ∧ 8 + (maxL + 11) + 60 * dp ≤ R.locals) (d : decode cc pc = .ok (.invokevirtual idx, 3)) (hk : ox_S p l e R s m args below meth c g nL c0 t0 Qf (pc + 3) k) : ox_S p l e R s m args below meth c g nL c0 t0 Qf pc (o_cv f ci n k) := by
  intro lv st h r e
  unfold o_cv at e
  split at e
  · next b rest hst =>
    split at e
    · next hc =>
      obtain ⟨hsh, hcs, hln⟩ := hc
      split at e
      · next r1 hf1 =>
        obtain ⟨m1, m2⟩ := hf l g _ _ _ hf1
        obtain ⟨h1, h2⟩ := hk _ _ _ _ e
        refine ⟨ox_le.tr m1 h1, fun H locs ls a1 a2 a3 a4 => ?_⟩
        obtain ⟨b1, b2, b3, b4⟩ := a4
        obtain ⟨m3, m4⟩ := m1
        obtain ⟨h3, h4⟩ := h1
        obtain ⟨-, -, q2, hq2, cell, v1, v2, v3, v4⟩ := ox_obj a1 hsh
        cases hq.symm.trans hq2
        have hKn := C.2.2.2.2.2.1.1 ci _ hq
        have hG : GoodIn ox_W (wsV own idx q.1 y (Cond.code y by_ maxL ret :: ox_W)) := by
          intro w hw
          unfold wsV at hw
          have hw2 : w ∈ ox_W := by
            simp only [List.mem_append, List.mem_cons, List.not_mem_nil, or_false] at hw
            rcases hw with (e1 | e1 | e1 | e1) | e1 | e1
            · rw [e1]; exact w1
            · rw [e1]; exact w2
            · rw [e1]; exact w3
            · rw [e1]; exact w4
            · rw [e1]; exact w5
            · exact e1
          exact ⟨hw2, good_of_word (ox_Wg hw2)⟩
        rw [ox_stk st n, hst]
        refine ox_call (Qa := fun _ _ _ => True) (rest := rest.map (ox_cv g)) (va_runV (Ts := ox_W) (As := (st.take n).reverse.map (ox_cv g)) (b := ox_ca g b) ⟨C.1, C.2.1, C.2.2.1, C.2.2.2.1, C.2.2.2.2.1⟩ m2 (cwV n C.2.2.2.2.1 hG rfl rfl rfl hd hR) ⟨ox_blind, ⟨cell, v1, by rw [v3]; rfl, by rw [v2]; exact hKn.2.1⟩, ox_pre C a1 a2⟩ rfl (by rw [List.length_map, List.length_reverse]; exact hln) a3.1 rfl (lv_room (by rw [ox_cs_map]; exact hcs)) d ⟨by omega, by omega⟩) a2 (fun H1 locs1 c1 c2 => ?_)
        have := h2 H1 locs1 ls c1 c2 a3 ⟨by omega, by omega, b3, b4⟩
        rw [ox_tail, show ox_n h - c0 + (ox_n r1.2 - ox_n h) = ox_n r1.2 - c0 by omega, show ox_t h - t0 + (ox_t r1.2 - ox_t h) = ox_t r1.2 - t0 by omega]
        exact this
      · cases e
    · cases e
  · cases e
theorem s_ct {y : MethodName} {by_ : ByteArray} {maxL dp n idx : Nat} {ret : Option FieldType} {f : ox_F} (C : ox_C p s m args c g nL cc own) (hf : ox_Sem y by_ maxL ret dp f) (w1 : Cond.methodLink own idx y ∈ ox_W) (w2 : Cond.static y ∈ ox_W) (w4 : Cond.initialized y.cls ∈ ox_W) (w5 : Cond.code y by_ maxL ret ∈ ox_W) (hd : y.cls ≠ "java/lang/invoke/MethodHandle" ∧ y.cls ≠ "java/lang/invoke/VarHandle" ∧ (parseMethodDescriptor y.desc).map (fun d => d.parameters.length) = some n) (hR : dp + 1 ≤ R.frames ∧ 8 + (maxL + 11) + 60 * dp ≤ R.locals) (d : decode cc pc = .ok (.invokestatic idx, 3)) (hk : ox_S p l e R s m args below meth c g nL c0 t0 Qf (pc + 3) k) : ox_S p l e R s m args below meth c g nL c0 t0 Qf pc (o_ct f n k) := by
  intro lv st h r e
  unfold o_ct at e
  split at e
  · next hc =>
    obtain ⟨hcs, hln⟩ := hc
    split at e
    · next r1 hf1 =>
      obtain ⟨m1, m2⟩ := hf l g _ _ _ hf1
      obtain ⟨h1, h2⟩ := hk _ _ _ _ e
      refine ⟨ox_le.tr m1 h1, fun H locs ls a1 a2 a3 a4 => ?_⟩
      obtain ⟨b1, b2, b3, b4⟩ := a4
      obtain ⟨m3, m4⟩ := m1
      obtain ⟨h3, h4⟩ := h1
      have hG : GoodIn ox_W (va_wsS own idx y (Cond.code y by_ maxL ret :: ox_W)) := by
        intro w hw
        unfold va_wsS at hw
        have hw2 : w ∈ ox_W := by
          simp only [List.mem_append, List.mem_cons, List.not_mem_nil, or_false] at hw
          rcases hw with (e1 | e1 | e1) | e1 | e1
          · rw [e1]; exact w1
          · rw [e1]; exact w2
          · rw [e1]; exact w4
          · rw [e1]; exact w5
          · exact e1
        exact ⟨hw2, good_of_word (ox_Wg hw2)⟩
      rw [ox_stk st n]
      refine ox_call (Qa := fun _ _ _ => True) (rest := (st.drop n).map (ox_cv g)) (va_runS (Ts := ox_W) (As := (st.take n).reverse.map (ox_cv g)) ⟨C.1, C.2.1, C.2.2.1, C.2.2.2.1, C.2.2.2.2.1⟩ m2 (va_cwS n C.2.2.2.2.1 hG rfl rfl rfl hd hR) ⟨ox_blind, ox_pre C a1 a2⟩ rfl (by rw [List.length_map, List.length_reverse]; exact hln) a3.1 rfl (lv_room (by rw [ox_cs_map]; exact hcs)) d ⟨by omega, by omega⟩) a2 (fun H1 locs1 c1 c2 => ?_)
      have := h2 H1 locs1 ls c1 c2 a3 ⟨by omega, by omega, b3, b4⟩
      rw [ox_tail, show ox_n h - c0 + (ox_n r1.2 - ox_n h) = ox_n r1.2 - c0 by omega, show ox_t h - t0 + (ox_t r1.2 - ox_t h) = ox_t r1.2 - t0 by omega]
      exact this
    · cases e
  · cases e
theorem s_ctN {y : MethodName} {by_ : ByteArray} {maxL dp n idx : Nat} {ret : Option FieldType} {f : ox_F} (C : ox_C p s m args c g nL cc own) (hf : ox_Sem y by_ maxL ret dp f) (w1 : (own, idx, y, "SweetLine") ∈ ox_nst) (w2 : Cond.static y ∈ ox_W) (w4 : Cond.initialized y.cls ∈ ox_W) (w5 : Cond.code y by_ maxL ret ∈ ox_W) (hd : y.cls ≠ "java/lang/invoke/MethodHandle" ∧ y.cls ≠ "java/lang/invoke/VarHandle" ∧ (parseMethodDescriptor y.desc).map (fun d => d.parameters.length) = some n) (hR : dp + 1 ≤ R.frames ∧ 8 + (maxL + 11) + 60 * dp ≤ R.locals) (d : decode cc pc = .ok (.invokestatic idx, 3)) (hk : ox_S p l e R s m args below meth c g nL c0 t0 Qf (pc + 3) k) : ox_S p l e R s m args below meth c g nL c0 t0 Qf pc (o_ct f n k) := by
  intro lv st h r e
  unfold o_ct at e
  split at e
  · next hc =>
    obtain ⟨hcs, hln⟩ := hc
    split at e
    · next r1 hf1 =>
      obtain ⟨m1, m2⟩ := hf l g _ _ _ hf1
      obtain ⟨h1, h2⟩ := hk _ _ _ _ e
      refine ⟨ox_le.tr m1 h1, fun H locs ls a1 a2 a3 a4 => ?_⟩
      obtain ⟨b1, b2, b3, b4⟩ := a4
      obtain ⟨m3, m4⟩ := m1
      obtain ⟨h3, h4⟩ := h1
      rw [ox_stk st n]
      refine ox_call (Qa := fun _ _ _ => True) (rest := (st.drop n).map (ox_cv g)) (va_runSN (Ts := ox_W) (host := "SweetLine") (As := (st.take n).reverse.map (ox_cv g)) ⟨C.1, C.2.1, C.2.2.1, C.2.2.2.1, C.2.2.2.2.1⟩ m2 ⟨va_cnB n C.2.2.2.2.1 (ox_goodT w5) rfl rfl rfl (C.2.2.2.2.2.2.2.2.2.1 _ w1) (C.2.2.2.2.1 _ w4) hd hR, C.2.2.2.2.1 _ w2, trivial⟩ ⟨ox_blind, ox_pre C a1 a2⟩ rfl (by rw [List.length_map, List.length_reverse]; exact hln) a3.1 rfl (lv_room (by rw [ox_cs_map]; exact hcs)) d ⟨by omega, by omega⟩) a2 (fun H1 locs1 c1 c2 => ?_)
      have := h2 H1 locs1 ls c1 c2 a3 ⟨by omega, by omega, b3, b4⟩
      rw [ox_tail, show ox_n h - c0 + (ox_n r1.2 - ox_n h) = ox_n r1.2 - c0 by omega, show ox_t h - t0 + (ox_t r1.2 - ox_t h) = ox_t r1.2 - t0 by omega]
      exact this
    · cases e
  · cases e
theorem s_cn {y : MethodName} {by_ : ByteArray} {maxL dp n idx : Nat} {f : ox_F} (C : ox_C p s m args c g nL cc own) (hf : ox_Sem y by_ maxL none dp f) (w1 : Cond.methodLink own idx y ∈ ox_W) (w2 : Cond.instanceMethod y ∈ ox_W) (w4 : Cond.initialized y.cls ∈ ox_W) (w5 : Cond.code y by_ maxL none ∈ ox_W) (hy : y.name = "<init>") (hd : y.cls ≠ "java/lang/invoke/MethodHandle" ∧ y.cls ≠ "java/lang/invoke/VarHandle" ∧ (parseMethodDescriptor y.desc).map (fun d => d.parameters.length) = some n) (hR : dp + 1 ≤ R.frames ∧ 8 + (maxL + 11) + 60 * dp ≤ R.locals) (d : decode cc pc = .ok (.invokespecial idx, 3)) (hk : ox_S p l e R s m args below meth c g nL c0 t0 Qf (pc + 3) k) : ox_S p l e R s m args below meth c g nL c0 t0 Qf pc (o_cn f n k) := by
  intro lv st h r e
  unfold o_cn at e
  split at e
  · next b rest hst =>
    split at e
    · next hc =>
      obtain ⟨hcs, hln⟩ := hc
      split at e
      · next r1 hf1 =>
        obtain ⟨m1, m2⟩ := hf l g _ _ _ hf1
        obtain ⟨h1, h2⟩ := hk _ _ _ _ e
        refine ⟨ox_le.tr m1 h1, fun H locs ls a1 a2 a3 a4 => ?_⟩
        obtain ⟨b1, b2, b3, b4⟩ := a4
        obtain ⟨m3, m4⟩ := m1
        obtain ⟨h3, h4⟩ := h1
        rw [ox_stk st n, hst]
        refine ox_call (Qa := fun _ _ _ => True) (rest := rest.map (ox_cv g)) (va_runI (Ts := ox_W) (As := (st.take n).reverse.map (ox_cv g)) (b := ox_ca g b) ⟨C.1, C.2.1, C.2.2.1, C.2.2.2.1, C.2.2.2.2.1⟩ m2 (cwI n C.2.2.2.2.1 (ox_goodT w5) rfl rfl rfl (C.2.2.2.2.1 _ w4) (C.2.2.2.2.1 _ w1) (C.2.2.2.2.1 _ w2) hy hd hR) ⟨ox_blind, ox_pre C a1 a2⟩ rfl (by rw [List.length_map, List.length_reverse]; exact hln) a3.1 rfl (lv_room (by rw [ox_cs_map]; exact hcs)) d ⟨by omega, by omega⟩) a2 (fun H1 locs1 c1 c2 => ?_)
        have := h2 H1 locs1 ls c1 c2 a3 ⟨by omega, by omega, b3, b4⟩
        rw [ox_tail, show ox_n h - c0 + (ox_n r1.2 - ox_n h) = ox_n r1.2 - c0 by omega, show ox_t h - t0 + (ox_t r1.2 - ox_t h) = ox_t r1.2 - t0 by omega]
        exact this
      · cases e
    · cases e
  · cases e
theorem s_cnN {y : MethodName} {by_ : ByteArray} {maxL dp n idx : Nat} {f : ox_F} (C : ox_C p s m args c g nL cc own) (hf : ox_Sem y by_ maxL none dp f) (w1 : (own, idx, y, "SweetLine") ∈ ox_nst) (w2 : Cond.instanceMethod y ∈ ox_W) (w4 : Cond.initialized y.cls ∈ ox_W) (w5 : Cond.code y by_ maxL none ∈ ox_W) (hy : y.name = "<init>") (hd : y.cls ≠ "java/lang/invoke/MethodHandle" ∧ y.cls ≠ "java/lang/invoke/VarHandle" ∧ (parseMethodDescriptor y.desc).map (fun d => d.parameters.length) = some n) (hR : dp + 1 ≤ R.frames ∧ 8 + (maxL + 11) + 60 * dp ≤ R.locals) (d : decode cc pc = .ok (.invokespecial idx, 3)) (hk : ox_S p l e R s m args below meth c g nL c0 t0 Qf (pc + 3) k) : ox_S p l e R s m args below meth c g nL c0 t0 Qf pc (o_cn f n k) := by
  intro lv st h r e
  unfold o_cn at e
  split at e
  · next b rest hst =>
    split at e
    · next hc =>
      obtain ⟨hcs, hln⟩ := hc
      split at e
      · next r1 hf1 =>
        obtain ⟨m1, m2⟩ := hf l g _ _ _ hf1
        obtain ⟨h1, h2⟩ := hk _ _ _ _ e
        refine ⟨ox_le.tr m1 h1, fun H locs ls a1 a2 a3 a4 => ?_⟩
        obtain ⟨b1, b2, b3, b4⟩ := a4
        obtain ⟨m3, m4⟩ := m1
        obtain ⟨h3, h4⟩ := h1
        rw [ox_stk st n, hst]
        refine ox_call (Qa := fun _ _ _ => True) (rest := rest.map (ox_cv g)) (va_runIN (Ts := ox_W) (host := "SweetLine") (As := (st.take n).reverse.map (ox_cv g)) (b := ox_ca g b) ⟨C.1, C.2.1, C.2.2.1, C.2.2.2.1, C.2.2.2.2.1⟩ m2 ⟨va_cnB n C.2.2.2.2.1 (ox_goodT w5) rfl rfl rfl (C.2.2.2.2.2.2.2.2.2.1 _ w1) (C.2.2.2.2.1 _ w4) hd hR, hy, C.2.2.2.2.1 _ w2⟩ ⟨ox_blind, ox_pre C a1 a2⟩ rfl (by rw [List.length_map, List.length_reverse]; exact hln) a3.1 rfl (lv_room (by rw [ox_cs_map]; exact hcs)) d ⟨by omega, by omega⟩) a2 (fun H1 locs1 c1 c2 => ?_)
        have := h2 H1 locs1 ls c1 c2 a3 ⟨by omega, by omega, b3, b4⟩
        rw [ox_tail, show ox_n h - c0 + (ox_n r1.2 - ox_n h) = ox_n r1.2 - c0 by omega, show ox_t h - t0 + (ox_t r1.2 - ox_t h) = ox_t r1.2 - t0 by omega]
        exact this
      · cases e
    · cases e
  · cases e
/-- Object's constructor -/
def o_obj (k : ox_K) : ox_K := fun lv st h => match st with
  | .ref _ :: st => if ox_cs st ≤ 8 then k lv st h else none
  | _ => none
theorem s_obj {idx : Nat} (C : ox_C p s m args c g nL cc own) (w1 : Cond.methodLink own idx objectInit ∈ ox_W) (w2 : Cond.instanceMethod objectInit ∈ ox_W) (w3 : Cond.code objectInit ⟨#[0xb1]⟩ 1 none ∈ ox_W) (hR : 1 ≤ R.frames ∧ 20 ≤ R.locals) (d : decode cc pc = .ok (.invokespecial idx, 3)) (hk : ox_S p l e R s m args below meth c g nL c0 t0 Qf (pc + 3) k) : ox_S p l e R s m args below meth c g nL c0 t0 Qf pc (o_obj k) := by
  intro lv st h r e
  unfold o_obj at e
  split at e
  · next a st2 =>
    split at e
    · next hc =>
      obtain ⟨h1, h2⟩ := hk _ _ _ _ e
      refine ⟨h1, fun H locs ls a1 a2 a3 a4 => ?_⟩
      refine W.objInit C.1 C.2.1 C.2.2.2.1 (C.2.2.2.2.1 _ w1) (C.2.2.2.2.1 _ w2) (C.2.2.2.2.1 _ w3) rfl (by rw [C.2.2.1]; exact a3.1) rfl d hR.1 ?_ (h2 H locs ls a1 a2 a3 a4)
      have := ox_cs_map (g := g) st2
      show 2 * 0 + ((st2.map (ox_cv g)).map fun v => v.category).sum + 12 ≤ R.locals
      omega
    · cases e
  · cases e
/-! returns -/
def ox_QM (g : ox_G) (below : List Frame) (args : Array Value) (s : State) (c0 t0 : Nat) : ox_R → State → Prop := fun r => MQ below (ox_Q g r) args s (ox_n r.2 - c0) (ox_t r.2 - t0) (ox_A g)
theorem ox_ret {r1 : Option Value} {h : ox_HP} {H : Heap} {locs : List Loc} (a1 : ox_Pic g h s H) (a2 : va_S (ox_A g) s.heap H locs) : ∀ t : State, t.heap = H → s.WarmedH t.vm → ox_Q g (r1, h) args s (.returned (r1.map (ox_cv g))) t := by
  intro t ht hW
  exact ⟨rfl, by rw [ht]; exact a1.moved hW.alike, by rw [ht]; exact a2.1, fun q h1 h2 => by rw [ht]; exact a2.2.1 q h1 h2⟩
def o_ret : ox_K := fun _ st h => match st with
  | [] => some (none, h)
  | _ => none
def o_iret : ox_K := fun _ st h => match st with
  | [.int v] => some (some (.int v), h)
  | _ => none
def o_lret : ox_K := fun _ st h => match st with
  | [.long v] => some (some (.long v), h)
  | _ => none
def o_zret : ox_K := fun _ st h => match st with
  | [.int v] => if v = 0 ∨ v = 1 then some (some (.int v), h) else none
  | _ => none
def o_cret (n : Int32) : ox_K := fun _ st h => match st with
  | [.int v] => if v = v &&& n then some (some (.int v), h) else none
  | _ => none
theorem s_ret (C : ox_C p s m args c g nL cc own) (hr : meth.sig.returnType = none) (hlocks : meth.locks = false) (d : decode cc pc = .ok (.return_, 1)) : ox_S p l e R s m args below meth c g nL c0 t0 (ox_QM g below args s c0 t0) pc o_ret := by
  intro lv st h r e
  unfold o_ret at e
  split at e
  · cases e
    exact ⟨ox_le.rf, fun H locs ls a1 a2 a3 a4 => W.vret C.1 C.2.1 hr (ox_ret (r1 := none) a1 a2) a2.2.2 d⟩
  · cases e
theorem s_iret (C : ox_C p s m args c g nL cc own) (hr : meth.sig.returnType = some .int) (hlocks : meth.locks = false) (d : decode cc pc = .ok (.ireturn, 1)) : ox_S p l e R s m args below meth c g nL c0 t0 (ox_QM g below args s c0 t0) pc o_iret := by
  intro lv st h r e
  unfold o_iret at e
  split at e
  · next v =>
    cases e
    exact ⟨ox_le.rf, fun H locs ls a1 a2 a3 a4 => W.iret C.1 C.2.1 hr (ox_ret (r1 := some (.int v)) a1 a2) a2.2.2 d⟩
  · cases e
theorem s_lret (C : ox_C p s m args c g nL cc own) (hr : meth.sig.returnType = some .long) (hlocks : meth.locks = false) (d : decode cc pc = .ok (.lreturn, 1)) : ox_S p l e R s m args below meth c g nL c0 t0 (ox_QM g below args s c0 t0) pc o_lret := by
  intro lv st h r e
  unfold o_lret at e
  split at e
  · next v =>
    cases e
    exact ⟨ox_le.rf, fun H locs ls a1 a2 a3 a4 => W.lret C.1 C.2.1 hr (ox_ret (r1 := some (.long v)) a1 a2) a2.2.2 d⟩
  · cases e
theorem s_zret {ty : FieldType} (C : ox_C p s m args c g nL cc own) (hr : meth.sig.returnType = some ty) (hty : ty = .boolean ∨ ty = .byte) (hlocks : meth.locks = false) (d : decode cc pc = .ok (.ireturn, 1)) : ox_S p l e R s m args below meth c g nL c0 t0 (ox_QM g below args s c0 t0) pc o_zret := by
  intro lv st h r e
  unfold o_zret at e
  split at e
  · next v =>
    split at e
    · next hv =>
      cases e
      exact ⟨ox_le.rf, fun H locs ls a1 a2 a3 a4 => W.zret C.1 C.2.1 hr (by rcases hty with e1 | e1 <;> rw [e1] <;> rcases hv with hv | hv <;> subst hv <;> rfl) (ox_ret (r1 := some (.int v)) a1 a2) a2.2.2 d⟩
    · cases e
  · cases e
theorem s_cret (C : ox_C p s m args c g nL cc own) (hr : meth.sig.returnType = some .char) (hlocks : meth.locks = false) (d : decode cc pc = .ok (.ireturn, 1)) : ox_S p l e R s m args below meth c g nL c0 t0 (ox_QM g below args s c0 t0) pc (o_cret 255) := by
  intro lv st h r e
  unfold o_cret at e
  split at e
  · next v =>
    split at e
    · next hv =>
      cases e
      exact ⟨ox_le.rf, fun H locs ls a1 a2 a3 a4 => W.zret C.1 C.2.1 hr (by rw [hv]; exact sc_nar v) (ox_ret (r1 := some (.int v)) a1 a2) a2.2.2 d⟩
    · cases e
  · cases e
theorem ox_len_sl : ∀ vs : List Value, (lg_sl vs).length = (vs.map fun v => v.category).sum
  | [] => rfl
  | v :: vs => by
    have ih := ox_len_sl vs
    unfold lg_sl at ih ⊢
    rw [List.flatMap_cons, List.length_append, ih, List.map_cons, List.sum_cons]
    cases v <;> rfl
theorem ox_args (g : ox_G) : ∀ (vs : List Value) (i : Nat), lv_args i (vs.map (ox_cv g)) = ox_cl g (lv_args i vs)
  | [], _ => rfl
  | v :: vs, i => by
    rw [List.map_cons]
    unfold lv_args
    rw [ox_cat, ox_args g vs]
    rfl
/-- a method's contract out of its blocks -/
theorem ox_meth {y : MethodName} {by_ : ByteArray} {maxL : Nat} {ret : Option FieldType} {dp : Nat} {f : ox_F} {bs : Nat → (Nat → ox_K) → ox_K} (hy : plainName y.cls = true) (hf : ∀ as h r, f as h = some r → ox_cs as ≤ maxL ∧ ox_le h r.2 ∧ ∃ n, ox_run bs n 0 (lv_args 0 as) [] h = some r)
    (hbs : ∀ (p : Program) (l : Launch) (e : Env) (R : Room) (s : State) (m : MethodId) (args : Array Value) (below : List Frame) (meth : Method) (c : Code) (g : ox_G) (c0 t0 : Nat), ox_C p s m args c g maxL by_ y.cls → meth.sig.returnType = ret → meth.locks = false → meth.name = y.name → R.frames = dp ∧ R.locals = 60 * dp →
      ∀ rc : Nat → ox_K, (∀ b, ox_S p l e R s m args below meth c g maxL c0 t0 (ox_QM g below args s c0 t0) b (rc b)) → ∀ b, ox_S p l e R s m args below meth c g maxL c0 t0 (ox_QM g below args s c0 t0) b (bs b rc)) : ox_Sem y by_ maxL ret dp f := by
  intro l g as h r hfr
  obtain ⟨hcs, hle, n, hrun⟩ := hf as h r hfr
  refine ⟨hle, ?_⟩
  refine Met.ofW (cc := by_) (maxL := maxL) (ret := ret) hy rfl ?_
  intro p e s m args below meth c s₁ B hml hv
  obtain ⟨rfl, hP, hWd⟩ := hv
  have hts := atoms_spec (ws := Cond.code y by_ maxL ret :: ox_W) B.pre
  have hown : s.vm.findClass y.cls = some m.cls := findClass_of_methodNamed B.named
  have C : ox_C p s m (as.map (ox_cv g)).toArray c g maxL by_ y.cls := ⟨B.exec, B.bytes, hml, hown, fun w hw => hts w (List.mem_cons_of_mem _ hw), hWd⟩
  obtain ⟨-, K⟩ := s_run (hbs p l e (headSpec (Cond.code y by_ maxL ret :: ox_W) (ox_rm dp h r.2)).room s m _ below meth c g (ox_n h) (ox_t h) C B.returns B.notSynchronized (name_of_methodNamed B.named B.method).1 ⟨rfl, rfl⟩) n 0 _ _ _ _ hrun
  have hlen : (lg_sl (as.map (ox_cv g))).length ≤ maxL := by
    rw [ox_len_sl, ox_cs_map]
    exact hcs
  have hl := lv_entry (as.map (ox_cv g)) (n := maxL) hlen
  rw [lg_entry_eq]
  have hla : lv_args 0 (as.map (ox_cv g)) = ox_cl g (lv_args 0 as) := ox_args g as 0
  rw [hla] at hl
  have := K s.heap [] _ hP va_S.rf hl ⟨Nat.le_refl _, Nat.le_refl _, by show ox_n r.2 ≤ (ox_n r.2 - ox_n h) + ox_n h; have := hle.1; omega, by show ox_t r.2 ≤ (ox_t r.2 - ox_t h) + ox_t h; have := hle.2; omega⟩
  rw [Nat.sub_self, Nat.sub_self] at this
  exact this
end OXT
end
section
section OXU
variable {p : Program} {l : Launch} {e : Env} {R : Room} {s : State} {m : MethodId} {args : Array Value} {below : List Frame} {meth : Method} {c : Code}
variable {g : ox_G} {nL c0 t0 : Nat} {Qf : ox_R → State → Prop} {cc : ByteArray} {own : String} {pc : Nat} {k kt kf : ox_K}

def o_cvS (f : ox_F) (n : Nat) (k : ox_K) : ox_K := fun lv st h => match st.drop n with
  | .ref b :: rest => if ((ox_sh h b).1 = 6 ∧ b < 16) ∧ ox_cs rest ≤ 8 ∧ (st.take n).length = n then (match f (.ref b :: (st.take n).reverse) h with
    | some r => k lv (r.1.toList ++ rest) r.2
    | none => none) else none
  | _ => none
theorem s_cvS {y : MethodName} {by_ : ByteArray} {maxL dp n idx : Nat} {ret : Option FieldType} {f : ox_F} (C : ox_C p s m args c g nL cc own) (hf : ox_Sem y by_ maxL ret dp f) (w1 : Cond.methodLink own idx y ∈ ox_W) (w2 : Cond.instanceMethod y ∈ ox_W) (w3 : Cond.selects "java/lang/String" y y ∈ ox_W) (w4 : Cond.initialized "java/lang/String" ∈ ox_W) (w5 : Cond.code y by_ maxL ret ∈ ox_W) (hd : y.cls = "java/lang/String" ∧ y.cls ≠ "java/lang/invoke/MethodHandle" ∧ y.cls ≠ "java/lang/invoke/VarHandle" ∧ (parseMethodDescriptor y.desc).map (fun d => d.parameters.length) = some n) (hR : dp + 1 ≤ R.frames ∧ 8 + (maxL + 11) + 60 * dp ≤ R.locals) (d : decode cc pc = .ok (.invokevirtual idx, 3)) (hk : ox_S p l e R s m args below meth c g nL c0 t0 Qf (pc + 3) k) : ox_S p l e R s m args below meth c g nL c0 t0 Qf pc (o_cvS f n k) := by
  intro lv st h r e
  unfold o_cvS at e
  split at e
  · next b rest hst =>
    split at e
    · next hc =>
      obtain ⟨hsh, hcs, hln⟩ := hc
      split at e
      · next r1 hf1 =>
        obtain ⟨m1, m2⟩ := hf l g _ _ _ hf1
        obtain ⟨h1, h2⟩ := hk _ _ _ _ e
        refine ⟨ox_le.tr m1 h1, fun H locs ls a1 a2 a3 a4 => ?_⟩
        obtain ⟨b1, b2, b3, b4⟩ := a4
        obtain ⟨m3, m4⟩ := m1
        obtain ⟨h3, h4⟩ := h1
        obtain ⟨cell, v1, v2, v3, v4⟩ := ((a1.2.2.2 b hsh.2).2.2.2 (ox_sh h b).2 (by rw [← hsh.1])).1
        have hG : GoodIn ox_W (wsV own idx "java/lang/String" y (Cond.code y by_ maxL ret :: ox_W)) := by
          intro w hw
          unfold wsV at hw
          have hw2 : w ∈ ox_W := by
            simp only [List.mem_append, List.mem_cons, List.not_mem_nil, or_false] at hw
            rcases hw with (e1 | e1 | e1 | e1) | e1 | e1
            · rw [e1]; exact w1
            · rw [e1]; exact w2
            · rw [e1]; exact w3
            · rw [e1]; exact w4
            · rw [e1]; exact w5
            · exact e1
          exact ⟨hw2, good_of_word (ox_Wg hw2)⟩
        rw [ox_stk st n, hst]
        refine ox_call (Qa := fun _ _ _ => True) (rest := rest.map (ox_cv g)) (va_runV (Ts := ox_W) (As := (st.take n).reverse.map (ox_cv g)) (b := ox_ca g b) ⟨C.1, C.2.1, C.2.2.1, C.2.2.2.1, C.2.2.2.2.1⟩ m2 (cwV n C.2.2.2.2.1 hG rfl rfl rfl hd hR) ⟨ox_blind, ⟨cell, v1, v2, v3⟩, ox_pre C a1 a2⟩ rfl (by rw [List.length_map, List.length_reverse]; exact hln) a3.1 rfl (lv_room (by rw [ox_cs_map]; exact hcs)) d ⟨by omega, by omega⟩) a2 (fun H1 locs1 c1 c2 => ?_)
        have := h2 H1 locs1 ls c1 c2 a3 ⟨by omega, by omega, b3, b4⟩
        rw [ox_tail, show ox_n h - c0 + (ox_n r1.2 - ox_n h) = ox_n r1.2 - c0 by omega, show ox_t h - t0 + (ox_t r1.2 - ox_t h) = ox_t r1.2 - t0 by omega]
        exact this
      · cases e
    · cases e
  · cases e
def o_acopy (k : ox_K) : ox_K := fun lv st h => match st with
  | .int n :: .int dp :: .ref a :: .int sp :: .ref b :: st => if ((ox_sh h a).1 = 1 ∧ (ox_sh h b).1 = 1) ∧ (0 ≤ n.toInt ∧ 0 ≤ dp.toInt ∧ 0 ≤ sp.toInt) ∧ (sp.toInt + n.toInt ≤ ((ox_sh h b).2 : Int) ∧ dp.toInt + n.toInt ≤ ((ox_sh h a).2 : Int)) ∧ ox_cs st ≤ 8 then k lv st (ox_wa h a (va_cpy (h.2.1 b) (h.2.1 a) sp.toNatClampNeg dp.toNatClampNeg n.toNatClampNeg)) else none
  | _ => none
theorem ox_tc {z : Int32} (hz : 0 ≤ z.toInt) : (z.toNatClampNeg : Int) = z.toInt ∧ ¬ z < 0 := by
  refine ⟨?_, fun q => ?_⟩
  · show ((z.toInt.toNat : Nat) : Int) = z.toInt
    omega
  · have := Int32.lt_iff_toInt_lt.mp q
    have e0 : (0 : Int32).toInt = 0 := rfl
    omega
theorem s_acopy {idx : Nat} (C : ox_C p s m args c g nL cc own) (w1 : Cond.methodLink own idx arraycopyName ∈ ox_W) (w2 : Cond.native arraycopyName ∈ ox_W) (w3 : Cond.static arraycopyName ∈ ox_W) (w4 : Cond.initialized "java/lang/System" ∈ ox_W) (hR : 1 ≤ R.frames ∧ 8 + (nativeFrameWords "java/lang/System" "arraycopy" 5 + 11) ≤ R.locals) (d : decode cc pc = .ok (.invokestatic idx, 3)) (hk : ox_S p l e R s m args below meth c g nL c0 t0 Qf (pc + 3) k) : ox_S p l e R s m args below meth c g nL c0 t0 Qf pc (o_acopy k) := by
  intro lv st h r e
  unfold o_acopy at e
  split at e
  · next n dp a sp b st2 =>
    split at e
    · next hc =>
      obtain ⟨⟨ha1, hb1⟩, ⟨hn0, hd0, hs0⟩, ⟨hsn, hdn⟩, hcs⟩ := hc
      obtain ⟨h1, h2⟩ := hk _ _ _ _ e
      refine ⟨h1, fun H locs ls a1 a2 a3 a4 => ?_⟩
      obtain ⟨n1, n2⟩ := ox_tc hn0
      obtain ⟨d1, d2⟩ := ox_tc hd0
      obtain ⟨s1, s2⟩ := ox_tc hs0
      have hsa : ox_sh h a = (1, (ox_sh h a).2) := by rw [← ha1]
      have hsb : ox_sh h b = (1, (ox_sh h b).2) := by rw [← hb1]
      obtain ⟨ha16, -, hca⟩ := ox_arr a1 hsa (Or.inl rfl)
      obtain ⟨hb16, -, hcb⟩ := ox_arr a1 hsb (Or.inl rfl)
      have hAT := (C.2.2.2.2.2.1.2 0 (g.2.2.2 1, .int) rfl).1
      obtain ⟨-, k0, hk0, cm0, hkk0⟩ := hAT (ox_sh h b).2 (fun i => .int (h.2.1 b i))
      obtain ⟨-, k1, hk1, cm1, hkk1⟩ := hAT (ox_sh h a).2 (fun i => .int (h.2.1 a i))
      intro T hT X
      obtain ⟨vm', X', step⟩ := X.arraycopy C.1 C.2.2.2.1 (C.2.2.2.2.1 _ w1) (C.2.2.2.2.1 _ w2) (C.2.2.2.2.1 _ w3) (C.2.2.2.2.1 _ w4) (src := ox_ca g b) (dst := ox_ca g a) (cs := arrV (g.2.2.2 1) (ox_sh h b).2 (fun i => .int (h.2.1 b i))) (cd := arrV (g.2.2.2 1) (ox_sh h a).2 (fun i => .int (h.2.1 a i))) (srcPos := sp) (destPos := dp) (n := n) (by rw [hT]; exact hcb) (by rw [hT]; exact hca)
        (fun _ h => by cases h) (fun _ h => by cases h) (fun h => by cases h) (fun h => by cases h) hk0 hk1 hkk0 hkk1 (by simp [refKind]) s2 d2 n2
        (by rw [arrV_size]; omega) (by rw [arrV_size]; omega)
        (fun vm₁ _ i hi => by
          have e9 : (arrV (g.2.2.2 1) (ox_sh h b).2 (fun i => Value.int (h.2.1 b i))).slots.getD (sp.toNatClampNeg + i) .null = .int (h.2.1 b (sp.toNatClampNeg + i)) := by
            rw [Array.getD_eq_getD_getElem?, arrV_read _ _ (by omega)]
            rfl
          refine ⟨?_, ?_⟩
          · rw [e9]
            rfl
          · rw [e9]
            exact trivial)
        (g := F0 m pc ls (.int n :: .int dp :: .ref (ox_ca g a) :: .int sp :: .ref (ox_ca g b) :: st2.map (ox_cv g))) rfl (by rw [C.2.2.1]; exact a3.1) (rest := st2.map (ox_cv g)) rfl (by rw [C.2.1]; exact d) hR.1 (by have := ox_cs_map (g := g) st2; show 2 * 0 + _ + _ ≤ _; omega)
      have e1 : copied (arrV (g.2.2.2 1) (ox_sh h b).2 (fun i => Value.int (h.2.1 b i))) (arrV (g.2.2.2 1) (ox_sh h a).2 (fun i => Value.int (h.2.1 a i))) sp dp n = arrV (g.2.2.2 1) (ox_sh h a).2 (fun i => .int (va_cpy (h.2.1 b) (h.2.1 a) sp.toNatClampNeg dp.toNatClampNeg n.toNatClampNeg i)) := va_copied (fun z => .int z) _ _ (h.2.1 b) (h.2.1 a) (by omega)
      rw [e1] at X' step
      have hl : ox_ca g a < H.size := (Array.getElem?_eq_some_iff.mp hca).1
      generalize hcv : arrV (g.2.2.2 1) (ox_sh h a).2 (fun i => .int (va_cpy (h.2.1 b) (h.2.1 a) sp.toNatClampNeg dp.toNatClampNeg n.toNatClampNeg i)) = cv at X' step
      have hheap : ((T.setVm vm').setCell (ox_ca g a) cv).heap = H.setIfInBounds (ox_ca g a) cv := by rw [← hT]; rfl
      have oq : ∀ q : Nat, q ≠ ox_ca g a → (H.setIfInBounds (ox_ca g a) cv)[q]? = H[q]? := fun q hq => by simp [Array.getElem?_setIfInBounds, Ne.symm hq]
      have eq1 : (H.setIfInBounds (ox_ca g a) cv)[ox_ca g a]? = some cv := by simp [Array.getElem?_setIfInBounds, hl]
      have hs2 : ox_sh (ox_wa h a (va_cpy (h.2.1 b) (h.2.1 a) sp.toNatClampNeg dp.toNatClampNeg n.toNatClampNeg)) a = (1, (ox_sh h a).2) := hsa
      have hpic := a1.put (h2 := ox_wa h a (va_cpy (h.2.1 b) (h.2.1 a) sp.toNatClampNeg dp.toNatClampNeg n.toNatClampNeg)) (H1 := H.setIfInBounds (ox_ca g a) cv) ha16 rfl (fun x hx => (show va_up h.2.1 a _ x = h.2.1 x from if_neg hx)) (fun x hx => rfl) (by simp) oq (by
        refine ⟨fun c2 qq => ?_, fun d2 n2 qq hd2 => ?_, fun c2 n2 qq => ?_⟩
        · rw [hs2] at qq
          have := (Prod.mk.inj qq).1
          omega
        · rw [hs2] at qq
          cases qq
          rw [eq1, ← hcv]
          congr 2
          funext i
          show _ = Value.int (va_up h.2.1 a _ a i)
          unfold va_up
          rw [if_pos rfl]
        · rw [hs2] at qq
          have := (Prod.mk.inj qq).1
          omega)
      obtain ⟨t, b1, b2⟩ := h2 (H.setIfInBounds (ox_ca g a) cv) _ ls hpic ⟨by simp; exact a2.1, fun q g1 g2 => by
          rw [oq q (fun e => g2 (by rw [e]; exact ox_A_in ha16))]
          exact a2.2.1 q g1 g2, fun q hq => by
          rcases List.mem_append.mp hq with h | h
          · exact a2.2.2 q h
          · obtain ⟨z, -, hz⟩ := List.mem_map.mp h
            rw [← hz]
            exact ox_A_in ha16⟩ a3 a4 _ hheap X'
      exact ⟨t, step t b1, b2⟩
    · cases e
  · cases e
theorem ox_lv {dp d maxL : Nat} (h : R.frames = dp ∧ R.locals = 60 * dp) (hd : d + 1 ≤ dp) (hm : maxL ≤ 41) : d + 1 ≤ R.frames ∧ 8 + (maxL + 11) + 60 * d ≤ R.locals := by omega
theorem ox_lv1 {dp : Nat} (h : R.frames = dp ∧ R.locals = 60 * dp) (hd : 1 ≤ dp) : 1 ≤ R.frames ∧ 20 ≤ R.locals := by omega
theorem ox_lv2 {dp : Nat} (h : R.frames = dp ∧ R.locals = 60 * dp) (hd : 1 ≤ dp) : 1 ≤ R.frames ∧ 8 + (nativeFrameWords "java/lang/System" "arraycopy" 5 + 11) ≤ R.locals := by
  have : nativeFrameWords "java/lang/System" "arraycopy" 5 ≤ 41 := by decide
  omega
theorem ox_ts {rc : Nat → ox_K} (h : ∀ b, ox_S p l e R s m args below meth c g nL c0 t0 Qf b (rc b)) (ts : List Nat) : ∀ (i t : Nat) (k : ox_K), ts[i]? = some t → (ts.map rc)[i]? = some k → ox_S p l e R s m args below meth c g nL c0 t0 Qf t k := by
  intro i t k h1 h2
  rw [List.getElem?_map, h1] at h2
  cases h2
  exact h t
def o_mmax (k : ox_K) : ox_K := fun lv st h => match st with
  | .int y :: .int x :: st => if ox_cs st ≤ 8 then k lv (.int (if x < y then y else x) :: st) h else none
  | _ => none
theorem s_mmax {idx : Nat} (C : ox_C p s m args c g nL cc own) (w1 : Cond.methodLink own idx Lib.Math.max.name ∈ ox_W) (w2 : Cond.static Lib.Math.max.name ∈ ox_W) (w3 : Cond.initialized "java/lang/Math" ∈ ox_W) (w4 : Cond.code Lib.Math.max.name Lib.Math.max.code 2 (some .int) ∈ ox_W) (hR : 1 ≤ R.frames ∧ 21 ≤ R.locals) (d : decode cc pc = .ok (.invokestatic idx, 3)) (hk : ox_S p l e R s m args below meth c g nL c0 t0 Qf (pc + 3) k) : ox_S p l e R s m args below meth c g nL c0 t0 Qf pc (o_mmax k) := by
  intro lv st h r e
  unfold o_mmax at e
  split at e
  · next y x st2 =>
    split at e
    · next hcs =>
      obtain ⟨h1, h2⟩ := hk _ _ _ _ e
      refine ⟨h1, fun H locs ls a1 a2 a3 a4 => ?_⟩
      obtain ⟨b1, b2, b3, b4⟩ := id a4
      have z1 := h1.1
      have z2 := h1.2
      have z3 := ox_cs_map (g := g) st2
      exact va_mmax C.1 C.2.1 (by rw [C.2.2.1]; exact a3.1.symm) C.2.2.2.1 (C.2.2.2.2.1 _ w1) (C.2.2.2.2.1 _ w2) (C.2.2.2.2.1 _ w3) (C.2.2.2.2.1 _ w4) hR.1 (by omega) (by omega) (by omega) d (h2 H locs ls a1 a2 a3 a4)
    · cases e
  · cases e
def o_mmin (k : ox_K) : ox_K := fun lv st h => match st with
  | .int y :: .int x :: st => if ox_cs st ≤ 8 then k lv (.int (if y < x then y else x) :: st) h else none
  | _ => none
theorem s_mmin {idx : Nat} (C : ox_C p s m args c g nL cc own) (w1 : Cond.methodLink own idx Lib.Math.min.name ∈ ox_W) (w2 : Cond.static Lib.Math.min.name ∈ ox_W) (w3 : Cond.initialized "java/lang/Math" ∈ ox_W) (w4 : Cond.code Lib.Math.min.name Lib.Math.min.code 2 (some .int) ∈ ox_W) (hR : 1 ≤ R.frames ∧ 21 ≤ R.locals) (d : decode cc pc = .ok (.invokestatic idx, 3)) (hk : ox_S p l e R s m args below meth c g nL c0 t0 Qf (pc + 3) k) : ox_S p l e R s m args below meth c g nL c0 t0 Qf pc (o_mmin k) := by
  intro lv st h r e
  unfold o_mmin at e
  split at e
  · next y x st2 =>
    split at e
    · next hcs =>
      obtain ⟨h1, h2⟩ := hk _ _ _ _ e
      refine ⟨h1, fun H locs ls a1 a2 a3 a4 => ?_⟩
      obtain ⟨b1, b2, b3, b4⟩ := id a4
      have z1 := h1.1
      have z2 := h1.2
      have z3 := ox_cs_map (g := g) st2
      exact va_mmin C.1 C.2.1 (by rw [C.2.2.1]; exact a3.1.symm) C.2.2.2.1 (C.2.2.2.2.1 _ w1) (C.2.2.2.2.1 _ w2) (C.2.2.2.2.1 _ w3) (C.2.2.2.2.1 _ w4) hR.1 (by omega) (by omega) (by omega) d (h2 H locs ls a1 a2 a3 a4)
    · cases e
  · cases e
theorem ox_lv3 {dp : Nat} (h : R.frames = dp ∧ R.locals = 60 * dp) (hd : 1 ≤ dp) : 1 ≤ R.frames ∧ 21 ≤ R.locals := by omega
end OXU
end
section
theorem wM_X0_1 : Cond.methodLink RX0 1 objectInit ∈ ox_W := ox_Wt 238 (by decide +kernel) rfl
theorem wO1 : Cond.instanceMethod objectInit ∈ ox_W := ox_Wt 27 (by decide +kernel) rfl
theorem wO2 : Cond.code objectInit ⟨#[0xb1]⟩ 1 none ∈ ox_W := ox_Wt 28 (by decide +kernel) rfl
theorem wF_X0_7 : Cond.fieldLink RX0 7 "SweetLine$Mould" "chocolate" "I" ∈ ox_W := ox_Wt 163 (by decide +kernel) rfl
theorem wF_X0_13 : Cond.fieldLink RX0 13 "SweetLine$Bar" "chocolate" "I" ∈ ox_W := ox_Wt 239 (by decide +kernel) rfl
theorem wF_X0_16 : Cond.fieldLink RX0 16 "SweetLine$Mould" "filling" "I" ∈ ox_W := ox_Wt 167 (by decide +kernel) rfl
theorem wF_X0_19 : Cond.fieldLink RX0 19 "SweetLine$Bar" "filling" "I" ∈ ox_W := ox_Wt 241 (by decide +kernel) rfl
theorem wF_X0_20 : Cond.fieldLink RX0 20 "SweetLine$Mould" "recipe" "I" ∈ ox_W := ox_Wt 170 (by decide +kernel) rfl
theorem wF_X0_23 : Cond.fieldLink RX0 23 "SweetLine$Bar" "recipe" "I" ∈ ox_W := ox_Wt 243 (by decide +kernel) rfl
theorem wF_X0_24 : Cond.fieldLink RX0 24 "SweetLine$Mould" "lots" "I" ∈ ox_W := ox_Wt 173 (by decide +kernel) rfl
theorem wF_X0_27 : Cond.fieldLink RX0 27 "SweetLine$Bar" "lots" "I" ∈ ox_W := ox_Wt 245 (by decide +kernel) rfl
theorem wF_X0_28 : Cond.fieldLink RX0 28 "SweetLine$Mould" "good" "Z" ∈ ox_W := ox_Wt 178 (by decide +kernel) rfl
theorem wF_X0_32 : Cond.fieldLink RX0 32 "SweetLine$Bar" "good" "Z" ∈ ox_W := ox_Wt 248 (by decide +kernel) rfl
theorem wF_X0_33 : Cond.fieldLink RX0 33 "SweetLine$Bar" "beat" "I" ∈ ox_W := ox_Wt 250 (by decide +kernel) rfl
theorem wM_X1_1 : Cond.methodLink RX1 1 objectInit ∈ ox_W := ox_Wt 231 (by decide +kernel) rfl
theorem wX_X1_9 : Cond.classLink RX1 9 RX0 ∈ ox_W := ox_Wt 232 (by decide +kernel) rfl
theorem wF_X1_11 : Cond.fieldLink RX1 11 "SweetLine$Bars" "rack" "[LSweetLine$Bar;" ∈ ox_W := ox_Wt 268 (by decide +kernel) rfl
theorem wA_int : Cond.arrayClass .int ∈ ox_W := ox_Wt 97 (by decide +kernel) rfl
theorem wF_X1_15 : Cond.fieldLink RX1 15 "SweetLine$Bars" "recent" "[I" ∈ ox_W := ox_Wt 279 (by decide +kernel) rfl
theorem wY_X0 : Cond.instantiable RX0 7 ∈ ox_W := ox_Wt 234 (by decide +kernel) rfl
theorem wN_X0 : Cond.initialized RX0 ∈ ox_W := ox_Wt 9 (by decide +kernel) rfl
theorem wI_X0_init : Cond.instanceMethod yX0_init ∈ ox_W := ox_Wt 236 (by decide +kernel) rfl
theorem wC_X0_init : Cond.code yX0_init cX0_init 1 none ∈ ox_W := ox_Wt 237 (by decide +kernel) rfl
theorem wF_X1_20 : Cond.fieldLink RX1 20 "SweetLine$Bars" "kept" "I" ∈ ox_W := ox_Wt 270 (by decide +kernel) rfl
theorem wM_X1_24 : Cond.methodLink RX1 24 yX0_become ∈ ox_W := ox_Wt 731 (by decide +kernel) rfl
theorem wI_X0_become : Cond.instanceMethod yX0_become ∈ ox_W := ox_Wt 732 (by decide +kernel) rfl
theorem wS_X0_become : Cond.selects RX0 yX0_become yX0_become ∈ ox_W := ox_Wt 733 (by decide +kernel) rfl
theorem wC_X0_become : Cond.code yX0_become cX0_become 3 none ∈ ox_W := ox_Wt 734 (by decide +kernel) rfl
theorem wF_X1_28 : Cond.fieldLink RX1 28 "SweetLine$Bars" "came" "I" ∈ ox_W := ox_Wt 272 (by decide +kernel) rfl
theorem wF_X1_31 : Cond.fieldLink RX1 31 "SweetLine$Mould" "chocolate" "I" ∈ ox_W := ox_Wt 164 (by decide +kernel) rfl
theorem wF_X1_36 : Cond.fieldLink RX1 36 "SweetLine$Bars" "allGrams" "I" ∈ ox_W := ox_Wt 274 (by decide +kernel) rfl
theorem wF_X1_39 : Cond.fieldLink RX1 39 "SweetLine$Bars" "givenAway" "I" ∈ ox_W := ox_Wt 276 (by decide +kernel) rfl
theorem wM_X1_42 : Cond.methodLink RX1 42 Lib.Math.max.name ∈ ox_W := ox_Wt 735 (by decide +kernel) rfl
theorem wT_mmax : Cond.static Lib.Math.max.name ∈ ox_W := ox_Wt 614 (by decide +kernel) rfl
theorem wC_mmax : Cond.code Lib.Math.max.name Lib.Math.max.code 2 (some .int) ∈ ox_W := ox_Wt 615 (by decide +kernel) rfl
theorem wN_J9 : Cond.initialized RJ9 ∈ ox_W := ox_Wt 15 (by decide +kernel) rfl
theorem wM_X1_48 : Cond.methodLink RX1 48 Lib.Math.min.name ∈ ox_W := ox_Wt 749 (by decide +kernel) rfl
theorem wT_mmin : Cond.static Lib.Math.min.name ∈ ox_W := ox_Wt 505 (by decide +kernel) rfl
theorem wC_mmin : Cond.code Lib.Math.min.name Lib.Math.min.code 2 (some .int) ∈ ox_W := ox_Wt 506 (by decide +kernel) rfl
theorem wF_X1_51 : Cond.fieldLink RX1 51 "SweetLine$Bar" "lots" "I" ∈ ox_W := ox_Wt 246 (by decide +kernel) rfl
theorem wM_X2_1 : Cond.methodLink RX2 1 objectInit ∈ ox_W := ox_Wt 145 (by decide +kernel) rfl
theorem wX_X2_9 : Cond.classLink RX2 9 RX5 ∈ ox_W := ox_Wt 146 (by decide +kernel) rfl
theorem wF_X2_11 : Cond.fieldLink RX2 11 "SweetLine$Belt" "moulds" "[LSweetLine$Mould;" ∈ ox_W := ox_Wt 202 (by decide +kernel) rfl
theorem wF_X2_15 : Cond.fieldLink RX2 15 "SweetLine$Belt" "GEAR_AT_FIRST" "[I" ∈ ox_W := ox_Wt 148 (by decide +kernel) rfl
theorem wM_X2_32 : Cond.methodLink RX2 32 yX2_moveOn ∈ ox_W := ox_Wt 692 (by decide +kernel) rfl
theorem wI_X2_moveOn : Cond.instanceMethod yX2_moveOn ∈ ox_W := ox_Wt 694 (by decide +kernel) rfl
theorem wS_X2_moveOn : Cond.selects RX2 yX2_moveOn yX2_moveOn ∈ ox_W := ox_Wp 9 (by decide +kernel) rfl
theorem wN_X2 : Cond.initialized RX2 ∈ ox_W := ox_Wt 6 (by decide +kernel) rfl
theorem wC_X2_moveOn : Cond.code yX2_moveOn cX2_moveOn 3 none ∈ ox_W := ox_Wt 695 (by decide +kernel) rfl
theorem wM_X2_35 : Cond.methodLink RX2 35 yX2_pour ∈ ox_W := ox_Wt 696 (by decide +kernel) rfl
theorem wI_X2_pour : Cond.instanceMethod yX2_pour ∈ ox_W := ox_Wt 698 (by decide +kernel) rfl
theorem wS_X2_pour : Cond.selects RX2 yX2_pour yX2_pour ∈ ox_W := ox_Wp 10 (by decide +kernel) rfl
theorem wC_X2_pour : Cond.code yX2_pour cX2_pour 4 none ∈ ox_W := ox_Wt 699 (by decide +kernel) rfl
theorem wM_X2_39 : Cond.methodLink RX2 39 yX5_shake ∈ ox_W := ox_Wt 709 (by decide +kernel) rfl
theorem wI_X5_shake : Cond.instanceMethod yX5_shake ∈ ox_W := ox_Wt 710 (by decide +kernel) rfl
theorem wS_X5_shake : Cond.selects RX5 yX5_shake yX5_shake ∈ ox_W := ox_Wt 711 (by decide +kernel) rfl
theorem wN_X5 : Cond.initialized RX5 ∈ ox_W := ox_Wt 7 (by decide +kernel) rfl
theorem wC_X5_shake : Cond.code yX5_shake cX5_shake 1 none ∈ ox_W := ox_Wt 712 (by decide +kernel) rfl
theorem wF_X2_24 : Cond.fieldLink RX2 24 "SweetLine$Belt" "gears" "[I" ∈ ox_W := ox_Wt 204 (by decide +kernel) rfl
theorem wM_X2_42 : Cond.methodLink RX2 42 yX5_fillOnce ∈ ox_W := ox_Wt 714 (by decide +kernel) rfl
theorem wI_X5_fillOnce : Cond.instanceMethod yX5_fillOnce ∈ ox_W := ox_Wt 715 (by decide +kernel) rfl
theorem wS_X5_fillOnce : Cond.selects RX5 yX5_fillOnce yX5_fillOnce ∈ ox_W := ox_Wt 716 (by decide +kernel) rfl
theorem wC_X5_fillOnce : Cond.code yX5_fillOnce cX5_fillOnce 2 none ∈ ox_W := ox_Wt 717 (by decide +kernel) rfl
theorem wF_X2_27 : Cond.fieldLink RX2 27 "SweetLine$Belt" "n" "I" ∈ ox_W := ox_Wt 206 (by decide +kernel) rfl
theorem wM_X2_46 : Cond.methodLink RX2 46 yX5_cool ∈ ox_W := ox_Wt 718 (by decide +kernel) rfl
theorem wI_X5_cool : Cond.instanceMethod yX5_cool ∈ ox_W := ox_Wt 719 (by decide +kernel) rfl
theorem wS_X5_cool : Cond.selects RX5 yX5_cool yX5_cool ∈ ox_W := ox_Wt 720 (by decide +kernel) rfl
theorem wC_X5_cool : Cond.code yX5_cool cX5_cool 2 none ∈ ox_W := ox_Wt 721 (by decide +kernel) rfl
theorem wM_X2_49 : Cond.methodLink RX2 49 yX2_turnOut ∈ ox_W := ox_Wt 723 (by decide +kernel) rfl
theorem wI_X2_turnOut : Cond.instanceMethod yX2_turnOut ∈ ox_W := ox_Wt 725 (by decide +kernel) rfl
theorem wS_X2_turnOut : Cond.selects RX2 yX2_turnOut yX2_turnOut ∈ ox_W := ox_Wp 11 (by decide +kernel) rfl
theorem wC_X2_turnOut : Cond.code yX2_turnOut cX2_turnOut 3 none ∈ ox_W := ox_Wt 726 (by decide +kernel) rfl
theorem wF_X2_53 : Cond.fieldLink RX2 53 "SweetLine$Belt" "beats" "I" ∈ ox_W := ox_Wt 209 (by decide +kernel) rfl
theorem wM_X2_56 : Cond.methodLink RX2 56 yX5_isEmpty ∈ ox_W := ox_Wt 672 (by decide +kernel) rfl
theorem wI_X5_isEmpty : Cond.instanceMethod yX5_isEmpty ∈ ox_W := ox_Wt 673 (by decide +kernel) rfl
theorem wS_X5_isEmpty : Cond.selects RX5 yX5_isEmpty yX5_isEmpty ∈ ox_W := ox_Wt 674 (by decide +kernel) rfl
theorem wC_X5_isEmpty : Cond.code yX5_isEmpty cX5_isEmpty 1 (some .boolean) ∈ ox_W := ox_Wt 675 (by decide +kernel) rfl
theorem wF_X2_60 : Cond.fieldLink RX2 60 "SweetLine$Mould" "chocolate" "I" ∈ ox_W := ox_Wt 165 (by decide +kernel) rfl
theorem wM_X2_63 : Cond.methodLink RX2 63 Lib.Math.max.name ∈ ox_W := ox_Wt 700 (by decide +kernel) rfl
theorem wF_X2_69 : Cond.fieldLink RX2 69 "SweetLine$Tank" "stuff" "I" ∈ ox_W := ox_Wt 358 (by decide +kernel) rfl
theorem wM_X2_74 : Cond.methodLink RX2 74 yX5_takeFrom ∈ ox_W := ox_Wt 701 (by decide +kernel) rfl
theorem wI_X5_takeFrom : Cond.instanceMethod yX5_takeFrom ∈ ox_W := ox_Wt 702 (by decide +kernel) rfl
theorem wS_X5_takeFrom : Cond.selects RX5 yX5_takeFrom yX5_takeFrom ∈ ox_W := ox_Wt 703 (by decide +kernel) rfl
theorem wC_X5_takeFrom : Cond.code yX5_takeFrom cX5_takeFrom 3 none ∈ ox_W := ox_Wt 704 (by decide +kernel) rfl
theorem wF_X2_78 : Cond.fieldLink RX2 78 "SweetLine$Belt" "poured" "I" ∈ ox_W := ox_Wt 208 (by decide +kernel) rfl
theorem wF_X2_81 : Cond.fieldLink RX2 81 "SweetLine$Belt" "GEAR_MOST" "[I" ∈ ox_W := ox_Wt 707 (by decide +kernel) rfl
theorem wM_X2_84 : Cond.methodLink RX2 84 Lib.Math.min.name ∈ ox_W := ox_Wt 708 (by decide +kernel) rfl
theorem wF_X2_87 : Cond.fieldLink RX2 87 "SweetLine$Mould" "shaken" "Z" ∈ ox_W := ox_Wt 182 (by decide +kernel) rfl
theorem wF_X2_91 : Cond.fieldLink RX2 91 "SweetLine$Mould" "warmth" "I" ∈ ox_W := ox_Wt 176 (by decide +kernel) rfl
theorem wM_X2_94 : Cond.methodLink RX2 94 yX1_take ∈ ox_W := ox_Wt 727 (by decide +kernel) rfl
theorem wI_X1_take : Cond.instanceMethod yX1_take ∈ ox_W := ox_Wt 728 (by decide +kernel) rfl
theorem wS_X1_take : Cond.selects RX1 yX1_take yX1_take ∈ ox_W := ox_Wt 729 (by decide +kernel) rfl
theorem wN_X1 : Cond.initialized RX1 ∈ ox_W := ox_Wt 8 (by decide +kernel) rfl
theorem wC_X1_take : Cond.code yX1_take cX1_take 4 none ∈ ox_W := ox_Wt 730 (by decide +kernel) rfl
theorem wF_X2_100 : Cond.fieldLink RX2 100 "SweetLine$Belt" "missed" "I" ∈ ox_W := ox_Wt 211 (by decide +kernel) rfl
theorem wM_X3_1 : Cond.methodLink RX3 1 objectInit ∈ ox_W := ox_Wt 36 (by decide +kernel) rfl
theorem wX_X3_7 : Cond.classLink RX3 7 RX10 ∈ ox_W := ox_Wt 37 (by decide +kernel) rfl
theorem wY_X10 : Cond.instantiable RX10 6 ∈ ox_W := ox_Wt 38 (by decide +kernel) rfl
theorem wN_X10 : Cond.initialized RX10 ∈ ox_W := ox_Wt 3 (by decide +kernel) rfl
theorem wI_X10_init : Cond.instanceMethod yX10_init ∈ ox_W := ox_Wt 40 (by decide +kernel) rfl
theorem wC_X10_init : Cond.code yX10_init cX10_init 1 none ∈ ox_W := ox_Wt 41 (by decide +kernel) rfl
theorem wF_X3_10 : Cond.fieldLink RX3 10 "SweetLine$Book" "tape" "LSweetLine$Tape;" ∈ ox_W := ox_Wt 98 (by decide +kernel) rfl
theorem wX_X3_16 : Cond.classLink RX3 16 RX6 ∈ ox_W := ox_Wt 67 (by decide +kernel) rfl
theorem wF_X3_18 : Cond.fieldLink RX3 18 "SweetLine$Book" "recipes" "[LSweetLine$Recipe;" ∈ ox_W := ox_Wt 100 (by decide +kernel) rfl
theorem wY_X6 : Cond.instantiable RX6 5 ∈ ox_W := ox_Wt 69 (by decide +kernel) rfl
theorem wN_X6 : Cond.initialized RX6 ∈ ox_W := ox_Wt 4 (by decide +kernel) rfl
theorem wI_X6_init : Cond.instanceMethod yX6_init ∈ ox_W := ox_Wt 71 (by decide +kernel) rfl
theorem wC_X6_init : Cond.code yX6_init cX6_init 1 none ∈ ox_W := ox_Wt 72 (by decide +kernel) rfl
theorem wF_X3_23 : Cond.fieldLink RX3 23 "SweetLine$Book" "told" "I" ∈ ox_W := ox_Wt 102 (by decide +kernel) rfl
theorem wM_X3_27 : Cond.methodLink RX3 27 yX10_rewind ∈ ox_W := ox_Wt 493 (by decide +kernel) rfl
theorem wI_X10_rewind : Cond.instanceMethod yX10_rewind ∈ ox_W := ox_Wt 494 (by decide +kernel) rfl
theorem wS_X10_rewind : Cond.selects RX10 yX10_rewind yX10_rewind ∈ ox_W := ox_Wt 495 (by decide +kernel) rfl
theorem wC_X10_rewind : Cond.code yX10_rewind cX10_rewind 1 none ∈ ox_W := ox_Wt 496 (by decide +kernel) rfl
theorem wF_X3_30 : Cond.fieldLink RX3 30 "SweetLine$Tape" "token" "I" ∈ ox_W := ox_Wt 46 (by decide +kernel) rfl
theorem wM_X3_33 : Cond.methodLink RX3 33 yX3_readRecipe ∈ ox_W := ox_Wt 511 (by decide +kernel) rfl
theorem wI_X3_readRecipe : Cond.instanceMethod yX3_readRecipe ∈ ox_W := ox_Wt 513 (by decide +kernel) rfl
theorem wS_X3_readRecipe : Cond.selects RX3 yX3_readRecipe yX3_readRecipe ∈ ox_W := ox_Wp 3 (by decide +kernel) rfl
theorem wN_X3 : Cond.initialized RX3 ∈ ox_W := ox_Wt 2 (by decide +kernel) rfl
theorem wC_X3_readRecipe : Cond.code yX3_readRecipe cX3_readRecipe 4 (some .boolean) ∈ ox_W := ox_Wt 514 (by decide +kernel) rfl
theorem wM_X3_39 : Cond.methodLink RX3 39 yX10_isWord ∈ ox_W := ox_Wt 516 (by decide +kernel) rfl
theorem wI_X10_isWord : Cond.instanceMethod yX10_isWord ∈ ox_W := ox_Wt 517 (by decide +kernel) rfl
theorem wS_X10_isWord : Cond.selects RX10 yX10_isWord yX10_isWord ∈ ox_W := ox_Wt 518 (by decide +kernel) rfl
theorem wC_X10_isWord : Cond.code yX10_isWord cX10_isWord 3 (some .boolean) ∈ ox_W := ox_Wt 519 (by decide +kernel) rfl
theorem wM_X3_43 : Cond.methodLink RX3 43 yX3_refuse ∈ ox_W := ox_Wt 568 (by decide +kernel) rfl
theorem wI_X3_refuse : Cond.instanceMethod yX3_refuse ∈ ox_W := ox_Wt 570 (by decide +kernel) rfl
theorem wS_X3_refuse : Cond.selects RX3 yX3_refuse yX3_refuse ∈ ox_W := ox_Wp 4 (by decide +kernel) rfl
theorem wC_X3_refuse : Cond.code yX3_refuse cX3_refuse 2 (some .boolean) ∈ ox_W := ox_Wt 571 (by decide +kernel) rfl
theorem wM_X3_46 : Cond.methodLink RX3 46 yX10_step ∈ ox_W := ox_Wt 572 (by decide +kernel) rfl
theorem wI_X10_step : Cond.instanceMethod yX10_step ∈ ox_W := ox_Wt 498 (by decide +kernel) rfl
theorem wS_X10_step : Cond.selects RX10 yX10_step yX10_step ∈ ox_W := ox_Wt 499 (by decide +kernel) rfl
theorem wC_X10_step : Cond.code yX10_step cX10_step 3 none ∈ ox_W := ox_Wt 500 (by decide +kernel) rfl
theorem wF_X3_49 : Cond.fieldLink RX3 49 "SweetLine$Recipe" "stages" "I" ∈ ox_W := ox_Wt 79 (by decide +kernel) rfl
theorem wM_X3_52 : Cond.methodLink RX3 52 yX3_takeNumber ∈ ox_W := ox_Wt 573 (by decide +kernel) rfl
theorem wI_X3_takeNumber : Cond.instanceMethod yX3_takeNumber ∈ ox_W := ox_Wt 575 (by decide +kernel) rfl
theorem wS_X3_takeNumber : Cond.selects RX3 yX3_takeNumber yX3_takeNumber ∈ ox_W := ox_Wp 5 (by decide +kernel) rfl
theorem wC_X3_takeNumber : Cond.code yX3_takeNumber cX3_takeNumber 3 (some .boolean) ∈ ox_W := ox_Wt 576 (by decide +kernel) rfl
theorem wF_X3_56 : Cond.fieldLink RX3 56 "SweetLine$Book" "taken" "I" ∈ ox_W := ox_Wt 108 (by decide +kernel) rfl
theorem wF_X3_59 : Cond.fieldLink RX3 59 "SweetLine$Recipe" "allergens" "I" ∈ ox_W := ox_Wt 74 (by decide +kernel) rfl
theorem wF_X3_62 : Cond.fieldLink RX3 62 "SweetLine$Recipe" "share" "I" ∈ ox_W := ox_Wt 76 (by decide +kernel) rfl
theorem wM_X3_65 : Cond.methodLink RX3 65 yX3_readStage ∈ ox_W := ox_Wt 578 (by decide +kernel) rfl
theorem wI_X3_readStage : Cond.instanceMethod yX3_readStage ∈ ox_W := ox_Wt 580 (by decide +kernel) rfl
theorem wS_X3_readStage : Cond.selects RX3 yX3_readStage yX3_readStage ∈ ox_W := ox_Wp 6 (by decide +kernel) rfl
theorem wC_X3_readStage : Cond.code yX3_readStage cX3_readStage 3 (some .boolean) ∈ ox_W := ox_Wt 581 (by decide +kernel) rfl
theorem wF_X3_73 : Cond.fieldLink RX3 73 "SweetLine$Recipe" "amounts" "[I" ∈ ox_W := ox_Wt 82 (by decide +kernel) rfl
theorem wF_X3_77 : Cond.fieldLink RX3 77 "SweetLine$Recipe" "minutes" "[I" ∈ ox_W := ox_Wt 85 (by decide +kernel) rfl
theorem wF_X3_80 : Cond.fieldLink RX3 80 "SweetLine$Tape" "number" "I" ∈ ox_W := ox_Wt 51 (by decide +kernel) rfl
theorem wT_X11_within : Cond.static yX11_within ∈ ox_W := ox_Wt 430 (by decide +kernel) rfl
theorem wN_X11 : Cond.initialized RX11 ∈ ox_W := ox_Wt 1 (by decide +kernel) rfl
theorem wC_X11_within : Cond.code yX11_within cX11_within 3 (some .boolean) ∈ ox_W := ox_Wt 431 (by decide +kernel) rfl
theorem wF_X3_89 : Cond.fieldLink RX3 89 "SweetLine$Book" "faultNumber" "I" ∈ ox_W := ox_Wt 104 (by decide +kernel) rfl
theorem wF_X3_92 : Cond.fieldLink RX3 92 "SweetLine$Tape" "start" "I" ∈ ox_W := ox_Wt 49 (by decide +kernel) rfl
theorem wF_X3_95 : Cond.fieldLink RX3 95 "SweetLine$Book" "faultPlace" "I" ∈ ox_W := ox_Wt 106 (by decide +kernel) rfl
theorem wM_X4_1 : Cond.methodLink RX4 1 objectInit ∈ ox_W := ox_Wt 127 (by decide +kernel) rfl
theorem wF_X4_7 : Cond.fieldLink RX4 7 "SweetLine$Heat" "warmth" "I" ∈ ox_W := ox_Wt 128 (by decide +kernel) rfl
theorem wF_X4_13 : Cond.fieldLink RX4 13 "SweetLine$Heat" "seeds" "I" ∈ ox_W := ox_Wt 131 (by decide +kernel) rfl
theorem wF_X4_16 : Cond.fieldLink RX4 16 "SweetLine$Recipe" "stages" "I" ∈ ox_W := ox_Wt 78 (by decide +kernel) rfl
theorem wF_X4_21 : Cond.fieldLink RX4 21 "SweetLine$Recipe" "minutes" "[I" ∈ ox_W := ox_Wt 84 (by decide +kernel) rfl
theorem wF_X4_25 : Cond.fieldLink RX4 25 "SweetLine$Recipe" "amounts" "[I" ∈ ox_W := ox_Wt 81 (by decide +kernel) rfl
theorem wM_X4_28 : Cond.methodLink RX4 28 Lib.Math.min.name ∈ ox_W := ox_Wt 605 (by decide +kernel) rfl
theorem wM_X4_34 : Cond.methodLink RX4 34 yJ6_compare_7cf53 ∈ ox_W := ox_Wt 606 (by decide +kernel) rfl
theorem wT_J6_compare_7cf53 : Cond.static yJ6_compare_7cf53 ∈ ox_W := ox_Wt 607 (by decide +kernel) rfl
theorem wN_J6 : Cond.initialized RJ6 ∈ ox_W := ox_Wt 20 (by decide +kernel) rfl
theorem wC_J6_compare_7cf53 : Cond.code yJ6_compare_7cf53 cJ6_compare_7cf53 2 (some .int) ∈ ox_W := ox_Wt 608 (by decide +kernel) rfl
theorem wM_X4_39 : Cond.methodLink RX4 39 yX4_seedsOneMinuteOn ∈ ox_W := ox_Wt 609 (by decide +kernel) rfl
theorem wI_X4_seedsOneMinuteOn : Cond.instanceMethod yX4_seedsOneMinuteOn ∈ ox_W := ox_Wt 611 (by decide +kernel) rfl
theorem wS_X4_seedsOneMinuteOn : Cond.selects RX4 yX4_seedsOneMinuteOn yX4_seedsOneMinuteOn ∈ ox_W := ox_Wp 8 (by decide +kernel) rfl
theorem wN_X4 : Cond.initialized RX4 ∈ ox_W := ox_Wt 5 (by decide +kernel) rfl
theorem wC_X4_seedsOneMinuteOn : Cond.code yX4_seedsOneMinuteOn cX4_seedsOneMinuteOn 1 (some .int) ∈ ox_W := ox_Wt 612 (by decide +kernel) rfl
theorem wM_X4_43 : Cond.methodLink RX4 43 Lib.Math.max.name ∈ ox_W := ox_Wt 613 (by decide +kernel) rfl
theorem wM_X5_1 : Cond.methodLink RX5 1 objectInit ∈ ox_W := ox_Wt 161 (by decide +kernel) rfl
theorem wF_X5_7 : Cond.fieldLink RX5 7 "SweetLine$Mould" "chocolate" "I" ∈ ox_W := ox_Wt 162 (by decide +kernel) rfl
theorem wF_X5_13 : Cond.fieldLink RX5 13 "SweetLine$Mould" "filling" "I" ∈ ox_W := ox_Wt 168 (by decide +kernel) rfl
theorem wF_X5_16 : Cond.fieldLink RX5 16 "SweetLine$Tank" "recipe" "I" ∈ ox_W := ox_Wt 362 (by decide +kernel) rfl
theorem wF_X5_21 : Cond.fieldLink RX5 21 "SweetLine$Mould" "recipe" "I" ∈ ox_W := ox_Wt 171 (by decide +kernel) rfl
theorem wF_X5_22 : Cond.fieldLink RX5 22 "SweetLine$Tank" "lots" "I" ∈ ox_W := ox_Wt 365 (by decide +kernel) rfl
theorem wF_X5_25 : Cond.fieldLink RX5 25 "SweetLine$Mould" "lots" "I" ∈ ox_W := ox_Wt 174 (by decide +kernel) rfl
theorem wF_X5_26 : Cond.fieldLink RX5 26 "SweetLine$Tank" "heat" "LSweetLine$Heat;" ∈ ox_W := ox_Wt 369 (by decide +kernel) rfl
theorem wF_X5_30 : Cond.fieldLink RX5 30 "SweetLine$Heat" "warmth" "I" ∈ ox_W := ox_Wt 129 (by decide +kernel) rfl
theorem wF_X5_35 : Cond.fieldLink RX5 35 "SweetLine$Mould" "warmth" "I" ∈ ox_W := ox_Wt 175 (by decide +kernel) rfl
theorem wM_X5_36 : Cond.methodLink RX5 36 yX4_state ∈ ox_W := ox_Wt 705 (by decide +kernel) rfl
theorem wI_X4_state : Cond.instanceMethod yX4_state ∈ ox_W := ox_Wt 617 (by decide +kernel) rfl
theorem wS_X4_state : Cond.selects RX4 yX4_state yX4_state ∈ ox_W := ox_Wt 618 (by decide +kernel) rfl
theorem wC_X4_state : Cond.code yX4_state cX4_state 1 (some .int) ∈ ox_W := ox_Wt 619 (by decide +kernel) rfl
theorem wF_X5_40 : Cond.fieldLink RX5 40 "SweetLine$Mould" "good" "Z" ∈ ox_W := ox_Wt 179 (by decide +kernel) rfl
theorem wF_X5_44 : Cond.fieldLink RX5 44 "SweetLine$Mould" "shaken" "Z" ∈ ox_W := ox_Wt 181 (by decide +kernel) rfl
theorem wF_X5_47 : Cond.fieldLink RX5 47 "SweetLine$Mould" "wasFilled" "Z" ∈ ox_W := ox_Wt 184 (by decide +kernel) rfl
theorem wM_X5_50 : Cond.methodLink RX5 50 yX9_giveOut ∈ ox_W := ox_Wt 706 (by decide +kernel) rfl
theorem wI_X9_giveOut : Cond.instanceMethod yX9_giveOut ∈ ox_W := ox_Wt 656 (by decide +kernel) rfl
theorem wS_X9_giveOut : Cond.selects RX9 yX9_giveOut yX9_giveOut ∈ ox_W := ox_Wt 657 (by decide +kernel) rfl
theorem wN_X9 : Cond.initialized RX9 ∈ ox_W := ox_Wt 12 (by decide +kernel) rfl
theorem wC_X9_giveOut : Cond.code yX9_giveOut cX9_giveOut 2 none ∈ ox_W := ox_Wt 658 (by decide +kernel) rfl
theorem wM_X5_54 : Cond.methodLink RX5 54 yX5_isEmpty ∈ ox_W := ox_Wt 713 (by decide +kernel) rfl
theorem wM_X5_58 : Cond.methodLink RX5 58 Lib.Math.max.name ∈ ox_W := ox_Wt 722 (by decide +kernel) rfl
theorem wM_X6_1 : Cond.methodLink RX6 1 objectInit ∈ ox_W := ox_Wt 73 (by decide +kernel) rfl
theorem wF_X6_9 : Cond.fieldLink RX6 9 "SweetLine$Recipe" "amounts" "[I" ∈ ox_W := ox_Wt 80 (by decide +kernel) rfl
theorem wF_X6_13 : Cond.fieldLink RX6 13 "SweetLine$Recipe" "minutes" "[I" ∈ ox_W := ox_Wt 83 (by decide +kernel) rfl
theorem wM_X7_1 : Cond.methodLink RX7 1 objectInit ∈ ox_W := ox_Wt 300 (by decide +kernel) rfl
theorem wF_X7_9 : Cond.fieldLink RX7 9 "SweetLine$Rows" "allergens" "[I" ∈ ox_W := ox_Wt 301 (by decide +kernel) rfl
theorem wF_X7_13 : Cond.fieldLink RX7 13 "SweetLine$Rows" "hours" "[I" ∈ ox_W := ox_Wt 303 (by decide +kernel) rfl
theorem wF_X7_16 : Cond.fieldLink RX7 16 "SweetLine$Rows" "dues" "[I" ∈ ox_W := ox_Wt 305 (by decide +kernel) rfl
theorem wF_X7_19 : Cond.fieldLink RX7 19 "SweetLine$Rows" "best" "[I" ∈ ox_W := ox_Wt 307 (by decide +kernel) rfl
theorem wF_X7_22 : Cond.fieldLink RX7 22 "SweetLine$Rows" "row" "[I" ∈ ox_W := ox_Wt 311 (by decide +kernel) rfl
theorem wF_X7_25 : Cond.fieldLink RX7 25 "SweetLine$Rows" "n" "I" ∈ ox_W := ox_Wt 312 (by decide +kernel) rfl
theorem wK_X7_29 : Cond.constant RX7 29 (1000000) ∈ ox_W := ox_Wt 809 (by decide +kernel) rfl
theorem wF_X7_30 : Cond.fieldLink RX7 30 "SweetLine$Rows" "bestCost" "I" ∈ ox_W := ox_Wt 309 (by decide +kernel) rfl
theorem wM_X7_33 : Cond.methodLink RX7 33 yX7_extend ∈ ox_W := ox_Wt 810 (by decide +kernel) rfl
theorem wT_X7_extend : Cond.static yX7_extend ∈ ox_W := ox_Wt 811 (by decide +kernel) rfl
theorem wN_X7 : Cond.initialized RX7 ∈ ox_W := ox_Wt 10 (by decide +kernel) rfl
theorem wC_X7_extend : Cond.code yX7_extend cX7_extend 9 none ∈ ox_W := ox_Wt 812 (by decide +kernel) rfl
theorem wM_X7_37 : Cond.methodLink RX7 37 yX7_keepRow ∈ ox_W := ox_Wt 813 (by decide +kernel) rfl
theorem wI_X7_keepRow : Cond.instanceMethod yX7_keepRow ∈ ox_W := ox_Wt 815 (by decide +kernel) rfl
theorem wS_X7_keepRow : Cond.selects RX7 yX7_keepRow yX7_keepRow ∈ ox_W := ox_Wp 16 (by decide +kernel) rfl
theorem wC_X7_keepRow : Cond.code yX7_keepRow cX7_keepRow 3 none ∈ ox_W := ox_Wt 816 (by decide +kernel) rfl
theorem wM_X7_41 : Cond.methodLink RX7 41 Lib.Math.max.name ∈ ox_W := ox_Wt 817 (by decide +kernel) rfl
theorem wM_X8_1 : Cond.methodLink RX8 1 objectInit ∈ ox_W := ox_Wt 332 (by decide +kernel) rfl
theorem wF_X8_9 : Cond.fieldLink RX8 9 "SweetLine$Sheet" "items" "[I" ∈ ox_W := ox_Wt 333 (by decide +kernel) rfl
theorem wF_X8_13 : Cond.fieldLink RX8 13 "SweetLine$Sheet" "missing" "Z" ∈ ox_W := ox_Wt 335 (by decide +kernel) rfl
theorem wF_X8_17 : Cond.fieldLink RX8 17 "SweetLine$Sheet" "lane" "I" ∈ ox_W := ox_Wt 337 (by decide +kernel) rfl
theorem wF_X8_21 : Cond.fieldLink RX8 21 "SweetLine$Sheet" "size" "I" ∈ ox_W := ox_Wt 339 (by decide +kernel) rfl
theorem wM_X9_1 : Cond.methodLink RX9 1 objectInit ∈ ox_W := ox_Wt 354 (by decide +kernel) rfl
theorem wX_X9_7 : Cond.classLink RX9 7 RX4 ∈ ox_W := ox_Wt 355 (by decide +kernel) rfl
theorem wY_X4 : Cond.instantiable RX4 2 ∈ ox_W := ox_Wt 123 (by decide +kernel) rfl
theorem wI_X4_init : Cond.instanceMethod yX4_init ∈ ox_W := ox_Wt 125 (by decide +kernel) rfl
theorem wC_X4_init : Cond.code yX4_init cX4_init 1 none ∈ ox_W := ox_Wt 126 (by decide +kernel) rfl
theorem wF_X9_10 : Cond.fieldLink RX9 10 "SweetLine$Tank" "heat" "LSweetLine$Heat;" ∈ ox_W := ox_Wt 368 (by decide +kernel) rfl
theorem wF_X9_16 : Cond.fieldLink RX9 16 "SweetLine$Tank" "stuff" "I" ∈ ox_W := ox_Wt 357 (by decide +kernel) rfl
theorem wM_X9_20 : Cond.methodLink RX9 20 yX9_isEmpty ∈ ox_W := ox_Wt 645 (by decide +kernel) rfl
theorem wI_X9_isEmpty : Cond.instanceMethod yX9_isEmpty ∈ ox_W := ox_Wt 636 (by decide +kernel) rfl
theorem wS_X9_isEmpty : Cond.selects RX9 yX9_isEmpty yX9_isEmpty ∈ ox_W := ox_Wt 637 (by decide +kernel) rfl
theorem wC_X9_isEmpty : Cond.code yX9_isEmpty cX9_isEmpty 1 (some .boolean) ∈ ox_W := ox_Wt 638 (by decide +kernel) rfl
theorem wM_X9_24 : Cond.methodLink RX9 24 yX4_begin ∈ ox_W := ox_Wt 646 (by decide +kernel) rfl
theorem wI_X4_begin : Cond.instanceMethod yX4_begin ∈ ox_W := ox_Wt 598 (by decide +kernel) rfl
theorem wS_X4_begin : Cond.selects RX4 yX4_begin yX4_begin ∈ ox_W := ox_Wt 599 (by decide +kernel) rfl
theorem wC_X4_begin : Cond.code yX4_begin cX4_begin 3 none ∈ ox_W := ox_Wt 600 (by decide +kernel) rfl
theorem wF_X9_28 : Cond.fieldLink RX9 28 "SweetLine$Tank" "recipe" "I" ∈ ox_W := ox_Wt 363 (by decide +kernel) rfl
theorem wF_X9_31 : Cond.fieldLink RX9 31 "SweetLine$Tank" "rework" "I" ∈ ox_W := ox_Wt 360 (by decide +kernel) rfl
theorem wF_X9_34 : Cond.fieldLink RX9 34 "SweetLine$Tank" "lots" "I" ∈ ox_W := ox_Wt 366 (by decide +kernel) rfl
theorem wM_X10_1 : Cond.methodLink RX10 1 objectInit ∈ ox_W := ox_Wt 42 (by decide +kernel) rfl
theorem wA_byte : Cond.arrayClass .byte ∈ ox_W := ox_Wt 66 (by decide +kernel) rfl
theorem wF_X10_9 : Cond.fieldLink RX10 9 "SweetLine$Tape" "bytes" "[B" ∈ ox_W := ox_Wt 43 (by decide +kernel) rfl
theorem wF_X10_13 : Cond.fieldLink RX10 13 "SweetLine$Tape" "length" "I" ∈ ox_W := ox_Wt 44 (by decide +kernel) rfl
theorem wF_X10_17 : Cond.fieldLink RX10 17 "SweetLine$Tape" "end" "I" ∈ ox_W := ox_Wt 50 (by decide +kernel) rfl
theorem wM_X10_20 : Cond.methodLink RX10 20 yX10_step ∈ ox_W := ox_Wt 497 (by decide +kernel) rfl
theorem wF_X10_23 : Cond.fieldLink RX10 23 "SweetLine$Tape" "start" "I" ∈ ox_W := ox_Wt 48 (by decide +kernel) rfl
theorem wM_X10_26 : Cond.methodLink RX10 26 yX10_kindOf ∈ ox_W := ox_Wt 501 (by decide +kernel) rfl
theorem wT_X10_kindOf : Cond.static yX10_kindOf ∈ ox_W := ox_Wt 502 (by decide +kernel) rfl
theorem wC_X10_kindOf : Cond.code yX10_kindOf cX10_kindOf 1 (some .int) ∈ ox_W := ox_Wt 503 (by decide +kernel) rfl
theorem wF_X10_30 : Cond.fieldLink RX10 30 "SweetLine$Tape" "token" "I" ∈ ox_W := ox_Wt 47 (by decide +kernel) rfl
theorem wM_X10_33 : Cond.methodLink RX10 33 Lib.Math.min.name ∈ ox_W := ox_Wt 504 (by decide +kernel) rfl
theorem wM_X10_39 : Cond.methodLink RX10 39 yX10_takeFigures ∈ ox_W := ox_Wt 507 (by decide +kernel) rfl
theorem wI_X10_takeFigures : Cond.instanceMethod yX10_takeFigures ∈ ox_W := ox_Wt 509 (by decide +kernel) rfl
theorem wS_X10_takeFigures : Cond.selects RX10 yX10_takeFigures yX10_takeFigures ∈ ox_W := ox_Wp 2 (by decide +kernel) rfl
theorem wC_X10_takeFigures : Cond.code yX10_takeFigures cX10_takeFigures 2 none ∈ ox_W := ox_Wt 510 (by decide +kernel) rfl
theorem wM_X10_42 : Cond.methodLink RX10 42 yJ0_length_8abf5 ∈ ox_W := ox_Wt 520 (by decide +kernel) rfl
theorem wI_J0_length_8abf5 : Cond.instanceMethod yJ0_length_8abf5 ∈ ox_W := ox_Wt 521 (by decide +kernel) rfl
theorem wS_J0_length_8abf5 : Cond.selects RJ0 yJ0_length_8abf5 yJ0_length_8abf5 ∈ ox_W := ox_Wt 522 (by decide +kernel) rfl
theorem wN_J0 : Cond.initialized RJ0 ∈ ox_W := ox_Wt 16 (by decide +kernel) rfl
theorem wC_J0_length_8abf5 : Cond.code yJ0_length_8abf5 cJ0_length_8abf5 1 (some .int) ∈ ox_W := ox_Wt 523 (by decide +kernel) rfl
theorem wM_X10_47 : Cond.methodLink RX10 47 yJ0_charAt_5068e ∈ ox_W := ox_Wt 530 (by decide +kernel) rfl
theorem wI_J0_charAt_5068e : Cond.instanceMethod yJ0_charAt_5068e ∈ ox_W := ox_Wt 531 (by decide +kernel) rfl
theorem wS_J0_charAt_5068e : Cond.selects RJ0 yJ0_charAt_5068e yJ0_charAt_5068e ∈ ox_W := ox_Wt 532 (by decide +kernel) rfl
theorem wC_J0_charAt_5068e : Cond.code yJ0_charAt_5068e cJ0_charAt_5068e 2 (some .char) ∈ ox_W := ox_Wt 533 (by decide +kernel) rfl
theorem wF_X10_51 : Cond.fieldLink RX10 51 "SweetLine$Tape" "number" "I" ∈ ox_W := ox_Wt 52 (by decide +kernel) rfl
theorem wM_X11_1 : Cond.methodLink RX11 1 objectInit ∈ ox_W := ox_Wt 26 (by decide +kernel) rfl
theorem wX_X11_9 : Cond.classLink RX11 9 RX8 ∈ ox_W := ox_Wt 29 (by decide +kernel) rfl
theorem wF_X11_11 : Cond.fieldLink RX11 11 "SweetLine" "sheets" "[LSweetLine$Sheet;" ∈ ox_W := ox_Wt 382 (by decide +kernel) rfl
theorem wX_X11_15 : Cond.classLink RX11 15 RX3 ∈ ox_W := ox_Wt 31 (by decide +kernel) rfl
theorem wY_X3 : Cond.instantiable RX3 6 ∈ ox_W := ox_Wt 32 (by decide +kernel) rfl
theorem wM_X11_17 : Cond.methodLink RX11 17 yX3_init ∈ ox_W := ox_Wt 33 (by decide +kernel) rfl
theorem wI_X3_init : Cond.instanceMethod yX3_init ∈ ox_W := ox_Wt 34 (by decide +kernel) rfl
theorem wC_X3_init : Cond.code yX3_init cX3_init 2 none ∈ ox_W := ox_Wt 35 (by decide +kernel) rfl
theorem wF_X11_18 : Cond.fieldLink RX11 18 "SweetLine" "book" "LSweetLine$Book;" ∈ ox_W := ox_Wt 383 (by decide +kernel) rfl
theorem wX_X11_22 : Cond.classLink RX11 22 RX4 ∈ ox_W := ox_Wt 122 (by decide +kernel) rfl
theorem wF_X11_25 : Cond.fieldLink RX11 25 "SweetLine" "trial" "LSweetLine$Heat;" ∈ ox_W := ox_Wt 384 (by decide +kernel) rfl
theorem wX_X11_29 : Cond.classLink RX11 29 RX9 ∈ ox_W := ox_Wt 138 (by decide +kernel) rfl
theorem wF_X11_31 : Cond.fieldLink RX11 31 "SweetLine" "tanks" "[LSweetLine$Tank;" ∈ ox_W := ox_Wt 385 (by decide +kernel) rfl
theorem wF_X11_35 : Cond.fieldLink RX11 35 "SweetLine" "bins" "[I" ∈ ox_W := ox_Wt 386 (by decide +kernel) rfl
theorem wX_X11_39 : Cond.classLink RX11 39 RX2 ∈ ox_W := ox_Wt 140 (by decide +kernel) rfl
theorem wY_X2 : Cond.instantiable RX2 6 ∈ ox_W := ox_Wt 141 (by decide +kernel) rfl
theorem wM_X11_41 : Cond.methodLink RX11 41 yX2_init ∈ ox_W := ox_Wt 142 (by decide +kernel) rfl
theorem wI_X2_init : Cond.instanceMethod yX2_init ∈ ox_W := ox_Wt 143 (by decide +kernel) rfl
theorem wC_X2_init : Cond.code yX2_init cX2_init 2 none ∈ ox_W := ox_Wt 144 (by decide +kernel) rfl
theorem wF_X11_42 : Cond.fieldLink RX11 42 "SweetLine" "ring" "LSweetLine$Belt;" ∈ ox_W := ox_Wt 387 (by decide +kernel) rfl
theorem wX_X11_46 : Cond.classLink RX11 46 RX1 ∈ ox_W := ox_Wt 226 (by decide +kernel) rfl
theorem wY_X1 : Cond.instantiable RX1 7 ∈ ox_W := ox_Wt 227 (by decide +kernel) rfl
theorem wM_X11_48 : Cond.methodLink RX11 48 yX1_init ∈ ox_W := ox_Wt 228 (by decide +kernel) rfl
theorem wI_X1_init : Cond.instanceMethod yX1_init ∈ ox_W := ox_Wt 229 (by decide +kernel) rfl
theorem wC_X1_init : Cond.code yX1_init cX1_init 2 none ∈ ox_W := ox_Wt 230 (by decide +kernel) rfl
theorem wF_X11_49 : Cond.fieldLink RX11 49 "SweetLine" "bars" "LSweetLine$Bars;" ∈ ox_W := ox_Wt 388 (by decide +kernel) rfl
theorem wX_X11_53 : Cond.classLink RX11 53 RX7 ∈ ox_W := ox_Wt 295 (by decide +kernel) rfl
theorem wY_X7 : Cond.instantiable RX7 7 ∈ ox_W := ox_Wt 296 (by decide +kernel) rfl
theorem wI_X7_init : Cond.instanceMethod yX7_init ∈ ox_W := ox_Wt 298 (by decide +kernel) rfl
theorem wC_X7_init : Cond.code yX7_init cX7_init 1 none ∈ ox_W := ox_Wt 299 (by decide +kernel) rfl
theorem wF_X11_56 : Cond.fieldLink RX11 56 "SweetLine" "rows" "LSweetLine$Rows;" ∈ ox_W := ox_Wt 389 (by decide +kernel) rfl
theorem wF_X11_60 : Cond.fieldLink RX11 60 "SweetLine" "traceNumbers" "[I" ∈ ox_W := ox_Wt 390 (by decide +kernel) rfl
theorem wY_X8 : Cond.instantiable RX8 4 ∈ ox_W := ox_Wt 328 (by decide +kernel) rfl
theorem wN_X8 : Cond.initialized RX8 ∈ ox_W := ox_Wt 11 (by decide +kernel) rfl
theorem wI_X8_init : Cond.instanceMethod yX8_init ∈ ox_W := ox_Wt 330 (by decide +kernel) rfl
theorem wC_X8_init : Cond.code yX8_init cX8_init 1 none ∈ ox_W := ox_Wt 331 (by decide +kernel) rfl
theorem wY_X9 : Cond.instantiable RX9 5 ∈ ox_W := ox_Wt 350 (by decide +kernel) rfl
theorem wI_X9_init : Cond.instanceMethod yX9_init ∈ ox_W := ox_Wt 352 (by decide +kernel) rfl
theorem wC_X9_init : Cond.code yX9_init cX9_init 1 none ∈ ox_W := ox_Wt 353 (by decide +kernel) rfl
theorem wM_X11_65 : Cond.methodLink RX11 65 yX11_isSheet ∈ ox_W := ox_Wt 426 (by decide +kernel) rfl
theorem wT_X11_isSheet : Cond.static yX11_isSheet ∈ ox_W := ox_Wt 427 (by decide +kernel) rfl
theorem wC_X11_isSheet : Cond.code yX11_isSheet cX11_isSheet 1 (some .boolean) ∈ ox_W := ox_Wt 428 (by decide +kernel) rfl
theorem wM_X11_69 : Cond.methodLink RX11 69 yX11_within ∈ ox_W := ox_Wt 429 (by decide +kernel) rfl
theorem wK_X11_73 : Cond.constant RX11 73 (-1000001) ∈ ox_W := ox_Wt 432 (by decide +kernel) rfl
theorem wM_X11_74 : Cond.methodLink RX11 74 yX11_found ∈ ox_W := ox_Wt 433 (by decide +kernel) rfl
theorem wI_X11_found : Cond.instanceMethod yX11_found ∈ ox_W := ox_Wt 435 (by decide +kernel) rfl
theorem wS_X11_found : Cond.selects RX11 yX11_found yX11_found ∈ ox_W := ox_Wp 0 (by decide +kernel) rfl
theorem wC_X11_found : Cond.code yX11_found cX11_found 2 (some .int) ∈ ox_W := ox_Wt 436 (by decide +kernel) rfl
theorem wM_X11_78 : Cond.methodLink RX11 78 yX8_begin ∈ ox_W := ox_Wt 438 (by decide +kernel) rfl
theorem wI_X8_begin : Cond.instanceMethod yX8_begin ∈ ox_W := ox_Wt 439 (by decide +kernel) rfl
theorem wS_X8_begin : Cond.selects RX8 yX8_begin yX8_begin ∈ ox_W := ox_Wt 440 (by decide +kernel) rfl
theorem wC_X8_begin : Cond.code yX8_begin cX8_begin 4 none ∈ ox_W := ox_Wt 441 (by decide +kernel) rfl
theorem wM_X11_82 : Cond.methodLink RX11 82 yX11_plain ∈ ox_W := ox_Wt 442 (by decide +kernel) rfl
theorem wI_X11_plain : Cond.instanceMethod yX11_plain ∈ ox_W := ox_Wt 444 (by decide +kernel) rfl
theorem wS_X11_plain : Cond.selects RX11 yX11_plain yX11_plain ∈ ox_W := ox_Wp 1 (by decide +kernel) rfl
theorem wC_X11_plain : Cond.code yX11_plain cX11_plain 2 (some .int) ∈ ox_W := ox_Wt 445 (by decide +kernel) rfl
theorem wM_X11_85 : Cond.methodLink RX11 85 yX11_amissIn ∈ ox_W := ox_Wt 450 (by decide +kernel) rfl
theorem wT_X11_amissIn : Cond.static yX11_amissIn ∈ ox_W := ox_Wt 451 (by decide +kernel) rfl
theorem wC_X11_amissIn : Cond.code yX11_amissIn cX11_amissIn 3 (some .int) ∈ ox_W := ox_Wt 452 (by decide +kernel) rfl
theorem wF_X11_89 : Cond.fieldLink RX11 89 "SweetLine$Sheet" "items" "[I" ∈ ox_W := ox_Wt 334 (by decide +kernel) rfl
theorem wM_X11_92 : Cond.methodLink RX11 92 yX8_narrowed ∈ ox_W := ox_Wt 457 (by decide +kernel) rfl
theorem wI_X8_narrowed : Cond.instanceMethod yX8_narrowed ∈ ox_W := ox_Wt 458 (by decide +kernel) rfl
theorem wS_X8_narrowed : Cond.selects RX8 yX8_narrowed yX8_narrowed ∈ ox_W := ox_Wt 459 (by decide +kernel) rfl
theorem wC_X8_narrowed : Cond.code yX8_narrowed cX8_narrowed 2 (some .int) ∈ ox_W := ox_Wt 460 (by decide +kernel) rfl
theorem wF_X11_95 : Cond.fieldLink RX11 95 "SweetLine$Sheet" "missing" "Z" ∈ ox_W := ox_Wt 336 (by decide +kernel) rfl
theorem wF_X11_99 : Cond.fieldLink RX11 99 "SweetLine$Sheet" "lane" "I" ∈ ox_W := ox_Wt 338 (by decide +kernel) rfl
theorem wM_X11_103 : Cond.methodLink RX11 103 yX8_has ∈ ox_W := ox_Wt 453 (by decide +kernel) rfl
theorem wI_X8_has : Cond.instanceMethod yX8_has ∈ ox_W := ox_Wt 454 (by decide +kernel) rfl
theorem wS_X8_has : Cond.selects RX8 yX8_has yX8_has ∈ ox_W := ox_Wt 455 (by decide +kernel) rfl
theorem wC_X8_has : Cond.code yX8_has cX8_has 3 (some .boolean) ∈ ox_W := ox_Wt 456 (by decide +kernel) rfl
theorem wM_X11_107 : Cond.methodLink RX11 107 arraycopyName ∈ ox_W := ox_Wt 465 (by decide +kernel) rfl
theorem wAC1 : Cond.native arraycopyName ∈ ox_W := ox_Wt 467 (by decide +kernel) rfl
theorem wAC2 : Cond.static arraycopyName ∈ ox_W := ox_Wt 466 (by decide +kernel) rfl
theorem wN_J10 : Cond.initialized RJ10 ∈ ox_W := ox_Wt 14 (by decide +kernel) rfl
theorem wF_X11_113 : Cond.fieldLink RX11 113 "SweetLine$Sheet" "size" "I" ∈ ox_W := ox_Wt 340 (by decide +kernel) rfl
theorem wF_X11_116 : Cond.fieldLink RX11 116 "SweetLine$Book" "tape" "LSweetLine$Tape;" ∈ ox_W := ox_Wt 99 (by decide +kernel) rfl
theorem wM_X11_120 : Cond.methodLink RX11 120 yX10_hasRoom ∈ ox_W := ox_Wt 476 (by decide +kernel) rfl
theorem wI_X10_hasRoom : Cond.instanceMethod yX10_hasRoom ∈ ox_W := ox_Wt 477 (by decide +kernel) rfl
theorem wS_X10_hasRoom : Cond.selects RX10 yX10_hasRoom yX10_hasRoom ∈ ox_W := ox_Wt 478 (by decide +kernel) rfl
theorem wC_X10_hasRoom : Cond.code yX10_hasRoom cX10_hasRoom 2 (some .boolean) ∈ ox_W := ox_Wt 479 (by decide +kernel) rfl
theorem wK_X11_125 : Cond.constant RX11 125 (-1000003) ∈ ox_W := ox_Wt 480 (by decide +kernel) rfl
theorem wM_X11_126 : Cond.methodLink RX11 126 yX10_append ∈ ox_W := ox_Wt 481 (by decide +kernel) rfl
theorem wI_X10_append : Cond.instanceMethod yX10_append ∈ ox_W := ox_Wt 482 (by decide +kernel) rfl
theorem wS_X10_append : Cond.selects RX10 yX10_append yX10_append ∈ ox_W := ox_Wt 483 (by decide +kernel) rfl
theorem wC_X10_append : Cond.code yX10_append cX10_append 2 none ∈ ox_W := ox_Wt 484 (by decide +kernel) rfl
theorem wF_X11_130 : Cond.fieldLink RX11 130 "SweetLine$Tape" "length" "I" ∈ ox_W := ox_Wt 45 (by decide +kernel) rfl
theorem wM_X11_133 : Cond.methodLink RX11 133 yX3_readTape ∈ ox_W := ox_Wt 489 (by decide +kernel) rfl
theorem wI_X3_readTape : Cond.instanceMethod yX3_readTape ∈ ox_W := ox_Wt 490 (by decide +kernel) rfl
theorem wS_X3_readTape : Cond.selects RX3 yX3_readTape yX3_readTape ∈ ox_W := ox_Wt 491 (by decide +kernel) rfl
theorem wC_X3_readTape : Cond.code yX3_readTape cX3_readTape 2 (some .boolean) ∈ ox_W := ox_Wt 492 (by decide +kernel) rfl
theorem wF_X11_137 : Cond.fieldLink RX11 137 "SweetLine$Book" "told" "I" ∈ ox_W := ox_Wt 103 (by decide +kernel) rfl
theorem wK_X11_140 : Cond.constant RX11 140 (-1000100) ∈ ox_W := ox_Wt 584 (by decide +kernel) rfl
theorem wF_X11_141 : Cond.fieldLink RX11 141 "SweetLine$Book" "faultPlace" "I" ∈ ox_W := ox_Wt 107 (by decide +kernel) rfl
theorem wF_X11_144 : Cond.fieldLink RX11 144 "SweetLine$Book" "faultNumber" "I" ∈ ox_W := ox_Wt 105 (by decide +kernel) rfl
theorem wM_X11_147 : Cond.methodLink RX11 147 yX11_isRecipe ∈ ox_W := ox_Wt 593 (by decide +kernel) rfl
theorem wI_X11_isRecipe : Cond.instanceMethod yX11_isRecipe ∈ ox_W := ox_Wt 595 (by decide +kernel) rfl
theorem wS_X11_isRecipe : Cond.selects RX11 yX11_isRecipe yX11_isRecipe ∈ ox_W := ox_Wp 7 (by decide +kernel) rfl
theorem wC_X11_isRecipe : Cond.code yX11_isRecipe cX11_isRecipe 2 (some .boolean) ∈ ox_W := ox_Wt 596 (by decide +kernel) rfl
theorem wM_X11_150 : Cond.methodLink RX11 150 yX4_begin ∈ ox_W := ox_Wt 597 (by decide +kernel) rfl
theorem wF_X11_151 : Cond.fieldLink RX11 151 "SweetLine$Book" "recipes" "[LSweetLine$Recipe;" ∈ ox_W := ox_Wt 101 (by decide +kernel) rfl
theorem wM_X11_155 : Cond.methodLink RX11 155 yX4_goThrough ∈ ox_W := ox_Wt 601 (by decide +kernel) rfl
theorem wI_X4_goThrough : Cond.instanceMethod yX4_goThrough ∈ ox_W := ox_Wt 602 (by decide +kernel) rfl
theorem wS_X4_goThrough : Cond.selects RX4 yX4_goThrough yX4_goThrough ∈ ox_W := ox_Wt 603 (by decide +kernel) rfl
theorem wC_X4_goThrough : Cond.code yX4_goThrough cX4_goThrough 4 none ∈ ox_W := ox_Wt 604 (by decide +kernel) rfl
theorem wF_X11_159 : Cond.fieldLink RX11 159 "SweetLine$Heat" "warmth" "I" ∈ ox_W := ox_Wt 130 (by decide +kernel) rfl
theorem wF_X11_162 : Cond.fieldLink RX11 162 "SweetLine$Heat" "seeds" "I" ∈ ox_W := ox_Wt 132 (by decide +kernel) rfl
theorem wM_X11_165 : Cond.methodLink RX11 165 yX4_state ∈ ox_W := ox_Wt 616 (by decide +kernel) rfl
theorem wM_X11_169 : Cond.methodLink RX11 169 yX4_thickness ∈ ox_W := ox_Wt 621 (by decide +kernel) rfl
theorem wI_X4_thickness : Cond.instanceMethod yX4_thickness ∈ ox_W := ox_Wt 622 (by decide +kernel) rfl
theorem wS_X4_thickness : Cond.selects RX4 yX4_thickness yX4_thickness ∈ ox_W := ox_Wt 623 (by decide +kernel) rfl
theorem wC_X4_thickness : Cond.code yX4_thickness cX4_thickness 1 (some .int) ∈ ox_W := ox_Wt 624 (by decide +kernel) rfl
theorem wM_X11_172 : Cond.methodLink RX11 172 yX11_isTank ∈ ox_W := ox_Wt 629 (by decide +kernel) rfl
theorem wT_X11_isTank : Cond.static yX11_isTank ∈ ox_W := ox_Wt 630 (by decide +kernel) rfl
theorem wC_X11_isTank : Cond.code yX11_isTank cX11_isTank 1 (some .boolean) ∈ ox_W := ox_Wt 631 (by decide +kernel) rfl
theorem wM_X11_175 : Cond.methodLink RX11 175 yX11_isLot ∈ ox_W := ox_Wt 632 (by decide +kernel) rfl
theorem wT_X11_isLot : Cond.static yX11_isLot ∈ ox_W := ox_Wt 633 (by decide +kernel) rfl
theorem wC_X11_isLot : Cond.code yX11_isLot cX11_isLot 1 (some .boolean) ∈ ox_W := ox_Wt 634 (by decide +kernel) rfl
theorem wM_X11_178 : Cond.methodLink RX11 178 yX9_isEmpty ∈ ox_W := ox_Wt 635 (by decide +kernel) rfl
theorem wF_X11_181 : Cond.fieldLink RX11 181 "SweetLine$Tank" "recipe" "I" ∈ ox_W := ox_Wt 364 (by decide +kernel) rfl
theorem wF_X11_184 : Cond.fieldLink RX11 184 "SweetLine$Tank" "stuff" "I" ∈ ox_W := ox_Wt 359 (by decide +kernel) rfl
theorem wF_X11_187 : Cond.fieldLink RX11 187 "SweetLine$Tank" "rework" "I" ∈ ox_W := ox_Wt 361 (by decide +kernel) rfl
theorem wF_X11_190 : Cond.fieldLink RX11 190 "SweetLine$Recipe" "share" "I" ∈ ox_W := ox_Wt 77 (by decide +kernel) rfl
theorem wK_X11_195 : Cond.constant RX11 195 (99999) ∈ ox_W := ox_Wt 639 (by decide +kernel) rfl
theorem wK_X11_196 : Cond.constant RX11 196 (-1000002) ∈ ox_W := ox_Wt 640 (by decide +kernel) rfl
theorem wM_X11_197 : Cond.methodLink RX11 197 yX9_takeIn ∈ ox_W := ox_Wt 641 (by decide +kernel) rfl
theorem wI_X9_takeIn : Cond.instanceMethod yX9_takeIn ∈ ox_W := ox_Wt 642 (by decide +kernel) rfl
theorem wS_X9_takeIn : Cond.selects RX9 yX9_takeIn yX9_takeIn ∈ ox_W := ox_Wt 643 (by decide +kernel) rfl
theorem wC_X9_takeIn : Cond.code yX9_takeIn cX9_takeIn 5 none ∈ ox_W := ox_Wt 644 (by decide +kernel) rfl
theorem wF_X11_201 : Cond.fieldLink RX11 201 "SweetLine" "filledGrams" "I" ∈ ox_W := ox_Wt 392 (by decide +kernel) rfl
theorem wF_X11_204 : Cond.fieldLink RX11 204 "SweetLine$Tank" "heat" "LSweetLine$Heat;" ∈ ox_W := ox_Wt 370 (by decide +kernel) rfl
theorem wM_X11_207 : Cond.methodLink RX11 207 yX9_giveOut ∈ ox_W := ox_Wt 655 (by decide +kernel) rfl
theorem wF_X11_211 : Cond.fieldLink RX11 211 "SweetLine" "drainedGrams" "I" ∈ ox_W := ox_Wt 393 (by decide +kernel) rfl
theorem wK_X11_214 : Cond.constant RX11 214 (-1000000) ∈ ox_W := ox_Wt 663 (by decide +kernel) rfl
theorem wF_X11_215 : Cond.fieldLink RX11 215 "SweetLine$Tank" "lots" "I" ∈ ox_W := ox_Wt 367 (by decide +kernel) rfl
theorem wM_X11_218 : Cond.methodLink RX11 218 yX2_fullMoulds ∈ ox_W := ox_Wt 668 (by decide +kernel) rfl
theorem wI_X2_fullMoulds : Cond.instanceMethod yX2_fullMoulds ∈ ox_W := ox_Wt 669 (by decide +kernel) rfl
theorem wS_X2_fullMoulds : Cond.selects RX2 yX2_fullMoulds yX2_fullMoulds ∈ ox_W := ox_Wt 670 (by decide +kernel) rfl
theorem wC_X2_fullMoulds : Cond.code yX2_fullMoulds cX2_fullMoulds 3 (some .int) ∈ ox_W := ox_Wt 671 (by decide +kernel) rfl
theorem wF_X11_221 : Cond.fieldLink RX11 221 "SweetLine$Belt" "n" "I" ∈ ox_W := ox_Wt 207 (by decide +kernel) rfl
theorem wF_X11_224 : Cond.fieldLink RX11 224 "SweetLine$Belt" "GEAR_LEAST" "[I" ∈ ox_W := ox_Wt 680 (by decide +kernel) rfl
theorem wF_X11_227 : Cond.fieldLink RX11 227 "SweetLine$Belt" "GEAR_MOST" "[I" ∈ ox_W := ox_Wt 682 (by decide +kernel) rfl
theorem wF_X11_230 : Cond.fieldLink RX11 230 "SweetLine$Belt" "gears" "[I" ∈ ox_W := ox_Wt 205 (by decide +kernel) rfl
theorem wF_X11_233 : Cond.fieldLink RX11 233 "SweetLine$Bars" "came" "I" ∈ ox_W := ox_Wt 273 (by decide +kernel) rfl
theorem wM_X11_236 : Cond.methodLink RX11 236 yX2_advance ∈ ox_W := ox_Wt 688 (by decide +kernel) rfl
theorem wI_X2_advance : Cond.instanceMethod yX2_advance ∈ ox_W := ox_Wt 689 (by decide +kernel) rfl
theorem wS_X2_advance : Cond.selects RX2 yX2_advance yX2_advance ∈ ox_W := ox_Wt 690 (by decide +kernel) rfl
theorem wC_X2_advance : Cond.code yX2_advance cX2_advance 4 none ∈ ox_W := ox_Wt 691 (by decide +kernel) rfl
theorem wF_X11_240 : Cond.fieldLink RX11 240 "SweetLine$Belt" "moulds" "[LSweetLine$Mould;" ∈ ox_W := ox_Wt 203 (by decide +kernel) rfl
theorem wM_X11_244 : Cond.methodLink RX11 244 yX5_isEmpty ∈ ox_W := ox_Wt 740 (by decide +kernel) rfl
theorem wF_X11_247 : Cond.fieldLink RX11 247 "SweetLine$Mould" "chocolate" "I" ∈ ox_W := ox_Wt 166 (by decide +kernel) rfl
theorem wF_X11_250 : Cond.fieldLink RX11 250 "SweetLine$Mould" "filling" "I" ∈ ox_W := ox_Wt 169 (by decide +kernel) rfl
theorem wF_X11_253 : Cond.fieldLink RX11 253 "SweetLine$Mould" "recipe" "I" ∈ ox_W := ox_Wt 172 (by decide +kernel) rfl
theorem wF_X11_254 : Cond.fieldLink RX11 254 "SweetLine$Mould" "warmth" "I" ∈ ox_W := ox_Wt 177 (by decide +kernel) rfl
theorem wF_X11_255 : Cond.fieldLink RX11 255 "SweetLine$Mould" "shaken" "Z" ∈ ox_W := ox_Wt 183 (by decide +kernel) rfl
theorem wF_X11_258 : Cond.fieldLink RX11 258 "SweetLine$Mould" "good" "Z" ∈ ox_W := ox_Wt 180 (by decide +kernel) rfl
theorem wM_X11_261 : Cond.methodLink RX11 261 yX1_recentMean ∈ ox_W := ox_Wt 745 (by decide +kernel) rfl
theorem wI_X1_recentMean : Cond.instanceMethod yX1_recentMean ∈ ox_W := ox_Wt 746 (by decide +kernel) rfl
theorem wS_X1_recentMean : Cond.selects RX1 yX1_recentMean yX1_recentMean ∈ ox_W := ox_Wt 747 (by decide +kernel) rfl
theorem wC_X1_recentMean : Cond.code yX1_recentMean cX1_recentMean 3 (some .int) ∈ ox_W := ox_Wt 748 (by decide +kernel) rfl
theorem wM_X11_264 : Cond.methodLink RX11 264 yJ6_compare_7cf53 ∈ ox_W := ox_Wt 750 (by decide +kernel) rfl
theorem wM_X11_270 : Cond.methodLink RX11 270 Lib.Math.min.name ∈ ox_W := ox_Wt 751 (by decide +kernel) rfl
theorem wM_X11_275 : Cond.methodLink RX11 275 Lib.Math.max.name ∈ ox_W := ox_Wt 752 (by decide +kernel) rfl
theorem wM_X11_278 : Cond.methodLink RX11 278 yX11_isKept ∈ ox_W := ox_Wt 757 (by decide +kernel) rfl
theorem wI_X11_isKept : Cond.instanceMethod yX11_isKept ∈ ox_W := ox_Wt 759 (by decide +kernel) rfl
theorem wS_X11_isKept : Cond.selects RX11 yX11_isKept yX11_isKept ∈ ox_W := ox_Wp 12 (by decide +kernel) rfl
theorem wC_X11_isKept : Cond.code yX11_isKept cX11_isKept 2 (some .boolean) ∈ ox_W := ox_Wt 760 (by decide +kernel) rfl
theorem wF_X11_281 : Cond.fieldLink RX11 281 "SweetLine$Bars" "rack" "[LSweetLine$Bar;" ∈ ox_W := ox_Wt 269 (by decide +kernel) rfl
theorem wF_X11_285 : Cond.fieldLink RX11 285 "SweetLine$Bar" "chocolate" "I" ∈ ox_W := ox_Wt 240 (by decide +kernel) rfl
theorem wF_X11_288 : Cond.fieldLink RX11 288 "SweetLine$Bar" "filling" "I" ∈ ox_W := ox_Wt 242 (by decide +kernel) rfl
theorem wF_X11_289 : Cond.fieldLink RX11 289 "SweetLine$Bar" "recipe" "I" ∈ ox_W := ox_Wt 244 (by decide +kernel) rfl
theorem wF_X11_290 : Cond.fieldLink RX11 290 "SweetLine$Bar" "lots" "I" ∈ ox_W := ox_Wt 247 (by decide +kernel) rfl
theorem wF_X11_291 : Cond.fieldLink RX11 291 "SweetLine$Bar" "good" "Z" ∈ ox_W := ox_Wt 249 (by decide +kernel) rfl
theorem wF_X11_292 : Cond.fieldLink RX11 292 "SweetLine$Bar" "beat" "I" ∈ ox_W := ox_Wt 251 (by decide +kernel) rfl
theorem wF_X11_295 : Cond.fieldLink RX11 295 "SweetLine$Bar" "melted" "Z" ∈ ox_W := ox_Wt 252 (by decide +kernel) rfl
theorem wF_X11_298 : Cond.fieldLink RX11 298 "SweetLine$Bars" "calledBack" "I" ∈ ox_W := ox_Wt 278 (by decide +kernel) rfl
theorem wM_X11_301 : Cond.methodLink RX11 301 yX1_keptWith ∈ ox_W := ox_Wt 765 (by decide +kernel) rfl
theorem wI_X1_keptWith : Cond.instanceMethod yX1_keptWith ∈ ox_W := ox_Wt 766 (by decide +kernel) rfl
theorem wS_X1_keptWith : Cond.selects RX1 yX1_keptWith yX1_keptWith ∈ ox_W := ox_Wt 767 (by decide +kernel) rfl
theorem wC_X1_keptWith : Cond.code yX1_keptWith cX1_keptWith 4 (some .int) ∈ ox_W := ox_Wt 768 (by decide +kernel) rfl
theorem wM_X11_304 : Cond.methodLink RX11 304 yX11_toldKind ∈ ox_W := ox_Wt 773 (by decide +kernel) rfl
theorem wI_X11_toldKind : Cond.instanceMethod yX11_toldKind ∈ ox_W := ox_Wt 775 (by decide +kernel) rfl
theorem wS_X11_toldKind : Cond.selects RX11 yX11_toldKind yX11_toldKind ∈ ox_W := ox_Wp 13 (by decide +kernel) rfl
theorem wC_X11_toldKind : Cond.code yX11_toldKind cX11_toldKind 3 (some .int) ∈ ox_W := ox_Wt 776 (by decide +kernel) rfl
theorem wM_X11_308 : Cond.methodLink RX11 308 yX11_gramsInTanks ∈ ox_W := ox_Wt 785 (by decide +kernel) rfl
theorem wI_X11_gramsInTanks : Cond.instanceMethod yX11_gramsInTanks ∈ ox_W := ox_Wt 787 (by decide +kernel) rfl
theorem wS_X11_gramsInTanks : Cond.selects RX11 yX11_gramsInTanks yX11_gramsInTanks ∈ ox_W := ox_Wp 14 (by decide +kernel) rfl
theorem wC_X11_gramsInTanks : Cond.code yX11_gramsInTanks cX11_gramsInTanks 3 (some .int) ∈ ox_W := ox_Wt 788 (by decide +kernel) rfl
theorem wM_X11_311 : Cond.methodLink RX11 311 yX2_gramsInMoulds ∈ ox_W := ox_Wt 789 (by decide +kernel) rfl
theorem wI_X2_gramsInMoulds : Cond.instanceMethod yX2_gramsInMoulds ∈ ox_W := ox_Wt 790 (by decide +kernel) rfl
theorem wS_X2_gramsInMoulds : Cond.selects RX2 yX2_gramsInMoulds yX2_gramsInMoulds ∈ ox_W := ox_Wt 791 (by decide +kernel) rfl
theorem wC_X2_gramsInMoulds : Cond.code yX2_gramsInMoulds cX2_gramsInMoulds 3 (some .int) ∈ ox_W := ox_Wt 792 (by decide +kernel) rfl
theorem wF_X11_314 : Cond.fieldLink RX11 314 "SweetLine$Bars" "allGrams" "I" ∈ ox_W := ox_Wt 275 (by decide +kernel) rfl
theorem wF_X11_317 : Cond.fieldLink RX11 317 "SweetLine$Bars" "givenAway" "I" ∈ ox_W := ox_Wt 277 (by decide +kernel) rfl
theorem wM_X11_320 : Cond.methodLink RX11 320 yX11_takeOrders ∈ ox_W := ox_Wt 801 (by decide +kernel) rfl
theorem wI_X11_takeOrders : Cond.instanceMethod yX11_takeOrders ∈ ox_W := ox_Wt 803 (by decide +kernel) rfl
theorem wS_X11_takeOrders : Cond.selects RX11 yX11_takeOrders yX11_takeOrders ∈ ox_W := ox_Wp 15 (by decide +kernel) rfl
theorem wC_X11_takeOrders : Cond.code yX11_takeOrders cX11_takeOrders 8 (some .boolean) ∈ ox_W := ox_Wt 804 (by decide +kernel) rfl
theorem wM_X11_324 : Cond.methodLink RX11 324 yX7_findBest ∈ ox_W := ox_Wt 805 (by decide +kernel) rfl
theorem wI_X7_findBest : Cond.instanceMethod yX7_findBest ∈ ox_W := ox_Wt 806 (by decide +kernel) rfl
theorem wS_X7_findBest : Cond.selects RX7 yX7_findBest yX7_findBest ∈ ox_W := ox_Wt 807 (by decide +kernel) rfl
theorem wC_X7_findBest : Cond.code yX7_findBest cX7_findBest 2 none ∈ ox_W := ox_Wt 808 (by decide +kernel) rfl
theorem wF_X11_327 : Cond.fieldLink RX11 327 "SweetLine$Rows" "bestCost" "I" ∈ ox_W := ox_Wt 310 (by decide +kernel) rfl
theorem wF_X11_330 : Cond.fieldLink RX11 330 "SweetLine$Rows" "best" "[I" ∈ ox_W := ox_Wt 308 (by decide +kernel) rfl
theorem wF_X11_333 : Cond.fieldLink RX11 333 "SweetLine" "traced" "I" ∈ ox_W := ox_Wt 391 (by decide +kernel) rfl
theorem wF_X11_336 : Cond.fieldLink RX11 336 "SweetLine" "SIZE_BODY" "[I" ∈ ox_W := ox_Wt 830 (by decide +kernel) rfl
theorem wF_X11_339 : Cond.fieldLink RX11 339 "SweetLine" "MARK_BODY" "[I" ∈ ox_W := ox_Wt 832 (by decide +kernel) rfl
theorem wM_X11_342 : Cond.methodLink RX11 342 yX11_body ∈ ox_W := ox_Wt 834 (by decide +kernel) rfl
theorem wI_X11_body : Cond.instanceMethod yX11_body ∈ ox_W := ox_Wt 836 (by decide +kernel) rfl
theorem wS_X11_body : Cond.selects RX11 yX11_body yX11_body ∈ ox_W := ox_Wp 17 (by decide +kernel) rfl
theorem wC_X11_body : Cond.code yX11_body cX11_body 6 (some .int) ∈ ox_W := ox_Wt 837 (by decide +kernel) rfl
theorem wM_X11_346 : Cond.methodLink RX11 346 yX11_sheetsThere ∈ ox_W := ox_Wt 846 (by decide +kernel) rfl
theorem wI_X11_sheetsThere : Cond.instanceMethod yX11_sheetsThere ∈ ox_W := ox_Wt 848 (by decide +kernel) rfl
theorem wS_X11_sheetsThere : Cond.selects RX11 yX11_sheetsThere yX11_sheetsThere ∈ ox_W := ox_Wp 18 (by decide +kernel) rfl
theorem wC_X11_sheetsThere : Cond.code yX11_sheetsThere cX11_sheetsThere 3 (some .int) ∈ ox_W := ox_Wt 849 (by decide +kernel) rfl
theorem wF_X11_349 : Cond.fieldLink RX11 349 "SweetLine$Belt" "beats" "I" ∈ ox_W := ox_Wt 210 (by decide +kernel) rfl
theorem wF_X11_352 : Cond.fieldLink RX11 352 "SweetLine$Belt" "missed" "I" ∈ ox_W := ox_Wt 212 (by decide +kernel) rfl
theorem wF_X11_355 : Cond.fieldLink RX11 355 "SweetLine" "finding" "I" ∈ ox_W := ox_Wt 394 (by decide +kernel) rfl
theorem wF_X11_358 : Cond.fieldLink RX11 358 "SweetLine$Bars" "kept" "I" ∈ ox_W := ox_Wt 271 (by decide +kernel) rfl
theorem wK_X11_361 : Cond.constant RX11 361 (-1000010) ∈ ox_W := ox_Wt 437 (by decide +kernel) rfl
theorem wF_X11_362 : Cond.fieldLink RX11 362 "SweetLine$Rows" "allergens" "[I" ∈ ox_W := ox_Wt 302 (by decide +kernel) rfl
theorem wF_X11_365 : Cond.fieldLink RX11 365 "SweetLine$Rows" "hours" "[I" ∈ ox_W := ox_Wt 304 (by decide +kernel) rfl
theorem wF_X11_368 : Cond.fieldLink RX11 368 "SweetLine$Rows" "dues" "[I" ∈ ox_W := ox_Wt 306 (by decide +kernel) rfl
theorem wF_X11_371 : Cond.fieldLink RX11 371 "SweetLine$Recipe" "allergens" "I" ∈ ox_W := ox_Wt 75 (by decide +kernel) rfl
theorem wM_X12_1 : Cond.methodLink RX12 1 objectInit ∈ ox_W := ox_Wt 859 (by decide +kernel) rfl
theorem wF_X12_7 : Cond.fieldLink RX12 7 "SweetLineModel" "lane" "[I" ∈ ox_W := ox_Wt 862 (by decide +kernel) rfl
theorem wF_X12_13 : Cond.fieldLink RX12 13 "SweetLineModel" "many" "[I" ∈ ox_W := ox_Wt 863 (by decide +kernel) rfl
theorem wF_X12_16 : Cond.fieldLink RX12 16 "SweetLineModel" "item" "[I" ∈ ox_W := ox_Wt 864 (by decide +kernel) rfl
theorem wF_X12_19 : Cond.fieldLink RX12 19 "SweetLineModel" "allergens" "[I" ∈ ox_W := ox_Wt 866 (by decide +kernel) rfl
theorem wF_X12_22 : Cond.fieldLink RX12 22 "SweetLineModel" "share" "[I" ∈ ox_W := ox_Wt 867 (by decide +kernel) rfl
theorem wF_X12_25 : Cond.fieldLink RX12 25 "SweetLineModel" "stages" "[I" ∈ ox_W := ox_Wt 868 (by decide +kernel) rfl
theorem wF_X12_28 : Cond.fieldLink RX12 28 "SweetLineModel" "stageOf" "[I" ∈ ox_W := ox_Wt 869 (by decide +kernel) rfl
theorem wF_X12_31 : Cond.fieldLink RX12 31 "SweetLineModel" "stageMinutes" "[I" ∈ ox_W := ox_Wt 870 (by decide +kernel) rfl
theorem wF_X12_34 : Cond.fieldLink RX12 34 "SweetLineModel" "bins" "[I" ∈ ox_W := ox_Wt 871 (by decide +kernel) rfl
theorem wF_X12_37 : Cond.fieldLink RX12 37 "SweetLineModel" "tape" "[I" ∈ ox_W := ox_Wt 873 (by decide +kernel) rfl
theorem wF_X12_40 : Cond.fieldLink RX12 40 "SweetLineModel" "stuff" "[I" ∈ ox_W := ox_Wt 885 (by decide +kernel) rfl
theorem wF_X12_43 : Cond.fieldLink RX12 43 "SweetLineModel" "rework" "[I" ∈ ox_W := ox_Wt 886 (by decide +kernel) rfl
theorem wF_X12_46 : Cond.fieldLink RX12 46 "SweetLineModel" "tankRecipe" "[I" ∈ ox_W := ox_Wt 887 (by decide +kernel) rfl
theorem wF_X12_49 : Cond.fieldLink RX12 49 "SweetLineModel" "tankLots" "[I" ∈ ox_W := ox_Wt 888 (by decide +kernel) rfl
theorem wF_X12_52 : Cond.fieldLink RX12 52 "SweetLineModel" "tankWarmth" "[I" ∈ ox_W := ox_Wt 889 (by decide +kernel) rfl
theorem wF_X12_55 : Cond.fieldLink RX12 55 "SweetLineModel" "tankSeeds" "[I" ∈ ox_W := ox_Wt 890 (by decide +kernel) rfl
theorem wF_X12_58 : Cond.fieldLink RX12 58 "SweetLineModel" "moulds" "I" ∈ ox_W := ox_Wt 893 (by decide +kernel) rfl
theorem wF_X12_62 : Cond.fieldLink RX12 62 "SweetLineModel" "chocolate" "[I" ∈ ox_W := ox_Wt 895 (by decide +kernel) rfl
theorem wF_X12_65 : Cond.fieldLink RX12 65 "SweetLineModel" "filling" "[I" ∈ ox_W := ox_Wt 896 (by decide +kernel) rfl
theorem wF_X12_68 : Cond.fieldLink RX12 68 "SweetLineModel" "mouldRecipe" "[I" ∈ ox_W := ox_Wt 897 (by decide +kernel) rfl
theorem wF_X12_71 : Cond.fieldLink RX12 71 "SweetLineModel" "mouldLots" "[I" ∈ ox_W := ox_Wt 898 (by decide +kernel) rfl
theorem wF_X12_74 : Cond.fieldLink RX12 74 "SweetLineModel" "warmth" "[I" ∈ ox_W := ox_Wt 899 (by decide +kernel) rfl
theorem wA_boolean : Cond.arrayClass .boolean ∈ ox_W := ox_Wt 1038 (by decide +kernel) rfl
theorem wF_X12_77 : Cond.fieldLink RX12 77 "SweetLineModel" "isGood" "[Z" ∈ ox_W := ox_Wt 900 (by decide +kernel) rfl
theorem wF_X12_81 : Cond.fieldLink RX12 81 "SweetLineModel" "isShaken" "[Z" ∈ ox_W := ox_Wt 901 (by decide +kernel) rfl
theorem wF_X12_84 : Cond.fieldLink RX12 84 "SweetLineModel" "isFilled" "[Z" ∈ ox_W := ox_Wt 902 (by decide +kernel) rfl
theorem wF_X12_87 : Cond.fieldLink RX12 87 "SweetLineModel" "gears" "[I" ∈ ox_W := ox_Wt 903 (by decide +kernel) rfl
theorem wF_X12_90 : Cond.fieldLink RX12 90 "SweetLineModel" "row" "[I" ∈ ox_W := ox_Wt 909 (by decide +kernel) rfl
theorem wF_X12_93 : Cond.fieldLink RX12 93 "SweetLineModel" "isMelted" "[Z" ∈ ox_W := ox_Wt 910 (by decide +kernel) rfl
theorem wF_X12_96 : Cond.fieldLink RX12 96 "SweetLineModel" "last" "[I" ∈ ox_W := ox_Wt 911 (by decide +kernel) rfl
theorem wF_X12_99 : Cond.fieldLink RX12 99 "SweetLineModel" "order" "[I" ∈ ox_W := ox_Wt 915 (by decide +kernel) rfl
theorem wF_X12_102 : Cond.fieldLink RX12 102 "SweetLineModel" "bestOrder" "[I" ∈ ox_W := ox_Wt 916 (by decide +kernel) rfl
theorem wF_X12_105 : Cond.fieldLink RX12 105 "SweetLineModel" "trace" "[I" ∈ ox_W := ox_Wt 917 (by decide +kernel) rfl
theorem wF_X12_111 : Cond.fieldLink RX12 111 "SweetLineModel" "status" "I" ∈ ox_W := ox_Wt 861 (by decide +kernel) rfl
theorem wK_X12_114 : Cond.constant RX12 114 (-1000010) ∈ ox_W := ox_Wt 1056 (by decide +kernel) rfl
theorem wL_X12_115 : Cond.constantLong RX12 115 (7) ∈ ox_W := ox_Wt 1046 (by decide +kernel) rfl
theorem wM_X12_117 : Cond.methodLink RX12 117 yX12_in ∈ ox_W := ox_Wt 1047 (by decide +kernel) rfl
theorem wT_X12_in : Cond.static yX12_in ∈ ox_W := ox_Wt 1048 (by decide +kernel) rfl
theorem wN_X12 : Cond.initialized RX12 ∈ ox_W := ox_Wt 13 (by decide +kernel) rfl
theorem wC_X12_in : Cond.code yX12_in cX12_in 6 (some .boolean) ∈ ox_W := ox_Wt 1049 (by decide +kernel) rfl
theorem wF_X12_108 : Cond.fieldLink RX12 108 "SweetLineModel" "thrown" "I" ∈ ox_W := ox_Wt 860 (by decide +kernel) rfl
theorem wM_X12_121 : Cond.methodLink RX12 121 yX12_isSheet ∈ ox_W := ox_Wt 1043 (by decide +kernel) rfl
theorem wT_X12_isSheet : Cond.static yX12_isSheet ∈ ox_W := ox_Wt 1044 (by decide +kernel) rfl
theorem wC_X12_isSheet : Cond.code yX12_isSheet cX12_isSheet 1 (some .boolean) ∈ ox_W := ox_Wt 1045 (by decide +kernel) rfl
theorem wL_X12_125 : Cond.constantLong RX12 125 (2) ∈ ox_W := ox_Wt 1050 (by decide +kernel) rfl
theorem wK_X12_127 : Cond.constant RX12 127 (-1000001) ∈ ox_W := ox_Wt 1051 (by decide +kernel) rfl
theorem wM_X12_128 : Cond.methodLink RX12 128 yX12_finding ∈ ox_W := ox_Wt 1052 (by decide +kernel) rfl
theorem wI_X12_finding : Cond.instanceMethod yX12_finding ∈ ox_W := ox_Wt 1054 (by decide +kernel) rfl
theorem wS_X12_finding : Cond.selects RX12 yX12_finding yX12_finding ∈ ox_W := ox_Wp 19 (by decide +kernel) rfl
theorem wC_X12_finding : Cond.code yX12_finding cX12_finding 2 (some .int) ∈ ox_W := ox_Wt 1055 (by decide +kernel) rfl
theorem wL_X12_132 : Cond.constantLong RX12 132 (8) ∈ ox_W := ox_Wt 1073 (by decide +kernel) rfl
theorem wF_X12_134 : Cond.fieldLink RX12 134 "SweetLineModel" "taped" "I" ∈ ox_W := ox_Wt 874 (by decide +kernel) rfl
theorem wK_X12_137 : Cond.constant RX12 137 (-1000003) ∈ ox_W := ox_Wt 1074 (by decide +kernel) rfl
theorem wL_X12_138 : Cond.constantLong RX12 138 (255) ∈ ox_W := ox_Wt 1075 (by decide +kernel) rfl
theorem wF_X12_140 : Cond.fieldLink RX12 140 "SweetLineModel" "size" "I" ∈ ox_W := ox_Wt 876 (by decide +kernel) rfl
theorem wK_X12_143 : Cond.constant RX12 143 (-1000000) ∈ ox_W := ox_Wt 1088 (by decide +kernel) rfl
theorem wF_X12_144 : Cond.fieldLink RX12 144 "SweetLineModel" "cursor" "I" ∈ ox_W := ox_Wt 877 (by decide +kernel) rfl
theorem wM_X12_147 : Cond.methodLink RX12 147 yX12_byteAt ∈ ox_W := ox_Wt 1084 (by decide +kernel) rfl
theorem wI_X12_byteAt : Cond.instanceMethod yX12_byteAt ∈ ox_W := ox_Wt 1086 (by decide +kernel) rfl
theorem wS_X12_byteAt : Cond.selects RX12 yX12_byteAt yX12_byteAt ∈ ox_W := ox_Wp 21 (by decide +kernel) rfl
theorem wC_X12_byteAt : Cond.code yX12_byteAt cX12_byteAt 2 (some .int) ∈ ox_W := ox_Wt 1087 (by decide +kernel) rfl
theorem wF_X12_150 : Cond.fieldLink RX12 150 "SweetLineModel" "from" "I" ∈ ox_W := ox_Wt 879 (by decide +kernel) rfl
theorem wF_X12_153 : Cond.fieldLink RX12 153 "SweetLineModel" "token" "I" ∈ ox_W := ox_Wt 878 (by decide +kernel) rfl
theorem wM_X12_156 : Cond.methodLink RX12 156 yX12_isLetter ∈ ox_W := ox_Wt 1089 (by decide +kernel) rfl
theorem wT_X12_isLetter : Cond.static yX12_isLetter ∈ ox_W := ox_Wt 1090 (by decide +kernel) rfl
theorem wC_X12_isLetter : Cond.code yX12_isLetter cX12_isLetter 1 (some .boolean) ∈ ox_W := ox_Wt 1091 (by decide +kernel) rfl
theorem wM_X12_159 : Cond.methodLink RX12 159 yX12_isFigure ∈ ox_W := ox_Wt 1092 (by decide +kernel) rfl
theorem wT_X12_isFigure : Cond.static yX12_isFigure ∈ ox_W := ox_Wt 1093 (by decide +kernel) rfl
theorem wC_X12_isFigure : Cond.code yX12_isFigure cX12_isFigure 1 (some .boolean) ∈ ox_W := ox_Wt 1094 (by decide +kernel) rfl
theorem wF_X12_162 : Cond.fieldLink RX12 162 "SweetLineModel" "till" "I" ∈ ox_W := ox_Wt 880 (by decide +kernel) rfl
theorem wF_X12_165 : Cond.fieldLink RX12 165 "SweetLineModel" "fault" "I" ∈ ox_W := ox_Wt 881 (by decide +kernel) rfl
theorem wF_X12_168 : Cond.fieldLink RX12 168 "SweetLineModel" "faultAt" "I" ∈ ox_W := ox_Wt 882 (by decide +kernel) rfl
theorem wM_X12_171 : Cond.methodLink RX12 171 yX12_bad ∈ ox_W := ox_Wt 1104 (by decide +kernel) rfl
theorem wI_X12_bad : Cond.instanceMethod yX12_bad ∈ ox_W := ox_Wt 1106 (by decide +kernel) rfl
theorem wS_X12_bad : Cond.selects RX12 yX12_bad yX12_bad ∈ ox_W := ox_Wp 24 (by decide +kernel) rfl
theorem wC_X12_bad : Cond.code yX12_bad cX12_bad 2 none ∈ ox_W := ox_Wt 1107 (by decide +kernel) rfl
theorem wM_X12_175 : Cond.methodLink RX12 175 yX12_step ∈ ox_W := ox_Wt 1080 (by decide +kernel) rfl
theorem wI_X12_step : Cond.instanceMethod yX12_step ∈ ox_W := ox_Wt 1082 (by decide +kernel) rfl
theorem wS_X12_step : Cond.selects RX12 yX12_step yX12_step ∈ ox_W := ox_Wp 20 (by decide +kernel) rfl
theorem wC_X12_step : Cond.code yX12_step cX12_step 2 none ∈ ox_W := ox_Wt 1083 (by decide +kernel) rfl
theorem wM_X12_178 : Cond.methodLink RX12 178 yX12_must ∈ ox_W := ox_Wt 1108 (by decide +kernel) rfl
theorem wI_X12_must : Cond.instanceMethod yX12_must ∈ ox_W := ox_Wt 1110 (by decide +kernel) rfl
theorem wS_X12_must : Cond.selects RX12 yX12_must yX12_must ∈ ox_W := ox_Wp 25 (by decide +kernel) rfl
theorem wC_X12_must : Cond.code yX12_must cX12_must 2 none ∈ ox_W := ox_Wt 1111 (by decide +kernel) rfl
theorem wM_X12_182 : Cond.methodLink RX12 182 yX12_word ∈ ox_W := ox_Wt 1099 (by decide +kernel) rfl
theorem wI_X12_word : Cond.instanceMethod yX12_word ∈ ox_W := ox_Wt 1101 (by decide +kernel) rfl
theorem wS_X12_word : Cond.selects RX12 yX12_word yX12_word ∈ ox_W := ox_Wp 23 (by decide +kernel) rfl
theorem wC_X12_word : Cond.code yX12_word cX12_word 4 (some .long) ∈ ox_W := ox_Wt 1102 (by decide +kernel) rfl
theorem wL_X12_186 : Cond.constantLong RX12 186 (125779785117797) ∈ ox_W := ox_Wt 1103 (by decide +kernel) rfl
theorem wF_X12_188 : Cond.fieldLink RX12 188 "SweetLineModel" "newRecipes" "I" ∈ ox_W := ox_Wt 872 (by decide +kernel) rfl
theorem wM_X12_191 : Cond.methodLink RX12 191 yX12_numberIn ∈ ox_W := ox_Wt 1112 (by decide +kernel) rfl
theorem wI_X12_numberIn : Cond.instanceMethod yX12_numberIn ∈ ox_W := ox_Wt 1114 (by decide +kernel) rfl
theorem wS_X12_numberIn : Cond.selects RX12 yX12_numberIn yX12_numberIn ∈ ox_W := ox_Wp 26 (by decide +kernel) rfl
theorem wC_X12_numberIn : Cond.code yX12_numberIn cX12_numberIn 5 (some .int) ∈ ox_W := ox_Wt 1115 (by decide +kernel) rfl
theorem wL_X12_195 : Cond.constantLong RX12 195 (2002874989) ∈ ox_W := ox_Wt 1116 (by decide +kernel) rfl
theorem wL_X12_197 : Cond.constantLong RX12 197 (1936024932) ∈ ox_W := ox_Wt 1117 (by decide +kernel) rfl
theorem wF_X12_199 : Cond.fieldLink RX12 199 "SweetLineModel" "recipes" "I" ∈ ox_W := ox_Wt 865 (by decide +kernel) rfl
theorem wM_X12_202 : Cond.methodLink RX12 202 yX12_readRecipe ∈ ox_W := ox_Wt 1095 (by decide +kernel) rfl
theorem wI_X12_readRecipe : Cond.instanceMethod yX12_readRecipe ∈ ox_W := ox_Wt 1097 (by decide +kernel) rfl
theorem wS_X12_readRecipe : Cond.selects RX12 yX12_readRecipe yX12_readRecipe ∈ ox_W := ox_Wp 22 (by decide +kernel) rfl
theorem wC_X12_readRecipe : Cond.code yX12_readRecipe cX12_readRecipe 5 none ∈ ox_W := ox_Wt 1098 (by decide +kernel) rfl
theorem wF_X12_205 : Cond.fieldLink RX12 205 "SweetLineModel" "latest" "I" ∈ ox_W := ox_Wt 875 (by decide +kernel) rfl
theorem wK_X12_208 : Cond.constant RX12 208 (-1000100) ∈ ox_W := ox_Wt 1118 (by decide +kernel) rfl
theorem wF_X12_209 : Cond.fieldLink RX12 209 "SweetLineModel" "warmthThen" "I" ∈ ox_W := ox_Wt 883 (by decide +kernel) rfl
theorem wF_X12_212 : Cond.fieldLink RX12 212 "SweetLineModel" "seedsThen" "I" ∈ ox_W := ox_Wt 884 (by decide +kernel) rfl
theorem wL_X12_215 : Cond.constantLong RX12 215 (28) ∈ ox_W := ox_Wt 1141 (by decide +kernel) rfl
theorem wL_X12_217 : Cond.constantLong RX12 217 (33) ∈ ox_W := ox_Wt 1142 (by decide +kernel) rfl
theorem wM_X12_219 : Cond.methodLink RX12 219 yX12_isRecipe ∈ ox_W := ox_Wt 1127 (by decide +kernel) rfl
theorem wI_X12_isRecipe : Cond.instanceMethod yX12_isRecipe ∈ ox_W := ox_Wt 1129 (by decide +kernel) rfl
theorem wS_X12_isRecipe : Cond.selects RX12 yX12_isRecipe yX12_isRecipe ∈ ox_W := ox_Wp 27 (by decide +kernel) rfl
theorem wC_X12_isRecipe : Cond.code yX12_isRecipe cX12_isRecipe 2 (some .boolean) ∈ ox_W := ox_Wt 1130 (by decide +kernel) rfl
theorem wL_X12_222 : Cond.constantLong RX12 222 (60) ∈ ox_W := ox_Wt 1131 (by decide +kernel) rfl
theorem wL_X12_224 : Cond.constantLong RX12 224 (999) ∈ ox_W := ox_Wt 1132 (by decide +kernel) rfl
theorem wL_X12_226 : Cond.constantLong RX12 226 (3) ∈ ox_W := ox_Wt 1133 (by decide +kernel) rfl
theorem wM_X12_228 : Cond.methodLink RX12 228 yX12_temperBy ∈ ox_W := ox_Wt 1134 (by decide +kernel) rfl
theorem wI_X12_temperBy : Cond.instanceMethod yX12_temperBy ∈ ox_W := ox_Wt 1136 (by decide +kernel) rfl
theorem wS_X12_temperBy : Cond.selects RX12 yX12_temperBy yX12_temperBy ∈ ox_W := ox_Wp 28 (by decide +kernel) rfl
theorem wC_X12_temperBy : Cond.code yX12_temperBy cX12_temperBy 7 none ∈ ox_W := ox_Wt 1137 (by decide +kernel) rfl
theorem wM_X12_232 : Cond.methodLink RX12 232 yX12_stateOf ∈ ox_W := ox_Wt 1138 (by decide +kernel) rfl
theorem wT_X12_stateOf : Cond.static yX12_stateOf ∈ ox_W := ox_Wt 1139 (by decide +kernel) rfl
theorem wC_X12_stateOf : Cond.code yX12_stateOf cX12_stateOf 2 (some .int) ∈ ox_W := ox_Wt 1140 (by decide +kernel) rfl
theorem wM_X12_235 : Cond.methodLink RX12 235 yX12_isTank ∈ ox_W := ox_Wt 1147 (by decide +kernel) rfl
theorem wT_X12_isTank : Cond.static yX12_isTank ∈ ox_W := ox_Wt 1148 (by decide +kernel) rfl
theorem wC_X12_isTank : Cond.code yX12_isTank cX12_isTank 1 (some .boolean) ∈ ox_W := ox_Wt 1149 (by decide +kernel) rfl
theorem wL_X12_238 : Cond.constantLong RX12 238 (20000) ∈ ox_W := ox_Wt 1150 (by decide +kernel) rfl
theorem wL_X12_240 : Cond.constantLong RX12 240 (9) ∈ ox_W := ox_Wt 1151 (by decide +kernel) rfl
theorem wK_X12_242 : Cond.constant RX12 242 (99999) ∈ ox_W := ox_Wt 1152 (by decide +kernel) rfl
theorem wK_X12_243 : Cond.constant RX12 243 (-1000002) ∈ ox_W := ox_Wt 1153 (by decide +kernel) rfl
theorem wF_X12_244 : Cond.fieldLink RX12 244 "SweetLineModel" "filledAll" "I" ∈ ox_W := ox_Wt 891 (by decide +kernel) rfl
theorem wF_X12_247 : Cond.fieldLink RX12 247 "SweetLineModel" "drainedAll" "I" ∈ ox_W := ox_Wt 892 (by decide +kernel) rfl
theorem wL_X12_250 : Cond.constantLong RX12 250 (6) ∈ ox_W := ox_Wt 1166 (by decide +kernel) rfl
theorem wF_X12_252 : Cond.fieldLink RX12 252 "SweetLineModel" "turned" "I" ∈ ox_W := ox_Wt 894 (by decide +kernel) rfl
theorem wL_X12_255 : Cond.constantLong RX12 255 (15) ∈ ox_W := ox_Wt 1171 (by decide +kernel) rfl
theorem wL_X12_257 : Cond.constantLong RX12 257 (14) ∈ ox_W := ox_Wt 1176 (by decide +kernel) rfl
theorem wM_X12_259 : Cond.methodLink RX12 259 yX12_mouldAt ∈ ox_W := ox_Wt 1190 (by decide +kernel) rfl
theorem wI_X12_mouldAt : Cond.instanceMethod yX12_mouldAt ∈ ox_W := ox_Wt 1192 (by decide +kernel) rfl
theorem wS_X12_mouldAt : Cond.selects RX12 yX12_mouldAt yX12_mouldAt ∈ ox_W := ox_Wp 31 (by decide +kernel) rfl
theorem wC_X12_mouldAt : Cond.code yX12_mouldAt cX12_mouldAt 2 (some .int) ∈ ox_W := ox_Wt 1193 (by decide +kernel) rfl
theorem wM_X12_262 : Cond.methodLink RX12 262 yX12_take ∈ ox_W := ox_Wt 1194 (by decide +kernel) rfl
theorem wI_X12_take : Cond.instanceMethod yX12_take ∈ ox_W := ox_Wt 1196 (by decide +kernel) rfl
theorem wS_X12_take : Cond.selects RX12 yX12_take yX12_take ∈ ox_W := ox_Wp 32 (by decide +kernel) rfl
theorem wC_X12_take : Cond.code yX12_take cX12_take 3 none ∈ ox_W := ox_Wt 1197 (by decide +kernel) rfl
theorem wF_X12_266 : Cond.fieldLink RX12 266 "SweetLineModel" "poured" "I" ∈ ox_W := ox_Wt 904 (by decide +kernel) rfl
theorem wM_X12_269 : Cond.methodLink RX12 269 yX12_pour ∈ ox_W := ox_Wt 1186 (by decide +kernel) rfl
theorem wI_X12_pour : Cond.instanceMethod yX12_pour ∈ ox_W := ox_Wt 1188 (by decide +kernel) rfl
theorem wS_X12_pour : Cond.selects RX12 yX12_pour yX12_pour ∈ ox_W := ox_Wp 30 (by decide +kernel) rfl
theorem wC_X12_pour : Cond.code yX12_pour cX12_pour 4 none ∈ ox_W := ox_Wt 1189 (by decide +kernel) rfl
theorem wM_X12_272 : Cond.methodLink RX12 272 yX12_turnOut ∈ ox_W := ox_Wt 1198 (by decide +kernel) rfl
theorem wI_X12_turnOut : Cond.instanceMethod yX12_turnOut ∈ ox_W := ox_Wt 1200 (by decide +kernel) rfl
theorem wS_X12_turnOut : Cond.selects RX12 yX12_turnOut yX12_turnOut ∈ ox_W := ox_Wp 33 (by decide +kernel) rfl
theorem wC_X12_turnOut : Cond.code yX12_turnOut cX12_turnOut 3 none ∈ ox_W := ox_Wt 1201 (by decide +kernel) rfl
theorem wF_X12_275 : Cond.fieldLink RX12 275 "SweetLineModel" "missed" "I" ∈ ox_W := ox_Wt 906 (by decide +kernel) rfl
theorem wF_X12_278 : Cond.fieldLink RX12 278 "SweetLineModel" "beats" "I" ∈ ox_W := ox_Wt 905 (by decide +kernel) rfl
theorem wL_X12_281 : Cond.constantLong RX12 281 (100) ∈ ox_W := ox_Wt 1181 (by decide +kernel) rfl
theorem wF_X12_283 : Cond.fieldLink RX12 283 "SweetLineModel" "came" "I" ∈ ox_W := ox_Wt 907 (by decide +kernel) rfl
theorem wM_X12_286 : Cond.methodLink RX12 286 yX12_beatOnce ∈ ox_W := ox_Wt 1182 (by decide +kernel) rfl
theorem wI_X12_beatOnce : Cond.instanceMethod yX12_beatOnce ∈ ox_W := ox_Wt 1184 (by decide +kernel) rfl
theorem wS_X12_beatOnce : Cond.selects RX12 yX12_beatOnce yX12_beatOnce ∈ ox_W := ox_Wp 29 (by decide +kernel) rfl
theorem wC_X12_beatOnce : Cond.code yX12_beatOnce cX12_beatOnce 4 none ∈ ox_W := ox_Wt 1185 (by decide +kernel) rfl
theorem wL_X12_289 : Cond.constantLong RX12 289 (5) ∈ ox_W := ox_Wt 1206 (by decide +kernel) rfl
theorem wF_X12_291 : Cond.fieldLink RX12 291 "SweetLineModel" "keptBars" "I" ∈ ox_W := ox_Wt 908 (by decide +kernel) rfl
theorem wF_X12_294 : Cond.fieldLink RX12 294 "SweetLineModel" "barsAll" "I" ∈ ox_W := ox_Wt 912 (by decide +kernel) rfl
theorem wF_X12_297 : Cond.fieldLink RX12 297 "SweetLineModel" "givenAway" "I" ∈ ox_W := ox_Wt 913 (by decide +kernel) rfl
theorem wM_X12_300 : Cond.methodLink RX12 300 yX12_isBar ∈ ox_W := ox_Wt 1215 (by decide +kernel) rfl
theorem wI_X12_isBar : Cond.instanceMethod yX12_isBar ∈ ox_W := ox_Wt 1217 (by decide +kernel) rfl
theorem wS_X12_isBar : Cond.selects RX12 yX12_isBar yX12_isBar ∈ ox_W := ox_Wp 34 (by decide +kernel) rfl
theorem wC_X12_isBar : Cond.code yX12_isBar cX12_isBar 2 (some .boolean) ∈ ox_W := ox_Wt 1218 (by decide +kernel) rfl
theorem wM_X12_303 : Cond.methodLink RX12 303 yX12_of ∈ ox_W := ox_Wt 1219 (by decide +kernel) rfl
theorem wI_X12_of : Cond.instanceMethod yX12_of ∈ ox_W := ox_Wt 1221 (by decide +kernel) rfl
theorem wS_X12_of : Cond.selects RX12 yX12_of yX12_of ∈ ox_W := ox_Wp 35 (by decide +kernel) rfl
theorem wC_X12_of : Cond.code yX12_of cX12_of 3 (some .int) ∈ ox_W := ox_Wt 1222 (by decide +kernel) rfl
theorem wF_X12_306 : Cond.fieldLink RX12 306 "SweetLineModel" "called" "I" ∈ ox_W := ox_Wt 914 (by decide +kernel) rfl
theorem wM_X12_309 : Cond.methodLink RX12 309 yX12_kindOf ∈ ox_W := ox_Wt 1231 (by decide +kernel) rfl
theorem wI_X12_kindOf : Cond.instanceMethod yX12_kindOf ∈ ox_W := ox_Wt 1233 (by decide +kernel) rfl
theorem wS_X12_kindOf : Cond.selects RX12 yX12_kindOf yX12_kindOf ∈ ox_W := ox_Wp 36 (by decide +kernel) rfl
theorem wC_X12_kindOf : Cond.code yX12_kindOf cX12_kindOf 3 (some .int) ∈ ox_W := ox_Wt 1234 (by decide +kernel) rfl
theorem wL_X12_312 : Cond.constantLong RX12 312 (20) ∈ ox_W := ox_Wt 1247 (by decide +kernel) rfl
theorem wM_X12_314 : Cond.methodLink RX12 314 yX12_lookItems ∈ ox_W := ox_Wt 1248 (by decide +kernel) rfl
theorem wI_X12_lookItems : Cond.instanceMethod yX12_lookItems ∈ ox_W := ox_Wt 1250 (by decide +kernel) rfl
theorem wS_X12_lookItems : Cond.selects RX12 yX12_lookItems yX12_lookItems ∈ ox_W := ox_Wp 37 (by decide +kernel) rfl
theorem wC_X12_lookItems : Cond.code yX12_lookItems cX12_lookItems 4 (some .int) ∈ ox_W := ox_Wt 1251 (by decide +kernel) rfl
theorem wL_X12_318 : Cond.constantLong RX12 318 (99) ∈ ox_W := ox_Wt 1252 (by decide +kernel) rfl
theorem wL_X12_320 : Cond.constantLong RX12 320 (-1) ∈ ox_W := ox_Wt 1257 (by decide +kernel) rfl
theorem wM_X12_322 : Cond.methodLink RX12 322 yX12_costOf ∈ ox_W := ox_Wt 1258 (by decide +kernel) rfl
theorem wI_X12_costOf : Cond.instanceMethod yX12_costOf ∈ ox_W := ox_Wt 1260 (by decide +kernel) rfl
theorem wS_X12_costOf : Cond.selects RX12 yX12_costOf yX12_costOf ∈ ox_W := ox_Wp 38 (by decide +kernel) rfl
theorem wC_X12_costOf : Cond.code yX12_costOf cX12_costOf 7 (some .int) ∈ ox_W := ox_Wt 1261 (by decide +kernel) rfl
theorem wM_X12_325 : Cond.methodLink RX12 325 yX12_nextRow ∈ ox_W := ox_Wt 1262 (by decide +kernel) rfl
theorem wI_X12_nextRow : Cond.instanceMethod yX12_nextRow ∈ ox_W := ox_Wt 1264 (by decide +kernel) rfl
theorem wS_X12_nextRow : Cond.selects RX12 yX12_nextRow yX12_nextRow ∈ ox_W := ox_Wp 39 (by decide +kernel) rfl
theorem wC_X12_nextRow : Cond.code yX12_nextRow cX12_nextRow 7 (some .boolean) ∈ ox_W := ox_Wt 1265 (by decide +kernel) rfl
theorem wL_X12_328 : Cond.constantLong RX12 328 (4) ∈ ox_W := ox_Wt 1274 (by decide +kernel) rfl
theorem wM_X12_330 : Cond.methodLink RX12 330 yX12_isOf ∈ ox_W := ox_Wt 1275 (by decide +kernel) rfl
theorem wT_X12_isOf : Cond.static yX12_isOf ∈ ox_W := ox_Wt 1276 (by decide +kernel) rfl
theorem wC_X12_isOf : Cond.code yX12_isOf cX12_isOf 2 (some .boolean) ∈ ox_W := ox_Wt 1277 (by decide +kernel) rfl
theorem wF_X12_334 : Cond.fieldLink RX12 334 "SweetLineModel" "traced" "I" ∈ ox_W := ox_Wt 918 (by decide +kernel) rfl
theorem wM_X12_337 : Cond.methodLink RX12 337 yX12_began ∈ ox_W := ox_Wt 1290 (by decide +kernel) rfl
theorem wI_X12_began : Cond.instanceMethod yX12_began ∈ ox_W := ox_Wt 1292 (by decide +kernel) rfl
theorem wS_X12_began : Cond.selects RX12 yX12_began yX12_began ∈ ox_W := ox_Wp 42 (by decide +kernel) rfl
theorem wC_X12_began : Cond.code yX12_began cX12_began 2 none ∈ ox_W := ox_Wt 1293 (by decide +kernel) rfl
theorem wM_X12_340 : Cond.methodLink RX12 340 yX12_fullSize ∈ ox_W := ox_Wt 1286 (by decide +kernel) rfl
theorem wI_X12_fullSize : Cond.instanceMethod yX12_fullSize ∈ ox_W := ox_Wt 1288 (by decide +kernel) rfl
theorem wS_X12_fullSize : Cond.selects RX12 yX12_fullSize yX12_fullSize ∈ ox_W := ox_Wp 41 (by decide +kernel) rfl
theorem wC_X12_fullSize : Cond.code yX12_fullSize cX12_fullSize 4 (some .int) ∈ ox_W := ox_Wt 1289 (by decide +kernel) rfl
theorem wM_X12_343 : Cond.methodLink RX12 343 yX12_markOf ∈ ox_W := ox_Wt 1294 (by decide +kernel) rfl
theorem wI_X12_markOf : Cond.instanceMethod yX12_markOf ∈ ox_W := ox_Wt 1296 (by decide +kernel) rfl
theorem wS_X12_markOf : Cond.selects RX12 yX12_markOf yX12_markOf ∈ ox_W := ox_Wp 43 (by decide +kernel) rfl
theorem wC_X12_markOf : Cond.code yX12_markOf cX12_markOf 4 (some .int) ∈ ox_W := ox_Wt 1297 (by decide +kernel) rfl
theorem wM_X12_346 : Cond.methodLink RX12 346 yX12_sizeOf ∈ ox_W := ox_Wt 1282 (by decide +kernel) rfl
theorem wI_X12_sizeOf : Cond.instanceMethod yX12_sizeOf ∈ ox_W := ox_Wt 1284 (by decide +kernel) rfl
theorem wS_X12_sizeOf : Cond.selects RX12 yX12_sizeOf yX12_sizeOf ∈ ox_W := ox_Wp 40 (by decide +kernel) rfl
theorem wC_X12_sizeOf : Cond.code yX12_sizeOf cX12_sizeOf 3 (some .int) ∈ ox_W := ox_Wt 1285 (by decide +kernel) rfl
theorem wF_J0_9 : Cond.fieldLink RJ0 9 "java/lang/String" "value" "[B" ∈ ox_W := ox_Wt 1311 (by decide +kernel) rfl
theorem wM_J0_335 : Cond.methodLink RJ0 335 yJ0_coder_7d493 ∈ ox_W := ox_Wt 524 (by decide +kernel) rfl
theorem wI_J0_coder_7d493 : Cond.instanceMethod yJ0_coder_7d493 ∈ ox_W := ox_Wt 525 (by decide +kernel) rfl
theorem wS_J0_coder_7d493 : Cond.selects RJ0 yJ0_coder_7d493 yJ0_coder_7d493 ∈ ox_W := ox_Wt 526 (by decide +kernel) rfl
theorem wC_J0_coder_7d493 : Cond.code yJ0_coder_7d493 cJ0_coder_7d493 1 (some .byte) ∈ ox_W := ox_Wt 527 (by decide +kernel) rfl
theorem wM_J0_492 : Cond.methodLink RJ0 492 yJ0_isLatin1_aae02 ∈ ox_W := ox_Wt 534 (by decide +kernel) rfl
theorem wI_J0_isLatin1_aae02 : Cond.instanceMethod yJ0_isLatin1_aae02 ∈ ox_W := ox_Wt 535 (by decide +kernel) rfl
theorem wS_J0_isLatin1_aae02 : Cond.selects RJ0 yJ0_isLatin1_aae02 yJ0_isLatin1_aae02 ∈ ox_W := ox_Wt 536 (by decide +kernel) rfl
theorem wC_J0_isLatin1_aae02 : Cond.code yJ0_isLatin1_aae02 cJ0_isLatin1_aae02 1 (some .boolean) ∈ ox_W := ox_Wt 537 (by decide +kernel) rfl
theorem wM_J0_495 : Cond.methodLink RJ0 495 yJ1_charAt_3b067 ∈ ox_W := ox_Wt 538 (by decide +kernel) rfl
theorem wT_J1_charAt_3b067 : Cond.static yJ1_charAt_3b067 ∈ ox_W := ox_Wt 539 (by decide +kernel) rfl
theorem wN_J1 : Cond.initialized RJ1 ∈ ox_W := ox_Wt 17 (by decide +kernel) rfl
theorem wC_J1_charAt_3b067 : Cond.code yJ1_charAt_3b067 cJ1_charAt_3b067 2 (some .char) ∈ ox_W := ox_Wt 540 (by decide +kernel) rfl
theorem wF_J0_38 : Cond.fieldLink RJ0 38 "java/lang/String" "COMPACT_STRINGS" "Z" ∈ ox_W := ox_Wt 528 (by decide +kernel) rfl
theorem wF_J0_15 : Cond.fieldLink RJ0 15 "java/lang/String" "coder" "B" ∈ ox_W := ox_Wt 1312 (by decide +kernel) rfl
theorem wM_J1_9 : Cond.methodLink RJ1 9 yJ0_checkIndex_df160 ∈ ox_W := ox_Wt 541 (by decide +kernel) rfl
theorem wT_J0_checkIndex_df160 : Cond.static yJ0_checkIndex_df160 ∈ ox_W := ox_Wt 542 (by decide +kernel) rfl
theorem wC_J0_checkIndex_df160 : Cond.code yJ0_checkIndex_df160 cJ0_checkIndex_df160 2 none ∈ ox_W := ox_Wt 543 (by decide +kernel) rfl
theorem ox_nt0 : ∀ j, j < 7 → ∀ t, ox_ty 0 j = t → t = .int ∨ t = .boolean ∨ t = .byte ∨ ox_isr t = true := by
  intro j hj t e
  subst e
  revert j
  decide +kernel
theorem ox_nt1 : ∀ j, j < 7 → ∀ t, ox_ty 1 j = t → t = .int ∨ t = .boolean ∨ t = .byte ∨ ox_isr t = true := by
  intro j hj t e
  subst e
  revert j
  decide +kernel
theorem ox_nt2 : ∀ j, j < 6 → ∀ t, ox_ty 2 j = t → t = .int ∨ t = .boolean ∨ t = .byte ∨ ox_isr t = true := by
  intro j hj t e
  subst e
  revert j
  decide +kernel
theorem ox_nt3 : ∀ j, j < 6 → ∀ t, ox_ty 3 j = t → t = .int ∨ t = .boolean ∨ t = .byte ∨ ox_isr t = true := by
  intro j hj t e
  subst e
  revert j
  decide +kernel
theorem ox_nt4 : ∀ j, j < 2 → ∀ t, ox_ty 4 j = t → t = .int ∨ t = .boolean ∨ t = .byte ∨ ox_isr t = true := by
  intro j hj t e
  subst e
  revert j
  decide +kernel
theorem ox_nt5 : ∀ j, j < 8 → ∀ t, ox_ty 5 j = t → t = .int ∨ t = .boolean ∨ t = .byte ∨ ox_isr t = true := by
  intro j hj t e
  subst e
  revert j
  decide +kernel
theorem ox_nt6 : ∀ j, j < 5 → ∀ t, ox_ty 6 j = t → t = .int ∨ t = .boolean ∨ t = .byte ∨ ox_isr t = true := by
  intro j hj t e
  subst e
  revert j
  decide +kernel
theorem ox_nt7 : ∀ j, j < 7 → ∀ t, ox_ty 7 j = t → t = .int ∨ t = .boolean ∨ t = .byte ∨ ox_isr t = true := by
  intro j hj t e
  subst e
  revert j
  decide +kernel
theorem ox_nt8 : ∀ j, j < 4 → ∀ t, ox_ty 8 j = t → t = .int ∨ t = .boolean ∨ t = .byte ∨ ox_isr t = true := by
  intro j hj t e
  subst e
  revert j
  decide +kernel
theorem ox_nt9 : ∀ j, j < 5 → ∀ t, ox_ty 9 j = t → t = .int ∨ t = .boolean ∨ t = .byte ∨ ox_isr t = true := by
  intro j hj t e
  subst e
  revert j
  decide +kernel
theorem ox_nt10 : ∀ j, j < 6 → ∀ t, ox_ty 10 j = t → t = .int ∨ t = .boolean ∨ t = .byte ∨ ox_isr t = true := by
  intro j hj t e
  subst e
  revert j
  decide +kernel
theorem ox_nt11 : ∀ j, j < 13 → ∀ t, ox_ty 11 j = t → t = .int ∨ t = .boolean ∨ t = .byte ∨ ox_isr t = true := by
  intro j hj t e
  subst e
  revert j
  decide +kernel
theorem ox_nt12 : ∀ j, j < 59 → ∀ t, ox_ty 12 j = t → t = .int ∨ t = .boolean ∨ t = .byte ∨ ox_isr t = true := by
  intro j hj t e
  subst e
  revert j
  decide +kernel
end
section
theorem dX2_advance_0 : decode cX2_advance 0 = .ok (.aload_n 0, 1) := by decide +kernel
theorem dX2_advance_1 : decode cX2_advance 1 = .ok (.invokevirtual 32, 3) := by decide +kernel
theorem dX2_advance_4 : decode cX2_advance 4 = .ok (.aload_n 0, 1) := by decide +kernel
theorem dX2_advance_5 : decode cX2_advance 5 = .ok (.aload_n 0, 1) := by decide +kernel
theorem dX2_advance_6 : decode cX2_advance 6 = .ok (.getfield 11, 3) := by decide +kernel
theorem dX2_advance_9 : decode cX2_advance 9 = .ok (.iconst 0, 1) := by decide +kernel
theorem dX2_advance_10 : decode cX2_advance 10 = .ok (.aaload, 1) := by decide +kernel
theorem dX2_advance_11 : decode cX2_advance 11 = .ok (.aload_n 1, 1) := by decide +kernel
theorem dX2_advance_12 : decode cX2_advance 12 = .ok (.invokevirtual 35, 3) := by decide +kernel
theorem dX2_advance_15 : decode cX2_advance 15 = .ok (.aload_n 0, 1) := by decide +kernel
theorem dX2_advance_16 : decode cX2_advance 16 = .ok (.getfield 11, 3) := by decide +kernel
theorem dX2_advance_19 : decode cX2_advance 19 = .ok (.iconst 1, 1) := by decide +kernel
theorem dX2_advance_20 : decode cX2_advance 20 = .ok (.aaload, 1) := by decide +kernel
theorem dX2_advance_21 : decode cX2_advance 21 = .ok (.invokevirtual 39, 3) := by decide +kernel
theorem dX2_advance_24 : decode cX2_advance 24 = .ok (.aload_n 0, 1) := by decide +kernel
theorem dX2_advance_25 : decode cX2_advance 25 = .ok (.getfield 11, 3) := by decide +kernel
theorem dX2_advance_28 : decode cX2_advance 28 = .ok (.iconst 2, 1) := by decide +kernel
theorem dX2_advance_29 : decode cX2_advance 29 = .ok (.aaload, 1) := by decide +kernel
theorem dX2_advance_30 : decode cX2_advance 30 = .ok (.aload_n 0, 1) := by decide +kernel
theorem dX2_advance_31 : decode cX2_advance 31 = .ok (.getfield 24, 3) := by decide +kernel
theorem dX2_advance_34 : decode cX2_advance 34 = .ok (.iconst 1, 1) := by decide +kernel
theorem dX2_advance_35 : decode cX2_advance 35 = .ok (.iaload, 1) := by decide +kernel
theorem dX2_advance_36 : decode cX2_advance 36 = .ok (.invokevirtual 42, 3) := by decide +kernel
theorem dX2_advance_39 : decode cX2_advance 39 = .ok (.iconst 3, 1) := by decide +kernel
theorem dX2_advance_40 : decode cX2_advance 40 = .ok (.istore_n 3, 1) := by decide +kernel
theorem dX2_advance_41 : decode cX2_advance 41 = .ok (.iload_n 3, 1) := by decide +kernel
theorem dX2_advance_42 : decode cX2_advance 42 = .ok (.aload_n 0, 1) := by decide +kernel
theorem dX2_advance_43 : decode cX2_advance 43 = .ok (.getfield 27, 3) := by decide +kernel
theorem dX2_advance_46 : decode cX2_advance 46 = .ok (.iconst 3, 1) := by decide +kernel
theorem dX2_advance_47 : decode cX2_advance 47 = .ok (.isub, 1) := by decide +kernel
theorem dX2_advance_48 : decode cX2_advance 48 = .ok (.if_icmp .gt 24, 3) := by decide +kernel
theorem dX2_advance_51 : decode cX2_advance 51 = .ok (.aload_n 0, 1) := by decide +kernel
theorem dX2_advance_52 : decode cX2_advance 52 = .ok (.getfield 11, 3) := by decide +kernel
theorem dX2_advance_55 : decode cX2_advance 55 = .ok (.iload_n 3, 1) := by decide +kernel
theorem dX2_advance_56 : decode cX2_advance 56 = .ok (.aaload, 1) := by decide +kernel
theorem dX2_advance_57 : decode cX2_advance 57 = .ok (.aload_n 0, 1) := by decide +kernel
theorem dX2_advance_58 : decode cX2_advance 58 = .ok (.getfield 24, 3) := by decide +kernel
theorem dX2_advance_61 : decode cX2_advance 61 = .ok (.iload_n 3, 1) := by decide +kernel
theorem dX2_advance_62 : decode cX2_advance 62 = .ok (.iaload, 1) := by decide +kernel
theorem dX2_advance_63 : decode cX2_advance 63 = .ok (.invokevirtual 46, 3) := by decide +kernel
theorem dX2_advance_66 : decode cX2_advance 66 = .ok (.iinc 3 1, 3) := by decide +kernel
theorem dX2_advance_69 : decode cX2_advance 69 = .ok (.goto (-28), 3) := by decide +kernel
theorem dX2_advance_72 : decode cX2_advance 72 = .ok (.aload_n 0, 1) := by decide +kernel
theorem dX2_advance_73 : decode cX2_advance 73 = .ok (.aload_n 0, 1) := by decide +kernel
theorem dX2_advance_74 : decode cX2_advance 74 = .ok (.getfield 11, 3) := by decide +kernel
theorem dX2_advance_77 : decode cX2_advance 77 = .ok (.aload_n 0, 1) := by decide +kernel
theorem dX2_advance_78 : decode cX2_advance 78 = .ok (.getfield 27, 3) := by decide +kernel
theorem dX2_advance_81 : decode cX2_advance 81 = .ok (.iconst 2, 1) := by decide +kernel
theorem dX2_advance_82 : decode cX2_advance 82 = .ok (.isub, 1) := by decide +kernel
theorem dX2_advance_83 : decode cX2_advance 83 = .ok (.aaload, 1) := by decide +kernel
theorem dX2_advance_84 : decode cX2_advance 84 = .ok (.aload_n 2, 1) := by decide +kernel
theorem dX2_advance_85 : decode cX2_advance 85 = .ok (.invokevirtual 49, 3) := by decide +kernel
theorem dX2_advance_88 : decode cX2_advance 88 = .ok (.aload_n 0, 1) := by decide +kernel
theorem dX2_advance_89 : decode cX2_advance 89 = .ok (.dup, 1) := by decide +kernel
theorem dX2_advance_90 : decode cX2_advance 90 = .ok (.getfield 53, 3) := by decide +kernel
theorem dX2_advance_93 : decode cX2_advance 93 = .ok (.iconst 1, 1) := by decide +kernel
theorem dX2_advance_94 : decode cX2_advance 94 = .ok (.iadd, 1) := by decide +kernel
theorem dX2_advance_95 : decode cX2_advance 95 = .ok (.putfield 53, 3) := by decide +kernel
theorem dX2_advance_98 : decode cX2_advance 98 = .ok (.return_, 1) := by decide +kernel
def bX2_advance_0 (f1 f2 f3 f4 f5 f6 : ox_F) (rc : Nat → ox_K) : ox_K := o_al 0 (o_cv f1 2 0 (o_al 0 (o_al 0 (o_getr 2 0 (o_ic (0) (o_aa 5 (o_al 1 (o_cv f2 2 2 (o_al 0 (o_getr 2 0 (o_ic (1) (o_aa 5 (o_cv f3 5 0 (o_al 0 (o_getr 2 0 (o_ic (2) (o_aa 5 (o_al 0 (o_getr 2 1 (o_ic (1) (o_ia (o_cv f4 5 1 (o_ic (3) (o_is 3 (rc 41)))))))))))))))))))))))))
def bX2_advance_41 (f1 f2 f3 f4 f5 f6 : ox_F) (rc : Nat → ox_K) : ox_K := o_keep [0, 2, 3] (o_il 3 (o_al 0 (o_geti 2 2 (o_ic (3) (o_isub (o_icgt (rc 72) (o_al 0 (o_getr 2 0 (o_il 3 (o_aa 5 (o_al 0 (o_getr 2 1 (o_il 3 (o_ia (o_cv f5 5 1 (o_inc 3 (1) (rc 41)))))))))))))))))
def bX2_advance_72 (f1 f2 f3 f4 f5 f6 : ox_F) (rc : Nat → ox_K) : ox_K := o_al 0 (o_al 0 (o_getr 2 0 (o_al 0 (o_geti 2 2 (o_ic (2) (o_isub (o_aa 5 (o_al 2 (o_cv f6 2 2 (o_al 0 (o_dup (o_geti 2 4 (o_ic (1) (o_iadd (o_puti 2 4 (o_ret))))))))))))))))
section SX2_advance
variable {p : Program} {l : Launch} {e : Env} {R : Room} {s : State} {m : MethodId} {args : Array Value} {below : List Frame} {meth : Method} {c : Code} {g : ox_G} {c0 t0 dp d1 d2 d3 d4 d5 d6 : Nat} {rc : Nat → ox_K} {f1 f2 f3 f4 f5 f6 : ox_F}
set_option maxRecDepth 100000 in
theorem kX2_advance_0 (C : ox_C p s m args c g 4 cX2_advance RX2) (hr : meth.sig.returnType = none) (hlk : meth.locks = false) (hnm : meth.name = "advance") (hR : R.frames = dp ∧ R.locals = 60 * dp) (h1 : ox_Sem yX2_moveOn cX2_moveOn 3 none d1 f1) (e1 : d1 + 1 ≤ dp) (h2 : ox_Sem yX2_pour cX2_pour 4 none d2 f2) (e2 : d2 + 1 ≤ dp) (h3 : ox_Sem yX5_shake cX5_shake 1 none d3 f3) (e3 : d3 + 1 ≤ dp) (h4 : ox_Sem yX5_fillOnce cX5_fillOnce 2 none d4 f4) (e4 : d4 + 1 ≤ dp) (h5 : ox_Sem yX5_cool cX5_cool 2 none d5 f5) (e5 : d5 + 1 ≤ dp) (h6 : ox_Sem yX2_turnOut cX2_turnOut 3 none d6 f6) (e6 : d6 + 1 ≤ dp) (hrc : ∀ b, ox_S p l e R s m args below meth c g 4 c0 t0 (ox_QM g below args s c0 t0) b (rc b)) : ox_S p l e R s m args below meth c g 4 c0 t0 (ox_QM g below args s c0 t0) 0 (bX2_advance_0 f1 f2 f3 f4 f5 f6 rc) := by
  refine s_aload_n (pc := 0) C dX2_advance_0 rfl ?_
  refine s_cv (pc := 1) (q := (RX2, TX2, 6)) C h1 rfl wM_X2_32 wI_X2_moveOn wS_X2_moveOn wN_X2 wC_X2_moveOn (by decide +kernel) (ox_lv hR e1 (by decide)) dX2_advance_1 ?_
  refine s_aload_n (pc := 4) C dX2_advance_4 rfl ?_
  refine s_aload_n (pc := 5) C dX2_advance_5 rfl ?_
  refine s_getr (pc := 6) (j := 0) (q := (RX2, TX2, 6)) C rfl (by decide) rfl wF_X2_11 dX2_advance_6 ?_
  refine s_iconst (pc := 9) C dX2_advance_9 (by decide) ?_
  refine s_aa (pc := 10) (q := (RX5, TX5, 8)) 4 C rfl dX2_advance_10 ?_
  refine s_aload_n (pc := 11) C dX2_advance_11 rfl ?_
  refine s_cv (pc := 12) (q := (RX2, TX2, 6)) C h2 rfl wM_X2_35 wI_X2_pour wS_X2_pour wN_X2 wC_X2_pour (by decide +kernel) (ox_lv hR e2 (by decide)) dX2_advance_12 ?_
  refine s_aload_n (pc := 15) C dX2_advance_15 rfl ?_
  refine s_getr (pc := 16) (j := 0) (q := (RX2, TX2, 6)) C rfl (by decide) rfl wF_X2_11 dX2_advance_16 ?_
  refine s_iconst (pc := 19) C dX2_advance_19 (by decide) ?_
  refine s_aa (pc := 20) (q := (RX5, TX5, 8)) 4 C rfl dX2_advance_20 ?_
  refine s_cv (pc := 21) (q := (RX5, TX5, 8)) C h3 rfl wM_X2_39 wI_X5_shake wS_X5_shake wN_X5 wC_X5_shake (by decide +kernel) (ox_lv hR e3 (by decide)) dX2_advance_21 ?_
  refine s_aload_n (pc := 24) C dX2_advance_24 rfl ?_
  refine s_getr (pc := 25) (j := 0) (q := (RX2, TX2, 6)) C rfl (by decide) rfl wF_X2_11 dX2_advance_25 ?_
  refine s_iconst (pc := 28) C dX2_advance_28 (by decide) ?_
  refine s_aa (pc := 29) (q := (RX5, TX5, 8)) 4 C rfl dX2_advance_29 ?_
  refine s_aload_n (pc := 30) C dX2_advance_30 rfl ?_
  refine s_getr (pc := 31) (j := 1) (q := (RX2, TX2, 6)) C rfl (by decide) rfl wF_X2_24 dX2_advance_31 ?_
  refine s_iconst (pc := 34) C dX2_advance_34 (by decide) ?_
  refine s_ia (pc := 35) C dX2_advance_35 ?_
  refine s_cv (pc := 36) (q := (RX5, TX5, 8)) C h4 rfl wM_X2_42 wI_X5_fillOnce wS_X5_fillOnce wN_X5 wC_X5_fillOnce (by decide +kernel) (ox_lv hR e4 (by decide)) dX2_advance_36 ?_
  refine s_iconst (pc := 39) C dX2_advance_39 (by decide) ?_
  refine s_istore_n (pc := 40) C dX2_advance_40 rfl (by decide) ?_
  exact hrc 41
set_option maxRecDepth 100000 in
theorem kX2_advance_41 (C : ox_C p s m args c g 4 cX2_advance RX2) (hr : meth.sig.returnType = none) (hlk : meth.locks = false) (hnm : meth.name = "advance") (hR : R.frames = dp ∧ R.locals = 60 * dp) (h1 : ox_Sem yX2_moveOn cX2_moveOn 3 none d1 f1) (e1 : d1 + 1 ≤ dp) (h2 : ox_Sem yX2_pour cX2_pour 4 none d2 f2) (e2 : d2 + 1 ≤ dp) (h3 : ox_Sem yX5_shake cX5_shake 1 none d3 f3) (e3 : d3 + 1 ≤ dp) (h4 : ox_Sem yX5_fillOnce cX5_fillOnce 2 none d4 f4) (e4 : d4 + 1 ≤ dp) (h5 : ox_Sem yX5_cool cX5_cool 2 none d5 f5) (e5 : d5 + 1 ≤ dp) (h6 : ox_Sem yX2_turnOut cX2_turnOut 3 none d6 f6) (e6 : d6 + 1 ≤ dp) (hrc : ∀ b, ox_S p l e R s m args below meth c g 4 c0 t0 (ox_QM g below args s c0 t0) b (rc b)) : ox_S p l e R s m args below meth c g 4 c0 t0 (ox_QM g below args s c0 t0) 41 (bX2_advance_41 f1 f2 f3 f4 f5 f6 rc) := by
  refine s_keep ?_
  refine s_iload_n (pc := 41) C dX2_advance_41 rfl ?_
  refine s_aload_n (pc := 42) C dX2_advance_42 rfl ?_
  refine s_geti (pc := 43) (j := 2) (q := (RX2, TX2, 6)) C rfl (by decide) rfl wF_X2_27 dX2_advance_43 ?_
  refine s_iconst (pc := 46) C dX2_advance_46 (by decide) ?_
  refine s_isub (pc := 47) C dX2_advance_47 ?_
  refine s_icmpgt (pc := 48) 72 C dX2_advance_48 (by decide) (hrc 72) ?_
  refine s_aload_n (pc := 51) C dX2_advance_51 rfl ?_
  refine s_getr (pc := 52) (j := 0) (q := (RX2, TX2, 6)) C rfl (by decide) rfl wF_X2_11 dX2_advance_52 ?_
  refine s_iload_n (pc := 55) C dX2_advance_55 rfl ?_
  refine s_aa (pc := 56) (q := (RX5, TX5, 8)) 4 C rfl dX2_advance_56 ?_
  refine s_aload_n (pc := 57) C dX2_advance_57 rfl ?_
  refine s_getr (pc := 58) (j := 1) (q := (RX2, TX2, 6)) C rfl (by decide) rfl wF_X2_24 dX2_advance_58 ?_
  refine s_iload_n (pc := 61) C dX2_advance_61 rfl ?_
  refine s_ia (pc := 62) C dX2_advance_62 ?_
  refine s_cv (pc := 63) (q := (RX5, TX5, 8)) C h5 rfl wM_X2_46 wI_X5_cool wS_X5_cool wN_X5 wC_X5_cool (by decide +kernel) (ox_lv hR e5 (by decide)) dX2_advance_63 ?_
  refine s_iinc (pc := 66) C dX2_advance_66 (by decide) (by decide) ?_
  exact s_goto (pc := 69) 41 C dX2_advance_69 (by decide) (hrc 41)
set_option maxRecDepth 100000 in
theorem kX2_advance_72 (C : ox_C p s m args c g 4 cX2_advance RX2) (hr : meth.sig.returnType = none) (hlk : meth.locks = false) (hnm : meth.name = "advance") (hR : R.frames = dp ∧ R.locals = 60 * dp) (h1 : ox_Sem yX2_moveOn cX2_moveOn 3 none d1 f1) (e1 : d1 + 1 ≤ dp) (h2 : ox_Sem yX2_pour cX2_pour 4 none d2 f2) (e2 : d2 + 1 ≤ dp) (h3 : ox_Sem yX5_shake cX5_shake 1 none d3 f3) (e3 : d3 + 1 ≤ dp) (h4 : ox_Sem yX5_fillOnce cX5_fillOnce 2 none d4 f4) (e4 : d4 + 1 ≤ dp) (h5 : ox_Sem yX5_cool cX5_cool 2 none d5 f5) (e5 : d5 + 1 ≤ dp) (h6 : ox_Sem yX2_turnOut cX2_turnOut 3 none d6 f6) (e6 : d6 + 1 ≤ dp) (hrc : ∀ b, ox_S p l e R s m args below meth c g 4 c0 t0 (ox_QM g below args s c0 t0) b (rc b)) : ox_S p l e R s m args below meth c g 4 c0 t0 (ox_QM g below args s c0 t0) 72 (bX2_advance_72 f1 f2 f3 f4 f5 f6 rc) := by
  refine s_aload_n (pc := 72) C dX2_advance_72 rfl ?_
  refine s_aload_n (pc := 73) C dX2_advance_73 rfl ?_
  refine s_getr (pc := 74) (j := 0) (q := (RX2, TX2, 6)) C rfl (by decide) rfl wF_X2_11 dX2_advance_74 ?_
  refine s_aload_n (pc := 77) C dX2_advance_77 rfl ?_
  refine s_geti (pc := 78) (j := 2) (q := (RX2, TX2, 6)) C rfl (by decide) rfl wF_X2_27 dX2_advance_78 ?_
  refine s_iconst (pc := 81) C dX2_advance_81 (by decide) ?_
  refine s_isub (pc := 82) C dX2_advance_82 ?_
  refine s_aa (pc := 83) (q := (RX5, TX5, 8)) 4 C rfl dX2_advance_83 ?_
  refine s_aload_n (pc := 84) C dX2_advance_84 rfl ?_
  refine s_cv (pc := 85) (q := (RX2, TX2, 6)) C h6 rfl wM_X2_49 wI_X2_turnOut wS_X2_turnOut wN_X2 wC_X2_turnOut (by decide +kernel) (ox_lv hR e6 (by decide)) dX2_advance_85 ?_
  refine s_aload_n (pc := 88) C dX2_advance_88 rfl ?_
  refine s_dup (pc := 89) C dX2_advance_89 ?_
  refine s_geti (pc := 90) (j := 4) (q := (RX2, TX2, 6)) C rfl (by decide) rfl wF_X2_53 dX2_advance_90 ?_
  refine s_iconst (pc := 93) C dX2_advance_93 (by decide) ?_
  refine s_iadd (pc := 94) C dX2_advance_94 ?_
  refine s_puti (pc := 95) (j := 4) (q := (RX2, TX2, 6)) C rfl (by decide) rfl (Or.inl rfl) wF_X2_53 dX2_advance_95 ?_
  exact s_ret (pc := 98) C hr hlk dX2_advance_98
end SX2_advance
def bsX2_advance (f1 f2 f3 f4 f5 f6 : ox_F) (b : Nat) (rc : Nat → ox_K) : ox_K := if b = 0 then bX2_advance_0 f1 f2 f3 f4 f5 f6 rc else if b = 41 then bX2_advance_41 f1 f2 f3 f4 f5 f6 rc else if b = 72 then bX2_advance_72 f1 f2 f3 f4 f5 f6 rc else ox_no
theorem mX2_advance {dp d1 d2 d3 d4 d5 d6 : Nat} {f1 f2 f3 f4 f5 f6 f : ox_F} (h1 : ox_Sem yX2_moveOn cX2_moveOn 3 none d1 f1) (e1 : d1 + 1 ≤ dp) (h2 : ox_Sem yX2_pour cX2_pour 4 none d2 f2) (e2 : d2 + 1 ≤ dp) (h3 : ox_Sem yX5_shake cX5_shake 1 none d3 f3) (e3 : d3 + 1 ≤ dp) (h4 : ox_Sem yX5_fillOnce cX5_fillOnce 2 none d4 f4) (e4 : d4 + 1 ≤ dp) (h5 : ox_Sem yX5_cool cX5_cool 2 none d5 f5) (e5 : d5 + 1 ≤ dp) (h6 : ox_Sem yX2_turnOut cX2_turnOut 3 none d6 f6) (e6 : d6 + 1 ≤ dp) (hf : ∀ as h r, f as h = some r → ox_cs as ≤ 4 ∧ ox_le h r.2 ∧ ∃ n, ox_run (bsX2_advance f1 f2 f3 f4 f5 f6) n 0 (lv_args 0 as) [] h = some r) : ox_Sem yX2_advance cX2_advance 4 none dp f := by
  refine ox_meth (bs := bsX2_advance f1 f2 f3 f4 f5 f6) (by decide) hf ?_
  intro p l e R s m args below meth c g c0 t0 C hr hlk hnm hR rc hrc b
  unfold bsX2_advance
  split
  · next eb => rw [eb]; exact kX2_advance_0 C hr hlk hnm hR h1 e1 h2 e2 h3 e3 h4 e4 h5 e5 h6 e6 hrc
  split
  · next eb => rw [eb]; exact kX2_advance_41 C hr hlk hnm hR h1 e1 h2 e2 h3 e3 h4 e4 h5 e5 h6 e6 hrc
  split
  · next eb => rw [eb]; exact kX2_advance_72 C hr hlk hnm hR h1 e1 h2 e2 h3 e3 h4 e4 h5 e5 h6 e6 hrc
  exact s_no
theorem dX2_fullMoulds_0 : decode cX2_fullMoulds 0 = .ok (.iconst 0, 1) := by decide +kernel
theorem dX2_fullMoulds_1 : decode cX2_fullMoulds 1 = .ok (.istore_n 1, 1) := by decide +kernel
theorem dX2_fullMoulds_2 : decode cX2_fullMoulds 2 = .ok (.iconst 0, 1) := by decide +kernel
theorem dX2_fullMoulds_3 : decode cX2_fullMoulds 3 = .ok (.istore_n 2, 1) := by decide +kernel
theorem dX2_fullMoulds_4 : decode cX2_fullMoulds 4 = .ok (.iload_n 2, 1) := by decide +kernel
theorem dX2_fullMoulds_5 : decode cX2_fullMoulds 5 = .ok (.aload_n 0, 1) := by decide +kernel
theorem dX2_fullMoulds_6 : decode cX2_fullMoulds 6 = .ok (.getfield 27, 3) := by decide +kernel
theorem dX2_fullMoulds_9 : decode cX2_fullMoulds 9 = .ok (.if_icmp .ge 24, 3) := by decide +kernel
theorem dX2_fullMoulds_12 : decode cX2_fullMoulds 12 = .ok (.aload_n 0, 1) := by decide +kernel
theorem dX2_fullMoulds_13 : decode cX2_fullMoulds 13 = .ok (.getfield 11, 3) := by decide +kernel
theorem dX2_fullMoulds_16 : decode cX2_fullMoulds 16 = .ok (.iload_n 2, 1) := by decide +kernel
theorem dX2_fullMoulds_17 : decode cX2_fullMoulds 17 = .ok (.aaload, 1) := by decide +kernel
theorem dX2_fullMoulds_18 : decode cX2_fullMoulds 18 = .ok (.invokevirtual 56, 3) := by decide +kernel
theorem dX2_fullMoulds_21 : decode cX2_fullMoulds 21 = .ok (.ifCond .ne 6, 3) := by decide +kernel
theorem dX2_fullMoulds_24 : decode cX2_fullMoulds 24 = .ok (.iinc 1 1, 3) := by decide +kernel
theorem dX2_fullMoulds_27 : decode cX2_fullMoulds 27 = .ok (.iinc 2 1, 3) := by decide +kernel
theorem dX2_fullMoulds_30 : decode cX2_fullMoulds 30 = .ok (.goto (-26), 3) := by decide +kernel
theorem dX2_fullMoulds_33 : decode cX2_fullMoulds 33 = .ok (.iload_n 1, 1) := by decide +kernel
theorem dX2_fullMoulds_34 : decode cX2_fullMoulds 34 = .ok (.ireturn, 1) := by decide +kernel
def bX2_fullMoulds_0 (f1 : ox_F) (rc : Nat → ox_K) : ox_K := o_ic (0) (o_is 1 (o_ic (0) (o_is 2 (rc 4))))
def bX2_fullMoulds_4 (f1 : ox_F) (rc : Nat → ox_K) : ox_K := o_keep [0, 1, 2] (o_il 2 (o_al 0 (o_geti 2 2 (o_icge (rc 33) (o_al 0 (o_getr 2 0 (o_il 2 (o_aa 5 (o_cv f1 5 0 (o_ifne (rc 27) (o_inc 1 (1) (rc 27))))))))))))
def bX2_fullMoulds_27 (f1 : ox_F) (rc : Nat → ox_K) : ox_K := o_inc 2 (1) (rc 4)
def bX2_fullMoulds_33 (f1 : ox_F) (rc : Nat → ox_K) : ox_K := o_il 1 (o_iret)
section SX2_fullMoulds
variable {p : Program} {l : Launch} {e : Env} {R : Room} {s : State} {m : MethodId} {args : Array Value} {below : List Frame} {meth : Method} {c : Code} {g : ox_G} {c0 t0 dp d1 : Nat} {rc : Nat → ox_K} {f1 : ox_F}
set_option maxRecDepth 100000 in
theorem kX2_fullMoulds_0 (C : ox_C p s m args c g 3 cX2_fullMoulds RX2) (hr : meth.sig.returnType = (some .int)) (hlk : meth.locks = false) (hnm : meth.name = "fullMoulds") (hR : R.frames = dp ∧ R.locals = 60 * dp) (h1 : ox_Sem yX5_isEmpty cX5_isEmpty 1 (some .boolean) d1 f1) (e1 : d1 + 1 ≤ dp) (hrc : ∀ b, ox_S p l e R s m args below meth c g 3 c0 t0 (ox_QM g below args s c0 t0) b (rc b)) : ox_S p l e R s m args below meth c g 3 c0 t0 (ox_QM g below args s c0 t0) 0 (bX2_fullMoulds_0 f1 rc) := by
  refine s_iconst (pc := 0) C dX2_fullMoulds_0 (by decide) ?_
  refine s_istore_n (pc := 1) C dX2_fullMoulds_1 rfl (by decide) ?_
  refine s_iconst (pc := 2) C dX2_fullMoulds_2 (by decide) ?_
  refine s_istore_n (pc := 3) C dX2_fullMoulds_3 rfl (by decide) ?_
  exact hrc 4
set_option maxRecDepth 100000 in
theorem kX2_fullMoulds_4 (C : ox_C p s m args c g 3 cX2_fullMoulds RX2) (hr : meth.sig.returnType = (some .int)) (hlk : meth.locks = false) (hnm : meth.name = "fullMoulds") (hR : R.frames = dp ∧ R.locals = 60 * dp) (h1 : ox_Sem yX5_isEmpty cX5_isEmpty 1 (some .boolean) d1 f1) (e1 : d1 + 1 ≤ dp) (hrc : ∀ b, ox_S p l e R s m args below meth c g 3 c0 t0 (ox_QM g below args s c0 t0) b (rc b)) : ox_S p l e R s m args below meth c g 3 c0 t0 (ox_QM g below args s c0 t0) 4 (bX2_fullMoulds_4 f1 rc) := by
  refine s_keep ?_
  refine s_iload_n (pc := 4) C dX2_fullMoulds_4 rfl ?_
  refine s_aload_n (pc := 5) C dX2_fullMoulds_5 rfl ?_
  refine s_geti (pc := 6) (j := 2) (q := (RX2, TX2, 6)) C rfl (by decide) rfl wF_X2_27 dX2_fullMoulds_6 ?_
  refine s_icmpge (pc := 9) 33 C dX2_fullMoulds_9 (by decide) (hrc 33) ?_
  refine s_aload_n (pc := 12) C dX2_fullMoulds_12 rfl ?_
  refine s_getr (pc := 13) (j := 0) (q := (RX2, TX2, 6)) C rfl (by decide) rfl wF_X2_11 dX2_fullMoulds_13 ?_
  refine s_iload_n (pc := 16) C dX2_fullMoulds_16 rfl ?_
  refine s_aa (pc := 17) (q := (RX5, TX5, 8)) 4 C rfl dX2_fullMoulds_17 ?_
  refine s_cv (pc := 18) (q := (RX5, TX5, 8)) C h1 rfl wM_X2_56 wI_X5_isEmpty wS_X5_isEmpty wN_X5 wC_X5_isEmpty (by decide +kernel) (ox_lv hR e1 (by decide)) dX2_fullMoulds_18 ?_
  refine s_ifne (pc := 21) 27 C dX2_fullMoulds_21 (by decide) (hrc 27) ?_
  refine s_iinc (pc := 24) C dX2_fullMoulds_24 (by decide) (by decide) ?_
  exact hrc 27
set_option maxRecDepth 100000 in
theorem kX2_fullMoulds_27 (C : ox_C p s m args c g 3 cX2_fullMoulds RX2) (hr : meth.sig.returnType = (some .int)) (hlk : meth.locks = false) (hnm : meth.name = "fullMoulds") (hR : R.frames = dp ∧ R.locals = 60 * dp) (h1 : ox_Sem yX5_isEmpty cX5_isEmpty 1 (some .boolean) d1 f1) (e1 : d1 + 1 ≤ dp) (hrc : ∀ b, ox_S p l e R s m args below meth c g 3 c0 t0 (ox_QM g below args s c0 t0) b (rc b)) : ox_S p l e R s m args below meth c g 3 c0 t0 (ox_QM g below args s c0 t0) 27 (bX2_fullMoulds_27 f1 rc) := by
  refine s_iinc (pc := 27) C dX2_fullMoulds_27 (by decide) (by decide) ?_
  exact s_goto (pc := 30) 4 C dX2_fullMoulds_30 (by decide) (hrc 4)
set_option maxRecDepth 100000 in
theorem kX2_fullMoulds_33 (C : ox_C p s m args c g 3 cX2_fullMoulds RX2) (hr : meth.sig.returnType = (some .int)) (hlk : meth.locks = false) (hnm : meth.name = "fullMoulds") (hR : R.frames = dp ∧ R.locals = 60 * dp) (h1 : ox_Sem yX5_isEmpty cX5_isEmpty 1 (some .boolean) d1 f1) (e1 : d1 + 1 ≤ dp) (hrc : ∀ b, ox_S p l e R s m args below meth c g 3 c0 t0 (ox_QM g below args s c0 t0) b (rc b)) : ox_S p l e R s m args below meth c g 3 c0 t0 (ox_QM g below args s c0 t0) 33 (bX2_fullMoulds_33 f1 rc) := by
  refine s_iload_n (pc := 33) C dX2_fullMoulds_33 rfl ?_
  exact s_iret (pc := 34) C hr hlk dX2_fullMoulds_34
end SX2_fullMoulds
def bsX2_fullMoulds (f1 : ox_F) (b : Nat) (rc : Nat → ox_K) : ox_K := if b = 0 then bX2_fullMoulds_0 f1 rc else if b = 4 then bX2_fullMoulds_4 f1 rc else if b = 27 then bX2_fullMoulds_27 f1 rc else if b = 33 then bX2_fullMoulds_33 f1 rc else ox_no
theorem mX2_fullMoulds {dp d1 : Nat} {f1 f : ox_F} (h1 : ox_Sem yX5_isEmpty cX5_isEmpty 1 (some .boolean) d1 f1) (e1 : d1 + 1 ≤ dp) (hf : ∀ as h r, f as h = some r → ox_cs as ≤ 3 ∧ ox_le h r.2 ∧ ∃ n, ox_run (bsX2_fullMoulds f1) n 0 (lv_args 0 as) [] h = some r) : ox_Sem yX2_fullMoulds cX2_fullMoulds 3 (some .int) dp f := by
  refine ox_meth (bs := bsX2_fullMoulds f1) (by decide) hf ?_
  intro p l e R s m args below meth c g c0 t0 C hr hlk hnm hR rc hrc b
  unfold bsX2_fullMoulds
  split
  · next eb => rw [eb]; exact kX2_fullMoulds_0 C hr hlk hnm hR h1 e1 hrc
  split
  · next eb => rw [eb]; exact kX2_fullMoulds_4 C hr hlk hnm hR h1 e1 hrc
  split
  · next eb => rw [eb]; exact kX2_fullMoulds_27 C hr hlk hnm hR h1 e1 hrc
  split
  · next eb => rw [eb]; exact kX2_fullMoulds_33 C hr hlk hnm hR h1 e1 hrc
  exact s_no
theorem dX2_gramsInMoulds_0 : decode cX2_gramsInMoulds 0 = .ok (.iconst 0, 1) := by decide +kernel
theorem dX2_gramsInMoulds_1 : decode cX2_gramsInMoulds 1 = .ok (.istore_n 1, 1) := by decide +kernel
theorem dX2_gramsInMoulds_2 : decode cX2_gramsInMoulds 2 = .ok (.iconst 0, 1) := by decide +kernel
theorem dX2_gramsInMoulds_3 : decode cX2_gramsInMoulds 3 = .ok (.istore_n 2, 1) := by decide +kernel
theorem dX2_gramsInMoulds_4 : decode cX2_gramsInMoulds 4 = .ok (.iload_n 2, 1) := by decide +kernel
theorem dX2_gramsInMoulds_5 : decode cX2_gramsInMoulds 5 = .ok (.aload_n 0, 1) := by decide +kernel
theorem dX2_gramsInMoulds_6 : decode cX2_gramsInMoulds 6 = .ok (.getfield 27, 3) := by decide +kernel
theorem dX2_gramsInMoulds_9 : decode cX2_gramsInMoulds 9 = .ok (.if_icmp .ge 21, 3) := by decide +kernel
theorem dX2_gramsInMoulds_12 : decode cX2_gramsInMoulds 12 = .ok (.iload_n 1, 1) := by decide +kernel
theorem dX2_gramsInMoulds_13 : decode cX2_gramsInMoulds 13 = .ok (.aload_n 0, 1) := by decide +kernel
theorem dX2_gramsInMoulds_14 : decode cX2_gramsInMoulds 14 = .ok (.getfield 11, 3) := by decide +kernel
theorem dX2_gramsInMoulds_17 : decode cX2_gramsInMoulds 17 = .ok (.iload_n 2, 1) := by decide +kernel
theorem dX2_gramsInMoulds_18 : decode cX2_gramsInMoulds 18 = .ok (.aaload, 1) := by decide +kernel
theorem dX2_gramsInMoulds_19 : decode cX2_gramsInMoulds 19 = .ok (.getfield 60, 3) := by decide +kernel
theorem dX2_gramsInMoulds_22 : decode cX2_gramsInMoulds 22 = .ok (.iadd, 1) := by decide +kernel
theorem dX2_gramsInMoulds_23 : decode cX2_gramsInMoulds 23 = .ok (.istore_n 1, 1) := by decide +kernel
theorem dX2_gramsInMoulds_24 : decode cX2_gramsInMoulds 24 = .ok (.iinc 2 1, 3) := by decide +kernel
theorem dX2_gramsInMoulds_27 : decode cX2_gramsInMoulds 27 = .ok (.goto (-23), 3) := by decide +kernel
theorem dX2_gramsInMoulds_30 : decode cX2_gramsInMoulds 30 = .ok (.iload_n 1, 1) := by decide +kernel
theorem dX2_gramsInMoulds_31 : decode cX2_gramsInMoulds 31 = .ok (.ireturn, 1) := by decide +kernel
def bX2_gramsInMoulds_0 (rc : Nat → ox_K) : ox_K := o_ic (0) (o_is 1 (o_ic (0) (o_is 2 (rc 4))))
def bX2_gramsInMoulds_4 (rc : Nat → ox_K) : ox_K := o_keep [0, 1, 2] (o_il 2 (o_al 0 (o_geti 2 2 (o_icge (rc 30) (o_il 1 (o_al 0 (o_getr 2 0 (o_il 2 (o_aa 5 (o_geti 5 0 (o_iadd (o_is 1 (o_inc 2 (1) (rc 4))))))))))))))
def bX2_gramsInMoulds_30 (rc : Nat → ox_K) : ox_K := o_il 1 (o_iret)
section SX2_gramsInMoulds
variable {p : Program} {l : Launch} {e : Env} {R : Room} {s : State} {m : MethodId} {args : Array Value} {below : List Frame} {meth : Method} {c : Code} {g : ox_G} {c0 t0 dp  : Nat} {rc : Nat → ox_K}
set_option maxRecDepth 100000 in
theorem kX2_gramsInMoulds_0 (C : ox_C p s m args c g 3 cX2_gramsInMoulds RX2) (hr : meth.sig.returnType = (some .int)) (hlk : meth.locks = false) (hnm : meth.name = "gramsInMoulds") (hR : R.frames = dp ∧ R.locals = 60 * dp) (hrc : ∀ b, ox_S p l e R s m args below meth c g 3 c0 t0 (ox_QM g below args s c0 t0) b (rc b)) : ox_S p l e R s m args below meth c g 3 c0 t0 (ox_QM g below args s c0 t0) 0 (bX2_gramsInMoulds_0 rc) := by
  refine s_iconst (pc := 0) C dX2_gramsInMoulds_0 (by decide) ?_
  refine s_istore_n (pc := 1) C dX2_gramsInMoulds_1 rfl (by decide) ?_
  refine s_iconst (pc := 2) C dX2_gramsInMoulds_2 (by decide) ?_
  refine s_istore_n (pc := 3) C dX2_gramsInMoulds_3 rfl (by decide) ?_
  exact hrc 4
set_option maxRecDepth 100000 in
theorem kX2_gramsInMoulds_4 (C : ox_C p s m args c g 3 cX2_gramsInMoulds RX2) (hr : meth.sig.returnType = (some .int)) (hlk : meth.locks = false) (hnm : meth.name = "gramsInMoulds") (hR : R.frames = dp ∧ R.locals = 60 * dp) (hrc : ∀ b, ox_S p l e R s m args below meth c g 3 c0 t0 (ox_QM g below args s c0 t0) b (rc b)) : ox_S p l e R s m args below meth c g 3 c0 t0 (ox_QM g below args s c0 t0) 4 (bX2_gramsInMoulds_4 rc) := by
  refine s_keep ?_
  refine s_iload_n (pc := 4) C dX2_gramsInMoulds_4 rfl ?_
  refine s_aload_n (pc := 5) C dX2_gramsInMoulds_5 rfl ?_
  refine s_geti (pc := 6) (j := 2) (q := (RX2, TX2, 6)) C rfl (by decide) rfl wF_X2_27 dX2_gramsInMoulds_6 ?_
  refine s_icmpge (pc := 9) 30 C dX2_gramsInMoulds_9 (by decide) (hrc 30) ?_
  refine s_iload_n (pc := 12) C dX2_gramsInMoulds_12 rfl ?_
  refine s_aload_n (pc := 13) C dX2_gramsInMoulds_13 rfl ?_
  refine s_getr (pc := 14) (j := 0) (q := (RX2, TX2, 6)) C rfl (by decide) rfl wF_X2_11 dX2_gramsInMoulds_14 ?_
  refine s_iload_n (pc := 17) C dX2_gramsInMoulds_17 rfl ?_
  refine s_aa (pc := 18) (q := (RX5, TX5, 8)) 4 C rfl dX2_gramsInMoulds_18 ?_
  refine s_geti (pc := 19) (j := 0) (q := (RX5, TX5, 8)) C rfl (by decide) rfl wF_X2_60 dX2_gramsInMoulds_19 ?_
  refine s_iadd (pc := 22) C dX2_gramsInMoulds_22 ?_
  refine s_istore_n (pc := 23) C dX2_gramsInMoulds_23 rfl (by decide) ?_
  refine s_iinc (pc := 24) C dX2_gramsInMoulds_24 (by decide) (by decide) ?_
  exact s_goto (pc := 27) 4 C dX2_gramsInMoulds_27 (by decide) (hrc 4)
set_option maxRecDepth 100000 in
theorem kX2_gramsInMoulds_30 (C : ox_C p s m args c g 3 cX2_gramsInMoulds RX2) (hr : meth.sig.returnType = (some .int)) (hlk : meth.locks = false) (hnm : meth.name = "gramsInMoulds") (hR : R.frames = dp ∧ R.locals = 60 * dp) (hrc : ∀ b, ox_S p l e R s m args below meth c g 3 c0 t0 (ox_QM g below args s c0 t0) b (rc b)) : ox_S p l e R s m args below meth c g 3 c0 t0 (ox_QM g below args s c0 t0) 30 (bX2_gramsInMoulds_30 rc) := by
  refine s_iload_n (pc := 30) C dX2_gramsInMoulds_30 rfl ?_
  exact s_iret (pc := 31) C hr hlk dX2_gramsInMoulds_31
end SX2_gramsInMoulds
def bsX2_gramsInMoulds (b : Nat) (rc : Nat → ox_K) : ox_K := if b = 0 then bX2_gramsInMoulds_0 rc else if b = 4 then bX2_gramsInMoulds_4 rc else if b = 30 then bX2_gramsInMoulds_30 rc else ox_no
theorem mX2_gramsInMoulds {dp  : Nat} {f : ox_F} (hf : ∀ as h r, f as h = some r → ox_cs as ≤ 3 ∧ ox_le h r.2 ∧ ∃ n, ox_run (bsX2_gramsInMoulds) n 0 (lv_args 0 as) [] h = some r) : ox_Sem yX2_gramsInMoulds cX2_gramsInMoulds 3 (some .int) dp f := by
  refine ox_meth (bs := bsX2_gramsInMoulds) (by decide) hf ?_
  intro p l e R s m args below meth c g c0 t0 C hr hlk hnm hR rc hrc b
  unfold bsX2_gramsInMoulds
  split
  · next eb => rw [eb]; exact kX2_gramsInMoulds_0 C hr hlk hnm hR hrc
  split
  · next eb => rw [eb]; exact kX2_gramsInMoulds_4 C hr hlk hnm hR hrc
  split
  · next eb => rw [eb]; exact kX2_gramsInMoulds_30 C hr hlk hnm hR hrc
  exact s_no
theorem dX2_moveOn_0 : decode cX2_moveOn 0 = .ok (.aload_n 0, 1) := by decide +kernel
theorem dX2_moveOn_1 : decode cX2_moveOn 1 = .ok (.getfield 11, 3) := by decide +kernel
theorem dX2_moveOn_4 : decode cX2_moveOn 4 = .ok (.aload_n 0, 1) := by decide +kernel
theorem dX2_moveOn_5 : decode cX2_moveOn 5 = .ok (.getfield 27, 3) := by decide +kernel
theorem dX2_moveOn_8 : decode cX2_moveOn 8 = .ok (.iconst 1, 1) := by decide +kernel
theorem dX2_moveOn_9 : decode cX2_moveOn 9 = .ok (.isub, 1) := by decide +kernel
theorem dX2_moveOn_10 : decode cX2_moveOn 10 = .ok (.aaload, 1) := by decide +kernel
theorem dX2_moveOn_11 : decode cX2_moveOn 11 = .ok (.astore_n 1, 1) := by decide +kernel
theorem dX2_moveOn_12 : decode cX2_moveOn 12 = .ok (.aload_n 0, 1) := by decide +kernel
theorem dX2_moveOn_13 : decode cX2_moveOn 13 = .ok (.getfield 27, 3) := by decide +kernel
theorem dX2_moveOn_16 : decode cX2_moveOn 16 = .ok (.iconst 1, 1) := by decide +kernel
theorem dX2_moveOn_17 : decode cX2_moveOn 17 = .ok (.isub, 1) := by decide +kernel
theorem dX2_moveOn_18 : decode cX2_moveOn 18 = .ok (.istore_n 2, 1) := by decide +kernel
theorem dX2_moveOn_19 : decode cX2_moveOn 19 = .ok (.iload_n 2, 1) := by decide +kernel
theorem dX2_moveOn_20 : decode cX2_moveOn 20 = .ok (.ifCond .le 23, 3) := by decide +kernel
theorem dX2_moveOn_23 : decode cX2_moveOn 23 = .ok (.aload_n 0, 1) := by decide +kernel
theorem dX2_moveOn_24 : decode cX2_moveOn 24 = .ok (.getfield 11, 3) := by decide +kernel
theorem dX2_moveOn_27 : decode cX2_moveOn 27 = .ok (.iload_n 2, 1) := by decide +kernel
theorem dX2_moveOn_28 : decode cX2_moveOn 28 = .ok (.aload_n 0, 1) := by decide +kernel
theorem dX2_moveOn_29 : decode cX2_moveOn 29 = .ok (.getfield 11, 3) := by decide +kernel
theorem dX2_moveOn_32 : decode cX2_moveOn 32 = .ok (.iload_n 2, 1) := by decide +kernel
theorem dX2_moveOn_33 : decode cX2_moveOn 33 = .ok (.iconst 1, 1) := by decide +kernel
theorem dX2_moveOn_34 : decode cX2_moveOn 34 = .ok (.isub, 1) := by decide +kernel
theorem dX2_moveOn_35 : decode cX2_moveOn 35 = .ok (.aaload, 1) := by decide +kernel
theorem dX2_moveOn_36 : decode cX2_moveOn 36 = .ok (.aastore, 1) := by decide +kernel
theorem dX2_moveOn_37 : decode cX2_moveOn 37 = .ok (.iinc 2 (-1), 3) := by decide +kernel
theorem dX2_moveOn_40 : decode cX2_moveOn 40 = .ok (.goto (-21), 3) := by decide +kernel
theorem dX2_moveOn_43 : decode cX2_moveOn 43 = .ok (.aload_n 0, 1) := by decide +kernel
theorem dX2_moveOn_44 : decode cX2_moveOn 44 = .ok (.getfield 11, 3) := by decide +kernel
theorem dX2_moveOn_47 : decode cX2_moveOn 47 = .ok (.iconst 0, 1) := by decide +kernel
theorem dX2_moveOn_48 : decode cX2_moveOn 48 = .ok (.aload_n 1, 1) := by decide +kernel
theorem dX2_moveOn_49 : decode cX2_moveOn 49 = .ok (.aastore, 1) := by decide +kernel
theorem dX2_moveOn_50 : decode cX2_moveOn 50 = .ok (.return_, 1) := by decide +kernel
def bX2_moveOn_0 (rc : Nat → ox_K) : ox_K := o_al 0 (o_getr 2 0 (o_al 0 (o_geti 2 2 (o_ic (1) (o_isub (o_aa 5 (o_as 1 (o_al 0 (o_geti 2 2 (o_ic (1) (o_isub (o_is 2 (rc 19)))))))))))))
def bX2_moveOn_19 (rc : Nat → ox_K) : ox_K := o_keep [0, 1, 2] (o_il 2 (o_ifle (rc 43) (o_al 0 (o_getr 2 0 (o_il 2 (o_al 0 (o_getr 2 0 (o_il 2 (o_ic (1) (o_isub (o_aa 5 (o_aast 5 (o_inc 2 (-1) (rc 19))))))))))))))
def bX2_moveOn_43 (rc : Nat → ox_K) : ox_K := o_al 0 (o_getr 2 0 (o_ic (0) (o_al 1 (o_aast 5 (o_ret)))))
section SX2_moveOn
variable {p : Program} {l : Launch} {e : Env} {R : Room} {s : State} {m : MethodId} {args : Array Value} {below : List Frame} {meth : Method} {c : Code} {g : ox_G} {c0 t0 dp  : Nat} {rc : Nat → ox_K}
set_option maxRecDepth 100000 in
theorem kX2_moveOn_0 (C : ox_C p s m args c g 3 cX2_moveOn RX2) (hr : meth.sig.returnType = none) (hlk : meth.locks = false) (hnm : meth.name = "moveOn") (hR : R.frames = dp ∧ R.locals = 60 * dp) (hrc : ∀ b, ox_S p l e R s m args below meth c g 3 c0 t0 (ox_QM g below args s c0 t0) b (rc b)) : ox_S p l e R s m args below meth c g 3 c0 t0 (ox_QM g below args s c0 t0) 0 (bX2_moveOn_0 rc) := by
  refine s_aload_n (pc := 0) C dX2_moveOn_0 rfl ?_
  refine s_getr (pc := 1) (j := 0) (q := (RX2, TX2, 6)) C rfl (by decide) rfl wF_X2_11 dX2_moveOn_1 ?_
  refine s_aload_n (pc := 4) C dX2_moveOn_4 rfl ?_
  refine s_geti (pc := 5) (j := 2) (q := (RX2, TX2, 6)) C rfl (by decide) rfl wF_X2_27 dX2_moveOn_5 ?_
  refine s_iconst (pc := 8) C dX2_moveOn_8 (by decide) ?_
  refine s_isub (pc := 9) C dX2_moveOn_9 ?_
  refine s_aa (pc := 10) (q := (RX5, TX5, 8)) 4 C rfl dX2_moveOn_10 ?_
  refine s_astore_n (pc := 11) C dX2_moveOn_11 rfl (by decide) ?_
  refine s_aload_n (pc := 12) C dX2_moveOn_12 rfl ?_
  refine s_geti (pc := 13) (j := 2) (q := (RX2, TX2, 6)) C rfl (by decide) rfl wF_X2_27 dX2_moveOn_13 ?_
  refine s_iconst (pc := 16) C dX2_moveOn_16 (by decide) ?_
  refine s_isub (pc := 17) C dX2_moveOn_17 ?_
  refine s_istore_n (pc := 18) C dX2_moveOn_18 rfl (by decide) ?_
  exact hrc 19
set_option maxRecDepth 100000 in
theorem kX2_moveOn_19 (C : ox_C p s m args c g 3 cX2_moveOn RX2) (hr : meth.sig.returnType = none) (hlk : meth.locks = false) (hnm : meth.name = "moveOn") (hR : R.frames = dp ∧ R.locals = 60 * dp) (hrc : ∀ b, ox_S p l e R s m args below meth c g 3 c0 t0 (ox_QM g below args s c0 t0) b (rc b)) : ox_S p l e R s m args below meth c g 3 c0 t0 (ox_QM g below args s c0 t0) 19 (bX2_moveOn_19 rc) := by
  refine s_keep ?_
  refine s_iload_n (pc := 19) C dX2_moveOn_19 rfl ?_
  refine s_ifle (pc := 20) 43 C dX2_moveOn_20 (by decide) (hrc 43) ?_
  refine s_aload_n (pc := 23) C dX2_moveOn_23 rfl ?_
  refine s_getr (pc := 24) (j := 0) (q := (RX2, TX2, 6)) C rfl (by decide) rfl wF_X2_11 dX2_moveOn_24 ?_
  refine s_iload_n (pc := 27) C dX2_moveOn_27 rfl ?_
  refine s_aload_n (pc := 28) C dX2_moveOn_28 rfl ?_
  refine s_getr (pc := 29) (j := 0) (q := (RX2, TX2, 6)) C rfl (by decide) rfl wF_X2_11 dX2_moveOn_29 ?_
  refine s_iload_n (pc := 32) C dX2_moveOn_32 rfl ?_
  refine s_iconst (pc := 33) C dX2_moveOn_33 (by decide) ?_
  refine s_isub (pc := 34) C dX2_moveOn_34 ?_
  refine s_aa (pc := 35) (q := (RX5, TX5, 8)) 4 C rfl dX2_moveOn_35 ?_
  refine s_aast (pc := 36) (q := (RX5, TX5, 8)) 4 rfl C rfl dX2_moveOn_36 ?_
  refine s_iinc (pc := 37) C dX2_moveOn_37 (by decide) (by decide) ?_
  exact s_goto (pc := 40) 19 C dX2_moveOn_40 (by decide) (hrc 19)
set_option maxRecDepth 100000 in
theorem kX2_moveOn_43 (C : ox_C p s m args c g 3 cX2_moveOn RX2) (hr : meth.sig.returnType = none) (hlk : meth.locks = false) (hnm : meth.name = "moveOn") (hR : R.frames = dp ∧ R.locals = 60 * dp) (hrc : ∀ b, ox_S p l e R s m args below meth c g 3 c0 t0 (ox_QM g below args s c0 t0) b (rc b)) : ox_S p l e R s m args below meth c g 3 c0 t0 (ox_QM g below args s c0 t0) 43 (bX2_moveOn_43 rc) := by
  refine s_aload_n (pc := 43) C dX2_moveOn_43 rfl ?_
  refine s_getr (pc := 44) (j := 0) (q := (RX2, TX2, 6)) C rfl (by decide) rfl wF_X2_11 dX2_moveOn_44 ?_
  refine s_iconst (pc := 47) C dX2_moveOn_47 (by decide) ?_
  refine s_aload_n (pc := 48) C dX2_moveOn_48 rfl ?_
  refine s_aast (pc := 49) (q := (RX5, TX5, 8)) 4 rfl C rfl dX2_moveOn_49 ?_
  exact s_ret (pc := 50) C hr hlk dX2_moveOn_50
end SX2_moveOn
def bsX2_moveOn (b : Nat) (rc : Nat → ox_K) : ox_K := if b = 0 then bX2_moveOn_0 rc else if b = 19 then bX2_moveOn_19 rc else if b = 43 then bX2_moveOn_43 rc else ox_no
theorem mX2_moveOn {dp  : Nat} {f : ox_F} (hf : ∀ as h r, f as h = some r → ox_cs as ≤ 3 ∧ ox_le h r.2 ∧ ∃ n, ox_run (bsX2_moveOn) n 0 (lv_args 0 as) [] h = some r) : ox_Sem yX2_moveOn cX2_moveOn 3 none dp f := by
  refine ox_meth (bs := bsX2_moveOn) (by decide) hf ?_
  intro p l e R s m args below meth c g c0 t0 C hr hlk hnm hR rc hrc b
  unfold bsX2_moveOn
  split
  · next eb => rw [eb]; exact kX2_moveOn_0 C hr hlk hnm hR hrc
  split
  · next eb => rw [eb]; exact kX2_moveOn_19 C hr hlk hnm hR hrc
  split
  · next eb => rw [eb]; exact kX2_moveOn_43 C hr hlk hnm hR hrc
  exact s_no
theorem dX2_pour_0 : decode cX2_pour 0 = .ok (.iconst 1, 1) := by decide +kernel
theorem dX2_pour_1 : decode cX2_pour 1 = .ok (.aload_n 0, 1) := by decide +kernel
theorem dX2_pour_2 : decode cX2_pour 2 = .ok (.getfield 24, 3) := by decide +kernel
theorem dX2_pour_5 : decode cX2_pour 5 = .ok (.iconst 0, 1) := by decide +kernel
theorem dX2_pour_6 : decode cX2_pour 6 = .ok (.iaload, 1) := by decide +kernel
theorem dX2_pour_7 : decode cX2_pour 7 = .ok (.aload_n 0, 1) := by decide +kernel
theorem dX2_pour_8 : decode cX2_pour 8 = .ok (.getfield 24, 3) := by decide +kernel
theorem dX2_pour_11 : decode cX2_pour 11 = .ok (.bipush 14, 2) := by decide +kernel
theorem dX2_pour_13 : decode cX2_pour 13 = .ok (.iaload, 1) := by decide +kernel
theorem dX2_pour_14 : decode cX2_pour 14 = .ok (.iadd, 1) := by decide +kernel
theorem dX2_pour_15 : decode cX2_pour 15 = .ok (.aload_n 0, 1) := by decide +kernel
theorem dX2_pour_16 : decode cX2_pour 16 = .ok (.getfield 24, 3) := by decide +kernel
theorem dX2_pour_19 : decode cX2_pour 19 = .ok (.bipush 13, 2) := by decide +kernel
theorem dX2_pour_21 : decode cX2_pour 21 = .ok (.iaload, 1) := by decide +kernel
theorem dX2_pour_22 : decode cX2_pour 22 = .ok (.iadd, 1) := by decide +kernel
theorem dX2_pour_23 : decode cX2_pour 23 = .ok (.invokestatic 63, 3) := by decide +kernel
theorem dX2_pour_26 : decode cX2_pour 26 = .ok (.istore_n 3, 1) := by decide +kernel
theorem dX2_pour_27 : decode cX2_pour 27 = .ok (.aload_n 1, 1) := by decide +kernel
theorem dX2_pour_28 : decode cX2_pour 28 = .ok (.invokevirtual 56, 3) := by decide +kernel
theorem dX2_pour_31 : decode cX2_pour 31 = .ok (.ifCond .eq 11, 3) := by decide +kernel
theorem dX2_pour_34 : decode cX2_pour 34 = .ok (.aload_n 2, 1) := by decide +kernel
theorem dX2_pour_35 : decode cX2_pour 35 = .ok (.getfield 69, 3) := by decide +kernel
theorem dX2_pour_38 : decode cX2_pour 38 = .ok (.iload_n 3, 1) := by decide +kernel
theorem dX2_pour_39 : decode cX2_pour 39 = .ok (.if_icmp .ge 4, 3) := by decide +kernel
theorem dX2_pour_42 : decode cX2_pour 42 = .ok (.return_, 1) := by decide +kernel
theorem dX2_pour_43 : decode cX2_pour 43 = .ok (.aload_n 1, 1) := by decide +kernel
theorem dX2_pour_44 : decode cX2_pour 44 = .ok (.aload_n 2, 1) := by decide +kernel
theorem dX2_pour_45 : decode cX2_pour 45 = .ok (.iload_n 3, 1) := by decide +kernel
theorem dX2_pour_46 : decode cX2_pour 46 = .ok (.invokevirtual 74, 3) := by decide +kernel
theorem dX2_pour_49 : decode cX2_pour 49 = .ok (.aload_n 0, 1) := by decide +kernel
theorem dX2_pour_50 : decode cX2_pour 50 = .ok (.dup, 1) := by decide +kernel
theorem dX2_pour_51 : decode cX2_pour 51 = .ok (.getfield 78, 3) := by decide +kernel
theorem dX2_pour_54 : decode cX2_pour 54 = .ok (.iconst 1, 1) := by decide +kernel
theorem dX2_pour_55 : decode cX2_pour 55 = .ok (.iadd, 1) := by decide +kernel
theorem dX2_pour_56 : decode cX2_pour 56 = .ok (.putfield 78, 3) := by decide +kernel
theorem dX2_pour_59 : decode cX2_pour 59 = .ok (.aload_n 0, 1) := by decide +kernel
theorem dX2_pour_60 : decode cX2_pour 60 = .ok (.getfield 78, 3) := by decide +kernel
theorem dX2_pour_63 : decode cX2_pour 63 = .ok (.iconst 4, 1) := by decide +kernel
theorem dX2_pour_64 : decode cX2_pour 64 = .ok (.irem, 1) := by decide +kernel
theorem dX2_pour_65 : decode cX2_pour 65 = .ok (.ifCond .ne 28, 3) := by decide +kernel
theorem dX2_pour_68 : decode cX2_pour 68 = .ok (.aload_n 0, 1) := by decide +kernel
theorem dX2_pour_69 : decode cX2_pour 69 = .ok (.getfield 24, 3) := by decide +kernel
theorem dX2_pour_72 : decode cX2_pour 72 = .ok (.bipush 14, 2) := by decide +kernel
theorem dX2_pour_74 : decode cX2_pour 74 = .ok (.getstatic 81, 3) := by decide +kernel
theorem dX2_pour_77 : decode cX2_pour 77 = .ok (.bipush 14, 2) := by decide +kernel
theorem dX2_pour_79 : decode cX2_pour 79 = .ok (.iaload, 1) := by decide +kernel
theorem dX2_pour_80 : decode cX2_pour 80 = .ok (.aload_n 0, 1) := by decide +kernel
theorem dX2_pour_81 : decode cX2_pour 81 = .ok (.getfield 24, 3) := by decide +kernel
theorem dX2_pour_84 : decode cX2_pour 84 = .ok (.bipush 14, 2) := by decide +kernel
theorem dX2_pour_86 : decode cX2_pour 86 = .ok (.iaload, 1) := by decide +kernel
theorem dX2_pour_87 : decode cX2_pour 87 = .ok (.iconst 1, 1) := by decide +kernel
theorem dX2_pour_88 : decode cX2_pour 88 = .ok (.iadd, 1) := by decide +kernel
theorem dX2_pour_89 : decode cX2_pour 89 = .ok (.invokestatic 84, 3) := by decide +kernel
theorem dX2_pour_92 : decode cX2_pour 92 = .ok (.iastore, 1) := by decide +kernel
theorem dX2_pour_93 : decode cX2_pour 93 = .ok (.return_, 1) := by decide +kernel
def bX2_pour_0 (f1 f2 : ox_F) (rc : Nat → ox_K) : ox_K := o_ic (1) (o_al 0 (o_getr 2 1 (o_ic (0) (o_ia (o_al 0 (o_getr 2 1 (o_ic (14) (o_ia (o_iadd (o_al 0 (o_getr 2 1 (o_ic (13) (o_ia (o_iadd (o_mmax (o_is 3 (o_al 1 (o_cv f1 5 0 (o_ifeq (rc 42) (o_al 2 (o_geti 9 0 (o_il 3 (o_icge (rc 43) (rc 42))))))))))))))))))))))))
def bX2_pour_42 (f1 f2 : ox_F) (rc : Nat → ox_K) : ox_K := o_ret
def bX2_pour_43 (f1 f2 : ox_F) (rc : Nat → ox_K) : ox_K := o_al 1 (o_al 2 (o_il 3 (o_cv f2 5 2 (o_al 0 (o_dup (o_geti 2 3 (o_ic (1) (o_iadd (o_puti 2 3 (o_al 0 (o_geti 2 3 (o_ic (4) (o_irem (o_ifne (rc 93) (o_al 0 (o_getr 2 1 (o_ic (14) (o_gs 4 (o_ic (14) (o_ia (o_al 0 (o_getr 2 1 (o_ic (14) (o_ia (o_ic (1) (o_iadd (o_mmin (o_iast (rc 93)))))))))))))))))))))))))))))
def bX2_pour_93 (f1 f2 : ox_F) (rc : Nat → ox_K) : ox_K := o_ret
section SX2_pour
variable {p : Program} {l : Launch} {e : Env} {R : Room} {s : State} {m : MethodId} {args : Array Value} {below : List Frame} {meth : Method} {c : Code} {g : ox_G} {c0 t0 dp d1 d2 : Nat} {rc : Nat → ox_K} {f1 f2 : ox_F}
set_option maxRecDepth 100000 in
theorem kX2_pour_0 (C : ox_C p s m args c g 4 cX2_pour RX2) (hr : meth.sig.returnType = none) (hlk : meth.locks = false) (hnm : meth.name = "pour") (hR : R.frames = dp ∧ R.locals = 60 * dp) (e0 : 1 ≤ dp) (h1 : ox_Sem yX5_isEmpty cX5_isEmpty 1 (some .boolean) d1 f1) (e1 : d1 + 1 ≤ dp) (h2 : ox_Sem yX5_takeFrom cX5_takeFrom 3 none d2 f2) (e2 : d2 + 1 ≤ dp) (hrc : ∀ b, ox_S p l e R s m args below meth c g 4 c0 t0 (ox_QM g below args s c0 t0) b (rc b)) : ox_S p l e R s m args below meth c g 4 c0 t0 (ox_QM g below args s c0 t0) 0 (bX2_pour_0 f1 f2 rc) := by
  refine s_iconst (pc := 0) C dX2_pour_0 (by decide) ?_
  refine s_aload_n (pc := 1) C dX2_pour_1 rfl ?_
  refine s_getr (pc := 2) (j := 1) (q := (RX2, TX2, 6)) C rfl (by decide) rfl wF_X2_24 dX2_pour_2 ?_
  refine s_iconst (pc := 5) C dX2_pour_5 (by decide) ?_
  refine s_ia (pc := 6) C dX2_pour_6 ?_
  refine s_aload_n (pc := 7) C dX2_pour_7 rfl ?_
  refine s_getr (pc := 8) (j := 1) (q := (RX2, TX2, 6)) C rfl (by decide) rfl wF_X2_24 dX2_pour_8 ?_
  refine s_bipush (pc := 11) C dX2_pour_11 (by decide) ?_
  refine s_ia (pc := 13) C dX2_pour_13 ?_
  refine s_iadd (pc := 14) C dX2_pour_14 ?_
  refine s_aload_n (pc := 15) C dX2_pour_15 rfl ?_
  refine s_getr (pc := 16) (j := 1) (q := (RX2, TX2, 6)) C rfl (by decide) rfl wF_X2_24 dX2_pour_16 ?_
  refine s_bipush (pc := 19) C dX2_pour_19 (by decide) ?_
  refine s_ia (pc := 21) C dX2_pour_21 ?_
  refine s_iadd (pc := 22) C dX2_pour_22 ?_
  refine s_mmax (pc := 23) C wM_X2_63 wT_mmax wN_J9 wC_mmax (ox_lv3 hR e0) dX2_pour_23 ?_
  refine s_istore_n (pc := 26) C dX2_pour_26 rfl (by decide) ?_
  refine s_aload_n (pc := 27) C dX2_pour_27 rfl ?_
  refine s_cv (pc := 28) (q := (RX5, TX5, 8)) C h1 rfl wM_X2_56 wI_X5_isEmpty wS_X5_isEmpty wN_X5 wC_X5_isEmpty (by decide +kernel) (ox_lv hR e1 (by decide)) dX2_pour_28 ?_
  refine s_ifeq (pc := 31) 42 C dX2_pour_31 (by decide) (hrc 42) ?_
  refine s_aload_n (pc := 34) C dX2_pour_34 rfl ?_
  refine s_geti (pc := 35) (j := 0) (q := (RX9, TX9, 5)) C rfl (by decide) rfl wF_X2_69 dX2_pour_35 ?_
  refine s_iload_n (pc := 38) C dX2_pour_38 rfl ?_
  refine s_icmpge (pc := 39) 43 C dX2_pour_39 (by decide) (hrc 43) ?_
  exact hrc 42
set_option maxRecDepth 100000 in
theorem kX2_pour_42 (C : ox_C p s m args c g 4 cX2_pour RX2) (hr : meth.sig.returnType = none) (hlk : meth.locks = false) (hnm : meth.name = "pour") (hR : R.frames = dp ∧ R.locals = 60 * dp) (e0 : 1 ≤ dp) (h1 : ox_Sem yX5_isEmpty cX5_isEmpty 1 (some .boolean) d1 f1) (e1 : d1 + 1 ≤ dp) (h2 : ox_Sem yX5_takeFrom cX5_takeFrom 3 none d2 f2) (e2 : d2 + 1 ≤ dp) (hrc : ∀ b, ox_S p l e R s m args below meth c g 4 c0 t0 (ox_QM g below args s c0 t0) b (rc b)) : ox_S p l e R s m args below meth c g 4 c0 t0 (ox_QM g below args s c0 t0) 42 (bX2_pour_42 f1 f2 rc) := by
  exact s_ret (pc := 42) C hr hlk dX2_pour_42
set_option maxRecDepth 100000 in
theorem kX2_pour_43 (C : ox_C p s m args c g 4 cX2_pour RX2) (hr : meth.sig.returnType = none) (hlk : meth.locks = false) (hnm : meth.name = "pour") (hR : R.frames = dp ∧ R.locals = 60 * dp) (e0 : 1 ≤ dp) (h1 : ox_Sem yX5_isEmpty cX5_isEmpty 1 (some .boolean) d1 f1) (e1 : d1 + 1 ≤ dp) (h2 : ox_Sem yX5_takeFrom cX5_takeFrom 3 none d2 f2) (e2 : d2 + 1 ≤ dp) (hrc : ∀ b, ox_S p l e R s m args below meth c g 4 c0 t0 (ox_QM g below args s c0 t0) b (rc b)) : ox_S p l e R s m args below meth c g 4 c0 t0 (ox_QM g below args s c0 t0) 43 (bX2_pour_43 f1 f2 rc) := by
  refine s_aload_n (pc := 43) C dX2_pour_43 rfl ?_
  refine s_aload_n (pc := 44) C dX2_pour_44 rfl ?_
  refine s_iload_n (pc := 45) C dX2_pour_45 rfl ?_
  refine s_cv (pc := 46) (q := (RX5, TX5, 8)) C h2 rfl wM_X2_74 wI_X5_takeFrom wS_X5_takeFrom wN_X5 wC_X5_takeFrom (by decide +kernel) (ox_lv hR e2 (by decide)) dX2_pour_46 ?_
  refine s_aload_n (pc := 49) C dX2_pour_49 rfl ?_
  refine s_dup (pc := 50) C dX2_pour_50 ?_
  refine s_geti (pc := 51) (j := 3) (q := (RX2, TX2, 6)) C rfl (by decide) rfl wF_X2_78 dX2_pour_51 ?_
  refine s_iconst (pc := 54) C dX2_pour_54 (by decide) ?_
  refine s_iadd (pc := 55) C dX2_pour_55 ?_
  refine s_puti (pc := 56) (j := 3) (q := (RX2, TX2, 6)) C rfl (by decide) rfl (Or.inl rfl) wF_X2_78 dX2_pour_56 ?_
  refine s_aload_n (pc := 59) C dX2_pour_59 rfl ?_
  refine s_geti (pc := 60) (j := 3) (q := (RX2, TX2, 6)) C rfl (by decide) rfl wF_X2_78 dX2_pour_60 ?_
  refine s_iconst (pc := 63) C dX2_pour_63 (by decide) ?_
  refine s_irem (pc := 64) C dX2_pour_64 ?_
  refine s_ifne (pc := 65) 93 C dX2_pour_65 (by decide) (hrc 93) ?_
  refine s_aload_n (pc := 68) C dX2_pour_68 rfl ?_
  refine s_getr (pc := 69) (j := 1) (q := (RX2, TX2, 6)) C rfl (by decide) rfl wF_X2_24 dX2_pour_69 ?_
  refine s_bipush (pc := 72) C dX2_pour_72 (by decide) ?_
  refine s_gs (pc := 74) (C1 := "SweetLine$Belt") (n1 := "GEAR_MOST") (d1 := "[I") C (by decide +kernel) wF_X2_81 dX2_pour_74 ?_
  refine s_bipush (pc := 77) C dX2_pour_77 (by decide) ?_
  refine s_ia (pc := 79) C dX2_pour_79 ?_
  refine s_aload_n (pc := 80) C dX2_pour_80 rfl ?_
  refine s_getr (pc := 81) (j := 1) (q := (RX2, TX2, 6)) C rfl (by decide) rfl wF_X2_24 dX2_pour_81 ?_
  refine s_bipush (pc := 84) C dX2_pour_84 (by decide) ?_
  refine s_ia (pc := 86) C dX2_pour_86 ?_
  refine s_iconst (pc := 87) C dX2_pour_87 (by decide) ?_
  refine s_iadd (pc := 88) C dX2_pour_88 ?_
  refine s_mmin (pc := 89) C wM_X2_84 wT_mmin wN_J9 wC_mmin (ox_lv3 hR e0) dX2_pour_89 ?_
  refine s_iast (pc := 92) C dX2_pour_92 ?_
  exact hrc 93
set_option maxRecDepth 100000 in
theorem kX2_pour_93 (C : ox_C p s m args c g 4 cX2_pour RX2) (hr : meth.sig.returnType = none) (hlk : meth.locks = false) (hnm : meth.name = "pour") (hR : R.frames = dp ∧ R.locals = 60 * dp) (e0 : 1 ≤ dp) (h1 : ox_Sem yX5_isEmpty cX5_isEmpty 1 (some .boolean) d1 f1) (e1 : d1 + 1 ≤ dp) (h2 : ox_Sem yX5_takeFrom cX5_takeFrom 3 none d2 f2) (e2 : d2 + 1 ≤ dp) (hrc : ∀ b, ox_S p l e R s m args below meth c g 4 c0 t0 (ox_QM g below args s c0 t0) b (rc b)) : ox_S p l e R s m args below meth c g 4 c0 t0 (ox_QM g below args s c0 t0) 93 (bX2_pour_93 f1 f2 rc) := by
  exact s_ret (pc := 93) C hr hlk dX2_pour_93
end SX2_pour
def bsX2_pour (f1 f2 : ox_F) (b : Nat) (rc : Nat → ox_K) : ox_K := if b = 0 then bX2_pour_0 f1 f2 rc else if b = 42 then bX2_pour_42 f1 f2 rc else if b = 43 then bX2_pour_43 f1 f2 rc else if b = 93 then bX2_pour_93 f1 f2 rc else ox_no
theorem mX2_pour {dp d1 d2 : Nat} {f1 f2 f : ox_F} (e0 : 1 ≤ dp) (h1 : ox_Sem yX5_isEmpty cX5_isEmpty 1 (some .boolean) d1 f1) (e1 : d1 + 1 ≤ dp) (h2 : ox_Sem yX5_takeFrom cX5_takeFrom 3 none d2 f2) (e2 : d2 + 1 ≤ dp) (hf : ∀ as h r, f as h = some r → ox_cs as ≤ 4 ∧ ox_le h r.2 ∧ ∃ n, ox_run (bsX2_pour f1 f2) n 0 (lv_args 0 as) [] h = some r) : ox_Sem yX2_pour cX2_pour 4 none dp f := by
  refine ox_meth (bs := bsX2_pour f1 f2) (by decide) hf ?_
  intro p l e R s m args below meth c g c0 t0 C hr hlk hnm hR rc hrc b
  unfold bsX2_pour
  split
  · next eb => rw [eb]; exact kX2_pour_0 C hr hlk hnm hR e0 h1 e1 h2 e2 hrc
  split
  · next eb => rw [eb]; exact kX2_pour_42 C hr hlk hnm hR e0 h1 e1 h2 e2 hrc
  split
  · next eb => rw [eb]; exact kX2_pour_43 C hr hlk hnm hR e0 h1 e1 h2 e2 hrc
  split
  · next eb => rw [eb]; exact kX2_pour_93 C hr hlk hnm hR e0 h1 e1 h2 e2 hrc
  exact s_no
theorem dX2_turnOut_0 : decode cX2_turnOut 0 = .ok (.aload_n 1, 1) := by decide +kernel
theorem dX2_turnOut_1 : decode cX2_turnOut 1 = .ok (.invokevirtual 56, 3) := by decide +kernel
theorem dX2_turnOut_4 : decode cX2_turnOut 4 = .ok (.ifCond .eq 4, 3) := by decide +kernel
theorem dX2_turnOut_7 : decode cX2_turnOut 7 = .ok (.return_, 1) := by decide +kernel
theorem dX2_turnOut_8 : decode cX2_turnOut 8 = .ok (.aload_n 1, 1) := by decide +kernel
theorem dX2_turnOut_9 : decode cX2_turnOut 9 = .ok (.getfield 87, 3) := by decide +kernel
theorem dX2_turnOut_12 : decode cX2_turnOut 12 = .ok (.ifCond .eq 35, 3) := by decide +kernel
theorem dX2_turnOut_15 : decode cX2_turnOut 15 = .ok (.aload_n 1, 1) := by decide +kernel
theorem dX2_turnOut_16 : decode cX2_turnOut 16 = .ok (.getfield 91, 3) := by decide +kernel
theorem dX2_turnOut_19 : decode cX2_turnOut 19 = .ok (.bipush 18, 2) := by decide +kernel
theorem dX2_turnOut_21 : decode cX2_turnOut 21 = .ok (.if_icmp .gt 26, 3) := by decide +kernel
theorem dX2_turnOut_24 : decode cX2_turnOut 24 = .ok (.aload_n 2, 1) := by decide +kernel
theorem dX2_turnOut_25 : decode cX2_turnOut 25 = .ok (.aload_n 1, 1) := by decide +kernel
theorem dX2_turnOut_26 : decode cX2_turnOut 26 = .ok (.aload_n 0, 1) := by decide +kernel
theorem dX2_turnOut_27 : decode cX2_turnOut 27 = .ok (.getfield 53, 3) := by decide +kernel
theorem dX2_turnOut_30 : decode cX2_turnOut 30 = .ok (.aload_n 0, 1) := by decide +kernel
theorem dX2_turnOut_31 : decode cX2_turnOut 31 = .ok (.getfield 24, 3) := by decide +kernel
theorem dX2_turnOut_34 : decode cX2_turnOut 34 = .ok (.iconst 0, 1) := by decide +kernel
theorem dX2_turnOut_35 : decode cX2_turnOut 35 = .ok (.iaload, 1) := by decide +kernel
theorem dX2_turnOut_36 : decode cX2_turnOut 36 = .ok (.invokevirtual 94, 3) := by decide +kernel
theorem dX2_turnOut_39 : decode cX2_turnOut 39 = .ok (.aload_n 1, 1) := by decide +kernel
theorem dX2_turnOut_40 : decode cX2_turnOut 40 = .ok (.iconst 0, 1) := by decide +kernel
theorem dX2_turnOut_41 : decode cX2_turnOut 41 = .ok (.putfield 60, 3) := by decide +kernel
theorem dX2_turnOut_44 : decode cX2_turnOut 44 = .ok (.goto 13, 3) := by decide +kernel
theorem dX2_turnOut_47 : decode cX2_turnOut 47 = .ok (.aload_n 0, 1) := by decide +kernel
theorem dX2_turnOut_48 : decode cX2_turnOut 48 = .ok (.dup, 1) := by decide +kernel
theorem dX2_turnOut_49 : decode cX2_turnOut 49 = .ok (.getfield 100, 3) := by decide +kernel
theorem dX2_turnOut_52 : decode cX2_turnOut 52 = .ok (.iconst 1, 1) := by decide +kernel
theorem dX2_turnOut_53 : decode cX2_turnOut 53 = .ok (.iadd, 1) := by decide +kernel
theorem dX2_turnOut_54 : decode cX2_turnOut 54 = .ok (.putfield 100, 3) := by decide +kernel
theorem dX2_turnOut_57 : decode cX2_turnOut 57 = .ok (.return_, 1) := by decide +kernel
def bX2_turnOut_0 (f1 f2 : ox_F) (rc : Nat → ox_K) : ox_K := o_al 1 (o_cv f1 5 0 (o_ifeq (rc 8) (o_ret)))
def bX2_turnOut_8 (f1 f2 : ox_F) (rc : Nat → ox_K) : ox_K := o_al 1 (o_geti 5 6 (o_ifeq (rc 47) (o_al 1 (o_geti 5 4 (o_ic (18) (o_icgt (rc 47) (o_al 2 (o_al 1 (o_al 0 (o_geti 2 4 (o_al 0 (o_getr 2 1 (o_ic (0) (o_ia (o_cv f2 1 3 (o_al 1 (o_ic (0) (o_puti 5 0 (rc 57)))))))))))))))))))
def bX2_turnOut_47 (f1 f2 : ox_F) (rc : Nat → ox_K) : ox_K := o_al 0 (o_dup (o_geti 2 5 (o_ic (1) (o_iadd (o_puti 2 5 (rc 57))))))
def bX2_turnOut_57 (f1 f2 : ox_F) (rc : Nat → ox_K) : ox_K := o_ret
section SX2_turnOut
variable {p : Program} {l : Launch} {e : Env} {R : Room} {s : State} {m : MethodId} {args : Array Value} {below : List Frame} {meth : Method} {c : Code} {g : ox_G} {c0 t0 dp d1 d2 : Nat} {rc : Nat → ox_K} {f1 f2 : ox_F}
set_option maxRecDepth 100000 in
theorem kX2_turnOut_0 (C : ox_C p s m args c g 3 cX2_turnOut RX2) (hr : meth.sig.returnType = none) (hlk : meth.locks = false) (hnm : meth.name = "turnOut") (hR : R.frames = dp ∧ R.locals = 60 * dp) (h1 : ox_Sem yX5_isEmpty cX5_isEmpty 1 (some .boolean) d1 f1) (e1 : d1 + 1 ≤ dp) (h2 : ox_Sem yX1_take cX1_take 4 none d2 f2) (e2 : d2 + 1 ≤ dp) (hrc : ∀ b, ox_S p l e R s m args below meth c g 3 c0 t0 (ox_QM g below args s c0 t0) b (rc b)) : ox_S p l e R s m args below meth c g 3 c0 t0 (ox_QM g below args s c0 t0) 0 (bX2_turnOut_0 f1 f2 rc) := by
  refine s_aload_n (pc := 0) C dX2_turnOut_0 rfl ?_
  refine s_cv (pc := 1) (q := (RX5, TX5, 8)) C h1 rfl wM_X2_56 wI_X5_isEmpty wS_X5_isEmpty wN_X5 wC_X5_isEmpty (by decide +kernel) (ox_lv hR e1 (by decide)) dX2_turnOut_1 ?_
  refine s_ifeq (pc := 4) 8 C dX2_turnOut_4 (by decide) (hrc 8) ?_
  exact s_ret (pc := 7) C hr hlk dX2_turnOut_7
set_option maxRecDepth 100000 in
theorem kX2_turnOut_8 (C : ox_C p s m args c g 3 cX2_turnOut RX2) (hr : meth.sig.returnType = none) (hlk : meth.locks = false) (hnm : meth.name = "turnOut") (hR : R.frames = dp ∧ R.locals = 60 * dp) (h1 : ox_Sem yX5_isEmpty cX5_isEmpty 1 (some .boolean) d1 f1) (e1 : d1 + 1 ≤ dp) (h2 : ox_Sem yX1_take cX1_take 4 none d2 f2) (e2 : d2 + 1 ≤ dp) (hrc : ∀ b, ox_S p l e R s m args below meth c g 3 c0 t0 (ox_QM g below args s c0 t0) b (rc b)) : ox_S p l e R s m args below meth c g 3 c0 t0 (ox_QM g below args s c0 t0) 8 (bX2_turnOut_8 f1 f2 rc) := by
  refine s_aload_n (pc := 8) C dX2_turnOut_8 rfl ?_
  refine s_geti (pc := 9) (j := 6) (q := (RX5, TX5, 8)) C rfl (by decide) rfl wF_X2_87 dX2_turnOut_9 ?_
  refine s_ifeq (pc := 12) 47 C dX2_turnOut_12 (by decide) (hrc 47) ?_
  refine s_aload_n (pc := 15) C dX2_turnOut_15 rfl ?_
  refine s_geti (pc := 16) (j := 4) (q := (RX5, TX5, 8)) C rfl (by decide) rfl wF_X2_91 dX2_turnOut_16 ?_
  refine s_bipush (pc := 19) C dX2_turnOut_19 (by decide) ?_
  refine s_icmpgt (pc := 21) 47 C dX2_turnOut_21 (by decide) (hrc 47) ?_
  refine s_aload_n (pc := 24) C dX2_turnOut_24 rfl ?_
  refine s_aload_n (pc := 25) C dX2_turnOut_25 rfl ?_
  refine s_aload_n (pc := 26) C dX2_turnOut_26 rfl ?_
  refine s_geti (pc := 27) (j := 4) (q := (RX2, TX2, 6)) C rfl (by decide) rfl wF_X2_53 dX2_turnOut_27 ?_
  refine s_aload_n (pc := 30) C dX2_turnOut_30 rfl ?_
  refine s_getr (pc := 31) (j := 1) (q := (RX2, TX2, 6)) C rfl (by decide) rfl wF_X2_24 dX2_turnOut_31 ?_
  refine s_iconst (pc := 34) C dX2_turnOut_34 (by decide) ?_
  refine s_ia (pc := 35) C dX2_turnOut_35 ?_
  refine s_cv (pc := 36) (q := (RX1, TX1, 7)) C h2 rfl wM_X2_94 wI_X1_take wS_X1_take wN_X1 wC_X1_take (by decide +kernel) (ox_lv hR e2 (by decide)) dX2_turnOut_36 ?_
  refine s_aload_n (pc := 39) C dX2_turnOut_39 rfl ?_
  refine s_iconst (pc := 40) C dX2_turnOut_40 (by decide) ?_
  refine s_puti (pc := 41) (j := 0) (q := (RX5, TX5, 8)) C rfl (by decide) rfl (Or.inl rfl) wF_X2_60 dX2_turnOut_41 ?_
  exact s_goto (pc := 44) 57 C dX2_turnOut_44 (by decide) (hrc 57)
set_option maxRecDepth 100000 in
theorem kX2_turnOut_47 (C : ox_C p s m args c g 3 cX2_turnOut RX2) (hr : meth.sig.returnType = none) (hlk : meth.locks = false) (hnm : meth.name = "turnOut") (hR : R.frames = dp ∧ R.locals = 60 * dp) (h1 : ox_Sem yX5_isEmpty cX5_isEmpty 1 (some .boolean) d1 f1) (e1 : d1 + 1 ≤ dp) (h2 : ox_Sem yX1_take cX1_take 4 none d2 f2) (e2 : d2 + 1 ≤ dp) (hrc : ∀ b, ox_S p l e R s m args below meth c g 3 c0 t0 (ox_QM g below args s c0 t0) b (rc b)) : ox_S p l e R s m args below meth c g 3 c0 t0 (ox_QM g below args s c0 t0) 47 (bX2_turnOut_47 f1 f2 rc) := by
  refine s_aload_n (pc := 47) C dX2_turnOut_47 rfl ?_
  refine s_dup (pc := 48) C dX2_turnOut_48 ?_
  refine s_geti (pc := 49) (j := 5) (q := (RX2, TX2, 6)) C rfl (by decide) rfl wF_X2_100 dX2_turnOut_49 ?_
  refine s_iconst (pc := 52) C dX2_turnOut_52 (by decide) ?_
  refine s_iadd (pc := 53) C dX2_turnOut_53 ?_
  refine s_puti (pc := 54) (j := 5) (q := (RX2, TX2, 6)) C rfl (by decide) rfl (Or.inl rfl) wF_X2_100 dX2_turnOut_54 ?_
  exact hrc 57
set_option maxRecDepth 100000 in
theorem kX2_turnOut_57 (C : ox_C p s m args c g 3 cX2_turnOut RX2) (hr : meth.sig.returnType = none) (hlk : meth.locks = false) (hnm : meth.name = "turnOut") (hR : R.frames = dp ∧ R.locals = 60 * dp) (h1 : ox_Sem yX5_isEmpty cX5_isEmpty 1 (some .boolean) d1 f1) (e1 : d1 + 1 ≤ dp) (h2 : ox_Sem yX1_take cX1_take 4 none d2 f2) (e2 : d2 + 1 ≤ dp) (hrc : ∀ b, ox_S p l e R s m args below meth c g 3 c0 t0 (ox_QM g below args s c0 t0) b (rc b)) : ox_S p l e R s m args below meth c g 3 c0 t0 (ox_QM g below args s c0 t0) 57 (bX2_turnOut_57 f1 f2 rc) := by
  exact s_ret (pc := 57) C hr hlk dX2_turnOut_57
end SX2_turnOut
def bsX2_turnOut (f1 f2 : ox_F) (b : Nat) (rc : Nat → ox_K) : ox_K := if b = 0 then bX2_turnOut_0 f1 f2 rc else if b = 8 then bX2_turnOut_8 f1 f2 rc else if b = 47 then bX2_turnOut_47 f1 f2 rc else if b = 57 then bX2_turnOut_57 f1 f2 rc else ox_no
theorem mX2_turnOut {dp d1 d2 : Nat} {f1 f2 f : ox_F} (h1 : ox_Sem yX5_isEmpty cX5_isEmpty 1 (some .boolean) d1 f1) (e1 : d1 + 1 ≤ dp) (h2 : ox_Sem yX1_take cX1_take 4 none d2 f2) (e2 : d2 + 1 ≤ dp) (hf : ∀ as h r, f as h = some r → ox_cs as ≤ 3 ∧ ox_le h r.2 ∧ ∃ n, ox_run (bsX2_turnOut f1 f2) n 0 (lv_args 0 as) [] h = some r) : ox_Sem yX2_turnOut cX2_turnOut 3 none dp f := by
  refine ox_meth (bs := bsX2_turnOut f1 f2) (by decide) hf ?_
  intro p l e R s m args below meth c g c0 t0 C hr hlk hnm hR rc hrc b
  unfold bsX2_turnOut
  split
  · next eb => rw [eb]; exact kX2_turnOut_0 C hr hlk hnm hR h1 e1 h2 e2 hrc
  split
  · next eb => rw [eb]; exact kX2_turnOut_8 C hr hlk hnm hR h1 e1 h2 e2 hrc
  split
  · next eb => rw [eb]; exact kX2_turnOut_47 C hr hlk hnm hR h1 e1 h2 e2 hrc
  split
  · next eb => rw [eb]; exact kX2_turnOut_57 C hr hlk hnm hR h1 e1 h2 e2 hrc
  exact s_no
end
section
theorem dX4_init_0 : decode cX4_init 0 = .ok (.aload_n 0, 1) := by decide +kernel
theorem dX4_init_1 : decode cX4_init 1 = .ok (.invokespecial 1, 3) := by decide +kernel
theorem dX4_init_4 : decode cX4_init 4 = .ok (.return_, 1) := by decide +kernel
def bX4_init_0 (rc : Nat → ox_K) : ox_K := o_al 0 (o_obj (o_ret))
section SX4_init
variable {p : Program} {l : Launch} {e : Env} {R : Room} {s : State} {m : MethodId} {args : Array Value} {below : List Frame} {meth : Method} {c : Code} {g : ox_G} {c0 t0 dp  : Nat} {rc : Nat → ox_K}
set_option maxRecDepth 100000 in
theorem kX4_init_0 (C : ox_C p s m args c g 1 cX4_init RX4) (hr : meth.sig.returnType = none) (hlk : meth.locks = false) (hnm : meth.name = "<init>") (hR : R.frames = dp ∧ R.locals = 60 * dp) (e0 : 1 ≤ dp) (hrc : ∀ b, ox_S p l e R s m args below meth c g 1 c0 t0 (ox_QM g below args s c0 t0) b (rc b)) : ox_S p l e R s m args below meth c g 1 c0 t0 (ox_QM g below args s c0 t0) 0 (bX4_init_0 rc) := by
  refine s_aload_n (pc := 0) C dX4_init_0 rfl ?_
  refine s_obj (pc := 1) C wM_X4_1 wO1 wO2 (ox_lv1 hR e0) dX4_init_1 ?_
  exact s_ret (pc := 4) C hr hlk dX4_init_4
end SX4_init
def bsX4_init (b : Nat) (rc : Nat → ox_K) : ox_K := if b = 0 then bX4_init_0 rc else ox_no
theorem mX4_init {dp  : Nat} {f : ox_F} (e0 : 1 ≤ dp) (hf : ∀ as h r, f as h = some r → ox_cs as ≤ 1 ∧ ox_le h r.2 ∧ ∃ n, ox_run (bsX4_init) n 0 (lv_args 0 as) [] h = some r) : ox_Sem yX4_init cX4_init 1 none dp f := by
  refine ox_meth (bs := bsX4_init) (by decide) hf ?_
  intro p l e R s m args below meth c g c0 t0 C hr hlk hnm hR rc hrc b
  unfold bsX4_init
  split
  · next eb => rw [eb]; exact kX4_init_0 C hr hlk hnm hR e0 hrc
  exact s_no
theorem dX4_begin_0 : decode cX4_begin 0 = .ok (.aload_n 0, 1) := by decide +kernel
theorem dX4_begin_1 : decode cX4_begin 1 = .ok (.iload_n 1, 1) := by decide +kernel
theorem dX4_begin_2 : decode cX4_begin 2 = .ok (.putfield 7, 3) := by decide +kernel
theorem dX4_begin_5 : decode cX4_begin 5 = .ok (.aload_n 0, 1) := by decide +kernel
theorem dX4_begin_6 : decode cX4_begin 6 = .ok (.iload_n 2, 1) := by decide +kernel
theorem dX4_begin_7 : decode cX4_begin 7 = .ok (.putfield 13, 3) := by decide +kernel
theorem dX4_begin_10 : decode cX4_begin 10 = .ok (.return_, 1) := by decide +kernel
def bX4_begin_0 (rc : Nat → ox_K) : ox_K := o_al 0 (o_il 1 (o_puti 4 0 (o_al 0 (o_il 2 (o_puti 4 1 (o_ret))))))
section SX4_begin
variable {p : Program} {l : Launch} {e : Env} {R : Room} {s : State} {m : MethodId} {args : Array Value} {below : List Frame} {meth : Method} {c : Code} {g : ox_G} {c0 t0 dp  : Nat} {rc : Nat → ox_K}
set_option maxRecDepth 100000 in
theorem kX4_begin_0 (C : ox_C p s m args c g 3 cX4_begin RX4) (hr : meth.sig.returnType = none) (hlk : meth.locks = false) (hnm : meth.name = "begin") (hR : R.frames = dp ∧ R.locals = 60 * dp) (hrc : ∀ b, ox_S p l e R s m args below meth c g 3 c0 t0 (ox_QM g below args s c0 t0) b (rc b)) : ox_S p l e R s m args below meth c g 3 c0 t0 (ox_QM g below args s c0 t0) 0 (bX4_begin_0 rc) := by
  refine s_aload_n (pc := 0) C dX4_begin_0 rfl ?_
  refine s_iload_n (pc := 1) C dX4_begin_1 rfl ?_
  refine s_puti (pc := 2) (j := 0) (q := (RX4, TX4, 2)) C rfl (by decide) rfl (Or.inl rfl) wF_X4_7 dX4_begin_2 ?_
  refine s_aload_n (pc := 5) C dX4_begin_5 rfl ?_
  refine s_iload_n (pc := 6) C dX4_begin_6 rfl ?_
  refine s_puti (pc := 7) (j := 1) (q := (RX4, TX4, 2)) C rfl (by decide) rfl (Or.inl rfl) wF_X4_13 dX4_begin_7 ?_
  exact s_ret (pc := 10) C hr hlk dX4_begin_10
end SX4_begin
def bsX4_begin (b : Nat) (rc : Nat → ox_K) : ox_K := if b = 0 then bX4_begin_0 rc else ox_no
theorem mX4_begin {dp  : Nat} {f : ox_F} (hf : ∀ as h r, f as h = some r → ox_cs as ≤ 3 ∧ ox_le h r.2 ∧ ∃ n, ox_run (bsX4_begin) n 0 (lv_args 0 as) [] h = some r) : ox_Sem yX4_begin cX4_begin 3 none dp f := by
  refine ox_meth (bs := bsX4_begin) (by decide) hf ?_
  intro p l e R s m args below meth c g c0 t0 C hr hlk hnm hR rc hrc b
  unfold bsX4_begin
  split
  · next eb => rw [eb]; exact kX4_begin_0 C hr hlk hnm hR hrc
  exact s_no
theorem dX4_goThrough_0 : decode cX4_goThrough 0 = .ok (.iconst 0, 1) := by decide +kernel
theorem dX4_goThrough_1 : decode cX4_goThrough 1 = .ok (.istore_n 2, 1) := by decide +kernel
theorem dX4_goThrough_2 : decode cX4_goThrough 2 = .ok (.iload_n 2, 1) := by decide +kernel
theorem dX4_goThrough_3 : decode cX4_goThrough 3 = .ok (.aload_n 1, 1) := by decide +kernel
theorem dX4_goThrough_4 : decode cX4_goThrough 4 = .ok (.getfield 16, 3) := by decide +kernel
theorem dX4_goThrough_7 : decode cX4_goThrough 7 = .ok (.if_icmp .ge 103, 3) := by decide +kernel
theorem dX4_goThrough_10 : decode cX4_goThrough 10 = .ok (.iload_n 2, 1) := by decide +kernel
theorem dX4_goThrough_11 : decode cX4_goThrough 11 = .ok (.bipush 6, 2) := by decide +kernel
theorem dX4_goThrough_13 : decode cX4_goThrough 13 = .ok (.if_icmp .ge 97, 3) := by decide +kernel
theorem dX4_goThrough_16 : decode cX4_goThrough 16 = .ok (.aload_n 1, 1) := by decide +kernel
theorem dX4_goThrough_17 : decode cX4_goThrough 17 = .ok (.getfield 21, 3) := by decide +kernel
theorem dX4_goThrough_20 : decode cX4_goThrough 20 = .ok (.iload_n 2, 1) := by decide +kernel
theorem dX4_goThrough_21 : decode cX4_goThrough 21 = .ok (.iaload, 1) := by decide +kernel
theorem dX4_goThrough_22 : decode cX4_goThrough 22 = .ok (.ifCond .ne 24, 3) := by decide +kernel
theorem dX4_goThrough_25 : decode cX4_goThrough 25 = .ok (.aload_n 0, 1) := by decide +kernel
theorem dX4_goThrough_26 : decode cX4_goThrough 26 = .ok (.sipush 999, 3) := by decide +kernel
theorem dX4_goThrough_29 : decode cX4_goThrough 29 = .ok (.aload_n 0, 1) := by decide +kernel
theorem dX4_goThrough_30 : decode cX4_goThrough 30 = .ok (.getfield 13, 3) := by decide +kernel
theorem dX4_goThrough_33 : decode cX4_goThrough 33 = .ok (.aload_n 1, 1) := by decide +kernel
theorem dX4_goThrough_34 : decode cX4_goThrough 34 = .ok (.getfield 25, 3) := by decide +kernel
theorem dX4_goThrough_37 : decode cX4_goThrough 37 = .ok (.iload_n 2, 1) := by decide +kernel
theorem dX4_goThrough_38 : decode cX4_goThrough 38 = .ok (.iaload, 1) := by decide +kernel
theorem dX4_goThrough_39 : decode cX4_goThrough 39 = .ok (.iadd, 1) := by decide +kernel
theorem dX4_goThrough_40 : decode cX4_goThrough 40 = .ok (.invokestatic 28, 3) := by decide +kernel
theorem dX4_goThrough_43 : decode cX4_goThrough 43 = .ok (.putfield 13, 3) := by decide +kernel
theorem dX4_goThrough_46 : decode cX4_goThrough 46 = .ok (.iconst 0, 1) := by decide +kernel
theorem dX4_goThrough_47 : decode cX4_goThrough 47 = .ok (.istore_n 3, 1) := by decide +kernel
theorem dX4_goThrough_48 : decode cX4_goThrough 48 = .ok (.iload_n 3, 1) := by decide +kernel
theorem dX4_goThrough_49 : decode cX4_goThrough 49 = .ok (.aload_n 1, 1) := by decide +kernel
theorem dX4_goThrough_50 : decode cX4_goThrough 50 = .ok (.getfield 21, 3) := by decide +kernel
theorem dX4_goThrough_53 : decode cX4_goThrough 53 = .ok (.iload_n 2, 1) := by decide +kernel
theorem dX4_goThrough_54 : decode cX4_goThrough 54 = .ok (.iaload, 1) := by decide +kernel
theorem dX4_goThrough_55 : decode cX4_goThrough 55 = .ok (.if_icmp .ge 49, 3) := by decide +kernel
theorem dX4_goThrough_58 : decode cX4_goThrough 58 = .ok (.aload_n 0, 1) := by decide +kernel
theorem dX4_goThrough_59 : decode cX4_goThrough 59 = .ok (.dup, 1) := by decide +kernel
theorem dX4_goThrough_60 : decode cX4_goThrough 60 = .ok (.getfield 7, 3) := by decide +kernel
theorem dX4_goThrough_63 : decode cX4_goThrough 63 = .ok (.aload_n 1, 1) := by decide +kernel
theorem dX4_goThrough_64 : decode cX4_goThrough 64 = .ok (.getfield 25, 3) := by decide +kernel
theorem dX4_goThrough_67 : decode cX4_goThrough 67 = .ok (.iload_n 2, 1) := by decide +kernel
theorem dX4_goThrough_68 : decode cX4_goThrough 68 = .ok (.iaload, 1) := by decide +kernel
theorem dX4_goThrough_69 : decode cX4_goThrough 69 = .ok (.aload_n 0, 1) := by decide +kernel
theorem dX4_goThrough_70 : decode cX4_goThrough 70 = .ok (.getfield 7, 3) := by decide +kernel
theorem dX4_goThrough_73 : decode cX4_goThrough 73 = .ok (.invokestatic 34, 3) := by decide +kernel
theorem dX4_goThrough_76 : decode cX4_goThrough 76 = .ok (.iadd, 1) := by decide +kernel
theorem dX4_goThrough_77 : decode cX4_goThrough 77 = .ok (.putfield 7, 3) := by decide +kernel
theorem dX4_goThrough_80 : decode cX4_goThrough 80 = .ok (.aload_n 0, 1) := by decide +kernel
theorem dX4_goThrough_81 : decode cX4_goThrough 81 = .ok (.iconst 0, 1) := by decide +kernel
theorem dX4_goThrough_82 : decode cX4_goThrough 82 = .ok (.sipush 999, 3) := by decide +kernel
theorem dX4_goThrough_85 : decode cX4_goThrough 85 = .ok (.aload_n 0, 1) := by decide +kernel
theorem dX4_goThrough_86 : decode cX4_goThrough 86 = .ok (.invokevirtual 39, 3) := by decide +kernel
theorem dX4_goThrough_89 : decode cX4_goThrough 89 = .ok (.invokestatic 28, 3) := by decide +kernel
theorem dX4_goThrough_92 : decode cX4_goThrough 92 = .ok (.invokestatic 43, 3) := by decide +kernel
theorem dX4_goThrough_95 : decode cX4_goThrough 95 = .ok (.putfield 13, 3) := by decide +kernel
theorem dX4_goThrough_98 : decode cX4_goThrough 98 = .ok (.iinc 3 1, 3) := by decide +kernel
theorem dX4_goThrough_101 : decode cX4_goThrough 101 = .ok (.goto (-53), 3) := by decide +kernel
theorem dX4_goThrough_104 : decode cX4_goThrough 104 = .ok (.iinc 2 1, 3) := by decide +kernel
theorem dX4_goThrough_107 : decode cX4_goThrough 107 = .ok (.goto (-105), 3) := by decide +kernel
theorem dX4_goThrough_110 : decode cX4_goThrough 110 = .ok (.return_, 1) := by decide +kernel
def bX4_goThrough_0 (f1 f2 : ox_F) (rc : Nat → ox_K) : ox_K := o_ic (0) (o_is 2 (rc 2))
def bX4_goThrough_2 (f1 f2 : ox_F) (rc : Nat → ox_K) : ox_K := o_keep [0, 1, 2] (o_il 2 (o_al 1 (o_geti 6 2 (o_icge (rc 110) (o_il 2 (o_ic (6) (o_icge (rc 110) (o_al 1 (o_getr 6 4 (o_il 2 (o_ia (o_ifne (rc 46) (o_al 0 (o_ic (999) (o_al 0 (o_geti 4 1 (o_al 1 (o_getr 6 3 (o_il 2 (o_ia (o_iadd (o_mmin (o_puti 4 1 (rc 46))))))))))))))))))))))))
def bX4_goThrough_46 (f1 f2 : ox_F) (rc : Nat → ox_K) : ox_K := o_ic (0) (o_is 3 (rc 48))
def bX4_goThrough_48 (f1 f2 : ox_F) (rc : Nat → ox_K) : ox_K := o_keep [0, 1, 2, 3] (o_il 3 (o_al 1 (o_getr 6 4 (o_il 2 (o_ia (o_icge (rc 104) (o_al 0 (o_dup (o_geti 4 0 (o_al 1 (o_getr 6 3 (o_il 2 (o_ia (o_al 0 (o_geti 4 0 (o_ct f1 2 (o_iadd (o_puti 4 0 (o_al 0 (o_ic (0) (o_ic (999) (o_al 0 (o_cv f2 4 0 (o_mmin (o_mmax (o_puti 4 1 (o_inc 3 (1) (rc 48))))))))))))))))))))))))))))
def bX4_goThrough_104 (f1 f2 : ox_F) (rc : Nat → ox_K) : ox_K := o_inc 2 (1) (rc 2)
def bX4_goThrough_110 (f1 f2 : ox_F) (rc : Nat → ox_K) : ox_K := o_ret
section SX4_goThrough
variable {p : Program} {l : Launch} {e : Env} {R : Room} {s : State} {m : MethodId} {args : Array Value} {below : List Frame} {meth : Method} {c : Code} {g : ox_G} {c0 t0 dp d1 d2 : Nat} {rc : Nat → ox_K} {f1 f2 : ox_F}
set_option maxRecDepth 100000 in
theorem kX4_goThrough_0 (C : ox_C p s m args c g 4 cX4_goThrough RX4) (hr : meth.sig.returnType = none) (hlk : meth.locks = false) (hnm : meth.name = "goThrough") (hR : R.frames = dp ∧ R.locals = 60 * dp) (e0 : 1 ≤ dp) (h1 : ox_Sem yJ6_compare_7cf53 cJ6_compare_7cf53 2 (some .int) d1 f1) (e1 : d1 + 1 ≤ dp) (h2 : ox_Sem yX4_seedsOneMinuteOn cX4_seedsOneMinuteOn 1 (some .int) d2 f2) (e2 : d2 + 1 ≤ dp) (hrc : ∀ b, ox_S p l e R s m args below meth c g 4 c0 t0 (ox_QM g below args s c0 t0) b (rc b)) : ox_S p l e R s m args below meth c g 4 c0 t0 (ox_QM g below args s c0 t0) 0 (bX4_goThrough_0 f1 f2 rc) := by
  refine s_iconst (pc := 0) C dX4_goThrough_0 (by decide) ?_
  refine s_istore_n (pc := 1) C dX4_goThrough_1 rfl (by decide) ?_
  exact hrc 2
set_option maxRecDepth 100000 in
theorem kX4_goThrough_2 (C : ox_C p s m args c g 4 cX4_goThrough RX4) (hr : meth.sig.returnType = none) (hlk : meth.locks = false) (hnm : meth.name = "goThrough") (hR : R.frames = dp ∧ R.locals = 60 * dp) (e0 : 1 ≤ dp) (h1 : ox_Sem yJ6_compare_7cf53 cJ6_compare_7cf53 2 (some .int) d1 f1) (e1 : d1 + 1 ≤ dp) (h2 : ox_Sem yX4_seedsOneMinuteOn cX4_seedsOneMinuteOn 1 (some .int) d2 f2) (e2 : d2 + 1 ≤ dp) (hrc : ∀ b, ox_S p l e R s m args below meth c g 4 c0 t0 (ox_QM g below args s c0 t0) b (rc b)) : ox_S p l e R s m args below meth c g 4 c0 t0 (ox_QM g below args s c0 t0) 2 (bX4_goThrough_2 f1 f2 rc) := by
  refine s_keep ?_
  refine s_iload_n (pc := 2) C dX4_goThrough_2 rfl ?_
  refine s_aload_n (pc := 3) C dX4_goThrough_3 rfl ?_
  refine s_geti (pc := 4) (j := 2) (q := (RX6, TX6, 5)) C rfl (by decide) rfl wF_X4_16 dX4_goThrough_4 ?_
  refine s_icmpge (pc := 7) 110 C dX4_goThrough_7 (by decide) (hrc 110) ?_
  refine s_iload_n (pc := 10) C dX4_goThrough_10 rfl ?_
  refine s_bipush (pc := 11) C dX4_goThrough_11 (by decide) ?_
  refine s_icmpge (pc := 13) 110 C dX4_goThrough_13 (by decide) (hrc 110) ?_
  refine s_aload_n (pc := 16) C dX4_goThrough_16 rfl ?_
  refine s_getr (pc := 17) (j := 4) (q := (RX6, TX6, 5)) C rfl (by decide) rfl wF_X4_21 dX4_goThrough_17 ?_
  refine s_iload_n (pc := 20) C dX4_goThrough_20 rfl ?_
  refine s_ia (pc := 21) C dX4_goThrough_21 ?_
  refine s_ifne (pc := 22) 46 C dX4_goThrough_22 (by decide) (hrc 46) ?_
  refine s_aload_n (pc := 25) C dX4_goThrough_25 rfl ?_
  refine s_sipush (pc := 26) C dX4_goThrough_26 (by decide) ?_
  refine s_aload_n (pc := 29) C dX4_goThrough_29 rfl ?_
  refine s_geti (pc := 30) (j := 1) (q := (RX4, TX4, 2)) C rfl (by decide) rfl wF_X4_13 dX4_goThrough_30 ?_
  refine s_aload_n (pc := 33) C dX4_goThrough_33 rfl ?_
  refine s_getr (pc := 34) (j := 3) (q := (RX6, TX6, 5)) C rfl (by decide) rfl wF_X4_25 dX4_goThrough_34 ?_
  refine s_iload_n (pc := 37) C dX4_goThrough_37 rfl ?_
  refine s_ia (pc := 38) C dX4_goThrough_38 ?_
  refine s_iadd (pc := 39) C dX4_goThrough_39 ?_
  refine s_mmin (pc := 40) C wM_X4_28 wT_mmin wN_J9 wC_mmin (ox_lv3 hR e0) dX4_goThrough_40 ?_
  refine s_puti (pc := 43) (j := 1) (q := (RX4, TX4, 2)) C rfl (by decide) rfl (Or.inl rfl) wF_X4_13 dX4_goThrough_43 ?_
  exact hrc 46
set_option maxRecDepth 100000 in
theorem kX4_goThrough_46 (C : ox_C p s m args c g 4 cX4_goThrough RX4) (hr : meth.sig.returnType = none) (hlk : meth.locks = false) (hnm : meth.name = "goThrough") (hR : R.frames = dp ∧ R.locals = 60 * dp) (e0 : 1 ≤ dp) (h1 : ox_Sem yJ6_compare_7cf53 cJ6_compare_7cf53 2 (some .int) d1 f1) (e1 : d1 + 1 ≤ dp) (h2 : ox_Sem yX4_seedsOneMinuteOn cX4_seedsOneMinuteOn 1 (some .int) d2 f2) (e2 : d2 + 1 ≤ dp) (hrc : ∀ b, ox_S p l e R s m args below meth c g 4 c0 t0 (ox_QM g below args s c0 t0) b (rc b)) : ox_S p l e R s m args below meth c g 4 c0 t0 (ox_QM g below args s c0 t0) 46 (bX4_goThrough_46 f1 f2 rc) := by
  refine s_iconst (pc := 46) C dX4_goThrough_46 (by decide) ?_
  refine s_istore_n (pc := 47) C dX4_goThrough_47 rfl (by decide) ?_
  exact hrc 48
set_option maxRecDepth 100000 in
theorem kX4_goThrough_48 (C : ox_C p s m args c g 4 cX4_goThrough RX4) (hr : meth.sig.returnType = none) (hlk : meth.locks = false) (hnm : meth.name = "goThrough") (hR : R.frames = dp ∧ R.locals = 60 * dp) (e0 : 1 ≤ dp) (h1 : ox_Sem yJ6_compare_7cf53 cJ6_compare_7cf53 2 (some .int) d1 f1) (e1 : d1 + 1 ≤ dp) (h2 : ox_Sem yX4_seedsOneMinuteOn cX4_seedsOneMinuteOn 1 (some .int) d2 f2) (e2 : d2 + 1 ≤ dp) (hrc : ∀ b, ox_S p l e R s m args below meth c g 4 c0 t0 (ox_QM g below args s c0 t0) b (rc b)) : ox_S p l e R s m args below meth c g 4 c0 t0 (ox_QM g below args s c0 t0) 48 (bX4_goThrough_48 f1 f2 rc) := by
  refine s_keep ?_
  refine s_iload_n (pc := 48) C dX4_goThrough_48 rfl ?_
  refine s_aload_n (pc := 49) C dX4_goThrough_49 rfl ?_
  refine s_getr (pc := 50) (j := 4) (q := (RX6, TX6, 5)) C rfl (by decide) rfl wF_X4_21 dX4_goThrough_50 ?_
  refine s_iload_n (pc := 53) C dX4_goThrough_53 rfl ?_
  refine s_ia (pc := 54) C dX4_goThrough_54 ?_
  refine s_icmpge (pc := 55) 104 C dX4_goThrough_55 (by decide) (hrc 104) ?_
  refine s_aload_n (pc := 58) C dX4_goThrough_58 rfl ?_
  refine s_dup (pc := 59) C dX4_goThrough_59 ?_
  refine s_geti (pc := 60) (j := 0) (q := (RX4, TX4, 2)) C rfl (by decide) rfl wF_X4_7 dX4_goThrough_60 ?_
  refine s_aload_n (pc := 63) C dX4_goThrough_63 rfl ?_
  refine s_getr (pc := 64) (j := 3) (q := (RX6, TX6, 5)) C rfl (by decide) rfl wF_X4_25 dX4_goThrough_64 ?_
  refine s_iload_n (pc := 67) C dX4_goThrough_67 rfl ?_
  refine s_ia (pc := 68) C dX4_goThrough_68 ?_
  refine s_aload_n (pc := 69) C dX4_goThrough_69 rfl ?_
  refine s_geti (pc := 70) (j := 0) (q := (RX4, TX4, 2)) C rfl (by decide) rfl wF_X4_7 dX4_goThrough_70 ?_
  refine s_ct (pc := 73) C h1 wM_X4_34 wT_J6_compare_7cf53 wN_J6 wC_J6_compare_7cf53 (by decide +kernel) (ox_lv hR e1 (by decide)) dX4_goThrough_73 ?_
  refine s_iadd (pc := 76) C dX4_goThrough_76 ?_
  refine s_puti (pc := 77) (j := 0) (q := (RX4, TX4, 2)) C rfl (by decide) rfl (Or.inl rfl) wF_X4_7 dX4_goThrough_77 ?_
  refine s_aload_n (pc := 80) C dX4_goThrough_80 rfl ?_
  refine s_iconst (pc := 81) C dX4_goThrough_81 (by decide) ?_
  refine s_sipush (pc := 82) C dX4_goThrough_82 (by decide) ?_
  refine s_aload_n (pc := 85) C dX4_goThrough_85 rfl ?_
  refine s_cv (pc := 86) (q := (RX4, TX4, 2)) C h2 rfl wM_X4_39 wI_X4_seedsOneMinuteOn wS_X4_seedsOneMinuteOn wN_X4 wC_X4_seedsOneMinuteOn (by decide +kernel) (ox_lv hR e2 (by decide)) dX4_goThrough_86 ?_
  refine s_mmin (pc := 89) C wM_X4_28 wT_mmin wN_J9 wC_mmin (ox_lv3 hR e0) dX4_goThrough_89 ?_
  refine s_mmax (pc := 92) C wM_X4_43 wT_mmax wN_J9 wC_mmax (ox_lv3 hR e0) dX4_goThrough_92 ?_
  refine s_puti (pc := 95) (j := 1) (q := (RX4, TX4, 2)) C rfl (by decide) rfl (Or.inl rfl) wF_X4_13 dX4_goThrough_95 ?_
  refine s_iinc (pc := 98) C dX4_goThrough_98 (by decide) (by decide) ?_
  exact s_goto (pc := 101) 48 C dX4_goThrough_101 (by decide) (hrc 48)
set_option maxRecDepth 100000 in
theorem kX4_goThrough_104 (C : ox_C p s m args c g 4 cX4_goThrough RX4) (hr : meth.sig.returnType = none) (hlk : meth.locks = false) (hnm : meth.name = "goThrough") (hR : R.frames = dp ∧ R.locals = 60 * dp) (e0 : 1 ≤ dp) (h1 : ox_Sem yJ6_compare_7cf53 cJ6_compare_7cf53 2 (some .int) d1 f1) (e1 : d1 + 1 ≤ dp) (h2 : ox_Sem yX4_seedsOneMinuteOn cX4_seedsOneMinuteOn 1 (some .int) d2 f2) (e2 : d2 + 1 ≤ dp) (hrc : ∀ b, ox_S p l e R s m args below meth c g 4 c0 t0 (ox_QM g below args s c0 t0) b (rc b)) : ox_S p l e R s m args below meth c g 4 c0 t0 (ox_QM g below args s c0 t0) 104 (bX4_goThrough_104 f1 f2 rc) := by
  refine s_iinc (pc := 104) C dX4_goThrough_104 (by decide) (by decide) ?_
  exact s_goto (pc := 107) 2 C dX4_goThrough_107 (by decide) (hrc 2)
set_option maxRecDepth 100000 in
theorem kX4_goThrough_110 (C : ox_C p s m args c g 4 cX4_goThrough RX4) (hr : meth.sig.returnType = none) (hlk : meth.locks = false) (hnm : meth.name = "goThrough") (hR : R.frames = dp ∧ R.locals = 60 * dp) (e0 : 1 ≤ dp) (h1 : ox_Sem yJ6_compare_7cf53 cJ6_compare_7cf53 2 (some .int) d1 f1) (e1 : d1 + 1 ≤ dp) (h2 : ox_Sem yX4_seedsOneMinuteOn cX4_seedsOneMinuteOn 1 (some .int) d2 f2) (e2 : d2 + 1 ≤ dp) (hrc : ∀ b, ox_S p l e R s m args below meth c g 4 c0 t0 (ox_QM g below args s c0 t0) b (rc b)) : ox_S p l e R s m args below meth c g 4 c0 t0 (ox_QM g below args s c0 t0) 110 (bX4_goThrough_110 f1 f2 rc) := by
  exact s_ret (pc := 110) C hr hlk dX4_goThrough_110
end SX4_goThrough
def bsX4_goThrough (f1 f2 : ox_F) (b : Nat) (rc : Nat → ox_K) : ox_K := if b = 0 then bX4_goThrough_0 f1 f2 rc else if b = 2 then bX4_goThrough_2 f1 f2 rc else if b = 46 then bX4_goThrough_46 f1 f2 rc else if b = 48 then bX4_goThrough_48 f1 f2 rc else if b = 104 then bX4_goThrough_104 f1 f2 rc else if b = 110 then bX4_goThrough_110 f1 f2 rc else ox_no
theorem mX4_goThrough {dp d1 d2 : Nat} {f1 f2 f : ox_F} (e0 : 1 ≤ dp) (h1 : ox_Sem yJ6_compare_7cf53 cJ6_compare_7cf53 2 (some .int) d1 f1) (e1 : d1 + 1 ≤ dp) (h2 : ox_Sem yX4_seedsOneMinuteOn cX4_seedsOneMinuteOn 1 (some .int) d2 f2) (e2 : d2 + 1 ≤ dp) (hf : ∀ as h r, f as h = some r → ox_cs as ≤ 4 ∧ ox_le h r.2 ∧ ∃ n, ox_run (bsX4_goThrough f1 f2) n 0 (lv_args 0 as) [] h = some r) : ox_Sem yX4_goThrough cX4_goThrough 4 none dp f := by
  refine ox_meth (bs := bsX4_goThrough f1 f2) (by decide) hf ?_
  intro p l e R s m args below meth c g c0 t0 C hr hlk hnm hR rc hrc b
  unfold bsX4_goThrough
  split
  · next eb => rw [eb]; exact kX4_goThrough_0 C hr hlk hnm hR e0 h1 e1 h2 e2 hrc
  split
  · next eb => rw [eb]; exact kX4_goThrough_2 C hr hlk hnm hR e0 h1 e1 h2 e2 hrc
  split
  · next eb => rw [eb]; exact kX4_goThrough_46 C hr hlk hnm hR e0 h1 e1 h2 e2 hrc
  split
  · next eb => rw [eb]; exact kX4_goThrough_48 C hr hlk hnm hR e0 h1 e1 h2 e2 hrc
  split
  · next eb => rw [eb]; exact kX4_goThrough_104 C hr hlk hnm hR e0 h1 e1 h2 e2 hrc
  split
  · next eb => rw [eb]; exact kX4_goThrough_110 C hr hlk hnm hR e0 h1 e1 h2 e2 hrc
  exact s_no
theorem dX4_state_0 : decode cX4_state 0 = .ok (.aload_n 0, 1) := by decide +kernel
theorem dX4_state_1 : decode cX4_state 1 = .ok (.getfield 13, 3) := by decide +kernel
theorem dX4_state_4 : decode cX4_state 4 = .ok (.bipush 10, 2) := by decide +kernel
theorem dX4_state_6 : decode cX4_state 6 = .ok (.if_icmp .ge 5, 3) := by decide +kernel
theorem dX4_state_9 : decode cX4_state 9 = .ok (.iconst 0, 1) := by decide +kernel
theorem dX4_state_10 : decode cX4_state 10 = .ok (.ireturn, 1) := by decide +kernel
theorem dX4_state_11 : decode cX4_state 11 = .ok (.aload_n 0, 1) := by decide +kernel
theorem dX4_state_12 : decode cX4_state 12 = .ok (.getfield 13, 3) := by decide +kernel
theorem dX4_state_15 : decode cX4_state 15 = .ok (.bipush 60, 2) := by decide +kernel
theorem dX4_state_17 : decode cX4_state 17 = .ok (.if_icmp .gt 21, 3) := by decide +kernel
theorem dX4_state_20 : decode cX4_state 20 = .ok (.aload_n 0, 1) := by decide +kernel
theorem dX4_state_21 : decode cX4_state 21 = .ok (.getfield 7, 3) := by decide +kernel
theorem dX4_state_24 : decode cX4_state 24 = .ok (.bipush 28, 2) := by decide +kernel
theorem dX4_state_26 : decode cX4_state 26 = .ok (.bipush 33, 2) := by decide +kernel
theorem dX4_state_28 : decode cX4_state 28 = .ok (.invokestatic 46, 3) := by decide +kernel
theorem dX4_state_31 : decode cX4_state 31 = .ok (.ifCond .eq 7, 3) := by decide +kernel
theorem dX4_state_34 : decode cX4_state 34 = .ok (.iconst 1, 1) := by decide +kernel
theorem dX4_state_35 : decode cX4_state 35 = .ok (.goto 4, 3) := by decide +kernel
theorem dX4_state_38 : decode cX4_state 38 = .ok (.iconst 2, 1) := by decide +kernel
theorem dX4_state_39 : decode cX4_state 39 = .ok (.ireturn, 1) := by decide +kernel
def bX4_state_0 (f1 : ox_F) (rc : Nat → ox_K) : ox_K := o_al 0 (o_geti 4 1 (o_ic (10) (o_icge (rc 11) (o_ic (0) (o_iret)))))
def bX4_state_11 (f1 : ox_F) (rc : Nat → ox_K) : ox_K := o_al 0 (o_geti 4 1 (o_ic (60) (o_icgt (rc 38) (o_al 0 (o_geti 4 0 (o_ic (28) (o_ic (33) (o_ct f1 3 (o_ifeq (rc 38) (o_ic (1) (rc 39)))))))))))
def bX4_state_38 (f1 : ox_F) (rc : Nat → ox_K) : ox_K := o_ic (2) (rc 39)
def bX4_state_39 (f1 : ox_F) (rc : Nat → ox_K) : ox_K := o_iret
section SX4_state
variable {p : Program} {l : Launch} {e : Env} {R : Room} {s : State} {m : MethodId} {args : Array Value} {below : List Frame} {meth : Method} {c : Code} {g : ox_G} {c0 t0 dp d1 : Nat} {rc : Nat → ox_K} {f1 : ox_F}
set_option maxRecDepth 100000 in
theorem kX4_state_0 (C : ox_C p s m args c g 1 cX4_state RX4) (hr : meth.sig.returnType = (some .int)) (hlk : meth.locks = false) (hnm : meth.name = "state") (hR : R.frames = dp ∧ R.locals = 60 * dp) (h1 : ox_Sem yX11_within cX11_within 3 (some .boolean) d1 f1) (e1 : d1 + 1 ≤ dp) (hrc : ∀ b, ox_S p l e R s m args below meth c g 1 c0 t0 (ox_QM g below args s c0 t0) b (rc b)) : ox_S p l e R s m args below meth c g 1 c0 t0 (ox_QM g below args s c0 t0) 0 (bX4_state_0 f1 rc) := by
  refine s_aload_n (pc := 0) C dX4_state_0 rfl ?_
  refine s_geti (pc := 1) (j := 1) (q := (RX4, TX4, 2)) C rfl (by decide) rfl wF_X4_13 dX4_state_1 ?_
  refine s_bipush (pc := 4) C dX4_state_4 (by decide) ?_
  refine s_icmpge (pc := 6) 11 C dX4_state_6 (by decide) (hrc 11) ?_
  refine s_iconst (pc := 9) C dX4_state_9 (by decide) ?_
  exact s_iret (pc := 10) C hr hlk dX4_state_10
set_option maxRecDepth 100000 in
theorem kX4_state_11 (C : ox_C p s m args c g 1 cX4_state RX4) (hr : meth.sig.returnType = (some .int)) (hlk : meth.locks = false) (hnm : meth.name = "state") (hR : R.frames = dp ∧ R.locals = 60 * dp) (h1 : ox_Sem yX11_within cX11_within 3 (some .boolean) d1 f1) (e1 : d1 + 1 ≤ dp) (hrc : ∀ b, ox_S p l e R s m args below meth c g 1 c0 t0 (ox_QM g below args s c0 t0) b (rc b)) : ox_S p l e R s m args below meth c g 1 c0 t0 (ox_QM g below args s c0 t0) 11 (bX4_state_11 f1 rc) := by
  refine s_aload_n (pc := 11) C dX4_state_11 rfl ?_
  refine s_geti (pc := 12) (j := 1) (q := (RX4, TX4, 2)) C rfl (by decide) rfl wF_X4_13 dX4_state_12 ?_
  refine s_bipush (pc := 15) C dX4_state_15 (by decide) ?_
  refine s_icmpgt (pc := 17) 38 C dX4_state_17 (by decide) (hrc 38) ?_
  refine s_aload_n (pc := 20) C dX4_state_20 rfl ?_
  refine s_geti (pc := 21) (j := 0) (q := (RX4, TX4, 2)) C rfl (by decide) rfl wF_X4_7 dX4_state_21 ?_
  refine s_bipush (pc := 24) C dX4_state_24 (by decide) ?_
  refine s_bipush (pc := 26) C dX4_state_26 (by decide) ?_
  refine s_ctN (pc := 28) C h1 (by decide +kernel) wT_X11_within wN_X11 wC_X11_within (by decide +kernel) (ox_lv hR e1 (by decide)) dX4_state_28 ?_
  refine s_ifeq (pc := 31) 38 C dX4_state_31 (by decide) (hrc 38) ?_
  refine s_iconst (pc := 34) C dX4_state_34 (by decide) ?_
  exact s_goto (pc := 35) 39 C dX4_state_35 (by decide) (hrc 39)
set_option maxRecDepth 100000 in
theorem kX4_state_38 (C : ox_C p s m args c g 1 cX4_state RX4) (hr : meth.sig.returnType = (some .int)) (hlk : meth.locks = false) (hnm : meth.name = "state") (hR : R.frames = dp ∧ R.locals = 60 * dp) (h1 : ox_Sem yX11_within cX11_within 3 (some .boolean) d1 f1) (e1 : d1 + 1 ≤ dp) (hrc : ∀ b, ox_S p l e R s m args below meth c g 1 c0 t0 (ox_QM g below args s c0 t0) b (rc b)) : ox_S p l e R s m args below meth c g 1 c0 t0 (ox_QM g below args s c0 t0) 38 (bX4_state_38 f1 rc) := by
  refine s_iconst (pc := 38) C dX4_state_38 (by decide) ?_
  exact hrc 39
set_option maxRecDepth 100000 in
theorem kX4_state_39 (C : ox_C p s m args c g 1 cX4_state RX4) (hr : meth.sig.returnType = (some .int)) (hlk : meth.locks = false) (hnm : meth.name = "state") (hR : R.frames = dp ∧ R.locals = 60 * dp) (h1 : ox_Sem yX11_within cX11_within 3 (some .boolean) d1 f1) (e1 : d1 + 1 ≤ dp) (hrc : ∀ b, ox_S p l e R s m args below meth c g 1 c0 t0 (ox_QM g below args s c0 t0) b (rc b)) : ox_S p l e R s m args below meth c g 1 c0 t0 (ox_QM g below args s c0 t0) 39 (bX4_state_39 f1 rc) := by
  exact s_iret (pc := 39) C hr hlk dX4_state_39
end SX4_state
def bsX4_state (f1 : ox_F) (b : Nat) (rc : Nat → ox_K) : ox_K := if b = 0 then bX4_state_0 f1 rc else if b = 11 then bX4_state_11 f1 rc else if b = 38 then bX4_state_38 f1 rc else if b = 39 then bX4_state_39 f1 rc else ox_no
theorem mX4_state {dp d1 : Nat} {f1 f : ox_F} (h1 : ox_Sem yX11_within cX11_within 3 (some .boolean) d1 f1) (e1 : d1 + 1 ≤ dp) (hf : ∀ as h r, f as h = some r → ox_cs as ≤ 1 ∧ ox_le h r.2 ∧ ∃ n, ox_run (bsX4_state f1) n 0 (lv_args 0 as) [] h = some r) : ox_Sem yX4_state cX4_state 1 (some .int) dp f := by
  refine ox_meth (bs := bsX4_state f1) (by decide) hf ?_
  intro p l e R s m args below meth c g c0 t0 C hr hlk hnm hR rc hrc b
  unfold bsX4_state
  split
  · next eb => rw [eb]; exact kX4_state_0 C hr hlk hnm hR h1 e1 hrc
  split
  · next eb => rw [eb]; exact kX4_state_11 C hr hlk hnm hR h1 e1 hrc
  split
  · next eb => rw [eb]; exact kX4_state_38 C hr hlk hnm hR h1 e1 hrc
  split
  · next eb => rw [eb]; exact kX4_state_39 C hr hlk hnm hR h1 e1 hrc
  exact s_no
theorem dX4_thickness_0 : decode cX4_thickness 0 = .ok (.bipush 100, 2) := by decide +kernel
theorem dX4_thickness_2 : decode cX4_thickness 2 = .ok (.iconst 3, 1) := by decide +kernel
theorem dX4_thickness_3 : decode cX4_thickness 3 = .ok (.aload_n 0, 1) := by decide +kernel
theorem dX4_thickness_4 : decode cX4_thickness 4 = .ok (.getfield 13, 3) := by decide +kernel
theorem dX4_thickness_7 : decode cX4_thickness 7 = .ok (.imul, 1) := by decide +kernel
theorem dX4_thickness_8 : decode cX4_thickness 8 = .ok (.iadd, 1) := by decide +kernel
theorem dX4_thickness_9 : decode cX4_thickness 9 = .ok (.bipush 10, 2) := by decide +kernel
theorem dX4_thickness_11 : decode cX4_thickness 11 = .ok (.iconst 0, 1) := by decide +kernel
theorem dX4_thickness_12 : decode cX4_thickness 12 = .ok (.bipush 34, 2) := by decide +kernel
theorem dX4_thickness_14 : decode cX4_thickness 14 = .ok (.aload_n 0, 1) := by decide +kernel
theorem dX4_thickness_15 : decode cX4_thickness 15 = .ok (.getfield 7, 3) := by decide +kernel
theorem dX4_thickness_18 : decode cX4_thickness 18 = .ok (.isub, 1) := by decide +kernel
theorem dX4_thickness_19 : decode cX4_thickness 19 = .ok (.invokestatic 43, 3) := by decide +kernel
theorem dX4_thickness_22 : decode cX4_thickness 22 = .ok (.imul, 1) := by decide +kernel
theorem dX4_thickness_23 : decode cX4_thickness 23 = .ok (.iadd, 1) := by decide +kernel
theorem dX4_thickness_24 : decode cX4_thickness 24 = .ok (.ireturn, 1) := by decide +kernel
def bX4_thickness_0 (rc : Nat → ox_K) : ox_K := o_ic (100) (o_ic (3) (o_al 0 (o_geti 4 1 (o_imul (o_iadd (o_ic (10) (o_ic (0) (o_ic (34) (o_al 0 (o_geti 4 0 (o_isub (o_mmax (o_imul (o_iadd (o_iret)))))))))))))))
section SX4_thickness
variable {p : Program} {l : Launch} {e : Env} {R : Room} {s : State} {m : MethodId} {args : Array Value} {below : List Frame} {meth : Method} {c : Code} {g : ox_G} {c0 t0 dp  : Nat} {rc : Nat → ox_K}
set_option maxRecDepth 100000 in
theorem kX4_thickness_0 (C : ox_C p s m args c g 1 cX4_thickness RX4) (hr : meth.sig.returnType = (some .int)) (hlk : meth.locks = false) (hnm : meth.name = "thickness") (hR : R.frames = dp ∧ R.locals = 60 * dp) (e0 : 1 ≤ dp) (hrc : ∀ b, ox_S p l e R s m args below meth c g 1 c0 t0 (ox_QM g below args s c0 t0) b (rc b)) : ox_S p l e R s m args below meth c g 1 c0 t0 (ox_QM g below args s c0 t0) 0 (bX4_thickness_0 rc) := by
  refine s_bipush (pc := 0) C dX4_thickness_0 (by decide) ?_
  refine s_iconst (pc := 2) C dX4_thickness_2 (by decide) ?_
  refine s_aload_n (pc := 3) C dX4_thickness_3 rfl ?_
  refine s_geti (pc := 4) (j := 1) (q := (RX4, TX4, 2)) C rfl (by decide) rfl wF_X4_13 dX4_thickness_4 ?_
  refine s_imul (pc := 7) C dX4_thickness_7 ?_
  refine s_iadd (pc := 8) C dX4_thickness_8 ?_
  refine s_bipush (pc := 9) C dX4_thickness_9 (by decide) ?_
  refine s_iconst (pc := 11) C dX4_thickness_11 (by decide) ?_
  refine s_bipush (pc := 12) C dX4_thickness_12 (by decide) ?_
  refine s_aload_n (pc := 14) C dX4_thickness_14 rfl ?_
  refine s_geti (pc := 15) (j := 0) (q := (RX4, TX4, 2)) C rfl (by decide) rfl wF_X4_7 dX4_thickness_15 ?_
  refine s_isub (pc := 18) C dX4_thickness_18 ?_
  refine s_mmax (pc := 19) C wM_X4_43 wT_mmax wN_J9 wC_mmax (ox_lv3 hR e0) dX4_thickness_19 ?_
  refine s_imul (pc := 22) C dX4_thickness_22 ?_
  refine s_iadd (pc := 23) C dX4_thickness_23 ?_
  exact s_iret (pc := 24) C hr hlk dX4_thickness_24
end SX4_thickness
def bsX4_thickness (b : Nat) (rc : Nat → ox_K) : ox_K := if b = 0 then bX4_thickness_0 rc else ox_no
theorem mX4_thickness {dp  : Nat} {f : ox_F} (e0 : 1 ≤ dp) (hf : ∀ as h r, f as h = some r → ox_cs as ≤ 1 ∧ ox_le h r.2 ∧ ∃ n, ox_run (bsX4_thickness) n 0 (lv_args 0 as) [] h = some r) : ox_Sem yX4_thickness cX4_thickness 1 (some .int) dp f := by
  refine ox_meth (bs := bsX4_thickness) (by decide) hf ?_
  intro p l e R s m args below meth c g c0 t0 C hr hlk hnm hR rc hrc b
  unfold bsX4_thickness
  split
  · next eb => rw [eb]; exact kX4_thickness_0 C hr hlk hnm hR e0 hrc
  exact s_no
theorem dX4_seedsOneMinuteOn_0 : decode cX4_seedsOneMinuteOn 0 = .ok (.aload_n 0, 1) := by decide +kernel
theorem dX4_seedsOneMinuteOn_1 : decode cX4_seedsOneMinuteOn 1 = .ok (.getfield 7, 3) := by decide +kernel
theorem dX4_seedsOneMinuteOn_4 : decode cX4_seedsOneMinuteOn 4 = .ok (.bipush 27, 2) := by decide +kernel
theorem dX4_seedsOneMinuteOn_6 : decode cX4_seedsOneMinuteOn 6 = .ok (.if_icmp .ge 21, 3) := by decide +kernel
theorem dX4_seedsOneMinuteOn_9 : decode cX4_seedsOneMinuteOn 9 = .ok (.aload_n 0, 1) := by decide +kernel
theorem dX4_seedsOneMinuteOn_10 : decode cX4_seedsOneMinuteOn 10 = .ok (.getfield 13, 3) := by decide +kernel
theorem dX4_seedsOneMinuteOn_13 : decode cX4_seedsOneMinuteOn 13 = .ok (.aload_n 0, 1) := by decide +kernel
theorem dX4_seedsOneMinuteOn_14 : decode cX4_seedsOneMinuteOn 14 = .ok (.getfield 13, 3) := by decide +kernel
theorem dX4_seedsOneMinuteOn_17 : decode cX4_seedsOneMinuteOn 17 = .ok (.bipush 20, 2) := by decide +kernel
theorem dX4_seedsOneMinuteOn_19 : decode cX4_seedsOneMinuteOn 19 = .ok (.imul, 1) := by decide +kernel
theorem dX4_seedsOneMinuteOn_20 : decode cX4_seedsOneMinuteOn 20 = .ok (.bipush 100, 2) := by decide +kernel
theorem dX4_seedsOneMinuteOn_22 : decode cX4_seedsOneMinuteOn 22 = .ok (.idiv, 1) := by decide +kernel
theorem dX4_seedsOneMinuteOn_23 : decode cX4_seedsOneMinuteOn 23 = .ok (.iadd, 1) := by decide +kernel
theorem dX4_seedsOneMinuteOn_24 : decode cX4_seedsOneMinuteOn 24 = .ok (.iconst 1, 1) := by decide +kernel
theorem dX4_seedsOneMinuteOn_25 : decode cX4_seedsOneMinuteOn 25 = .ok (.iadd, 1) := by decide +kernel
theorem dX4_seedsOneMinuteOn_26 : decode cX4_seedsOneMinuteOn 26 = .ok (.ireturn, 1) := by decide +kernel
theorem dX4_seedsOneMinuteOn_27 : decode cX4_seedsOneMinuteOn 27 = .ok (.aload_n 0, 1) := by decide +kernel
theorem dX4_seedsOneMinuteOn_28 : decode cX4_seedsOneMinuteOn 28 = .ok (.getfield 7, 3) := by decide +kernel
theorem dX4_seedsOneMinuteOn_31 : decode cX4_seedsOneMinuteOn 31 = .ok (.bipush 31, 2) := by decide +kernel
theorem dX4_seedsOneMinuteOn_33 : decode cX4_seedsOneMinuteOn 33 = .ok (.if_icmp .gt 18, 3) := by decide +kernel
theorem dX4_seedsOneMinuteOn_36 : decode cX4_seedsOneMinuteOn 36 = .ok (.aload_n 0, 1) := by decide +kernel
theorem dX4_seedsOneMinuteOn_37 : decode cX4_seedsOneMinuteOn 37 = .ok (.getfield 13, 3) := by decide +kernel
theorem dX4_seedsOneMinuteOn_40 : decode cX4_seedsOneMinuteOn 40 = .ok (.aload_n 0, 1) := by decide +kernel
theorem dX4_seedsOneMinuteOn_41 : decode cX4_seedsOneMinuteOn 41 = .ok (.getfield 13, 3) := by decide +kernel
theorem dX4_seedsOneMinuteOn_44 : decode cX4_seedsOneMinuteOn 44 = .ok (.iconst 5, 1) := by decide +kernel
theorem dX4_seedsOneMinuteOn_45 : decode cX4_seedsOneMinuteOn 45 = .ok (.imul, 1) := by decide +kernel
theorem dX4_seedsOneMinuteOn_46 : decode cX4_seedsOneMinuteOn 46 = .ok (.bipush 100, 2) := by decide +kernel
theorem dX4_seedsOneMinuteOn_48 : decode cX4_seedsOneMinuteOn 48 = .ok (.idiv, 1) := by decide +kernel
theorem dX4_seedsOneMinuteOn_49 : decode cX4_seedsOneMinuteOn 49 = .ok (.iadd, 1) := by decide +kernel
theorem dX4_seedsOneMinuteOn_50 : decode cX4_seedsOneMinuteOn 50 = .ok (.ireturn, 1) := by decide +kernel
theorem dX4_seedsOneMinuteOn_51 : decode cX4_seedsOneMinuteOn 51 = .ok (.aload_n 0, 1) := by decide +kernel
theorem dX4_seedsOneMinuteOn_52 : decode cX4_seedsOneMinuteOn 52 = .ok (.getfield 7, 3) := by decide +kernel
theorem dX4_seedsOneMinuteOn_55 : decode cX4_seedsOneMinuteOn 55 = .ok (.bipush 34, 2) := by decide +kernel
theorem dX4_seedsOneMinuteOn_57 : decode cX4_seedsOneMinuteOn 57 = .ok (.if_icmp .gt 10, 3) := by decide +kernel
theorem dX4_seedsOneMinuteOn_60 : decode cX4_seedsOneMinuteOn 60 = .ok (.aload_n 0, 1) := by decide +kernel
theorem dX4_seedsOneMinuteOn_61 : decode cX4_seedsOneMinuteOn 61 = .ok (.getfield 13, 3) := by decide +kernel
theorem dX4_seedsOneMinuteOn_64 : decode cX4_seedsOneMinuteOn 64 = .ok (.goto 20, 3) := by decide +kernel
theorem dX4_seedsOneMinuteOn_67 : decode cX4_seedsOneMinuteOn 67 = .ok (.aload_n 0, 1) := by decide +kernel
theorem dX4_seedsOneMinuteOn_68 : decode cX4_seedsOneMinuteOn 68 = .ok (.getfield 13, 3) := by decide +kernel
theorem dX4_seedsOneMinuteOn_71 : decode cX4_seedsOneMinuteOn 71 = .ok (.aload_n 0, 1) := by decide +kernel
theorem dX4_seedsOneMinuteOn_72 : decode cX4_seedsOneMinuteOn 72 = .ok (.getfield 13, 3) := by decide +kernel
theorem dX4_seedsOneMinuteOn_75 : decode cX4_seedsOneMinuteOn 75 = .ok (.bipush 30, 2) := by decide +kernel
theorem dX4_seedsOneMinuteOn_77 : decode cX4_seedsOneMinuteOn 77 = .ok (.imul, 1) := by decide +kernel
theorem dX4_seedsOneMinuteOn_78 : decode cX4_seedsOneMinuteOn 78 = .ok (.bipush 100, 2) := by decide +kernel
theorem dX4_seedsOneMinuteOn_80 : decode cX4_seedsOneMinuteOn 80 = .ok (.idiv, 1) := by decide +kernel
theorem dX4_seedsOneMinuteOn_81 : decode cX4_seedsOneMinuteOn 81 = .ok (.isub, 1) := by decide +kernel
theorem dX4_seedsOneMinuteOn_82 : decode cX4_seedsOneMinuteOn 82 = .ok (.iconst 1, 1) := by decide +kernel
theorem dX4_seedsOneMinuteOn_83 : decode cX4_seedsOneMinuteOn 83 = .ok (.isub, 1) := by decide +kernel
theorem dX4_seedsOneMinuteOn_84 : decode cX4_seedsOneMinuteOn 84 = .ok (.ireturn, 1) := by decide +kernel
def bX4_seedsOneMinuteOn_0 (rc : Nat → ox_K) : ox_K := o_al 0 (o_geti 4 0 (o_ic (27) (o_icge (rc 27) (o_al 0 (o_geti 4 1 (o_al 0 (o_geti 4 1 (o_ic (20) (o_imul (o_ic (100) (o_idiv (o_iadd (o_ic (1) (o_iadd (o_iret)))))))))))))))
def bX4_seedsOneMinuteOn_27 (rc : Nat → ox_K) : ox_K := o_al 0 (o_geti 4 0 (o_ic (31) (o_icgt (rc 51) (o_al 0 (o_geti 4 1 (o_al 0 (o_geti 4 1 (o_ic (5) (o_imul (o_ic (100) (o_idiv (o_iadd (o_iret)))))))))))))
def bX4_seedsOneMinuteOn_51 (rc : Nat → ox_K) : ox_K := o_al 0 (o_geti 4 0 (o_ic (34) (o_icgt (rc 67) (o_al 0 (o_geti 4 1 (rc 84))))))
def bX4_seedsOneMinuteOn_67 (rc : Nat → ox_K) : ox_K := o_al 0 (o_geti 4 1 (o_al 0 (o_geti 4 1 (o_ic (30) (o_imul (o_ic (100) (o_idiv (o_isub (o_ic (1) (o_isub (rc 84)))))))))))
def bX4_seedsOneMinuteOn_84 (rc : Nat → ox_K) : ox_K := o_iret
section SX4_seedsOneMinuteOn
variable {p : Program} {l : Launch} {e : Env} {R : Room} {s : State} {m : MethodId} {args : Array Value} {below : List Frame} {meth : Method} {c : Code} {g : ox_G} {c0 t0 dp  : Nat} {rc : Nat → ox_K}
set_option maxRecDepth 100000 in
theorem kX4_seedsOneMinuteOn_0 (C : ox_C p s m args c g 1 cX4_seedsOneMinuteOn RX4) (hr : meth.sig.returnType = (some .int)) (hlk : meth.locks = false) (hnm : meth.name = "seedsOneMinuteOn") (hR : R.frames = dp ∧ R.locals = 60 * dp) (hrc : ∀ b, ox_S p l e R s m args below meth c g 1 c0 t0 (ox_QM g below args s c0 t0) b (rc b)) : ox_S p l e R s m args below meth c g 1 c0 t0 (ox_QM g below args s c0 t0) 0 (bX4_seedsOneMinuteOn_0 rc) := by
  refine s_aload_n (pc := 0) C dX4_seedsOneMinuteOn_0 rfl ?_
  refine s_geti (pc := 1) (j := 0) (q := (RX4, TX4, 2)) C rfl (by decide) rfl wF_X4_7 dX4_seedsOneMinuteOn_1 ?_
  refine s_bipush (pc := 4) C dX4_seedsOneMinuteOn_4 (by decide) ?_
  refine s_icmpge (pc := 6) 27 C dX4_seedsOneMinuteOn_6 (by decide) (hrc 27) ?_
  refine s_aload_n (pc := 9) C dX4_seedsOneMinuteOn_9 rfl ?_
  refine s_geti (pc := 10) (j := 1) (q := (RX4, TX4, 2)) C rfl (by decide) rfl wF_X4_13 dX4_seedsOneMinuteOn_10 ?_
  refine s_aload_n (pc := 13) C dX4_seedsOneMinuteOn_13 rfl ?_
  refine s_geti (pc := 14) (j := 1) (q := (RX4, TX4, 2)) C rfl (by decide) rfl wF_X4_13 dX4_seedsOneMinuteOn_14 ?_
  refine s_bipush (pc := 17) C dX4_seedsOneMinuteOn_17 (by decide) ?_
  refine s_imul (pc := 19) C dX4_seedsOneMinuteOn_19 ?_
  refine s_bipush (pc := 20) C dX4_seedsOneMinuteOn_20 (by decide) ?_
  refine s_idiv (pc := 22) C dX4_seedsOneMinuteOn_22 ?_
  refine s_iadd (pc := 23) C dX4_seedsOneMinuteOn_23 ?_
  refine s_iconst (pc := 24) C dX4_seedsOneMinuteOn_24 (by decide) ?_
  refine s_iadd (pc := 25) C dX4_seedsOneMinuteOn_25 ?_
  exact s_iret (pc := 26) C hr hlk dX4_seedsOneMinuteOn_26
set_option maxRecDepth 100000 in
theorem kX4_seedsOneMinuteOn_27 (C : ox_C p s m args c g 1 cX4_seedsOneMinuteOn RX4) (hr : meth.sig.returnType = (some .int)) (hlk : meth.locks = false) (hnm : meth.name = "seedsOneMinuteOn") (hR : R.frames = dp ∧ R.locals = 60 * dp) (hrc : ∀ b, ox_S p l e R s m args below meth c g 1 c0 t0 (ox_QM g below args s c0 t0) b (rc b)) : ox_S p l e R s m args below meth c g 1 c0 t0 (ox_QM g below args s c0 t0) 27 (bX4_seedsOneMinuteOn_27 rc) := by
  refine s_aload_n (pc := 27) C dX4_seedsOneMinuteOn_27 rfl ?_
  refine s_geti (pc := 28) (j := 0) (q := (RX4, TX4, 2)) C rfl (by decide) rfl wF_X4_7 dX4_seedsOneMinuteOn_28 ?_
  refine s_bipush (pc := 31) C dX4_seedsOneMinuteOn_31 (by decide) ?_
  refine s_icmpgt (pc := 33) 51 C dX4_seedsOneMinuteOn_33 (by decide) (hrc 51) ?_
  refine s_aload_n (pc := 36) C dX4_seedsOneMinuteOn_36 rfl ?_
  refine s_geti (pc := 37) (j := 1) (q := (RX4, TX4, 2)) C rfl (by decide) rfl wF_X4_13 dX4_seedsOneMinuteOn_37 ?_
  refine s_aload_n (pc := 40) C dX4_seedsOneMinuteOn_40 rfl ?_
  refine s_geti (pc := 41) (j := 1) (q := (RX4, TX4, 2)) C rfl (by decide) rfl wF_X4_13 dX4_seedsOneMinuteOn_41 ?_
  refine s_iconst (pc := 44) C dX4_seedsOneMinuteOn_44 (by decide) ?_
  refine s_imul (pc := 45) C dX4_seedsOneMinuteOn_45 ?_
  refine s_bipush (pc := 46) C dX4_seedsOneMinuteOn_46 (by decide) ?_
  refine s_idiv (pc := 48) C dX4_seedsOneMinuteOn_48 ?_
  refine s_iadd (pc := 49) C dX4_seedsOneMinuteOn_49 ?_
  exact s_iret (pc := 50) C hr hlk dX4_seedsOneMinuteOn_50
set_option maxRecDepth 100000 in
theorem kX4_seedsOneMinuteOn_51 (C : ox_C p s m args c g 1 cX4_seedsOneMinuteOn RX4) (hr : meth.sig.returnType = (some .int)) (hlk : meth.locks = false) (hnm : meth.name = "seedsOneMinuteOn") (hR : R.frames = dp ∧ R.locals = 60 * dp) (hrc : ∀ b, ox_S p l e R s m args below meth c g 1 c0 t0 (ox_QM g below args s c0 t0) b (rc b)) : ox_S p l e R s m args below meth c g 1 c0 t0 (ox_QM g below args s c0 t0) 51 (bX4_seedsOneMinuteOn_51 rc) := by
  refine s_aload_n (pc := 51) C dX4_seedsOneMinuteOn_51 rfl ?_
  refine s_geti (pc := 52) (j := 0) (q := (RX4, TX4, 2)) C rfl (by decide) rfl wF_X4_7 dX4_seedsOneMinuteOn_52 ?_
  refine s_bipush (pc := 55) C dX4_seedsOneMinuteOn_55 (by decide) ?_
  refine s_icmpgt (pc := 57) 67 C dX4_seedsOneMinuteOn_57 (by decide) (hrc 67) ?_
  refine s_aload_n (pc := 60) C dX4_seedsOneMinuteOn_60 rfl ?_
  refine s_geti (pc := 61) (j := 1) (q := (RX4, TX4, 2)) C rfl (by decide) rfl wF_X4_13 dX4_seedsOneMinuteOn_61 ?_
  exact s_goto (pc := 64) 84 C dX4_seedsOneMinuteOn_64 (by decide) (hrc 84)
set_option maxRecDepth 100000 in
theorem kX4_seedsOneMinuteOn_67 (C : ox_C p s m args c g 1 cX4_seedsOneMinuteOn RX4) (hr : meth.sig.returnType = (some .int)) (hlk : meth.locks = false) (hnm : meth.name = "seedsOneMinuteOn") (hR : R.frames = dp ∧ R.locals = 60 * dp) (hrc : ∀ b, ox_S p l e R s m args below meth c g 1 c0 t0 (ox_QM g below args s c0 t0) b (rc b)) : ox_S p l e R s m args below meth c g 1 c0 t0 (ox_QM g below args s c0 t0) 67 (bX4_seedsOneMinuteOn_67 rc) := by
  refine s_aload_n (pc := 67) C dX4_seedsOneMinuteOn_67 rfl ?_
  refine s_geti (pc := 68) (j := 1) (q := (RX4, TX4, 2)) C rfl (by decide) rfl wF_X4_13 dX4_seedsOneMinuteOn_68 ?_
  refine s_aload_n (pc := 71) C dX4_seedsOneMinuteOn_71 rfl ?_
  refine s_geti (pc := 72) (j := 1) (q := (RX4, TX4, 2)) C rfl (by decide) rfl wF_X4_13 dX4_seedsOneMinuteOn_72 ?_
  refine s_bipush (pc := 75) C dX4_seedsOneMinuteOn_75 (by decide) ?_
  refine s_imul (pc := 77) C dX4_seedsOneMinuteOn_77 ?_
  refine s_bipush (pc := 78) C dX4_seedsOneMinuteOn_78 (by decide) ?_
  refine s_idiv (pc := 80) C dX4_seedsOneMinuteOn_80 ?_
  refine s_isub (pc := 81) C dX4_seedsOneMinuteOn_81 ?_
  refine s_iconst (pc := 82) C dX4_seedsOneMinuteOn_82 (by decide) ?_
  refine s_isub (pc := 83) C dX4_seedsOneMinuteOn_83 ?_
  exact hrc 84
set_option maxRecDepth 100000 in
theorem kX4_seedsOneMinuteOn_84 (C : ox_C p s m args c g 1 cX4_seedsOneMinuteOn RX4) (hr : meth.sig.returnType = (some .int)) (hlk : meth.locks = false) (hnm : meth.name = "seedsOneMinuteOn") (hR : R.frames = dp ∧ R.locals = 60 * dp) (hrc : ∀ b, ox_S p l e R s m args below meth c g 1 c0 t0 (ox_QM g below args s c0 t0) b (rc b)) : ox_S p l e R s m args below meth c g 1 c0 t0 (ox_QM g below args s c0 t0) 84 (bX4_seedsOneMinuteOn_84 rc) := by
  exact s_iret (pc := 84) C hr hlk dX4_seedsOneMinuteOn_84
end SX4_seedsOneMinuteOn
def bsX4_seedsOneMinuteOn (b : Nat) (rc : Nat → ox_K) : ox_K := if b = 0 then bX4_seedsOneMinuteOn_0 rc else if b = 27 then bX4_seedsOneMinuteOn_27 rc else if b = 51 then bX4_seedsOneMinuteOn_51 rc else if b = 67 then bX4_seedsOneMinuteOn_67 rc else if b = 84 then bX4_seedsOneMinuteOn_84 rc else ox_no
theorem mX4_seedsOneMinuteOn {dp  : Nat} {f : ox_F} (hf : ∀ as h r, f as h = some r → ox_cs as ≤ 1 ∧ ox_le h r.2 ∧ ∃ n, ox_run (bsX4_seedsOneMinuteOn) n 0 (lv_args 0 as) [] h = some r) : ox_Sem yX4_seedsOneMinuteOn cX4_seedsOneMinuteOn 1 (some .int) dp f := by
  refine ox_meth (bs := bsX4_seedsOneMinuteOn) (by decide) hf ?_
  intro p l e R s m args below meth c g c0 t0 C hr hlk hnm hR rc hrc b
  unfold bsX4_seedsOneMinuteOn
  split
  · next eb => rw [eb]; exact kX4_seedsOneMinuteOn_0 C hr hlk hnm hR hrc
  split
  · next eb => rw [eb]; exact kX4_seedsOneMinuteOn_27 C hr hlk hnm hR hrc
  split
  · next eb => rw [eb]; exact kX4_seedsOneMinuteOn_51 C hr hlk hnm hR hrc
  split
  · next eb => rw [eb]; exact kX4_seedsOneMinuteOn_67 C hr hlk hnm hR hrc
  split
  · next eb => rw [eb]; exact kX4_seedsOneMinuteOn_84 C hr hlk hnm hR hrc
  exact s_no
end
section
theorem dX5_init_0 : decode cX5_init 0 = .ok (.aload_n 0, 1) := by decide +kernel
theorem dX5_init_1 : decode cX5_init 1 = .ok (.invokespecial 1, 3) := by decide +kernel
theorem dX5_init_4 : decode cX5_init 4 = .ok (.return_, 1) := by decide +kernel
def bX5_init_0 (rc : Nat → ox_K) : ox_K := o_al 0 (o_obj (o_ret))
section SX5_init
variable {p : Program} {l : Launch} {e : Env} {R : Room} {s : State} {m : MethodId} {args : Array Value} {below : List Frame} {meth : Method} {c : Code} {g : ox_G} {c0 t0 dp  : Nat} {rc : Nat → ox_K}
set_option maxRecDepth 100000 in
theorem kX5_init_0 (C : ox_C p s m args c g 1 cX5_init RX5) (hr : meth.sig.returnType = none) (hlk : meth.locks = false) (hnm : meth.name = "<init>") (hR : R.frames = dp ∧ R.locals = 60 * dp) (e0 : 1 ≤ dp) (hrc : ∀ b, ox_S p l e R s m args below meth c g 1 c0 t0 (ox_QM g below args s c0 t0) b (rc b)) : ox_S p l e R s m args below meth c g 1 c0 t0 (ox_QM g below args s c0 t0) 0 (bX5_init_0 rc) := by
  refine s_aload_n (pc := 0) C dX5_init_0 rfl ?_
  refine s_obj (pc := 1) C wM_X5_1 wO1 wO2 (ox_lv1 hR e0) dX5_init_1 ?_
  exact s_ret (pc := 4) C hr hlk dX5_init_4
end SX5_init
def bsX5_init (b : Nat) (rc : Nat → ox_K) : ox_K := if b = 0 then bX5_init_0 rc else ox_no
theorem mX5_init {dp  : Nat} {f : ox_F} (e0 : 1 ≤ dp) (hf : ∀ as h r, f as h = some r → ox_cs as ≤ 1 ∧ ox_le h r.2 ∧ ∃ n, ox_run (bsX5_init) n 0 (lv_args 0 as) [] h = some r) : ox_Sem yX5_init cX5_init 1 none dp f := by
  refine ox_meth (bs := bsX5_init) (by decide) hf ?_
  intro p l e R s m args below meth c g c0 t0 C hr hlk hnm hR rc hrc b
  unfold bsX5_init
  split
  · next eb => rw [eb]; exact kX5_init_0 C hr hlk hnm hR e0 hrc
  exact s_no
theorem dX5_isEmpty_0 : decode cX5_isEmpty 0 = .ok (.aload_n 0, 1) := by decide +kernel
theorem dX5_isEmpty_1 : decode cX5_isEmpty 1 = .ok (.getfield 7, 3) := by decide +kernel
theorem dX5_isEmpty_4 : decode cX5_isEmpty 4 = .ok (.ifCond .ne 7, 3) := by decide +kernel
theorem dX5_isEmpty_7 : decode cX5_isEmpty 7 = .ok (.iconst 1, 1) := by decide +kernel
theorem dX5_isEmpty_8 : decode cX5_isEmpty 8 = .ok (.goto 4, 3) := by decide +kernel
theorem dX5_isEmpty_11 : decode cX5_isEmpty 11 = .ok (.iconst 0, 1) := by decide +kernel
theorem dX5_isEmpty_12 : decode cX5_isEmpty 12 = .ok (.ireturn, 1) := by decide +kernel
def bX5_isEmpty_0 (rc : Nat → ox_K) : ox_K := o_al 0 (o_geti 5 0 (o_ifne (rc 11) (o_ic (1) (rc 12))))
def bX5_isEmpty_11 (rc : Nat → ox_K) : ox_K := o_ic (0) (rc 12)
def bX5_isEmpty_12 (rc : Nat → ox_K) : ox_K := o_zret
section SX5_isEmpty
variable {p : Program} {l : Launch} {e : Env} {R : Room} {s : State} {m : MethodId} {args : Array Value} {below : List Frame} {meth : Method} {c : Code} {g : ox_G} {c0 t0 dp  : Nat} {rc : Nat → ox_K}
set_option maxRecDepth 100000 in
theorem kX5_isEmpty_0 (C : ox_C p s m args c g 1 cX5_isEmpty RX5) (hr : meth.sig.returnType = (some .boolean)) (hlk : meth.locks = false) (hnm : meth.name = "isEmpty") (hR : R.frames = dp ∧ R.locals = 60 * dp) (hrc : ∀ b, ox_S p l e R s m args below meth c g 1 c0 t0 (ox_QM g below args s c0 t0) b (rc b)) : ox_S p l e R s m args below meth c g 1 c0 t0 (ox_QM g below args s c0 t0) 0 (bX5_isEmpty_0 rc) := by
  refine s_aload_n (pc := 0) C dX5_isEmpty_0 rfl ?_
  refine s_geti (pc := 1) (j := 0) (q := (RX5, TX5, 8)) C rfl (by decide) rfl wF_X5_7 dX5_isEmpty_1 ?_
  refine s_ifne (pc := 4) 11 C dX5_isEmpty_4 (by decide) (hrc 11) ?_
  refine s_iconst (pc := 7) C dX5_isEmpty_7 (by decide) ?_
  exact s_goto (pc := 8) 12 C dX5_isEmpty_8 (by decide) (hrc 12)
set_option maxRecDepth 100000 in
theorem kX5_isEmpty_11 (C : ox_C p s m args c g 1 cX5_isEmpty RX5) (hr : meth.sig.returnType = (some .boolean)) (hlk : meth.locks = false) (hnm : meth.name = "isEmpty") (hR : R.frames = dp ∧ R.locals = 60 * dp) (hrc : ∀ b, ox_S p l e R s m args below meth c g 1 c0 t0 (ox_QM g below args s c0 t0) b (rc b)) : ox_S p l e R s m args below meth c g 1 c0 t0 (ox_QM g below args s c0 t0) 11 (bX5_isEmpty_11 rc) := by
  refine s_iconst (pc := 11) C dX5_isEmpty_11 (by decide) ?_
  exact hrc 12
set_option maxRecDepth 100000 in
theorem kX5_isEmpty_12 (C : ox_C p s m args c g 1 cX5_isEmpty RX5) (hr : meth.sig.returnType = (some .boolean)) (hlk : meth.locks = false) (hnm : meth.name = "isEmpty") (hR : R.frames = dp ∧ R.locals = 60 * dp) (hrc : ∀ b, ox_S p l e R s m args below meth c g 1 c0 t0 (ox_QM g below args s c0 t0) b (rc b)) : ox_S p l e R s m args below meth c g 1 c0 t0 (ox_QM g below args s c0 t0) 12 (bX5_isEmpty_12 rc) := by
  exact s_zret (pc := 12) C hr (by decide) hlk dX5_isEmpty_12
end SX5_isEmpty
def bsX5_isEmpty (b : Nat) (rc : Nat → ox_K) : ox_K := if b = 0 then bX5_isEmpty_0 rc else if b = 11 then bX5_isEmpty_11 rc else if b = 12 then bX5_isEmpty_12 rc else ox_no
theorem mX5_isEmpty {dp  : Nat} {f : ox_F} (hf : ∀ as h r, f as h = some r → ox_cs as ≤ 1 ∧ ox_le h r.2 ∧ ∃ n, ox_run (bsX5_isEmpty) n 0 (lv_args 0 as) [] h = some r) : ox_Sem yX5_isEmpty cX5_isEmpty 1 (some .boolean) dp f := by
  refine ox_meth (bs := bsX5_isEmpty) (by decide) hf ?_
  intro p l e R s m args below meth c g c0 t0 C hr hlk hnm hR rc hrc b
  unfold bsX5_isEmpty
  split
  · next eb => rw [eb]; exact kX5_isEmpty_0 C hr hlk hnm hR hrc
  split
  · next eb => rw [eb]; exact kX5_isEmpty_11 C hr hlk hnm hR hrc
  split
  · next eb => rw [eb]; exact kX5_isEmpty_12 C hr hlk hnm hR hrc
  exact s_no
theorem dX5_takeFrom_0 : decode cX5_takeFrom 0 = .ok (.aload_n 0, 1) := by decide +kernel
theorem dX5_takeFrom_1 : decode cX5_takeFrom 1 = .ok (.iload_n 2, 1) := by decide +kernel
theorem dX5_takeFrom_2 : decode cX5_takeFrom 2 = .ok (.putfield 7, 3) := by decide +kernel
theorem dX5_takeFrom_5 : decode cX5_takeFrom 5 = .ok (.aload_n 0, 1) := by decide +kernel
theorem dX5_takeFrom_6 : decode cX5_takeFrom 6 = .ok (.iconst 0, 1) := by decide +kernel
theorem dX5_takeFrom_7 : decode cX5_takeFrom 7 = .ok (.putfield 13, 3) := by decide +kernel
theorem dX5_takeFrom_10 : decode cX5_takeFrom 10 = .ok (.aload_n 0, 1) := by decide +kernel
theorem dX5_takeFrom_11 : decode cX5_takeFrom 11 = .ok (.aload_n 1, 1) := by decide +kernel
theorem dX5_takeFrom_12 : decode cX5_takeFrom 12 = .ok (.getfield 16, 3) := by decide +kernel
theorem dX5_takeFrom_15 : decode cX5_takeFrom 15 = .ok (.putfield 21, 3) := by decide +kernel
theorem dX5_takeFrom_18 : decode cX5_takeFrom 18 = .ok (.aload_n 0, 1) := by decide +kernel
theorem dX5_takeFrom_19 : decode cX5_takeFrom 19 = .ok (.aload_n 1, 1) := by decide +kernel
theorem dX5_takeFrom_20 : decode cX5_takeFrom 20 = .ok (.getfield 22, 3) := by decide +kernel
theorem dX5_takeFrom_23 : decode cX5_takeFrom 23 = .ok (.putfield 25, 3) := by decide +kernel
theorem dX5_takeFrom_26 : decode cX5_takeFrom 26 = .ok (.aload_n 0, 1) := by decide +kernel
theorem dX5_takeFrom_27 : decode cX5_takeFrom 27 = .ok (.aload_n 1, 1) := by decide +kernel
theorem dX5_takeFrom_28 : decode cX5_takeFrom 28 = .ok (.getfield 26, 3) := by decide +kernel
theorem dX5_takeFrom_31 : decode cX5_takeFrom 31 = .ok (.getfield 30, 3) := by decide +kernel
theorem dX5_takeFrom_34 : decode cX5_takeFrom 34 = .ok (.putfield 35, 3) := by decide +kernel
theorem dX5_takeFrom_37 : decode cX5_takeFrom 37 = .ok (.aload_n 0, 1) := by decide +kernel
theorem dX5_takeFrom_38 : decode cX5_takeFrom 38 = .ok (.aload_n 1, 1) := by decide +kernel
theorem dX5_takeFrom_39 : decode cX5_takeFrom 39 = .ok (.getfield 26, 3) := by decide +kernel
theorem dX5_takeFrom_42 : decode cX5_takeFrom 42 = .ok (.invokevirtual 36, 3) := by decide +kernel
theorem dX5_takeFrom_45 : decode cX5_takeFrom 45 = .ok (.iconst 1, 1) := by decide +kernel
theorem dX5_takeFrom_46 : decode cX5_takeFrom 46 = .ok (.if_icmp .ne 7, 3) := by decide +kernel
theorem dX5_takeFrom_49 : decode cX5_takeFrom 49 = .ok (.iconst 1, 1) := by decide +kernel
theorem dX5_takeFrom_50 : decode cX5_takeFrom 50 = .ok (.goto 4, 3) := by decide +kernel
theorem dX5_takeFrom_53 : decode cX5_takeFrom 53 = .ok (.iconst 0, 1) := by decide +kernel
theorem dX5_takeFrom_54 : decode cX5_takeFrom 54 = .ok (.putfield 40, 3) := by decide +kernel
theorem dX5_takeFrom_57 : decode cX5_takeFrom 57 = .ok (.aload_n 0, 1) := by decide +kernel
theorem dX5_takeFrom_58 : decode cX5_takeFrom 58 = .ok (.iconst 0, 1) := by decide +kernel
theorem dX5_takeFrom_59 : decode cX5_takeFrom 59 = .ok (.putfield 44, 3) := by decide +kernel
theorem dX5_takeFrom_62 : decode cX5_takeFrom 62 = .ok (.aload_n 0, 1) := by decide +kernel
theorem dX5_takeFrom_63 : decode cX5_takeFrom 63 = .ok (.iconst 0, 1) := by decide +kernel
theorem dX5_takeFrom_64 : decode cX5_takeFrom 64 = .ok (.putfield 47, 3) := by decide +kernel
theorem dX5_takeFrom_67 : decode cX5_takeFrom 67 = .ok (.aload_n 1, 1) := by decide +kernel
theorem dX5_takeFrom_68 : decode cX5_takeFrom 68 = .ok (.iload_n 2, 1) := by decide +kernel
theorem dX5_takeFrom_69 : decode cX5_takeFrom 69 = .ok (.invokevirtual 50, 3) := by decide +kernel
theorem dX5_takeFrom_72 : decode cX5_takeFrom 72 = .ok (.return_, 1) := by decide +kernel
def bX5_takeFrom_0 (f1 f2 : ox_F) (rc : Nat → ox_K) : ox_K := o_al 0 (o_il 2 (o_puti 5 0 (o_al 0 (o_ic (0) (o_puti 5 1 (o_al 0 (o_al 1 (o_geti 9 2 (o_puti 5 2 (o_al 0 (o_al 1 (o_geti 9 3 (o_puti 5 3 (o_al 0 (o_al 1 (o_getr 9 4 (o_geti 4 0 (o_puti 5 4 (o_al 0 (o_al 1 (o_getr 9 4 (o_cv f1 4 0 (o_ic (1) (o_icne (rc 53) (o_ic (1) (rc 54))))))))))))))))))))))))))
def bX5_takeFrom_53 (f1 f2 : ox_F) (rc : Nat → ox_K) : ox_K := o_ic (0) (rc 54)
def bX5_takeFrom_54 (f1 f2 : ox_F) (rc : Nat → ox_K) : ox_K := o_putz 5 5 (o_al 0 (o_ic (0) (o_putz 5 6 (o_al 0 (o_ic (0) (o_putz 5 7 (o_al 1 (o_il 2 (o_cv f2 9 1 (o_ret))))))))))
section SX5_takeFrom
variable {p : Program} {l : Launch} {e : Env} {R : Room} {s : State} {m : MethodId} {args : Array Value} {below : List Frame} {meth : Method} {c : Code} {g : ox_G} {c0 t0 dp d1 d2 : Nat} {rc : Nat → ox_K} {f1 f2 : ox_F}
set_option maxRecDepth 100000 in
theorem kX5_takeFrom_0 (C : ox_C p s m args c g 3 cX5_takeFrom RX5) (hr : meth.sig.returnType = none) (hlk : meth.locks = false) (hnm : meth.name = "takeFrom") (hR : R.frames = dp ∧ R.locals = 60 * dp) (h1 : ox_Sem yX4_state cX4_state 1 (some .int) d1 f1) (e1 : d1 + 1 ≤ dp) (h2 : ox_Sem yX9_giveOut cX9_giveOut 2 none d2 f2) (e2 : d2 + 1 ≤ dp) (hrc : ∀ b, ox_S p l e R s m args below meth c g 3 c0 t0 (ox_QM g below args s c0 t0) b (rc b)) : ox_S p l e R s m args below meth c g 3 c0 t0 (ox_QM g below args s c0 t0) 0 (bX5_takeFrom_0 f1 f2 rc) := by
  refine s_aload_n (pc := 0) C dX5_takeFrom_0 rfl ?_
  refine s_iload_n (pc := 1) C dX5_takeFrom_1 rfl ?_
  refine s_puti (pc := 2) (j := 0) (q := (RX5, TX5, 8)) C rfl (by decide) rfl (Or.inl rfl) wF_X5_7 dX5_takeFrom_2 ?_
  refine s_aload_n (pc := 5) C dX5_takeFrom_5 rfl ?_
  refine s_iconst (pc := 6) C dX5_takeFrom_6 (by decide) ?_
  refine s_puti (pc := 7) (j := 1) (q := (RX5, TX5, 8)) C rfl (by decide) rfl (Or.inl rfl) wF_X5_13 dX5_takeFrom_7 ?_
  refine s_aload_n (pc := 10) C dX5_takeFrom_10 rfl ?_
  refine s_aload_n (pc := 11) C dX5_takeFrom_11 rfl ?_
  refine s_geti (pc := 12) (j := 2) (q := (RX9, TX9, 5)) C rfl (by decide) rfl wF_X5_16 dX5_takeFrom_12 ?_
  refine s_puti (pc := 15) (j := 2) (q := (RX5, TX5, 8)) C rfl (by decide) rfl (Or.inl rfl) wF_X5_21 dX5_takeFrom_15 ?_
  refine s_aload_n (pc := 18) C dX5_takeFrom_18 rfl ?_
  refine s_aload_n (pc := 19) C dX5_takeFrom_19 rfl ?_
  refine s_geti (pc := 20) (j := 3) (q := (RX9, TX9, 5)) C rfl (by decide) rfl wF_X5_22 dX5_takeFrom_20 ?_
  refine s_puti (pc := 23) (j := 3) (q := (RX5, TX5, 8)) C rfl (by decide) rfl (Or.inl rfl) wF_X5_25 dX5_takeFrom_23 ?_
  refine s_aload_n (pc := 26) C dX5_takeFrom_26 rfl ?_
  refine s_aload_n (pc := 27) C dX5_takeFrom_27 rfl ?_
  refine s_getr (pc := 28) (j := 4) (q := (RX9, TX9, 5)) C rfl (by decide) rfl wF_X5_26 dX5_takeFrom_28 ?_
  refine s_geti (pc := 31) (j := 0) (q := (RX4, TX4, 2)) C rfl (by decide) rfl wF_X5_30 dX5_takeFrom_31 ?_
  refine s_puti (pc := 34) (j := 4) (q := (RX5, TX5, 8)) C rfl (by decide) rfl (Or.inl rfl) wF_X5_35 dX5_takeFrom_34 ?_
  refine s_aload_n (pc := 37) C dX5_takeFrom_37 rfl ?_
  refine s_aload_n (pc := 38) C dX5_takeFrom_38 rfl ?_
  refine s_getr (pc := 39) (j := 4) (q := (RX9, TX9, 5)) C rfl (by decide) rfl wF_X5_26 dX5_takeFrom_39 ?_
  refine s_cv (pc := 42) (q := (RX4, TX4, 2)) C h1 rfl wM_X5_36 wI_X4_state wS_X4_state wN_X4 wC_X4_state (by decide +kernel) (ox_lv hR e1 (by decide)) dX5_takeFrom_42 ?_
  refine s_iconst (pc := 45) C dX5_takeFrom_45 (by decide) ?_
  refine s_icmpne (pc := 46) 53 C dX5_takeFrom_46 (by decide) (hrc 53) ?_
  refine s_iconst (pc := 49) C dX5_takeFrom_49 (by decide) ?_
  exact s_goto (pc := 50) 54 C dX5_takeFrom_50 (by decide) (hrc 54)
set_option maxRecDepth 100000 in
theorem kX5_takeFrom_53 (C : ox_C p s m args c g 3 cX5_takeFrom RX5) (hr : meth.sig.returnType = none) (hlk : meth.locks = false) (hnm : meth.name = "takeFrom") (hR : R.frames = dp ∧ R.locals = 60 * dp) (h1 : ox_Sem yX4_state cX4_state 1 (some .int) d1 f1) (e1 : d1 + 1 ≤ dp) (h2 : ox_Sem yX9_giveOut cX9_giveOut 2 none d2 f2) (e2 : d2 + 1 ≤ dp) (hrc : ∀ b, ox_S p l e R s m args below meth c g 3 c0 t0 (ox_QM g below args s c0 t0) b (rc b)) : ox_S p l e R s m args below meth c g 3 c0 t0 (ox_QM g below args s c0 t0) 53 (bX5_takeFrom_53 f1 f2 rc) := by
  refine s_iconst (pc := 53) C dX5_takeFrom_53 (by decide) ?_
  exact hrc 54
set_option maxRecDepth 100000 in
theorem kX5_takeFrom_54 (C : ox_C p s m args c g 3 cX5_takeFrom RX5) (hr : meth.sig.returnType = none) (hlk : meth.locks = false) (hnm : meth.name = "takeFrom") (hR : R.frames = dp ∧ R.locals = 60 * dp) (h1 : ox_Sem yX4_state cX4_state 1 (some .int) d1 f1) (e1 : d1 + 1 ≤ dp) (h2 : ox_Sem yX9_giveOut cX9_giveOut 2 none d2 f2) (e2 : d2 + 1 ≤ dp) (hrc : ∀ b, ox_S p l e R s m args below meth c g 3 c0 t0 (ox_QM g below args s c0 t0) b (rc b)) : ox_S p l e R s m args below meth c g 3 c0 t0 (ox_QM g below args s c0 t0) 54 (bX5_takeFrom_54 f1 f2 rc) := by
  refine s_putz (pc := 54) (j := 5) (q := (RX5, TX5, 8)) C rfl (by decide) rfl (Or.inl rfl) wF_X5_40 dX5_takeFrom_54 ?_
  refine s_aload_n (pc := 57) C dX5_takeFrom_57 rfl ?_
  refine s_iconst (pc := 58) C dX5_takeFrom_58 (by decide) ?_
  refine s_putz (pc := 59) (j := 6) (q := (RX5, TX5, 8)) C rfl (by decide) rfl (Or.inl rfl) wF_X5_44 dX5_takeFrom_59 ?_
  refine s_aload_n (pc := 62) C dX5_takeFrom_62 rfl ?_
  refine s_iconst (pc := 63) C dX5_takeFrom_63 (by decide) ?_
  refine s_putz (pc := 64) (j := 7) (q := (RX5, TX5, 8)) C rfl (by decide) rfl (Or.inl rfl) wF_X5_47 dX5_takeFrom_64 ?_
  refine s_aload_n (pc := 67) C dX5_takeFrom_67 rfl ?_
  refine s_iload_n (pc := 68) C dX5_takeFrom_68 rfl ?_
  refine s_cv (pc := 69) (q := (RX9, TX9, 5)) C h2 rfl wM_X5_50 wI_X9_giveOut wS_X9_giveOut wN_X9 wC_X9_giveOut (by decide +kernel) (ox_lv hR e2 (by decide)) dX5_takeFrom_69 ?_
  exact s_ret (pc := 72) C hr hlk dX5_takeFrom_72
end SX5_takeFrom
def bsX5_takeFrom (f1 f2 : ox_F) (b : Nat) (rc : Nat → ox_K) : ox_K := if b = 0 then bX5_takeFrom_0 f1 f2 rc else if b = 53 then bX5_takeFrom_53 f1 f2 rc else if b = 54 then bX5_takeFrom_54 f1 f2 rc else ox_no
theorem mX5_takeFrom {dp d1 d2 : Nat} {f1 f2 f : ox_F} (h1 : ox_Sem yX4_state cX4_state 1 (some .int) d1 f1) (e1 : d1 + 1 ≤ dp) (h2 : ox_Sem yX9_giveOut cX9_giveOut 2 none d2 f2) (e2 : d2 + 1 ≤ dp) (hf : ∀ as h r, f as h = some r → ox_cs as ≤ 3 ∧ ox_le h r.2 ∧ ∃ n, ox_run (bsX5_takeFrom f1 f2) n 0 (lv_args 0 as) [] h = some r) : ox_Sem yX5_takeFrom cX5_takeFrom 3 none dp f := by
  refine ox_meth (bs := bsX5_takeFrom f1 f2) (by decide) hf ?_
  intro p l e R s m args below meth c g c0 t0 C hr hlk hnm hR rc hrc b
  unfold bsX5_takeFrom
  split
  · next eb => rw [eb]; exact kX5_takeFrom_0 C hr hlk hnm hR h1 e1 h2 e2 hrc
  split
  · next eb => rw [eb]; exact kX5_takeFrom_53 C hr hlk hnm hR h1 e1 h2 e2 hrc
  split
  · next eb => rw [eb]; exact kX5_takeFrom_54 C hr hlk hnm hR h1 e1 h2 e2 hrc
  exact s_no
theorem dX5_shake_0 : decode cX5_shake 0 = .ok (.aload_n 0, 1) := by decide +kernel
theorem dX5_shake_1 : decode cX5_shake 1 = .ok (.invokevirtual 54, 3) := by decide +kernel
theorem dX5_shake_4 : decode cX5_shake 4 = .ok (.ifCond .ne 8, 3) := by decide +kernel
theorem dX5_shake_7 : decode cX5_shake 7 = .ok (.aload_n 0, 1) := by decide +kernel
theorem dX5_shake_8 : decode cX5_shake 8 = .ok (.iconst 1, 1) := by decide +kernel
theorem dX5_shake_9 : decode cX5_shake 9 = .ok (.putfield 44, 3) := by decide +kernel
theorem dX5_shake_12 : decode cX5_shake 12 = .ok (.return_, 1) := by decide +kernel
def bX5_shake_0 (f1 : ox_F) (rc : Nat → ox_K) : ox_K := o_al 0 (o_cv f1 5 0 (o_ifne (rc 12) (o_al 0 (o_ic (1) (o_putz 5 6 (rc 12))))))
def bX5_shake_12 (f1 : ox_F) (rc : Nat → ox_K) : ox_K := o_ret
section SX5_shake
variable {p : Program} {l : Launch} {e : Env} {R : Room} {s : State} {m : MethodId} {args : Array Value} {below : List Frame} {meth : Method} {c : Code} {g : ox_G} {c0 t0 dp d1 : Nat} {rc : Nat → ox_K} {f1 : ox_F}
set_option maxRecDepth 100000 in
theorem kX5_shake_0 (C : ox_C p s m args c g 1 cX5_shake RX5) (hr : meth.sig.returnType = none) (hlk : meth.locks = false) (hnm : meth.name = "shake") (hR : R.frames = dp ∧ R.locals = 60 * dp) (h1 : ox_Sem yX5_isEmpty cX5_isEmpty 1 (some .boolean) d1 f1) (e1 : d1 + 1 ≤ dp) (hrc : ∀ b, ox_S p l e R s m args below meth c g 1 c0 t0 (ox_QM g below args s c0 t0) b (rc b)) : ox_S p l e R s m args below meth c g 1 c0 t0 (ox_QM g below args s c0 t0) 0 (bX5_shake_0 f1 rc) := by
  refine s_aload_n (pc := 0) C dX5_shake_0 rfl ?_
  refine s_cv (pc := 1) (q := (RX5, TX5, 8)) C h1 rfl wM_X5_54 wI_X5_isEmpty wS_X5_isEmpty wN_X5 wC_X5_isEmpty (by decide +kernel) (ox_lv hR e1 (by decide)) dX5_shake_1 ?_
  refine s_ifne (pc := 4) 12 C dX5_shake_4 (by decide) (hrc 12) ?_
  refine s_aload_n (pc := 7) C dX5_shake_7 rfl ?_
  refine s_iconst (pc := 8) C dX5_shake_8 (by decide) ?_
  refine s_putz (pc := 9) (j := 6) (q := (RX5, TX5, 8)) C rfl (by decide) rfl (Or.inl rfl) wF_X5_44 dX5_shake_9 ?_
  exact hrc 12
set_option maxRecDepth 100000 in
theorem kX5_shake_12 (C : ox_C p s m args c g 1 cX5_shake RX5) (hr : meth.sig.returnType = none) (hlk : meth.locks = false) (hnm : meth.name = "shake") (hR : R.frames = dp ∧ R.locals = 60 * dp) (h1 : ox_Sem yX5_isEmpty cX5_isEmpty 1 (some .boolean) d1 f1) (e1 : d1 + 1 ≤ dp) (hrc : ∀ b, ox_S p l e R s m args below meth c g 1 c0 t0 (ox_QM g below args s c0 t0) b (rc b)) : ox_S p l e R s m args below meth c g 1 c0 t0 (ox_QM g below args s c0 t0) 12 (bX5_shake_12 f1 rc) := by
  exact s_ret (pc := 12) C hr hlk dX5_shake_12
end SX5_shake
def bsX5_shake (f1 : ox_F) (b : Nat) (rc : Nat → ox_K) : ox_K := if b = 0 then bX5_shake_0 f1 rc else if b = 12 then bX5_shake_12 f1 rc else ox_no
theorem mX5_shake {dp d1 : Nat} {f1 f : ox_F} (h1 : ox_Sem yX5_isEmpty cX5_isEmpty 1 (some .boolean) d1 f1) (e1 : d1 + 1 ≤ dp) (hf : ∀ as h r, f as h = some r → ox_cs as ≤ 1 ∧ ox_le h r.2 ∧ ∃ n, ox_run (bsX5_shake f1) n 0 (lv_args 0 as) [] h = some r) : ox_Sem yX5_shake cX5_shake 1 none dp f := by
  refine ox_meth (bs := bsX5_shake f1) (by decide) hf ?_
  intro p l e R s m args below meth c g c0 t0 C hr hlk hnm hR rc hrc b
  unfold bsX5_shake
  split
  · next eb => rw [eb]; exact kX5_shake_0 C hr hlk hnm hR h1 e1 hrc
  split
  · next eb => rw [eb]; exact kX5_shake_12 C hr hlk hnm hR h1 e1 hrc
  exact s_no
theorem dX5_fillOnce_0 : decode cX5_fillOnce 0 = .ok (.aload_n 0, 1) := by decide +kernel
theorem dX5_fillOnce_1 : decode cX5_fillOnce 1 = .ok (.invokevirtual 54, 3) := by decide +kernel
theorem dX5_fillOnce_4 : decode cX5_fillOnce 4 = .ok (.ifCond .ne 20, 3) := by decide +kernel
theorem dX5_fillOnce_7 : decode cX5_fillOnce 7 = .ok (.aload_n 0, 1) := by decide +kernel
theorem dX5_fillOnce_8 : decode cX5_fillOnce 8 = .ok (.getfield 47, 3) := by decide +kernel
theorem dX5_fillOnce_11 : decode cX5_fillOnce 11 = .ok (.ifCond .ne 13, 3) := by decide +kernel
theorem dX5_fillOnce_14 : decode cX5_fillOnce 14 = .ok (.aload_n 0, 1) := by decide +kernel
theorem dX5_fillOnce_15 : decode cX5_fillOnce 15 = .ok (.iload_n 1, 1) := by decide +kernel
theorem dX5_fillOnce_16 : decode cX5_fillOnce 16 = .ok (.putfield 13, 3) := by decide +kernel
theorem dX5_fillOnce_19 : decode cX5_fillOnce 19 = .ok (.aload_n 0, 1) := by decide +kernel
theorem dX5_fillOnce_20 : decode cX5_fillOnce 20 = .ok (.iconst 1, 1) := by decide +kernel
theorem dX5_fillOnce_21 : decode cX5_fillOnce 21 = .ok (.putfield 47, 3) := by decide +kernel
theorem dX5_fillOnce_24 : decode cX5_fillOnce 24 = .ok (.return_, 1) := by decide +kernel
def bX5_fillOnce_0 (f1 : ox_F) (rc : Nat → ox_K) : ox_K := o_al 0 (o_cv f1 5 0 (o_ifne (rc 24) (o_al 0 (o_geti 5 7 (o_ifne (rc 24) (o_al 0 (o_il 1 (o_puti 5 1 (o_al 0 (o_ic (1) (o_putz 5 7 (rc 24))))))))))))
def bX5_fillOnce_24 (f1 : ox_F) (rc : Nat → ox_K) : ox_K := o_ret
section SX5_fillOnce
variable {p : Program} {l : Launch} {e : Env} {R : Room} {s : State} {m : MethodId} {args : Array Value} {below : List Frame} {meth : Method} {c : Code} {g : ox_G} {c0 t0 dp d1 : Nat} {rc : Nat → ox_K} {f1 : ox_F}
set_option maxRecDepth 100000 in
theorem kX5_fillOnce_0 (C : ox_C p s m args c g 2 cX5_fillOnce RX5) (hr : meth.sig.returnType = none) (hlk : meth.locks = false) (hnm : meth.name = "fillOnce") (hR : R.frames = dp ∧ R.locals = 60 * dp) (h1 : ox_Sem yX5_isEmpty cX5_isEmpty 1 (some .boolean) d1 f1) (e1 : d1 + 1 ≤ dp) (hrc : ∀ b, ox_S p l e R s m args below meth c g 2 c0 t0 (ox_QM g below args s c0 t0) b (rc b)) : ox_S p l e R s m args below meth c g 2 c0 t0 (ox_QM g below args s c0 t0) 0 (bX5_fillOnce_0 f1 rc) := by
  refine s_aload_n (pc := 0) C dX5_fillOnce_0 rfl ?_
  refine s_cv (pc := 1) (q := (RX5, TX5, 8)) C h1 rfl wM_X5_54 wI_X5_isEmpty wS_X5_isEmpty wN_X5 wC_X5_isEmpty (by decide +kernel) (ox_lv hR e1 (by decide)) dX5_fillOnce_1 ?_
  refine s_ifne (pc := 4) 24 C dX5_fillOnce_4 (by decide) (hrc 24) ?_
  refine s_aload_n (pc := 7) C dX5_fillOnce_7 rfl ?_
  refine s_geti (pc := 8) (j := 7) (q := (RX5, TX5, 8)) C rfl (by decide) rfl wF_X5_47 dX5_fillOnce_8 ?_
  refine s_ifne (pc := 11) 24 C dX5_fillOnce_11 (by decide) (hrc 24) ?_
  refine s_aload_n (pc := 14) C dX5_fillOnce_14 rfl ?_
  refine s_iload_n (pc := 15) C dX5_fillOnce_15 rfl ?_
  refine s_puti (pc := 16) (j := 1) (q := (RX5, TX5, 8)) C rfl (by decide) rfl (Or.inl rfl) wF_X5_13 dX5_fillOnce_16 ?_
  refine s_aload_n (pc := 19) C dX5_fillOnce_19 rfl ?_
  refine s_iconst (pc := 20) C dX5_fillOnce_20 (by decide) ?_
  refine s_putz (pc := 21) (j := 7) (q := (RX5, TX5, 8)) C rfl (by decide) rfl (Or.inl rfl) wF_X5_47 dX5_fillOnce_21 ?_
  exact hrc 24
set_option maxRecDepth 100000 in
theorem kX5_fillOnce_24 (C : ox_C p s m args c g 2 cX5_fillOnce RX5) (hr : meth.sig.returnType = none) (hlk : meth.locks = false) (hnm : meth.name = "fillOnce") (hR : R.frames = dp ∧ R.locals = 60 * dp) (h1 : ox_Sem yX5_isEmpty cX5_isEmpty 1 (some .boolean) d1 f1) (e1 : d1 + 1 ≤ dp) (hrc : ∀ b, ox_S p l e R s m args below meth c g 2 c0 t0 (ox_QM g below args s c0 t0) b (rc b)) : ox_S p l e R s m args below meth c g 2 c0 t0 (ox_QM g below args s c0 t0) 24 (bX5_fillOnce_24 f1 rc) := by
  exact s_ret (pc := 24) C hr hlk dX5_fillOnce_24
end SX5_fillOnce
def bsX5_fillOnce (f1 : ox_F) (b : Nat) (rc : Nat → ox_K) : ox_K := if b = 0 then bX5_fillOnce_0 f1 rc else if b = 24 then bX5_fillOnce_24 f1 rc else ox_no
theorem mX5_fillOnce {dp d1 : Nat} {f1 f : ox_F} (h1 : ox_Sem yX5_isEmpty cX5_isEmpty 1 (some .boolean) d1 f1) (e1 : d1 + 1 ≤ dp) (hf : ∀ as h r, f as h = some r → ox_cs as ≤ 2 ∧ ox_le h r.2 ∧ ∃ n, ox_run (bsX5_fillOnce f1) n 0 (lv_args 0 as) [] h = some r) : ox_Sem yX5_fillOnce cX5_fillOnce 2 none dp f := by
  refine ox_meth (bs := bsX5_fillOnce f1) (by decide) hf ?_
  intro p l e R s m args below meth c g c0 t0 C hr hlk hnm hR rc hrc b
  unfold bsX5_fillOnce
  split
  · next eb => rw [eb]; exact kX5_fillOnce_0 C hr hlk hnm hR h1 e1 hrc
  split
  · next eb => rw [eb]; exact kX5_fillOnce_24 C hr hlk hnm hR h1 e1 hrc
  exact s_no
theorem dX5_cool_0 : decode cX5_cool 0 = .ok (.aload_n 0, 1) := by decide +kernel
theorem dX5_cool_1 : decode cX5_cool 1 = .ok (.invokevirtual 54, 3) := by decide +kernel
theorem dX5_cool_4 : decode cX5_cool 4 = .ok (.ifCond .ne 17, 3) := by decide +kernel
theorem dX5_cool_7 : decode cX5_cool 7 = .ok (.aload_n 0, 1) := by decide +kernel
theorem dX5_cool_8 : decode cX5_cool 8 = .ok (.iconst 5, 1) := by decide +kernel
theorem dX5_cool_9 : decode cX5_cool 9 = .ok (.aload_n 0, 1) := by decide +kernel
theorem dX5_cool_10 : decode cX5_cool 10 = .ok (.getfield 35, 3) := by decide +kernel
theorem dX5_cool_13 : decode cX5_cool 13 = .ok (.iload_n 1, 1) := by decide +kernel
theorem dX5_cool_14 : decode cX5_cool 14 = .ok (.isub, 1) := by decide +kernel
theorem dX5_cool_15 : decode cX5_cool 15 = .ok (.invokestatic 58, 3) := by decide +kernel
theorem dX5_cool_18 : decode cX5_cool 18 = .ok (.putfield 35, 3) := by decide +kernel
theorem dX5_cool_21 : decode cX5_cool 21 = .ok (.return_, 1) := by decide +kernel
def bX5_cool_0 (f1 : ox_F) (rc : Nat → ox_K) : ox_K := o_al 0 (o_cv f1 5 0 (o_ifne (rc 21) (o_al 0 (o_ic (5) (o_al 0 (o_geti 5 4 (o_il 1 (o_isub (o_mmax (o_puti 5 4 (rc 21)))))))))))
def bX5_cool_21 (f1 : ox_F) (rc : Nat → ox_K) : ox_K := o_ret
section SX5_cool
variable {p : Program} {l : Launch} {e : Env} {R : Room} {s : State} {m : MethodId} {args : Array Value} {below : List Frame} {meth : Method} {c : Code} {g : ox_G} {c0 t0 dp d1 : Nat} {rc : Nat → ox_K} {f1 : ox_F}
set_option maxRecDepth 100000 in
theorem kX5_cool_0 (C : ox_C p s m args c g 2 cX5_cool RX5) (hr : meth.sig.returnType = none) (hlk : meth.locks = false) (hnm : meth.name = "cool") (hR : R.frames = dp ∧ R.locals = 60 * dp) (e0 : 1 ≤ dp) (h1 : ox_Sem yX5_isEmpty cX5_isEmpty 1 (some .boolean) d1 f1) (e1 : d1 + 1 ≤ dp) (hrc : ∀ b, ox_S p l e R s m args below meth c g 2 c0 t0 (ox_QM g below args s c0 t0) b (rc b)) : ox_S p l e R s m args below meth c g 2 c0 t0 (ox_QM g below args s c0 t0) 0 (bX5_cool_0 f1 rc) := by
  refine s_aload_n (pc := 0) C dX5_cool_0 rfl ?_
  refine s_cv (pc := 1) (q := (RX5, TX5, 8)) C h1 rfl wM_X5_54 wI_X5_isEmpty wS_X5_isEmpty wN_X5 wC_X5_isEmpty (by decide +kernel) (ox_lv hR e1 (by decide)) dX5_cool_1 ?_
  refine s_ifne (pc := 4) 21 C dX5_cool_4 (by decide) (hrc 21) ?_
  refine s_aload_n (pc := 7) C dX5_cool_7 rfl ?_
  refine s_iconst (pc := 8) C dX5_cool_8 (by decide) ?_
  refine s_aload_n (pc := 9) C dX5_cool_9 rfl ?_
  refine s_geti (pc := 10) (j := 4) (q := (RX5, TX5, 8)) C rfl (by decide) rfl wF_X5_35 dX5_cool_10 ?_
  refine s_iload_n (pc := 13) C dX5_cool_13 rfl ?_
  refine s_isub (pc := 14) C dX5_cool_14 ?_
  refine s_mmax (pc := 15) C wM_X5_58 wT_mmax wN_J9 wC_mmax (ox_lv3 hR e0) dX5_cool_15 ?_
  refine s_puti (pc := 18) (j := 4) (q := (RX5, TX5, 8)) C rfl (by decide) rfl (Or.inl rfl) wF_X5_35 dX5_cool_18 ?_
  exact hrc 21
set_option maxRecDepth 100000 in
theorem kX5_cool_21 (C : ox_C p s m args c g 2 cX5_cool RX5) (hr : meth.sig.returnType = none) (hlk : meth.locks = false) (hnm : meth.name = "cool") (hR : R.frames = dp ∧ R.locals = 60 * dp) (e0 : 1 ≤ dp) (h1 : ox_Sem yX5_isEmpty cX5_isEmpty 1 (some .boolean) d1 f1) (e1 : d1 + 1 ≤ dp) (hrc : ∀ b, ox_S p l e R s m args below meth c g 2 c0 t0 (ox_QM g below args s c0 t0) b (rc b)) : ox_S p l e R s m args below meth c g 2 c0 t0 (ox_QM g below args s c0 t0) 21 (bX5_cool_21 f1 rc) := by
  exact s_ret (pc := 21) C hr hlk dX5_cool_21
end SX5_cool
def bsX5_cool (f1 : ox_F) (b : Nat) (rc : Nat → ox_K) : ox_K := if b = 0 then bX5_cool_0 f1 rc else if b = 21 then bX5_cool_21 f1 rc else ox_no
theorem mX5_cool {dp d1 : Nat} {f1 f : ox_F} (e0 : 1 ≤ dp) (h1 : ox_Sem yX5_isEmpty cX5_isEmpty 1 (some .boolean) d1 f1) (e1 : d1 + 1 ≤ dp) (hf : ∀ as h r, f as h = some r → ox_cs as ≤ 2 ∧ ox_le h r.2 ∧ ∃ n, ox_run (bsX5_cool f1) n 0 (lv_args 0 as) [] h = some r) : ox_Sem yX5_cool cX5_cool 2 none dp f := by
  refine ox_meth (bs := bsX5_cool f1) (by decide) hf ?_
  intro p l e R s m args below meth c g c0 t0 C hr hlk hnm hR rc hrc b
  unfold bsX5_cool
  split
  · next eb => rw [eb]; exact kX5_cool_0 C hr hlk hnm hR e0 h1 e1 hrc
  split
  · next eb => rw [eb]; exact kX5_cool_21 C hr hlk hnm hR e0 h1 e1 hrc
  exact s_no
end
section
theorem dX9_init_0 : decode cX9_init 0 = .ok (.aload_n 0, 1) := by decide +kernel
theorem dX9_init_1 : decode cX9_init 1 = .ok (.invokespecial 1, 3) := by decide +kernel
theorem dX9_init_4 : decode cX9_init 4 = .ok (.aload_n 0, 1) := by decide +kernel
theorem dX9_init_5 : decode cX9_init 5 = .ok (.new 7, 3) := by decide +kernel
theorem dX9_init_8 : decode cX9_init 8 = .ok (.dup, 1) := by decide +kernel
theorem dX9_init_9 : decode cX9_init 9 = .ok (.invokespecial 9, 3) := by decide +kernel
theorem dX9_init_12 : decode cX9_init 12 = .ok (.putfield 10, 3) := by decide +kernel
theorem dX9_init_15 : decode cX9_init 15 = .ok (.return_, 1) := by decide +kernel
def bX9_init_0 (f1 : ox_F) (rc : Nat → ox_K) : ox_K := o_al 0 (o_obj (o_al 0 (o_new 4 (o_dup (o_cn f1 0 (o_putr 9 4 (o_ret)))))))
section SX9_init
variable {p : Program} {l : Launch} {e : Env} {R : Room} {s : State} {m : MethodId} {args : Array Value} {below : List Frame} {meth : Method} {c : Code} {g : ox_G} {c0 t0 dp d1 : Nat} {rc : Nat → ox_K} {f1 : ox_F}
set_option maxRecDepth 100000 in
theorem kX9_init_0 (C : ox_C p s m args c g 1 cX9_init RX9) (hr : meth.sig.returnType = none) (hlk : meth.locks = false) (hnm : meth.name = "<init>") (hR : R.frames = dp ∧ R.locals = 60 * dp) (e0 : 1 ≤ dp) (h1 : ox_Sem yX4_init cX4_init 1 none d1 f1) (e1 : d1 + 1 ≤ dp) (hrc : ∀ b, ox_S p l e R s m args below meth c g 1 c0 t0 (ox_QM g below args s c0 t0) b (rc b)) : ox_S p l e R s m args below meth c g 1 c0 t0 (ox_QM g below args s c0 t0) 0 (bX9_init_0 f1 rc) := by
  refine s_aload_n (pc := 0) C dX9_init_0 rfl ?_
  refine s_obj (pc := 1) C wM_X9_1 wO1 wO2 (ox_lv1 hR e0) dX9_init_1 ?_
  refine s_aload_n (pc := 4) C dX9_init_4 rfl ?_
  refine s_new (pc := 5) (q := (RX4, TX4, 2)) C rfl ox_nt4 wX_X9_7 wY_X4 wN_X4 dX9_init_5 ?_
  refine s_dup (pc := 8) C dX9_init_8 ?_
  refine s_cnN (pc := 9) C h1 (by decide +kernel) wI_X4_init wN_X4 wC_X4_init rfl (by decide +kernel) (ox_lv hR e1 (by decide)) dX9_init_9 ?_
  refine s_putr (pc := 12) (j := 4) (q := (RX9, TX9, 5)) C rfl (by decide) rfl (Or.inr ⟨rfl, hnm, rfl⟩) wF_X9_10 dX9_init_12 ?_
  exact s_ret (pc := 15) C hr hlk dX9_init_15
end SX9_init
def bsX9_init (f1 : ox_F) (b : Nat) (rc : Nat → ox_K) : ox_K := if b = 0 then bX9_init_0 f1 rc else ox_no
theorem mX9_init {dp d1 : Nat} {f1 f : ox_F} (e0 : 1 ≤ dp) (h1 : ox_Sem yX4_init cX4_init 1 none d1 f1) (e1 : d1 + 1 ≤ dp) (hf : ∀ as h r, f as h = some r → ox_cs as ≤ 1 ∧ ox_le h r.2 ∧ ∃ n, ox_run (bsX9_init f1) n 0 (lv_args 0 as) [] h = some r) : ox_Sem yX9_init cX9_init 1 none dp f := by
  refine ox_meth (bs := bsX9_init f1) (by decide) hf ?_
  intro p l e R s m args below meth c g c0 t0 C hr hlk hnm hR rc hrc b
  unfold bsX9_init
  split
  · next eb => rw [eb]; exact kX9_init_0 C hr hlk hnm hR e0 h1 e1 hrc
  exact s_no
theorem dX9_isEmpty_0 : decode cX9_isEmpty 0 = .ok (.aload_n 0, 1) := by decide +kernel
theorem dX9_isEmpty_1 : decode cX9_isEmpty 1 = .ok (.getfield 16, 3) := by decide +kernel
theorem dX9_isEmpty_4 : decode cX9_isEmpty 4 = .ok (.ifCond .ne 7, 3) := by decide +kernel
theorem dX9_isEmpty_7 : decode cX9_isEmpty 7 = .ok (.iconst 1, 1) := by decide +kernel
theorem dX9_isEmpty_8 : decode cX9_isEmpty 8 = .ok (.goto 4, 3) := by decide +kernel
theorem dX9_isEmpty_11 : decode cX9_isEmpty 11 = .ok (.iconst 0, 1) := by decide +kernel
theorem dX9_isEmpty_12 : decode cX9_isEmpty 12 = .ok (.ireturn, 1) := by decide +kernel
def bX9_isEmpty_0 (rc : Nat → ox_K) : ox_K := o_al 0 (o_geti 9 0 (o_ifne (rc 11) (o_ic (1) (rc 12))))
def bX9_isEmpty_11 (rc : Nat → ox_K) : ox_K := o_ic (0) (rc 12)
def bX9_isEmpty_12 (rc : Nat → ox_K) : ox_K := o_zret
section SX9_isEmpty
variable {p : Program} {l : Launch} {e : Env} {R : Room} {s : State} {m : MethodId} {args : Array Value} {below : List Frame} {meth : Method} {c : Code} {g : ox_G} {c0 t0 dp  : Nat} {rc : Nat → ox_K}
set_option maxRecDepth 100000 in
theorem kX9_isEmpty_0 (C : ox_C p s m args c g 1 cX9_isEmpty RX9) (hr : meth.sig.returnType = (some .boolean)) (hlk : meth.locks = false) (hnm : meth.name = "isEmpty") (hR : R.frames = dp ∧ R.locals = 60 * dp) (hrc : ∀ b, ox_S p l e R s m args below meth c g 1 c0 t0 (ox_QM g below args s c0 t0) b (rc b)) : ox_S p l e R s m args below meth c g 1 c0 t0 (ox_QM g below args s c0 t0) 0 (bX9_isEmpty_0 rc) := by
  refine s_aload_n (pc := 0) C dX9_isEmpty_0 rfl ?_
  refine s_geti (pc := 1) (j := 0) (q := (RX9, TX9, 5)) C rfl (by decide) rfl wF_X9_16 dX9_isEmpty_1 ?_
  refine s_ifne (pc := 4) 11 C dX9_isEmpty_4 (by decide) (hrc 11) ?_
  refine s_iconst (pc := 7) C dX9_isEmpty_7 (by decide) ?_
  exact s_goto (pc := 8) 12 C dX9_isEmpty_8 (by decide) (hrc 12)
set_option maxRecDepth 100000 in
theorem kX9_isEmpty_11 (C : ox_C p s m args c g 1 cX9_isEmpty RX9) (hr : meth.sig.returnType = (some .boolean)) (hlk : meth.locks = false) (hnm : meth.name = "isEmpty") (hR : R.frames = dp ∧ R.locals = 60 * dp) (hrc : ∀ b, ox_S p l e R s m args below meth c g 1 c0 t0 (ox_QM g below args s c0 t0) b (rc b)) : ox_S p l e R s m args below meth c g 1 c0 t0 (ox_QM g below args s c0 t0) 11 (bX9_isEmpty_11 rc) := by
  refine s_iconst (pc := 11) C dX9_isEmpty_11 (by decide) ?_
  exact hrc 12
set_option maxRecDepth 100000 in
theorem kX9_isEmpty_12 (C : ox_C p s m args c g 1 cX9_isEmpty RX9) (hr : meth.sig.returnType = (some .boolean)) (hlk : meth.locks = false) (hnm : meth.name = "isEmpty") (hR : R.frames = dp ∧ R.locals = 60 * dp) (hrc : ∀ b, ox_S p l e R s m args below meth c g 1 c0 t0 (ox_QM g below args s c0 t0) b (rc b)) : ox_S p l e R s m args below meth c g 1 c0 t0 (ox_QM g below args s c0 t0) 12 (bX9_isEmpty_12 rc) := by
  exact s_zret (pc := 12) C hr (by decide) hlk dX9_isEmpty_12
end SX9_isEmpty
def bsX9_isEmpty (b : Nat) (rc : Nat → ox_K) : ox_K := if b = 0 then bX9_isEmpty_0 rc else if b = 11 then bX9_isEmpty_11 rc else if b = 12 then bX9_isEmpty_12 rc else ox_no
theorem mX9_isEmpty {dp  : Nat} {f : ox_F} (hf : ∀ as h r, f as h = some r → ox_cs as ≤ 1 ∧ ox_le h r.2 ∧ ∃ n, ox_run (bsX9_isEmpty) n 0 (lv_args 0 as) [] h = some r) : ox_Sem yX9_isEmpty cX9_isEmpty 1 (some .boolean) dp f := by
  refine ox_meth (bs := bsX9_isEmpty) (by decide) hf ?_
  intro p l e R s m args below meth c g c0 t0 C hr hlk hnm hR rc hrc b
  unfold bsX9_isEmpty
  split
  · next eb => rw [eb]; exact kX9_isEmpty_0 C hr hlk hnm hR hrc
  split
  · next eb => rw [eb]; exact kX9_isEmpty_11 C hr hlk hnm hR hrc
  split
  · next eb => rw [eb]; exact kX9_isEmpty_12 C hr hlk hnm hR hrc
  exact s_no
theorem dX9_takeIn_0 : decode cX9_takeIn 0 = .ok (.aload_n 0, 1) := by decide +kernel
theorem dX9_takeIn_1 : decode cX9_takeIn 1 = .ok (.invokevirtual 20, 3) := by decide +kernel
theorem dX9_takeIn_4 : decode cX9_takeIn 4 = .ok (.ifCond .eq 13, 3) := by decide +kernel
theorem dX9_takeIn_7 : decode cX9_takeIn 7 = .ok (.aload_n 0, 1) := by decide +kernel
theorem dX9_takeIn_8 : decode cX9_takeIn 8 = .ok (.getfield 10, 3) := by decide +kernel
theorem dX9_takeIn_11 : decode cX9_takeIn 11 = .ok (.bipush 45, 2) := by decide +kernel
theorem dX9_takeIn_13 : decode cX9_takeIn 13 = .ok (.iconst 0, 1) := by decide +kernel
theorem dX9_takeIn_14 : decode cX9_takeIn 14 = .ok (.invokevirtual 24, 3) := by decide +kernel
theorem dX9_takeIn_17 : decode cX9_takeIn 17 = .ok (.aload_n 0, 1) := by decide +kernel
theorem dX9_takeIn_18 : decode cX9_takeIn 18 = .ok (.iload_n 1, 1) := by decide +kernel
theorem dX9_takeIn_19 : decode cX9_takeIn 19 = .ok (.putfield 28, 3) := by decide +kernel
theorem dX9_takeIn_22 : decode cX9_takeIn 22 = .ok (.aload_n 0, 1) := by decide +kernel
theorem dX9_takeIn_23 : decode cX9_takeIn 23 = .ok (.dup, 1) := by decide +kernel
theorem dX9_takeIn_24 : decode cX9_takeIn 24 = .ok (.getfield 16, 3) := by decide +kernel
theorem dX9_takeIn_27 : decode cX9_takeIn 27 = .ok (.iload_n 2, 1) := by decide +kernel
theorem dX9_takeIn_28 : decode cX9_takeIn 28 = .ok (.iadd, 1) := by decide +kernel
theorem dX9_takeIn_29 : decode cX9_takeIn 29 = .ok (.putfield 16, 3) := by decide +kernel
theorem dX9_takeIn_32 : decode cX9_takeIn 32 = .ok (.aload_n 0, 1) := by decide +kernel
theorem dX9_takeIn_33 : decode cX9_takeIn 33 = .ok (.dup, 1) := by decide +kernel
theorem dX9_takeIn_34 : decode cX9_takeIn 34 = .ok (.getfield 31, 3) := by decide +kernel
theorem dX9_takeIn_37 : decode cX9_takeIn 37 = .ok (.iload_n 3, 1) := by decide +kernel
theorem dX9_takeIn_38 : decode cX9_takeIn 38 = .ok (.iadd, 1) := by decide +kernel
theorem dX9_takeIn_39 : decode cX9_takeIn 39 = .ok (.putfield 31, 3) := by decide +kernel
theorem dX9_takeIn_42 : decode cX9_takeIn 42 = .ok (.aload_n 0, 1) := by decide +kernel
theorem dX9_takeIn_43 : decode cX9_takeIn 43 = .ok (.dup, 1) := by decide +kernel
theorem dX9_takeIn_44 : decode cX9_takeIn 44 = .ok (.getfield 34, 3) := by decide +kernel
theorem dX9_takeIn_47 : decode cX9_takeIn 47 = .ok (.iconst 1, 1) := by decide +kernel
theorem dX9_takeIn_48 : decode cX9_takeIn 48 = .ok (.iload 4, 2) := by decide +kernel
theorem dX9_takeIn_50 : decode cX9_takeIn 50 = .ok (.ishl, 1) := by decide +kernel
theorem dX9_takeIn_51 : decode cX9_takeIn 51 = .ok (.ior, 1) := by decide +kernel
theorem dX9_takeIn_52 : decode cX9_takeIn 52 = .ok (.putfield 34, 3) := by decide +kernel
theorem dX9_takeIn_55 : decode cX9_takeIn 55 = .ok (.return_, 1) := by decide +kernel
def bX9_takeIn_0 (f1 f2 : ox_F) (rc : Nat → ox_K) : ox_K := o_al 0 (o_cv f1 9 0 (o_ifeq (rc 17) (o_al 0 (o_getr 9 4 (o_ic (45) (o_ic (0) (o_cv f2 4 2 (rc 17))))))))
def bX9_takeIn_17 (f1 f2 : ox_F) (rc : Nat → ox_K) : ox_K := o_al 0 (o_il 1 (o_puti 9 2 (o_al 0 (o_dup (o_geti 9 0 (o_il 2 (o_iadd (o_puti 9 0 (o_al 0 (o_dup (o_geti 9 1 (o_il 3 (o_iadd (o_puti 9 1 (o_al 0 (o_dup (o_geti 9 3 (o_ic (1) (o_il 4 (o_ishl (o_ior (o_puti 9 3 (o_ret)))))))))))))))))))))))
section SX9_takeIn
variable {p : Program} {l : Launch} {e : Env} {R : Room} {s : State} {m : MethodId} {args : Array Value} {below : List Frame} {meth : Method} {c : Code} {g : ox_G} {c0 t0 dp d1 d2 : Nat} {rc : Nat → ox_K} {f1 f2 : ox_F}
set_option maxRecDepth 100000 in
theorem kX9_takeIn_0 (C : ox_C p s m args c g 5 cX9_takeIn RX9) (hr : meth.sig.returnType = none) (hlk : meth.locks = false) (hnm : meth.name = "takeIn") (hR : R.frames = dp ∧ R.locals = 60 * dp) (h1 : ox_Sem yX9_isEmpty cX9_isEmpty 1 (some .boolean) d1 f1) (e1 : d1 + 1 ≤ dp) (h2 : ox_Sem yX4_begin cX4_begin 3 none d2 f2) (e2 : d2 + 1 ≤ dp) (hrc : ∀ b, ox_S p l e R s m args below meth c g 5 c0 t0 (ox_QM g below args s c0 t0) b (rc b)) : ox_S p l e R s m args below meth c g 5 c0 t0 (ox_QM g below args s c0 t0) 0 (bX9_takeIn_0 f1 f2 rc) := by
  refine s_aload_n (pc := 0) C dX9_takeIn_0 rfl ?_
  refine s_cv (pc := 1) (q := (RX9, TX9, 5)) C h1 rfl wM_X9_20 wI_X9_isEmpty wS_X9_isEmpty wN_X9 wC_X9_isEmpty (by decide +kernel) (ox_lv hR e1 (by decide)) dX9_takeIn_1 ?_
  refine s_ifeq (pc := 4) 17 C dX9_takeIn_4 (by decide) (hrc 17) ?_
  refine s_aload_n (pc := 7) C dX9_takeIn_7 rfl ?_
  refine s_getr (pc := 8) (j := 4) (q := (RX9, TX9, 5)) C rfl (by decide) rfl wF_X9_10 dX9_takeIn_8 ?_
  refine s_bipush (pc := 11) C dX9_takeIn_11 (by decide) ?_
  refine s_iconst (pc := 13) C dX9_takeIn_13 (by decide) ?_
  refine s_cv (pc := 14) (q := (RX4, TX4, 2)) C h2 rfl wM_X9_24 wI_X4_begin wS_X4_begin wN_X4 wC_X4_begin (by decide +kernel) (ox_lv hR e2 (by decide)) dX9_takeIn_14 ?_
  exact hrc 17
set_option maxRecDepth 100000 in
theorem kX9_takeIn_17 (C : ox_C p s m args c g 5 cX9_takeIn RX9) (hr : meth.sig.returnType = none) (hlk : meth.locks = false) (hnm : meth.name = "takeIn") (hR : R.frames = dp ∧ R.locals = 60 * dp) (h1 : ox_Sem yX9_isEmpty cX9_isEmpty 1 (some .boolean) d1 f1) (e1 : d1 + 1 ≤ dp) (h2 : ox_Sem yX4_begin cX4_begin 3 none d2 f2) (e2 : d2 + 1 ≤ dp) (hrc : ∀ b, ox_S p l e R s m args below meth c g 5 c0 t0 (ox_QM g below args s c0 t0) b (rc b)) : ox_S p l e R s m args below meth c g 5 c0 t0 (ox_QM g below args s c0 t0) 17 (bX9_takeIn_17 f1 f2 rc) := by
  refine s_aload_n (pc := 17) C dX9_takeIn_17 rfl ?_
  refine s_iload_n (pc := 18) C dX9_takeIn_18 rfl ?_
  refine s_puti (pc := 19) (j := 2) (q := (RX9, TX9, 5)) C rfl (by decide) rfl (Or.inl rfl) wF_X9_28 dX9_takeIn_19 ?_
  refine s_aload_n (pc := 22) C dX9_takeIn_22 rfl ?_
  refine s_dup (pc := 23) C dX9_takeIn_23 ?_
  refine s_geti (pc := 24) (j := 0) (q := (RX9, TX9, 5)) C rfl (by decide) rfl wF_X9_16 dX9_takeIn_24 ?_
  refine s_iload_n (pc := 27) C dX9_takeIn_27 rfl ?_
  refine s_iadd (pc := 28) C dX9_takeIn_28 ?_
  refine s_puti (pc := 29) (j := 0) (q := (RX9, TX9, 5)) C rfl (by decide) rfl (Or.inl rfl) wF_X9_16 dX9_takeIn_29 ?_
  refine s_aload_n (pc := 32) C dX9_takeIn_32 rfl ?_
  refine s_dup (pc := 33) C dX9_takeIn_33 ?_
  refine s_geti (pc := 34) (j := 1) (q := (RX9, TX9, 5)) C rfl (by decide) rfl wF_X9_31 dX9_takeIn_34 ?_
  refine s_iload_n (pc := 37) C dX9_takeIn_37 rfl ?_
  refine s_iadd (pc := 38) C dX9_takeIn_38 ?_
  refine s_puti (pc := 39) (j := 1) (q := (RX9, TX9, 5)) C rfl (by decide) rfl (Or.inl rfl) wF_X9_31 dX9_takeIn_39 ?_
  refine s_aload_n (pc := 42) C dX9_takeIn_42 rfl ?_
  refine s_dup (pc := 43) C dX9_takeIn_43 ?_
  refine s_geti (pc := 44) (j := 3) (q := (RX9, TX9, 5)) C rfl (by decide) rfl wF_X9_34 dX9_takeIn_44 ?_
  refine s_iconst (pc := 47) C dX9_takeIn_47 (by decide) ?_
  refine s_iload (pc := 48) C dX9_takeIn_48 ?_
  refine s_ishl (pc := 50) C dX9_takeIn_50 ?_
  refine s_ior (pc := 51) C dX9_takeIn_51 ?_
  refine s_puti (pc := 52) (j := 3) (q := (RX9, TX9, 5)) C rfl (by decide) rfl (Or.inl rfl) wF_X9_34 dX9_takeIn_52 ?_
  exact s_ret (pc := 55) C hr hlk dX9_takeIn_55
end SX9_takeIn
def bsX9_takeIn (f1 f2 : ox_F) (b : Nat) (rc : Nat → ox_K) : ox_K := if b = 0 then bX9_takeIn_0 f1 f2 rc else if b = 17 then bX9_takeIn_17 f1 f2 rc else ox_no
theorem mX9_takeIn {dp d1 d2 : Nat} {f1 f2 f : ox_F} (h1 : ox_Sem yX9_isEmpty cX9_isEmpty 1 (some .boolean) d1 f1) (e1 : d1 + 1 ≤ dp) (h2 : ox_Sem yX4_begin cX4_begin 3 none d2 f2) (e2 : d2 + 1 ≤ dp) (hf : ∀ as h r, f as h = some r → ox_cs as ≤ 5 ∧ ox_le h r.2 ∧ ∃ n, ox_run (bsX9_takeIn f1 f2) n 0 (lv_args 0 as) [] h = some r) : ox_Sem yX9_takeIn cX9_takeIn 5 none dp f := by
  refine ox_meth (bs := bsX9_takeIn f1 f2) (by decide) hf ?_
  intro p l e R s m args below meth c g c0 t0 C hr hlk hnm hR rc hrc b
  unfold bsX9_takeIn
  split
  · next eb => rw [eb]; exact kX9_takeIn_0 C hr hlk hnm hR h1 e1 h2 e2 hrc
  split
  · next eb => rw [eb]; exact kX9_takeIn_17 C hr hlk hnm hR h1 e1 h2 e2 hrc
  exact s_no
theorem dX9_giveOut_0 : decode cX9_giveOut 0 = .ok (.aload_n 0, 1) := by decide +kernel
theorem dX9_giveOut_1 : decode cX9_giveOut 1 = .ok (.getfield 16, 3) := by decide +kernel
theorem dX9_giveOut_4 : decode cX9_giveOut 4 = .ok (.iload_n 1, 1) := by decide +kernel
theorem dX9_giveOut_5 : decode cX9_giveOut 5 = .ok (.if_icmp .gt 19, 3) := by decide +kernel
theorem dX9_giveOut_8 : decode cX9_giveOut 8 = .ok (.aload_n 0, 1) := by decide +kernel
theorem dX9_giveOut_9 : decode cX9_giveOut 9 = .ok (.iconst 0, 1) := by decide +kernel
theorem dX9_giveOut_10 : decode cX9_giveOut 10 = .ok (.putfield 16, 3) := by decide +kernel
theorem dX9_giveOut_13 : decode cX9_giveOut 13 = .ok (.aload_n 0, 1) := by decide +kernel
theorem dX9_giveOut_14 : decode cX9_giveOut 14 = .ok (.iconst 0, 1) := by decide +kernel
theorem dX9_giveOut_15 : decode cX9_giveOut 15 = .ok (.putfield 31, 3) := by decide +kernel
theorem dX9_giveOut_18 : decode cX9_giveOut 18 = .ok (.aload_n 0, 1) := by decide +kernel
theorem dX9_giveOut_19 : decode cX9_giveOut 19 = .ok (.iconst 0, 1) := by decide +kernel
theorem dX9_giveOut_20 : decode cX9_giveOut 20 = .ok (.putfield 34, 3) := by decide +kernel
theorem dX9_giveOut_23 : decode cX9_giveOut 23 = .ok (.return_, 1) := by decide +kernel
theorem dX9_giveOut_24 : decode cX9_giveOut 24 = .ok (.aload_n 0, 1) := by decide +kernel
theorem dX9_giveOut_25 : decode cX9_giveOut 25 = .ok (.dup, 1) := by decide +kernel
theorem dX9_giveOut_26 : decode cX9_giveOut 26 = .ok (.getfield 31, 3) := by decide +kernel
theorem dX9_giveOut_29 : decode cX9_giveOut 29 = .ok (.aload_n 0, 1) := by decide +kernel
theorem dX9_giveOut_30 : decode cX9_giveOut 30 = .ok (.getfield 31, 3) := by decide +kernel
theorem dX9_giveOut_33 : decode cX9_giveOut 33 = .ok (.iload_n 1, 1) := by decide +kernel
theorem dX9_giveOut_34 : decode cX9_giveOut 34 = .ok (.imul, 1) := by decide +kernel
theorem dX9_giveOut_35 : decode cX9_giveOut 35 = .ok (.aload_n 0, 1) := by decide +kernel
theorem dX9_giveOut_36 : decode cX9_giveOut 36 = .ok (.getfield 16, 3) := by decide +kernel
theorem dX9_giveOut_39 : decode cX9_giveOut 39 = .ok (.idiv, 1) := by decide +kernel
theorem dX9_giveOut_40 : decode cX9_giveOut 40 = .ok (.isub, 1) := by decide +kernel
theorem dX9_giveOut_41 : decode cX9_giveOut 41 = .ok (.putfield 31, 3) := by decide +kernel
theorem dX9_giveOut_44 : decode cX9_giveOut 44 = .ok (.aload_n 0, 1) := by decide +kernel
theorem dX9_giveOut_45 : decode cX9_giveOut 45 = .ok (.dup, 1) := by decide +kernel
theorem dX9_giveOut_46 : decode cX9_giveOut 46 = .ok (.getfield 16, 3) := by decide +kernel
theorem dX9_giveOut_49 : decode cX9_giveOut 49 = .ok (.iload_n 1, 1) := by decide +kernel
theorem dX9_giveOut_50 : decode cX9_giveOut 50 = .ok (.isub, 1) := by decide +kernel
theorem dX9_giveOut_51 : decode cX9_giveOut 51 = .ok (.putfield 16, 3) := by decide +kernel
theorem dX9_giveOut_54 : decode cX9_giveOut 54 = .ok (.return_, 1) := by decide +kernel
def bX9_giveOut_0 (rc : Nat → ox_K) : ox_K := o_al 0 (o_geti 9 0 (o_il 1 (o_icgt (rc 24) (o_al 0 (o_ic (0) (o_puti 9 0 (o_al 0 (o_ic (0) (o_puti 9 1 (o_al 0 (o_ic (0) (o_puti 9 3 (o_ret)))))))))))))
def bX9_giveOut_24 (rc : Nat → ox_K) : ox_K := o_al 0 (o_dup (o_geti 9 1 (o_al 0 (o_geti 9 1 (o_il 1 (o_imul (o_al 0 (o_geti 9 0 (o_idiv (o_isub (o_puti 9 1 (o_al 0 (o_dup (o_geti 9 0 (o_il 1 (o_isub (o_puti 9 0 (o_ret))))))))))))))))))
section SX9_giveOut
variable {p : Program} {l : Launch} {e : Env} {R : Room} {s : State} {m : MethodId} {args : Array Value} {below : List Frame} {meth : Method} {c : Code} {g : ox_G} {c0 t0 dp  : Nat} {rc : Nat → ox_K}
set_option maxRecDepth 100000 in
theorem kX9_giveOut_0 (C : ox_C p s m args c g 2 cX9_giveOut RX9) (hr : meth.sig.returnType = none) (hlk : meth.locks = false) (hnm : meth.name = "giveOut") (hR : R.frames = dp ∧ R.locals = 60 * dp) (hrc : ∀ b, ox_S p l e R s m args below meth c g 2 c0 t0 (ox_QM g below args s c0 t0) b (rc b)) : ox_S p l e R s m args below meth c g 2 c0 t0 (ox_QM g below args s c0 t0) 0 (bX9_giveOut_0 rc) := by
  refine s_aload_n (pc := 0) C dX9_giveOut_0 rfl ?_
  refine s_geti (pc := 1) (j := 0) (q := (RX9, TX9, 5)) C rfl (by decide) rfl wF_X9_16 dX9_giveOut_1 ?_
  refine s_iload_n (pc := 4) C dX9_giveOut_4 rfl ?_
  refine s_icmpgt (pc := 5) 24 C dX9_giveOut_5 (by decide) (hrc 24) ?_
  refine s_aload_n (pc := 8) C dX9_giveOut_8 rfl ?_
  refine s_iconst (pc := 9) C dX9_giveOut_9 (by decide) ?_
  refine s_puti (pc := 10) (j := 0) (q := (RX9, TX9, 5)) C rfl (by decide) rfl (Or.inl rfl) wF_X9_16 dX9_giveOut_10 ?_
  refine s_aload_n (pc := 13) C dX9_giveOut_13 rfl ?_
  refine s_iconst (pc := 14) C dX9_giveOut_14 (by decide) ?_
  refine s_puti (pc := 15) (j := 1) (q := (RX9, TX9, 5)) C rfl (by decide) rfl (Or.inl rfl) wF_X9_31 dX9_giveOut_15 ?_
  refine s_aload_n (pc := 18) C dX9_giveOut_18 rfl ?_
  refine s_iconst (pc := 19) C dX9_giveOut_19 (by decide) ?_
  refine s_puti (pc := 20) (j := 3) (q := (RX9, TX9, 5)) C rfl (by decide) rfl (Or.inl rfl) wF_X9_34 dX9_giveOut_20 ?_
  exact s_ret (pc := 23) C hr hlk dX9_giveOut_23
set_option maxRecDepth 100000 in
theorem kX9_giveOut_24 (C : ox_C p s m args c g 2 cX9_giveOut RX9) (hr : meth.sig.returnType = none) (hlk : meth.locks = false) (hnm : meth.name = "giveOut") (hR : R.frames = dp ∧ R.locals = 60 * dp) (hrc : ∀ b, ox_S p l e R s m args below meth c g 2 c0 t0 (ox_QM g below args s c0 t0) b (rc b)) : ox_S p l e R s m args below meth c g 2 c0 t0 (ox_QM g below args s c0 t0) 24 (bX9_giveOut_24 rc) := by
  refine s_aload_n (pc := 24) C dX9_giveOut_24 rfl ?_
  refine s_dup (pc := 25) C dX9_giveOut_25 ?_
  refine s_geti (pc := 26) (j := 1) (q := (RX9, TX9, 5)) C rfl (by decide) rfl wF_X9_31 dX9_giveOut_26 ?_
  refine s_aload_n (pc := 29) C dX9_giveOut_29 rfl ?_
  refine s_geti (pc := 30) (j := 1) (q := (RX9, TX9, 5)) C rfl (by decide) rfl wF_X9_31 dX9_giveOut_30 ?_
  refine s_iload_n (pc := 33) C dX9_giveOut_33 rfl ?_
  refine s_imul (pc := 34) C dX9_giveOut_34 ?_
  refine s_aload_n (pc := 35) C dX9_giveOut_35 rfl ?_
  refine s_geti (pc := 36) (j := 0) (q := (RX9, TX9, 5)) C rfl (by decide) rfl wF_X9_16 dX9_giveOut_36 ?_
  refine s_idiv (pc := 39) C dX9_giveOut_39 ?_
  refine s_isub (pc := 40) C dX9_giveOut_40 ?_
  refine s_puti (pc := 41) (j := 1) (q := (RX9, TX9, 5)) C rfl (by decide) rfl (Or.inl rfl) wF_X9_31 dX9_giveOut_41 ?_
  refine s_aload_n (pc := 44) C dX9_giveOut_44 rfl ?_
  refine s_dup (pc := 45) C dX9_giveOut_45 ?_
  refine s_geti (pc := 46) (j := 0) (q := (RX9, TX9, 5)) C rfl (by decide) rfl wF_X9_16 dX9_giveOut_46 ?_
  refine s_iload_n (pc := 49) C dX9_giveOut_49 rfl ?_
  refine s_isub (pc := 50) C dX9_giveOut_50 ?_
  refine s_puti (pc := 51) (j := 0) (q := (RX9, TX9, 5)) C rfl (by decide) rfl (Or.inl rfl) wF_X9_16 dX9_giveOut_51 ?_
  exact s_ret (pc := 54) C hr hlk dX9_giveOut_54
end SX9_giveOut
def bsX9_giveOut (b : Nat) (rc : Nat → ox_K) : ox_K := if b = 0 then bX9_giveOut_0 rc else if b = 24 then bX9_giveOut_24 rc else ox_no
theorem mX9_giveOut {dp  : Nat} {f : ox_F} (hf : ∀ as h r, f as h = some r → ox_cs as ≤ 2 ∧ ox_le h r.2 ∧ ∃ n, ox_run (bsX9_giveOut) n 0 (lv_args 0 as) [] h = some r) : ox_Sem yX9_giveOut cX9_giveOut 2 none dp f := by
  refine ox_meth (bs := bsX9_giveOut) (by decide) hf ?_
  intro p l e R s m args below meth c g c0 t0 C hr hlk hnm hR rc hrc b
  unfold bsX9_giveOut
  split
  · next eb => rw [eb]; exact kX9_giveOut_0 C hr hlk hnm hR hrc
  split
  · next eb => rw [eb]; exact kX9_giveOut_24 C hr hlk hnm hR hrc
  exact s_no
end
section
theorem dJ6_compare_7cf53_0 : decode cJ6_compare_7cf53 0 = .ok (.iload_n 0, 1) := by decide +kernel
theorem dJ6_compare_7cf53_1 : decode cJ6_compare_7cf53 1 = .ok (.iload_n 1, 1) := by decide +kernel
theorem dJ6_compare_7cf53_2 : decode cJ6_compare_7cf53 2 = .ok (.if_icmp .ge 7, 3) := by decide +kernel
theorem dJ6_compare_7cf53_5 : decode cJ6_compare_7cf53 5 = .ok (.iconst (-1), 1) := by decide +kernel
theorem dJ6_compare_7cf53_6 : decode cJ6_compare_7cf53 6 = .ok (.goto 13, 3) := by decide +kernel
theorem dJ6_compare_7cf53_9 : decode cJ6_compare_7cf53 9 = .ok (.iload_n 0, 1) := by decide +kernel
theorem dJ6_compare_7cf53_10 : decode cJ6_compare_7cf53 10 = .ok (.iload_n 1, 1) := by decide +kernel
theorem dJ6_compare_7cf53_11 : decode cJ6_compare_7cf53 11 = .ok (.if_icmp .ne 7, 3) := by decide +kernel
theorem dJ6_compare_7cf53_14 : decode cJ6_compare_7cf53 14 = .ok (.iconst 0, 1) := by decide +kernel
theorem dJ6_compare_7cf53_15 : decode cJ6_compare_7cf53 15 = .ok (.goto 4, 3) := by decide +kernel
theorem dJ6_compare_7cf53_18 : decode cJ6_compare_7cf53 18 = .ok (.iconst 1, 1) := by decide +kernel
theorem dJ6_compare_7cf53_19 : decode cJ6_compare_7cf53 19 = .ok (.ireturn, 1) := by decide +kernel
def bJ6_compare_7cf53_0 (rc : Nat → ox_K) : ox_K := o_il 0 (o_il 1 (o_icge (rc 9) (o_ic (-1) (rc 19))))
def bJ6_compare_7cf53_9 (rc : Nat → ox_K) : ox_K := o_il 0 (o_il 1 (o_icne (rc 18) (o_ic (0) (rc 19))))
def bJ6_compare_7cf53_18 (rc : Nat → ox_K) : ox_K := o_ic (1) (rc 19)
def bJ6_compare_7cf53_19 (rc : Nat → ox_K) : ox_K := o_iret
section SJ6_compare_7cf53
variable {p : Program} {l : Launch} {e : Env} {R : Room} {s : State} {m : MethodId} {args : Array Value} {below : List Frame} {meth : Method} {c : Code} {g : ox_G} {c0 t0 dp  : Nat} {rc : Nat → ox_K}
set_option maxRecDepth 100000 in
theorem kJ6_compare_7cf53_0 (C : ox_C p s m args c g 2 cJ6_compare_7cf53 RJ6) (hr : meth.sig.returnType = (some .int)) (hlk : meth.locks = false) (hnm : meth.name = "compare") (hR : R.frames = dp ∧ R.locals = 60 * dp) (hrc : ∀ b, ox_S p l e R s m args below meth c g 2 c0 t0 (ox_QM g below args s c0 t0) b (rc b)) : ox_S p l e R s m args below meth c g 2 c0 t0 (ox_QM g below args s c0 t0) 0 (bJ6_compare_7cf53_0 rc) := by
  refine s_iload_n (pc := 0) C dJ6_compare_7cf53_0 rfl ?_
  refine s_iload_n (pc := 1) C dJ6_compare_7cf53_1 rfl ?_
  refine s_icmpge (pc := 2) 9 C dJ6_compare_7cf53_2 (by decide) (hrc 9) ?_
  refine s_iconst (pc := 5) C dJ6_compare_7cf53_5 (by decide) ?_
  exact s_goto (pc := 6) 19 C dJ6_compare_7cf53_6 (by decide) (hrc 19)
set_option maxRecDepth 100000 in
theorem kJ6_compare_7cf53_9 (C : ox_C p s m args c g 2 cJ6_compare_7cf53 RJ6) (hr : meth.sig.returnType = (some .int)) (hlk : meth.locks = false) (hnm : meth.name = "compare") (hR : R.frames = dp ∧ R.locals = 60 * dp) (hrc : ∀ b, ox_S p l e R s m args below meth c g 2 c0 t0 (ox_QM g below args s c0 t0) b (rc b)) : ox_S p l e R s m args below meth c g 2 c0 t0 (ox_QM g below args s c0 t0) 9 (bJ6_compare_7cf53_9 rc) := by
  refine s_iload_n (pc := 9) C dJ6_compare_7cf53_9 rfl ?_
  refine s_iload_n (pc := 10) C dJ6_compare_7cf53_10 rfl ?_
  refine s_icmpne (pc := 11) 18 C dJ6_compare_7cf53_11 (by decide) (hrc 18) ?_
  refine s_iconst (pc := 14) C dJ6_compare_7cf53_14 (by decide) ?_
  exact s_goto (pc := 15) 19 C dJ6_compare_7cf53_15 (by decide) (hrc 19)
set_option maxRecDepth 100000 in
theorem kJ6_compare_7cf53_18 (C : ox_C p s m args c g 2 cJ6_compare_7cf53 RJ6) (hr : meth.sig.returnType = (some .int)) (hlk : meth.locks = false) (hnm : meth.name = "compare") (hR : R.frames = dp ∧ R.locals = 60 * dp) (hrc : ∀ b, ox_S p l e R s m args below meth c g 2 c0 t0 (ox_QM g below args s c0 t0) b (rc b)) : ox_S p l e R s m args below meth c g 2 c0 t0 (ox_QM g below args s c0 t0) 18 (bJ6_compare_7cf53_18 rc) := by
  refine s_iconst (pc := 18) C dJ6_compare_7cf53_18 (by decide) ?_
  exact hrc 19
set_option maxRecDepth 100000 in
theorem kJ6_compare_7cf53_19 (C : ox_C p s m args c g 2 cJ6_compare_7cf53 RJ6) (hr : meth.sig.returnType = (some .int)) (hlk : meth.locks = false) (hnm : meth.name = "compare") (hR : R.frames = dp ∧ R.locals = 60 * dp) (hrc : ∀ b, ox_S p l e R s m args below meth c g 2 c0 t0 (ox_QM g below args s c0 t0) b (rc b)) : ox_S p l e R s m args below meth c g 2 c0 t0 (ox_QM g below args s c0 t0) 19 (bJ6_compare_7cf53_19 rc) := by
  exact s_iret (pc := 19) C hr hlk dJ6_compare_7cf53_19
end SJ6_compare_7cf53
def bsJ6_compare_7cf53 (b : Nat) (rc : Nat → ox_K) : ox_K := if b = 0 then bJ6_compare_7cf53_0 rc else if b = 9 then bJ6_compare_7cf53_9 rc else if b = 18 then bJ6_compare_7cf53_18 rc else if b = 19 then bJ6_compare_7cf53_19 rc else ox_no
theorem mJ6_compare_7cf53 {dp  : Nat} {f : ox_F} (hf : ∀ as h r, f as h = some r → ox_cs as ≤ 2 ∧ ox_le h r.2 ∧ ∃ n, ox_run (bsJ6_compare_7cf53) n 0 (lv_args 0 as) [] h = some r) : ox_Sem yJ6_compare_7cf53 cJ6_compare_7cf53 2 (some .int) dp f := by
  refine ox_meth (bs := bsJ6_compare_7cf53) (by decide) hf ?_
  intro p l e R s m args below meth c g c0 t0 C hr hlk hnm hR rc hrc b
  unfold bsJ6_compare_7cf53
  split
  · next eb => rw [eb]; exact kJ6_compare_7cf53_0 C hr hlk hnm hR hrc
  split
  · next eb => rw [eb]; exact kJ6_compare_7cf53_9 C hr hlk hnm hR hrc
  split
  · next eb => rw [eb]; exact kJ6_compare_7cf53_18 C hr hlk hnm hR hrc
  split
  · next eb => rw [eb]; exact kJ6_compare_7cf53_19 C hr hlk hnm hR hrc
  exact s_no
end

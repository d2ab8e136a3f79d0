/-! ===== what holds at the law's entry, out of the tables' words and the start ===== -/
theorem ap_in {a b T : List Cond} (h1 : ∀ w ∈ a, w ∈ T) (h2 : ∀ w ∈ b, w ∈ T) : ∀ w ∈ a ++ b, w ∈ T := fun w h => (List.mem_append.mp h).elim (h1 w) (h2 w)
set_option maxRecDepth 20000 in
theorem inC_J0 : ∀ w ∈ Cond.instantiable RJ0 4 :: u_ws RJ0 TJ0 4, w ∈ lw_tbl := sg_mem [(1049, 1), (1092, 1), (1094, 1), (1096, 1), (1098, 1)] rfl
set_option maxRecDepth 20000 in
theorem inC_J4 : ∀ w ∈ Cond.instantiable RJ4 4 :: u_ws RJ4 TJ4 4, w ∈ lw_tbl := sg_mem [(862, 1), (882, 1), (884, 1), (886, 1), (888, 1)] rfl
set_option maxRecDepth 20000 in
theorem inC_Jx4a65c : ∀ w ∈ Cond.instantiable RJx4a65c 3 :: u_ws RJx4a65c TJx4a65c 3, w ∈ lw_tbl := sg_mem [(788, 1), (810, 1), (806, 1), (808, 1)] rfl
set_option maxRecDepth 20000 in
theorem inC_X0 : ∀ w ∈ Cond.instantiable RX0 5 :: u_ws RX0 TX0 5, w ∈ lw_tbl := sg_mem [(405, 1), (418, 1), (420, 1), (422, 1), (424, 1), (426, 1)] rfl
set_option maxRecDepth 20000 in
theorem inC_X1 : ∀ w ∈ Cond.instantiable RX1 6 :: u_ws RX1 TX1 6, w ∈ lw_tbl := sg_mem [(430, 1), (443, 1), (445, 1), (447, 1), (449, 1), (451, 1), (453, 1)] rfl
set_option maxRecDepth 20000 in
theorem inC_X2 : ∀ w ∈ Cond.instantiable RX2 12 :: u_ws RX2 TX2 12, w ∈ lw_tbl := sg_mem [(187, 1), (236, 1), (238, 1), (240, 1), (242, 1), (244, 1), (246, 1), (248, 1), (250, 1), (252, 1), (254, 1), (256, 1), (258, 1)] rfl
set_option maxRecDepth 20000 in
theorem inC_X3 : ∀ w ∈ Cond.instantiable RX3 3 :: u_ws RX3 TX3 3, w ∈ lw_tbl := sg_mem [(301, 1), (313, 1), (315, 1), (317, 1)] rfl
set_option maxRecDepth 20000 in
theorem inC_X4 : ∀ w ∈ Cond.instantiable RX4 12 :: u_ws RX4 TX4 12, w ∈ lw_tbl := sg_mem [(321, 1), (352, 1), (354, 1), (356, 1), (358, 1), (360, 1), (362, 1), (364, 1), (366, 1), (368, 1), (370, 1), (372, 1), (374, 1)] rfl
set_option maxRecDepth 20000 in
theorem inC_X5 : ∀ w ∈ Cond.instantiable RX5 5 :: u_ws RX5 TX5 5, w ∈ lw_tbl := sg_mem [(378, 1), (393, 1), (395, 1), (397, 1), (399, 1), (401, 1)] rfl
set_option maxRecDepth 20000 in
theorem inC_X6 : ∀ w ∈ Cond.instantiable RX6 6 :: u_ws RX6 TX6 6, w ∈ lw_tbl := sg_mem [(164, 1), (173, 1), (175, 1), (177, 1), (179, 1), (181, 1), (183, 1)] rfl
set_option maxRecDepth 20000 in
theorem inC_X7 : ∀ w ∈ Cond.instantiable RX7 1 :: u_ws RX7 TX7 1, w ∈ lw_tbl := sg_mem [(154, 1), (160, 1)] rfl
set_option maxRecDepth 20000 in
theorem inC_X8 : ∀ w ∈ Cond.instantiable RX8 7 :: u_ws RX8 TX8 7, w ∈ lw_tbl := sg_mem [(263, 1), (285, 1), (287, 1), (289, 1), (291, 1), (293, 1), (295, 1), (297, 1)] rfl
set_option maxRecDepth 20000 in
theorem inC_X9 : ∀ w ∈ Cond.instantiable RX9 1 :: u_ws RX9 TX9 1, w ∈ lw_tbl := sg_mem [(144, 1), (150, 1)] rfl
set_option maxRecDepth 20000 in
theorem inC_X10 : ∀ w ∈ Cond.instantiable RX10 12 :: u_ws RX10 TX10 12, w ∈ lw_tbl := sg_mem [(96, 1), (117, 1), (119, 1), (121, 1), (123, 1), (125, 1), (127, 1), (129, 1), (131, 1), (133, 1), (135, 1), (137, 1), (139, 1)] rfl
set_option maxRecDepth 20000 in
theorem inC_X11 : ∀ w ∈ Cond.instantiable RX11 18 :: u_ws RX11 TX11 18, w ∈ lw_tbl := sg_mem [(88, 1), (472, 1), (474, 1), (476, 1), (478, 1), (480, 1), (482, 1), (484, 1), (486, 1), (488, 1), (490, 1), (492, 1), (494, 1), (496, 1), (498, 1), (500, 1), (502, 1), (504, 1), (506, 1)] rfl
set_option maxRecDepth 20000 in
theorem inC_X12 : ∀ w ∈ Cond.instantiable RX12 13 :: u_ws RX12 TX12 13, w ∈ lw_tbl := sg_mem [(780, 1), (834, 1), (836, 1), (838, 1), (840, 1), (842, 1), (844, 1), (846, 1), (848, 1), (850, 1), (852, 1), (854, 1), (856, 1), (858, 1)] rfl
theorem inC_all : ∀ q ∈ vwCl, ∀ w ∈ Cond.instantiable q.1 q.2.2 :: u_ws q.1 q.2.1 q.2.2, w ∈ lw_tbl := List.forall_mem_cons.mpr ⟨inC_J0, List.forall_mem_cons.mpr ⟨inC_J4, List.forall_mem_cons.mpr ⟨inC_Jx4a65c, List.forall_mem_cons.mpr ⟨inC_X0, List.forall_mem_cons.mpr ⟨inC_X1, List.forall_mem_cons.mpr ⟨inC_X2, List.forall_mem_cons.mpr ⟨inC_X3, List.forall_mem_cons.mpr ⟨inC_X4, List.forall_mem_cons.mpr ⟨inC_X5, List.forall_mem_cons.mpr ⟨inC_X6, List.forall_mem_cons.mpr ⟨inC_X7, List.forall_mem_cons.mpr ⟨inC_X8, List.forall_mem_cons.mpr ⟨inC_X9, List.forall_mem_cons.mpr ⟨inC_X10, List.forall_mem_cons.mpr ⟨inC_X11, List.forall_mem_cons.mpr ⟨inC_X12, fun _ h => absurd h List.not_mem_nil⟩⟩⟩⟩⟩⟩⟩⟩⟩⟩⟩⟩⟩⟩⟩⟩
set_option maxRecDepth 20000 in
theorem inNest : ∀ q ∈ kNest, Cond.methodLinkNest q.1 q.2.1 q.2.2.1 q.2.2.2 ∈ lw_tbl := fun q hq => sg_mem (ws := kNest.map fun q => Cond.methodLinkNest q.1 q.2.1 q.2.2.1 q.2.2.2) [(97, 1), (145, 1), (155, 1), (165, 1), (188, 1), (264, 1), (322, 1), (379, 1), (406, 1), (431, 1), (1659, 1), (1652, 2), (1670, 1), (1703, 2), (1710, 2), (757, 1), (642, 1), (658, 1), (1739, 1), (308, 1), (1300, 2), (1304, 1), (1413, 2), (1423, 1), (771, 1), (1442, 1), (1215, 1), (1556, 1), (1190, 1), (529, 1), (891, 1)] rfl _ (List.mem_map.mpr ⟨q, hq, rfl⟩)
def eFew : List Cond := [Cond.laysStatic "java/lang/String" "COMPACT_STRINGS" "Z", Cond.laysStatic "jdk/internal/util/Preconditions" "SIOOBE_FORMATTER" "Ljava/util/function/BiFunction;", Cond.laysStatic "java/lang/Integer" "DigitTens" "[B", Cond.laysStatic "java/lang/Integer" "DigitOnes" "[B", Cond.laysStatic "java/util/ArrayList" "DEFAULTCAPACITY_EMPTY_ELEMENTDATA" "[Ljava/lang/Object;", Cond.initialized "java/lang/String", Cond.initialized "jdk/internal/util/Preconditions", Cond.initialized "java/lang/Integer", Cond.initialized "java/util/ArrayList", Cond.castable "[I" "java/lang/Object", Cond.castable "[B" "java/lang/Cloneable", Cond.arrayClass .int, Cond.arrayClass .long, Cond.arrayClass .byte, Cond.arrayOver (.object "ShareGraph$Sharing"), Cond.arrayOver (.array .int), Cond.arrayOver (.object "java/lang/Object"), Cond.declares ⟨"java/lang/Object", "getClass", "()Ljava/lang/Class;"⟩, Cond.castable RJx4a65c "java/util/List", Cond.declares ⟨"java/util/List", "add", "(Ljava/lang/Object;)Z"⟩, Cond.interfaceMethod "java/util/List" "java/util/List" "add" "(Ljava/lang/Object;)Z", Cond.publicMethod yJx4a65c_add_9ea2d, Cond.unhidden RJx4a65c "add" "(Ljava/lang/Object;)Z", Cond.declares ⟨"java/util/List", "size", "()I"⟩, Cond.interfaceMethod "java/util/List" "java/util/List" "size" "()I", Cond.publicMethod yJx4a65c_size_8abf5, Cond.unhidden RJx4a65c "size" "()I", Cond.declares ⟨"java/util/List", "get", "(I)Ljava/lang/Object;"⟩, Cond.interfaceMethod "java/util/List" "java/util/List" "get" "(I)Ljava/lang/Object;", Cond.publicMethod yJx4a65c_get_915e3, Cond.unhidden RJx4a65c "get" "(I)Ljava/lang/Object;", Cond.declares ⟨"java/util/List", "remove", "(I)Ljava/lang/Object;"⟩, Cond.interfaceMethod "java/util/List" "java/util/List" "remove" "(I)Ljava/lang/Object;", Cond.publicMethod yJx4a65c_remove_915e3, Cond.unhidden RJx4a65c "remove" "(I)Ljava/lang/Object;"]
set_option maxRecDepth 20000 in
theorem inFew : ∀ w ∈ eFew, w ∈ lw_tbl := sg_mem [(573, 1), (589, 1), (1014, 1), (1012, 1), (800, 1), (58, 1), (64, 1), (67, 1), (55, 1), (1873, 1), (939, 1), (142, 1), (261, 1), (749, 1), (307, 1), (786, 1), (1157, 1), (1872, 1), (1108, 1), (1107, 1), (1106, 1), (1112, 1), (1110, 1), (1247, 1), (1246, 1), (1251, 1), (1249, 1), (1266, 1), (1265, 1), (1270, 1), (1268, 1), (1474, 1), (1473, 1), (1478, 1), (1476, 1)] rfl
set_option maxRecDepth 20000 in
theorem inLdc : ∀ q ∈ kLdc, Cond.stringRef q.1 q.2.1 q.2.2.1 ∈ lw_tbl := fun q hq => sg_mem (ws := kLdc.map fun q => Cond.stringRef q.1 q.2.1 q.2.2.1) [(900, 1), (1023, 4), (1101, 3), (1030, 1), (813, 1), (559, 1), (645, 1), (663, 1), (672, 1), (677, 1)] rfl _ (List.mem_map.mpr ⟨q, hq, rfl⟩)
/-- the parts of what the Statement gives of the start, in a row -/
def nfl : Cond → List Cond → List Cond
  | .and a b, acc => nfl a (nfl b acc)
  | c, acc => c :: acc
theorem nfl_before {args : Array Value} {s : State} (T : Cond) : ∀ acc : List Cond, T.before args s = true → (∀ w ∈ acc, w.before args s = true) → ∀ w ∈ nfl T acc, w.before args s = true := by
  induction T with
  | and a b iha ihb =>
    intro acc h hacc
    rw [Cond.before_and, Bool.and_eq_true] at h
    simp only [nfl]
    exact iha _ h.1 (ihb _ h.2 hacc)
  | _ =>
    intro acc h hacc w hw
    simp only [nfl, List.mem_cons] at hw
    rcases hw with rfl | hw
    · exact h
    · exact hacc w hw
def eNar : List Cond := nfl (Jvm.Cond.and given_1 narrow_1) []
/-- a text's words: whose constant, its entry, its text; its letters -/
def wtm (q : (String × Nat × String × Nat) × List Int) : Term := .string q.1.1 q.1.2.1
def wvl (q : (String × Nat × String × Nat) × List Int) : Term := .field (wtm q) "java/lang/String" "value" "[B"
def wexp (q : (String × Nat × String × Nat) × List Int) : List Cond := [.exactly (wtm q) "java/lang/String", .eq (.field (wtm q) "java/lang/String" "coder" "B") (.int (iZ 0)), .arrayOf (wvl q) .byte, .eq (.length (wvl q)) (.int (Int32.ofNat q.2.length))] ++ (List.range q.2.length).map (fun j => .eq (.elem (wvl q) (.int (Int32.ofNat j))) (.int (iZ (q.2.getD j 0))))
def kWr : List ((String × Nat × String × Nat) × List Int) := List.zip kLdc kLit
set_option maxRecDepth 20000 in
theorem inLet : ∀ q ∈ kWr, ∀ w ∈ wexp q, w ∈ eNar := fun q hq w hw => sg_mem (ws := kWr.flatMap wexp) [(316, 47), (368, 21), (363, 5), (312, 4), (241, 46)] rfl w (List.mem_flatMap.mpr ⟨q, hq, hw⟩)
def eNrf : List Cond := [Cond.eq (.static "java/lang/String" "COMPACT_STRINGS" "Z") (.int (iZ 1)), Cond.isRef (.static "jdk/internal/util/Preconditions" "SIOOBE_FORMATTER" "Ljava/util/function/BiFunction;"), Cond.arrayOf (.static "java/util/ArrayList" "DEFAULTCAPACITY_EMPTY_ELEMENTDATA" "[Ljava/lang/Object;") (.object "java/lang/Object"), Cond.eq (.length (.static "java/util/ArrayList" "DEFAULTCAPACITY_EMPTY_ELEMENTDATA" "[Ljava/lang/Object;")) (.int (Int32.ofNat 0)), Cond.isRef (.mirror "[Ljava/lang/Object;"), Cond.arrayOf (.static "java/lang/Integer" "DigitTens" "[B") .byte, Cond.eq (.length (.static "java/lang/Integer" "DigitTens" "[B")) (.int (Int32.ofNat 100)), Cond.arrayOf (.static "java/lang/Integer" "DigitOnes" "[B") .byte, Cond.eq (.length (.static "java/lang/Integer" "DigitOnes" "[B")) (.int (Int32.ofNat 100))]
set_option maxRecDepth 20000 in
theorem inNrf : ∀ w ∈ eNrf, w ∈ eNar := sg_mem [(4, 2), (12, 1), (14, 1), (240, 1), (119, 2), (16, 2)] rfl
def wdg_932 : List Cond := (List.range 100).map (fun j => Cond.eq (.elem (.static "java/lang/Integer" "DigitTens" "[B") (.int (Int32.ofNat j))) (.int (iZ (lval 932 j))))
set_option maxRecDepth 20000 in
theorem inDg_932 : ∀ w ∈ wdg_932, w ∈ eNar := sg_mem [(121, 100)] rfl
def wdg_933 : List Cond := (List.range 100).map (fun j => Cond.eq (.elem (.static "java/lang/Integer" "DigitOnes" "[B") (.int (Int32.ofNat j))) (.int (iZ (lval 933 j))))
set_option maxRecDepth 20000 in
theorem inDg_933 : ∀ w ∈ wdg_933, w ∈ eNar := sg_mem [(18, 100)] rfl
theorem lwx {w : Cond} (h : w ∈ lw_tbl) : w ∈ xt_tbl := List.mem_append_right _ h
theorem wsL_law_in0 : ∀ w ∈ wsL_law0, w ∈ xt_tbl := ap_in (ap_in (ap_in (ap_in (ap_in (ap_in (ap_in (ap_in (ap_in (ap_in (ap_in (ap_in (ap_in (ap_in (ap_in (ap_in (ap_in (ap_in win_1 (ap_in win_2 (ap_in win_3 (ap_in win_4 (ap_in win_5 (ap_in win_6 (ap_in win_7 (ap_in win_8 (ap_in win_9 (ap_in win_10 (ap_in win_11 (ap_in win_12 (ap_in win_13 (ap_in win_14 (ap_in win_15 (ap_in win_16 (ap_in win_17 (ap_in win_18 (ap_in win_19 (ap_in win_20 (ap_in win_21 (ap_in win_22 (ap_in win_23 (ap_in win_24 (ap_in win_25 (ap_in win_26 (ap_in win_27 (ap_in win_28 (ap_in win_29 (ap_in win_30 (ap_in win_31 (ap_in win_32 (ap_in win_33 (ap_in win_34 (ap_in win_35 (ap_in win_36 (ap_in win_37 (ap_in win_38 (ap_in win_39 (ap_in win_40 (ap_in win_41 (ap_in win_42 (ap_in win_43 (ap_in win_44 (ap_in win_45 (ap_in win_46 (ap_in win_47 (ap_in win_48 (ap_in win_49 (ap_in win_50 (ap_in win_51 (ap_in win_52 (ap_in win_53 (ap_in win_54 (ap_in win_55 (win_56)))))))))))))))))))))))))))))))))))))))))))))))))))))))) (fun w h => lwx (inC_X11 w (List.mem_cons_of_mem _ h)))) (fun w h => lwx (inC_X12 w (List.mem_cons_of_mem _ h)))) (fun w h => lwx (inC_J4 w (List.mem_cons_of_mem _ h)))) (fun w h => lwx (inC_Jx4a65c w (List.mem_cons_of_mem _ h)))) (fun w h => lwx (inC_J0 w (List.mem_cons_of_mem _ h)))) (fun w h => lwx (inC_X10 w (List.mem_cons_of_mem _ h)))) (fun w h => lwx (inC_X9 w (List.mem_cons_of_mem _ h)))) (fun w h => lwx (inC_X7 w (List.mem_cons_of_mem _ h)))) (fun w h => lwx (inC_X6 w (List.mem_cons_of_mem _ h)))) (fun w h => lwx (inC_X2 w (List.mem_cons_of_mem _ h)))) (fun w h => lwx (inC_X8 w (List.mem_cons_of_mem _ h)))) (fun w h => lwx (inC_X3 w (List.mem_cons_of_mem _ h)))) (fun w h => lwx (inC_X4 w (List.mem_cons_of_mem _ h)))) (fun w h => lwx (inC_X5 w (List.mem_cons_of_mem _ h)))) (fun w h => lwx (inC_X0 w (List.mem_cons_of_mem _ h)))) (fun w h => lwx (inC_X1 w (List.mem_cons_of_mem _ h)))) (fun w h => absurd h List.not_mem_nil)
theorem wsL_law_x0 : ∀ w ∈ (vx_atS RX11 110 "java/lang/IllegalStateException" ["java/lang/RuntimeException", "java/lang/Exception"]).filter goodWord, w ∈ lw_tbl := by decide +kernel
theorem wsL_law_x1 : ∀ w ∈ (vx_atS RX11 121 "java/lang/IllegalArgumentException" ["java/lang/RuntimeException", "java/lang/Exception"]).filter goodWord, w ∈ lw_tbl := by decide +kernel
theorem wsL_law_x2 : ∀ w ∈ (vx_atS RX11 292 "java/lang/IndexOutOfBoundsException" ["java/lang/RuntimeException", "java/lang/Exception"]).filter goodWord, w ∈ lw_tbl := by decide +kernel
theorem wsL_law_in : ∀ w ∈ wsL_law, w ∈ xt_tbl := ap_in (ap_in (ap_in wsL_law_in0 (fun w h => lwx (wsL_law_x0 w h))) (fun w h => lwx (wsL_law_x1 w h))) (fun w h => lwx (wsL_law_x2 w h))

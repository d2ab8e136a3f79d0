/-! ===== what holds at the law's entry, out of the tables' words and the start ===== -/
theorem ap_in {a b T : List Cond} (h1 : ∀ w ∈ a, w ∈ T) (h2 : ∀ w ∈ b, w ∈ T) : ∀ w ∈ a ++ b, w ∈ T := fun w h => (List.mem_append.mp h).elim (h1 w) (h2 w)
theorem in_pl {big ws : List Cond} (ps : List Nat) (hp : ws = ps.filterMap (fun i => big[i]?)) : ∀ w ∈ ws, w ∈ big := by
  intro w hw
  rw [hp] at hw
  obtain ⟨i, -, hi⟩ := List.mem_filterMap.mp hw
  first | exact List.mem_of_getElem? hi | exact List.getElem?_mem hi
set_option maxRecDepth 20000 in
theorem inX_0 : ∀ w ∈ Cond.instantiable RX0 5 :: u_ws RX0 TX0 5, w ∈ lw_tbl := in_pl [507, 520, 522, 524, 526, 528] (by decide +kernel)
set_option maxRecDepth 20000 in
theorem inX_1 : ∀ w ∈ Cond.instantiable RX1 6 :: u_ws RX1 TX1 6, w ∈ lw_tbl := in_pl [532, 545, 547, 549, 551, 553, 555] (by decide +kernel)
set_option maxRecDepth 20000 in
theorem inX_2 : ∀ w ∈ Cond.instantiable RX2 12 :: u_ws RX2 TX2 12, w ∈ lw_tbl := in_pl [288, 338, 340, 342, 344, 346, 348, 350, 352, 354, 356, 358, 360] (by decide +kernel)
set_option maxRecDepth 20000 in
theorem inX_3 : ∀ w ∈ Cond.instantiable RX3 3 :: u_ws RX3 TX3 3, w ∈ lw_tbl := in_pl [403, 415, 417, 419] (by decide +kernel)
set_option maxRecDepth 20000 in
theorem inX_4 : ∀ w ∈ Cond.instantiable RX4 12 :: u_ws RX4 TX4 12, w ∈ lw_tbl := in_pl [423, 454, 456, 458, 460, 462, 464, 466, 468, 470, 472, 474, 476] (by decide +kernel)
set_option maxRecDepth 20000 in
theorem inX_5 : ∀ w ∈ Cond.instantiable RX5 5 :: u_ws RX5 TX5 5, w ∈ lw_tbl := in_pl [480, 495, 497, 499, 501, 503] (by decide +kernel)
set_option maxRecDepth 20000 in
theorem inX_6 : ∀ w ∈ Cond.instantiable RX6 6 :: u_ws RX6 TX6 6, w ∈ lw_tbl := in_pl [257, 274, 276, 278, 280, 282, 284] (by decide +kernel)
set_option maxRecDepth 20000 in
theorem inX_7 : ∀ w ∈ Cond.instantiable RX7 1 :: u_ws RX7 TX7 1, w ∈ lw_tbl := in_pl [247, 253] (by decide +kernel)
set_option maxRecDepth 20000 in
theorem inX_8 : ∀ w ∈ Cond.instantiable RX8 7 :: u_ws RX8 TX8 7, w ∈ lw_tbl := in_pl [365, 387, 389, 391, 393, 395, 397, 399] (by decide +kernel)
set_option maxRecDepth 20000 in
theorem inX_9 : ∀ w ∈ Cond.instantiable RX9 1 :: u_ws RX9 TX9 1, w ∈ lw_tbl := in_pl [237, 243] (by decide +kernel)
set_option maxRecDepth 20000 in
theorem inX_10 : ∀ w ∈ Cond.instantiable RX10 12 :: u_ws RX10 TX10 12, w ∈ lw_tbl := in_pl [182, 210, 212, 214, 216, 218, 220, 222, 224, 226, 228, 230, 232] (by decide +kernel)
set_option maxRecDepth 20000 in
theorem inX_11 : ∀ w ∈ Cond.instantiable RX11 18 :: u_ws RX11 TX11 18, w ∈ lw_tbl := in_pl [174, 576, 578, 580, 582, 584, 586, 588, 590, 592, 594, 596, 598, 600, 602, 604, 606, 608, 610] (by decide +kernel)
set_option maxRecDepth 20000 in
theorem inX_12 : ∀ w ∈ Cond.instantiable RX12 48 :: u_ws RX12 TX12 48, w ∈ lw_tbl := in_pl [1630, 1687, 1689, 1691, 1693, 1695, 1697, 1699, 1701, 1703, 1705, 1707, 1709, 1711, 1713, 1715, 1717, 1719, 1721, 1723, 1725, 1727, 1729, 1731, 1733, 1735, 1737, 1739, 1741, 1743, 1745, 1747, 1749, 1751, 1753, 1755, 1757, 1759, 1761, 1763, 1765, 1767, 1769, 1771, 1773, 1775, 1777, 1779, 1781] (by decide +kernel)
theorem inX_all : ∀ q ∈ vwCl, ∀ w ∈ Cond.instantiable q.1 q.2.2 :: u_ws q.1 q.2.1 q.2.2, w ∈ lw_tbl := List.forall_mem_cons.mpr ⟨inX_0, List.forall_mem_cons.mpr ⟨inX_1, List.forall_mem_cons.mpr ⟨inX_2, List.forall_mem_cons.mpr ⟨inX_3, List.forall_mem_cons.mpr ⟨inX_4, List.forall_mem_cons.mpr ⟨inX_5, List.forall_mem_cons.mpr ⟨inX_6, List.forall_mem_cons.mpr ⟨inX_7, List.forall_mem_cons.mpr ⟨inX_8, List.forall_mem_cons.mpr ⟨inX_9, List.forall_mem_cons.mpr ⟨inX_10, List.forall_mem_cons.mpr ⟨inX_11, List.forall_mem_cons.mpr ⟨inX_12, fun _ h => absurd h List.not_mem_nil⟩⟩⟩⟩⟩⟩⟩⟩⟩⟩⟩⟩⟩
set_option maxRecDepth 20000 in
theorem inNest : ∀ q ∈ kNest, Cond.methodLinkNest q.1 q.2.1 q.2.2.1 q.2.2.2 ∈ lw_tbl := fun q hq => in_pl (ws := kNest.map fun q => Cond.methodLinkNest q.1 q.2.1 q.2.2.1 q.2.2.2) [183, 238, 248, 258, 289, 366, 424, 481, 508, 533, 803, 796, 797, 822, 628, 631, 639, 642, 911, 1149, 706, 1472, 410, 678, 679, 680, 738, 739, 748, 1223, 1280, 1285, 1214, 1248, 864, 848, 664, 870, 993, 1041] (by decide +kernel) _ (List.mem_map.mpr ⟨q, hq, rfl⟩)
def eFew : List Cond := [Cond.laysStatic "java/lang/Throwable" "UNASSIGNED_STACK" "[Ljava/lang/StackTraceElement;", Cond.laysStatic "java/lang/Throwable" "SUPPRESSED_SENTINEL" "Ljava/util/List;", Cond.laysStatic "java/lang/String" "COMPACT_STRINGS" "Z", Cond.laysStatic "jdk/internal/util/Preconditions" "SIOOBE_FORMATTER" "Ljava/util/function/BiFunction;", Cond.initialized "java/lang/Throwable", Cond.initialized "java/lang/String", Cond.initialized "jdk/internal/util/Preconditions", Cond.castable "java/lang/IllegalArgumentException" "java/lang/IllegalArgumentException", Cond.castable "java/lang/IndexOutOfBoundsException" "java/lang/IndexOutOfBoundsException", Cond.castable "java/lang/IllegalStateException" "java/lang/IllegalStateException", Cond.arrayClass .int, Cond.arrayClass .long, Cond.arrayOver (.object "ShareGraph$Sharing")]
set_option maxRecDepth 20000 in
theorem inFew : ∀ w ∈ eFew, w ∈ lw_tbl := in_pl [948, 950, 1083, 1099, 159, 164, 166, 1004, 1309, 923, 235, 363, 409] (by decide +kernel)
set_option maxRecDepth 20000 in
theorem inWrd : ∀ q ∈ kWrd, Cond.stringRef q.1 q.2.1 q.2.2.1 ∈ lw_tbl := fun q hq => in_pl (ws := kWrd.map fun q => Cond.stringRef q.1 q.2.1 q.2.2.1) [1069, 1150, 1164, 1173, 1178, 1233, 1235, 1236, 1237, 1238, 1239, 1240, 1241, 1242] (by decide +kernel) _ (List.mem_map.mpr ⟨q, hq, rfl⟩)
set_option maxRecDepth 20000 in
theorem inStr : ∀ q ∈ kStr, Cond.stringRef RX11 q.1 q.2 ∈ lw_tbl := fun q hq => in_pl (ws := kStr.map fun q => Cond.stringRef RX11 q.1 q.2) [962, 1011, 1183, 1270, 1384, 1408, 1421, 1327, 1316, 1429, 1430, 1477, 1489, 1535, 1554, 1555, 1563, 1571, 1579, 1587, 1595, 1603, 1604, 1612, 1620, 1628] (by decide +kernel) _ (List.mem_map.mpr ⟨q, hq, rfl⟩)
/-- the parts of what the Statement gives of the start, in a row -/
def nfl : Cond → List Cond → List Cond
  | .and a b, acc => nfl a (nfl b acc)
  | c, acc => c :: acc
theorem nfl_before {args : Array Value} {s : State} (T : Cond) : ∀ acc : List Cond, T.before args s = true → (∀ w ∈ acc, w.before args s = true) → ∀ w ∈ nfl T acc, w.before args s = true := by
  induction T with
  | and a b iha ihb =>
    intro acc h hacc
    rw [Cond.before_and, Bool.and_eq_true] at h
    simp only [nfl]
    exact iha _ h.1 (ihb _ h.2 hacc)
  | _ =>
    intro acc h hacc w hw
    simp only [nfl, List.mem_cons] at hw
    rcases hw with rfl | hw
    · exact h
    · exact hacc w hw
def eNar : List Cond := nfl (Jvm.Cond.and given_1 narrow_1) []
def wtm (q : String × Nat × String × List Int × Int) : Term := .string q.1 q.2.1
def wvl (q : String × Nat × String × List Int × Int) : Term := .field (wtm q) "java/lang/String" "value" "[B"
def wexp (q : String × Nat × String × List Int × Int) : List Cond := [.exactly (wtm q) "java/lang/String", .eq (.field (wtm q) "java/lang/String" "coder" "B") (.int (iZ 0)), .arrayOf (wvl q) .byte, .eq (.length (wvl q)) (.int (Int32.ofNat q.2.2.2.1.length))] ++ (List.range q.2.2.2.1.length).map (fun j => .eq (.elem (wvl q) (.int (Int32.ofNat j))) (.int (iZ (q.2.2.2.1.getD j 0))))
set_option maxRecDepth 20000 in
theorem inLet : ∀ q ∈ kWrd, ∀ w ∈ wexp q, w ∈ eNar := fun q hq w hw => in_pl (ws := kWrd.flatMap wexp) [131, 132, 133, 134, 135, 136, 137, 138, 139, 140, 141, 142, 143, 144, 145, 146, 147, 148, 149, 150, 151, 152, 153, 154, 155, 156, 157, 158, 159, 160, 161, 162, 163, 164, 165, 166, 167, 168, 169, 170, 171, 172, 173, 174, 175, 176, 202, 203, 204, 205, 206, 207, 208, 209, 210, 211, 212, 213, 214, 215, 216, 217, 218, 219, 220, 221, 222, 223, 224, 225, 226, 227, 228, 229, 230, 231, 232, 233, 234, 235, 236, 237, 238, 239, 240, 241, 242, 243, 244, 245, 246, 247, 248, 249, 250, 251, 252, 253, 254, 255, 256, 257, 258, 259, 260, 261, 262, 263, 264, 265, 266, 267, 268, 269, 270, 271, 273, 274, 275, 276, 277, 278, 279, 280, 281, 282] (by decide +kernel) w (List.mem_flatMap.mpr ⟨q, hq, hw⟩)
set_option maxRecDepth 20000 in
theorem inExa : ∀ q ∈ kStr, Cond.exactly (.string RX11 q.1) "java/lang/String" ∈ eNar := fun q hq => in_pl (ws := kStr.map fun q => Cond.exactly (.string RX11 q.1) "java/lang/String") [56, 93, 177, 283, 343, 378, 406, 327, 310, 424, 440, 474, 507, 541, 572, 589, 624, 663, 681, 719, 748, 780, 813, 861, 884, 912] (by decide +kernel) _ (List.mem_map.mpr ⟨q, hq, rfl⟩)
def eNrf : List Cond := [Cond.isRef (.static "java/lang/Throwable" "UNASSIGNED_STACK" "[Ljava/lang/StackTraceElement;"), Cond.isRef (.static "java/lang/Throwable" "SUPPRESSED_SENTINEL" "Ljava/util/List;"), Cond.eq (.static "java/lang/String" "COMPACT_STRINGS" "Z") (.int (iZ 1)), Cond.isRef (.static "jdk/internal/util/Preconditions" "SIOOBE_FORMATTER" "Ljava/util/function/BiFunction;"), Cond.not (.castable (xcl 0) (xcl 1)), Cond.not (.castable (xcl 0) (xcl 2)), Cond.not (.castable (xcl 1) (xcl 0)), Cond.not (.castable (xcl 1) (xcl 2)), Cond.not (.castable (xcl 2) (xcl 0)), Cond.not (.castable (xcl 2) (xcl 1))]
set_option maxRecDepth 20000 in
theorem inNrf : ∀ w ∈ eNrf, w ∈ eNar := in_pl [4, 5, 6, 7, 55, 24, 40, 25, 39, 54] (by decide +kernel)
theorem wsL_law_in0 : ∀ w ∈ wsL_law0, w ∈ lw_tbl := ap_in (ap_in (ap_in (ap_in (ap_in (ap_in (ap_in (ap_in (ap_in (ap_in (ap_in (ap_in (ap_in (ap_in (ap_in win_1 (ap_in win_2 (ap_in win_3 (ap_in win_4 (ap_in win_5 (ap_in win_6 (ap_in win_7 (ap_in win_8 (ap_in win_9 (ap_in win_10 (ap_in win_11 (ap_in win_12 (ap_in win_13 (ap_in win_14 (ap_in win_15 (ap_in win_16 (ap_in win_17 (ap_in win_18 (ap_in win_19 (ap_in win_20 (ap_in win_21 (ap_in win_22 (ap_in win_23 (ap_in win_24 (ap_in win_25 (ap_in win_26 (ap_in win_27 (ap_in win_28 (ap_in win_29 (ap_in win_30 (ap_in win_31 (ap_in win_32 (ap_in win_33 (ap_in win_34 (ap_in win_35 (ap_in win_36 (ap_in win_37 (ap_in win_38 (ap_in win_39 (ap_in win_40 (ap_in win_41 (ap_in win_42 (ap_in win_43 (ap_in win_44 (ap_in win_45 (ap_in win_46 (ap_in win_47 (ap_in win_48 (ap_in win_49 (ap_in win_50 (ap_in win_51 (ap_in win_52 (ap_in win_53 (ap_in win_54 (ap_in win_55 (ap_in win_56 (ap_in win_57 (ap_in win_58 (ap_in win_59 (ap_in win_60 (ap_in win_61 (ap_in win_62 (ap_in win_63 (ap_in win_64 (ap_in win_65 (ap_in win_66 (ap_in win_67 (ap_in win_68 (ap_in win_69 (ap_in win_70 (ap_in win_71 (ap_in win_72 (win_73))))))))))))))))))))))))))))))))))))))))))))))))))))))))))))))))))))))))) (fun w h => inX_11 w (List.mem_cons_of_mem _ h))) (fun w h => inX_12 w (List.mem_cons_of_mem _ h))) (fun w h => inX_10 w (List.mem_cons_of_mem _ h))) (fun w h => inX_9 w (List.mem_cons_of_mem _ h))) (fun w h => inX_7 w (List.mem_cons_of_mem _ h))) (fun w h => inX_6 w (List.mem_cons_of_mem _ h))) (fun w h => inX_2 w (List.mem_cons_of_mem _ h))) (fun w h => inX_8 w (List.mem_cons_of_mem _ h))) (fun w h => inX_3 w (List.mem_cons_of_mem _ h))) (fun w h => inX_4 w (List.mem_cons_of_mem _ h))) (fun w h => inX_5 w (List.mem_cons_of_mem _ h))) (fun w h => inX_0 w (List.mem_cons_of_mem _ h))) (fun w h => inX_1 w (List.mem_cons_of_mem _ h))) (fun _ h => absurd h List.not_mem_nil)
theorem wsL_law_x0 : ∀ w ∈ (vx_atS RX11 110 "java/lang/IllegalStateException" ["java/lang/RuntimeException", "java/lang/Exception"]).filter goodWord, w ∈ lw_tbl := by decide +kernel
theorem wsL_law_x1 : ∀ w ∈ (vx_atS RX11 121 "java/lang/IllegalArgumentException" ["java/lang/RuntimeException", "java/lang/Exception"]).filter goodWord, w ∈ lw_tbl := by decide +kernel
theorem wsL_law_x2 : ∀ w ∈ (vx_atS RX11 292 "java/lang/IndexOutOfBoundsException" ["java/lang/RuntimeException", "java/lang/Exception"]).filter goodWord, w ∈ lw_tbl := by decide +kernel
theorem wsL_law_in : ∀ w ∈ wsL_law, w ∈ lw_tbl := ap_in (ap_in (ap_in wsL_law_in0 wsL_law_x0) wsL_law_x1) wsL_law_x2

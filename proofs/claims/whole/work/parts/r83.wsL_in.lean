/-! ===== what holds at the law's entry, out of the tables' words and the start ===== -/
theorem ap_in {a b T : List Cond} (h1 : ∀ w ∈ a, w ∈ T) (h2 : ∀ w ∈ b, w ∈ T) : ∀ w ∈ a ++ b, w ∈ T := fun w h => (List.mem_append.mp h).elim (h1 w) (h2 w)
theorem in_pl {big ws : List Cond} (ps : List Nat) (hp : ws = ps.filterMap (fun i => big[i]?)) : ∀ w ∈ ws, w ∈ big := by
  intro w hw
  rw [hp] at hw
  obtain ⟨i, -, hi⟩ := List.mem_filterMap.mp hw
  first | exact List.mem_of_getElem? hi | exact List.getElem?_mem hi
set_option maxRecDepth 20000 in
theorem inX_0 : ∀ w ∈ Cond.instantiable RX0 5 :: u_ws RX0 TX0 5, w ∈ lw_tbl := in_pl [507, 520, 522, 524, 526, 528] (by decide +kernel)
set_option maxRecDepth 20000 in
theorem inX_1 : ∀ w ∈ Cond.instantiable RX1 6 :: u_ws RX1 TX1 6, w ∈ lw_tbl := in_pl [532, 545, 547, 549, 551, 553, 555] (by decide +kernel)
set_option maxRecDepth 20000 in
theorem inX_2 : ∀ w ∈ Cond.instantiable RX2 12 :: u_ws RX2 TX2 12, w ∈ lw_tbl := in_pl [288, 338, 340, 342, 344, 346, 348, 350, 352, 354, 356, 358, 360] (by decide +kernel)
set_option maxRecDepth 20000 in
theorem inX_3 : ∀ w ∈ Cond.instantiable RX3 3 :: u_ws RX3 TX3 3, w ∈ lw_tbl := in_pl [403, 415, 417, 419] (by decide +kernel)
set_option maxRecDepth 20000 in
theorem inX_4 : ∀ w ∈ Cond.instantiable RX4 12 :: u_ws RX4 TX4 12, w ∈ lw_tbl := in_pl [423, 454, 456, 458, 460, 462, 464, 466, 468, 470, 472, 474, 476] (by decide +kernel)
set_option maxRecDepth 20000 in
theorem inX_5 : ∀ w ∈ Cond.instantiable RX5 5 :: u_ws RX5 TX5 5, w ∈ lw_tbl := in_pl [480, 495, 497, 499, 501, 503] (by decide +kernel)
set_option maxRecDepth 20000 in
theorem inX_6 : ∀ w ∈ Cond.instantiable RX6 6 :: u_ws RX6 TX6 6, w ∈ lw_tbl := in_pl [257, 274, 276, 278, 280, 282, 284] (by decide +kernel)
set_option maxRecDepth 20000 in
theorem inX_7 : ∀ w ∈ Cond.instantiable RX7 1 :: u_ws RX7 TX7 1, w ∈ lw_tbl := in_pl [247, 253] (by decide +kernel)
set_option maxRecDepth 20000 in
theorem inX_8 : ∀ w ∈ Cond.instantiable RX8 7 :: u_ws RX8 TX8 7, w ∈ lw_tbl := in_pl [365, 387, 389, 391, 393, 395, 397, 399] (by decide +kernel)
set_option maxRecDepth 20000 in
theorem inX_9 : ∀ w ∈ Cond.instantiable RX9 1 :: u_ws RX9 TX9 1, w ∈ lw_tbl := in_pl [237, 243] (by decide +kernel)
set_option maxRecDepth 20000 in
theorem inX_10 : ∀ w ∈ Cond.instantiable RX10 12 :: u_ws RX10 TX10 12, w ∈ lw_tbl := in_pl [182, 210, 212, 214, 216, 218, 220, 222, 224, 226, 228, 230, 232] (by decide +kernel)
set_option maxRecDepth 20000 in
theorem inX_11 : ∀ w ∈ Cond.instantiable RX11 18 :: u_ws RX11 TX11 18, w ∈ lw_tbl := in_pl [174, 576, 578, 580, 582, 584, 586, 588, 590, 592, 594, 596, 598, 600, 602, 604, 606, 608, 610] (by decide +kernel)
set_option maxRecDepth 20000 in
theorem inX_12 : ∀ w ∈ Cond.instantiable RX12 48 :: u_ws RX12 TX12 48, w ∈ lw_tbl := in_pl [1630, 1687, 1689, 1691, 1693, 1695, 1697, 1699, 1701, 1703, 1705, 1707, 1709, 1711, 1713, 1715, 1717, 1719, 1721, 1723, 1725, 1727, 1729, 1731, 1733, 1735, 1737, 1739, 1741, 1743, 1745, 1747, 1749, 1751, 1753, 1755, 1757, 1759, 1761, 1763, 1765, 1767, 1769, 1771, 1773, 1775, 1777, 1779, 1781] (by decide +kernel)
theorem inX_all : ∀ q ∈ vwCl, ∀ w ∈ Cond.instantiable q.1 q.2.2 :: u_ws q.1 q.2.1 q.2.2, w ∈ lw_tbl := List.forall_mem_cons.mpr ⟨inX_0, List.forall_mem_cons.mpr ⟨inX_1, List.forall_mem_cons.mpr ⟨inX_2, List.forall_mem_cons.mpr ⟨inX_3, List.forall_mem_cons.mpr ⟨inX_4, List.forall_mem_cons.mpr ⟨inX_5, List.forall_mem_cons.mpr ⟨inX_6, List.forall_mem_cons.mpr ⟨inX_7, List.forall_mem_cons.mpr ⟨inX_8, List.forall_mem_cons.mpr ⟨inX_9, List.forall_mem_cons.mpr ⟨inX_10, List.forall_mem_cons.mpr ⟨inX_11, List.forall_mem_cons.mpr ⟨inX_12, fun _ h => absurd h List.not_mem_nil⟩⟩⟩⟩⟩⟩⟩⟩⟩⟩⟩⟩⟩
set_option maxRecDepth 20000 in
theorem inNest : ∀ q ∈ kNest, Cond.methodLinkNest q.1 q.2.1 q.2.2.1 q.2.2.2 ∈ lw_tbl := fun q hq => in_pl (ws := kNest.map fun q => Cond.methodLinkNest q.1 q.2.1 q.2.2.1 q.2.2.2) [183, 238, 248, 258, 289, 366, 424, 481, 508, 533, 803, 796, 797, 822, 628, 631, 639, 642, 911, 1149, 706, 1472, 410, 678, 679, 680, 738, 739, 748, 1223, 1280, 1285, 1214, 1248, 864, 848, 664, 870, 993, 1041] (by decide +kernel) _ (List.mem_map.mpr ⟨q, hq, rfl⟩)
def eFew : List Cond := [Cond.laysStatic "java/lang/Throwable" "UNASSIGNED_STACK" "[Ljava/lang/StackTraceElement;", Cond.laysStatic "java/lang/Throwable" "SUPPRESSED_SENTINEL" "Ljava/util/List;", Cond.laysStatic "java/lang/String" "COMPACT_STRINGS" "Z", Cond.laysStatic "jdk/internal/util/Preconditions" "SIOOBE_FORMATTER" "Ljava/util/function/BiFunction;", Cond.initialized "java/lang/Throwable", Cond.initialized "java/lang/String", Cond.initialized "jdk/internal/util/Preconditions", Cond.castable "java/lang/IllegalArgumentException" "java/lang/IllegalArgumentException", Cond.castable "java/lang/IndexOutOfBoundsException" "java/lang/IndexOutOfBoundsException", Cond.castable "java/lang/IllegalStateException" "java/lang/IllegalStateException", Cond.arrayClass .int, Cond.arrayClass .long, Cond.arrayOver (.object "ShareGraph$Sharing")]
set_option maxRecDepth 20000 in
theorem inFew : ∀ w ∈ eFew, w ∈ lw_tbl := in_pl [948, 950, 1083, 1099, 159, 164, 166, 1004, 1309, 923, 235, 363, 409] (by decide +kernel)
set_option maxRecDepth 20000 in
theorem inWrd : ∀ q ∈ kWrd, Cond.stringRef q.1 q.2.1 q.2.2.1 ∈ lw_tbl := fun q hq => in_pl (ws := kWrd.map fun q => Cond.stringRef q.1 q.2.1 q.2.2.1) [1069, 1150, 1164, 1173, 1178, 1233, 1235, 1236, 1237, 1238, 1239, 1240, 1241, 1242] (by decide +kernel) _ (List.mem_map.mpr ⟨q, hq, rfl⟩)
set_option maxRecDepth 20000 in
theorem inStr : ∀ q ∈ kStr, Cond.stringRef RX11 q.1 q.2 ∈ lw_tbl := fun q hq => in_pl (ws := kStr.map fun q => Cond.stringRef RX11 q.1 q.2) [962, 1011, 1183, 1270, 1384, 1408, 1421, 1327, 1316, 1429, 1430, 1477, 1489, 1535, 1554, 1555, 1563, 1571, 1579, 1587, 1595, 1603, 1604, 1612, 1620, 1628] (by decide +kernel) _ (List.mem_map.mpr ⟨q, hq, rfl⟩)
/-- the parts of what the Statement gives of the start, in a row -/
def nfl : Cond → List Cond → List Cond
  | .and a b, acc => nfl a (nfl b acc)
  | c, acc => c :: acc
theorem nfl_before {args : Array Value} {s : State} (T : Cond) : ∀ acc : List Cond, T.before args s = true → (∀ w ∈ acc, w.before args s = true) → ∀ w ∈ nfl T acc, w.before args s = true := by
  induction T with
  | and a b iha ihb =>
    intro acc h hacc
    rw [Cond.before_and, Bool.and_eq_true] at h
    simp only [nfl]
    exact iha _ h.1 (ihb _ h.2 hacc)
  | _ =>
    intro acc h hacc w hw
    simp only [nfl, List.mem_cons] at hw
    rcases hw with rfl | hw
    · exact h
    · exact hacc w hw
def eNar : List Cond := nfl (Jvm.Cond.and given_1 narrow_1) []
def wtm (q : String × Nat × String × List Int × Int) : Term := .string q.1 q.2.1
def wvl (q : String × Nat × String × List Int × Int) : Term := .field (wtm q) "java/lang/String" "value" "[B"
def wexp (q : String × Nat × String × List Int × Int) : List Cond := [.exactly (wtm q) "java/lang/String", .eq (.field (wtm q) "java/lang/String" "coder" "B") (.int (iZ 0)), .arrayOf (wvl q) .byte, .eq (.length (wvl q)) (.int (Int32.ofNat q.2.2.2.1.length))] ++ (List.range q.2.2.2.1.length).map (fun j => .eq (.elem (wvl q) (.int (Int32.ofNat j))) (.int (iZ (q.2.2.2.1.getD j 0))))
set_option maxRecDepth 20000 in
theorem inLet : ∀ q ∈ kWrd, ∀ w ∈ wexp q, w ∈ eNar := fun q hq w hw => in_pl (ws := kWrd.flatMap wexp) [131, 132, 133, 134, 135, 136, 137, 138, 139, 140, 141, 142, 143, 144, 145, 146, 147, 148, 149, 150, 151, 152, 153, 154, 155, 156, 157, 158, 159, 160, 161, 162, 163, 164, 165, 166, 167, 168, 169, 170, 171, 172, 173, 174, 175, 176, 202, 203, 204, 205, 206, 207, 208, 209, 210, 211, 212, 213, 214, 215, 216, 217, 218, 219, 220, 221, 222, 223, 224, 225, 226, 227, 228, 229, 230, 231, 232, 233, 234, 235, 236, 237, 238, 239, 240, 241, 242, 243, 244, 245, 246, 247, 248, 249, 250, 251, 252, 253, 254, 255, 256, 257, 258, 259, 260, 261, 262, 263, 264, 265, 266, 267, 268, 269, 270, 271, 273, 274, 275, 276, 277, 278, 279, 280, 281, 282] (by decide +kernel) w (List.mem_flatMap.mpr ⟨q, hq, hw⟩)
set_option maxRecDepth 20000 in
theorem inExa : ∀ q ∈ kStr, Cond.exactly (.string RX11 q.1) "java/lang/String" ∈ eNar := fun q hq => in_pl (ws := kStr.map fun q => Cond.exactly (.string RX11 q.1) "java/lang/String") [56, 93, 177, 283, 343, 378, 406, 327, 310, 424, 440, 474, 507, 541, 572, 589, 624, 663, 681, 719, 748, 780, 813, 861, 884, 912] (by decide +kernel) _ (List.mem_map.mpr ⟨q, hq, rfl⟩)
def eNrf : List Cond := [Cond.isRef (.static "java/lang/Throwable" "UNASSIGNED_STACK" "[Ljava/lang/StackTraceElement;"), Cond.isRef (.static "java/lang/Throwable" "SUPPRESSED_SENTINEL" "Ljava/util/List;"), Cond.eq (.static "java/lang/String" "COMPACT_STRINGS" "Z") (.int (iZ 1)), Cond.isRef (.static "jdk/internal/util/Preconditions" "SIOOBE_FORMATTER" "Ljava/util/function/BiFunction;"), Cond.not (.castable (xcl 0) (xcl 1)), Cond.not (.castable (xcl 0) (xcl 2)), Cond.not (.castable (xcl 1) (xcl 0)), Cond.not (.castable (xcl 1) (xcl 2)), Cond.not (.castable (xcl 2) (xcl 0)), Cond.not (.castable (xcl 2) (xcl 1))]
set_option maxRecDepth 20000 in
theorem inNrf : ∀ w ∈ eNrf, w ∈ eNar := in_pl [4, 5, 6, 7, 55, 24, 40, 25, 39, 54] (by decide +kernel)
theorem wsL_law_in0 : ∀ w ∈ wsL_law0, w ∈ lw_tbl := ap_in (ap_in (ap_in (ap_in (ap_in (ap_in (ap_in (ap_in (ap_in (ap_in (ap_in (ap_in (ap_in (ap_in (ap_in win_1 (ap_in win_2 (ap_in win_3 (ap_in win_4 (ap_in win_5 (ap_in win_6 (ap_in win_7 (ap_in win_8 (ap_in win_9 (ap_in win_10 (ap_in win_11 (ap_in win_12 (ap_in win_13 (ap_in win_14 (ap_in win_15 (ap_in win_16 (ap_in win_17 (ap_in win_18 (ap_in win_19 (ap_in win_20 (ap_in win_21 (ap_in win_22 (ap_in win_23 (ap_in win_24 (ap_in win_25 (ap_in win_26 (ap_in win_27 (ap_in win_28 (ap_in win_29 (ap_in win_30 (ap_in win_31 (ap_in win_32 (ap_in win_33 (ap_in win_34 (ap_in win_35 (ap_in win_36 (ap_in win_37 (ap_in win_38 (ap_in win_39 (ap_in win_40 (ap_in win_41 (ap_in win_42 (ap_in win_43 (ap_in win_44 (ap_in win_45 (ap_in win_46 (ap_in win_47 (ap_in win_48 (ap_in win_49 (ap_in win_50 (ap_in win_51 (ap_in win_52 (ap_in win_53 (ap_in win_54 (ap_in win_55 (ap_in win_56 (ap_in win_57 (ap_in win_58 (ap_in win_59 (ap_in win_60 (ap_in win_61 (ap_in win_62 (ap_in win_63 (ap_in win_64 (ap_in win_65 (ap_in win_66 (ap_in win_67 (ap_in win_68 (ap_in win_69 (ap_in win_70 (ap_in win_71 (ap_in win_72 (win_73))))))))))))))))))))))))))))))))))))))))))))))))))))))))))))))))))))))))) (fun w h => inX_11 w (List.mem_cons_of_mem _ h))) (fun w h => inX_12 w (List.mem_cons_of_mem _ h))) (fun w h => inX_10 w (List.mem_cons_of_mem _ h))) (fun w h => inX_9 w (List.mem_cons_of_mem _ h))) (fun w h => inX_7 w (List.mem_cons_of_mem _ h))) (fun w h => inX_6 w (List.mem_cons_of_mem _ h))) (fun w h => inX_2 w (List.mem_cons_of_mem _ h))) (fun w h => inX_8 w (List.mem_cons_of_mem _ h))) (fun w h => inX_3 w (List.mem_cons_of_mem _ h))) (fun w h => inX_4 w (List.mem_cons_of_mem _ h))) (fun w h => inX_5 w (List.mem_cons_of_mem _ h))) (fun w h => inX_0 w (List.mem_cons_of_mem _ h))) (fun w h => inX_1 w (List.mem_cons_of_mem _ h))) (fun _ h => absurd h List.not_mem_nil)
theorem wsL_law_x0 : ∀ w ∈ (vx_atS RX11 110 "java/lang/IllegalStateException" ["java/lang/RuntimeException", "java/lang/Exception"]).filter goodWord, w ∈ lw_tbl := by decide +kernel
theorem wsL_law_x1 : ∀ w ∈ (vx_atS RX11 121 "java/lang/IllegalArgumentException" ["java/lang/RuntimeException", "java/lang/Exception"]).filter goodWord, w ∈ lw_tbl := by decide +kernel
theorem wsL_law_x2 : ∀ w ∈ (vx_atS RX11 292 "java/lang/IndexOutOfBoundsException" ["java/lang/RuntimeException", "java/lang/Exception"]).filter goodWord, w ∈ lw_tbl := by decide +kernel
theorem wsL_law_in : ∀ w ∈ wsL_law, w ∈ lw_tbl := ap_in (ap_in (ap_in wsL_law_in0 wsL_law_x0) wsL_law_x1) wsL_law_x2
theorem flags_off {l : Launch} (h : l.flags = flags0) : l.stackTraces = false := by
  unfold Launch.stackTraces
  rw [h]
  decide +kernel
/-- a string constant of these letters -/
theorem str_of {args : Array Value} {s : State} {A : Nat → Prop} (hA : ∀ a : Nat, a < s.heap.size → ¬ A a) {q : String × Nat × String × List Int × Int} (hn : ∀ w ∈ wexp q, w.before args s = true) (hr : (Cond.stringRef q.1 q.2.1 q.2.2.1).before args s = true) (hN : q.2.2.2.1.length < 2 ^ 31) :
    ∃ d : Nat × Nat, vk_R q.1 q.2.1 q.2.2.1 d.1 s ∧ va_O "java/lang/String" d.1 A s s.heap ∧ va_OF "java/lang/String" "coder" "B" (.int (iZ 0)) d.1 A s s.heap ∧ va_OF "java/lang/String" "value" "[B" (.ref d.2) d.1 A s s.heap ∧ va_T .byte d.2 q.2.2.2.1.length (fun j => .int (iZ (q.2.2.2.1.getD j 0))) A s s.heap := by
  have g : ∀ w ∈ ([.exactly (wtm q) "java/lang/String", .eq (.field (wtm q) "java/lang/String" "coder" "B") (.int (iZ 0)), .arrayOf (wvl q) .byte, .eq (.length (wvl q)) (.int (Int32.ofNat q.2.2.2.1.length))] : List Cond), w.before args s = true := fun w hw => hn w (List.mem_append_left _ hw)
  have g0 := g _ List.mem_cons_self
  have g1 := g _ (List.mem_cons_of_mem _ List.mem_cons_self)
  have g2 := g _ (List.mem_cons_of_mem _ (List.mem_cons_of_mem _ List.mem_cons_self))
  have g3 := g _ (List.mem_cons_of_mem _ (List.mem_cons_of_mem _ (List.mem_cons_of_mem _ List.mem_cons_self)))
  have gj : ∀ j : Nat, j < q.2.2.2.1.length → (Cond.eq (.elem (wvl q) (.int (Int32.ofNat j))) (.int (iZ (q.2.2.2.1.getD j 0)))).before args s = true := fun j hj => hn _ (List.mem_append_right _ (List.mem_map.mpr ⟨j, List.mem_range.mpr hj, rfl⟩))
  obtain ⟨a, c, cA, kA, q1, q2, q3, q4, q5, q6, -⟩ := Cond.exactly_spec (args := args) (first := s) (o := none) (s := s) (idx := []) (t := wtm q) (cls := "java/lang/String") g0
  obtain ⟨t, ht, hT⟩ := va_Tof (tm := wvl q) (ty := .byte) (f := fun j => .int (iZ (q.2.2.2.1.getD j 0))) (A := A) hN g2 (va_eqt g3) (fun j hj => va_eqt (gj j hj)) hA
  exact ⟨(a, t), vk_R.of hr q1, ⟨cA, q3, q5, by rw [q6]; exact q2, hA a (Array.getElem?_eq_some_iff.mp q3).1⟩, vk_OFof q1 (va_eqt g1) hA, vk_OFof q1 ht hA, hT⟩
theorem kWrd_len : ∀ q ∈ kWrd, q.2.2.2.1.length < 2 ^ 31 := by decide +kernel
/-- the strings of the words, and where they stand -/
theorem str_all {args : Array Value} {s : State} {A : Nat → Prop} (hA : ∀ a : Nat, a < s.heap.size → ¬ A a) (hts : ∀ w ∈ lw_tbl, w.before args s = true) (hn : ∀ w ∈ eNar, w.before args s = true) :
    ∃ sd : Nat → Nat × Nat, ∀ (i : Nat) (q : String × Nat × String × List Int × Int), kWrd[i]? = some q → vk_R q.1 q.2.1 q.2.2.1 (sd i).1 s ∧ va_O "java/lang/String" (sd i).1 A s s.heap ∧ va_OF "java/lang/String" "coder" "B" (.int (iZ 0)) (sd i).1 A s s.heap ∧ va_OF "java/lang/String" "value" "[B" (.ref (sd i).2) (sd i).1 A s s.heap ∧ va_T .byte (sd i).2 q.2.2.2.1.length (fun j => .int (iZ (q.2.2.2.1.getD j 0))) A s s.heap := by
  have h0 : ∀ i : Nat, ∃ d : Nat × Nat, ∀ q : String × Nat × String × List Int × Int, kWrd[i]? = some q → vk_R q.1 q.2.1 q.2.2.1 d.1 s ∧ va_O "java/lang/String" d.1 A s s.heap ∧ va_OF "java/lang/String" "coder" "B" (.int (iZ 0)) d.1 A s s.heap ∧ va_OF "java/lang/String" "value" "[B" (.ref d.2) d.1 A s s.heap ∧ va_T .byte d.2 q.2.2.2.1.length (fun j => .int (iZ (q.2.2.2.1.getD j 0))) A s s.heap := by
    intro i
    generalize hz : kWrd[i]? = z
    cases z with
    | none => exact ⟨(0, 0), fun q h => by cases h⟩
    | some q =>
      have hq : q ∈ kWrd := List.mem_of_getElem? hz
      obtain ⟨d, hd⟩ := str_of hA (q := q) (fun w hw => hn w (inLet q hq w hw)) (hts _ (inWrd q hq)) (kWrd_len q hq)
      exact ⟨d, fun q' h => by cases h; exact hd⟩
  obtain ⟨sd, hsd⟩ := Classical.axiomOfChoice h0
  exact ⟨sd, fun i q h => hsd i q h⟩
theorem hk_arr {args : Array Value} {s : State} {ty : FieldType} (h : (Cond.arrayClass ty).before args s = true) : ∃ cA : ClassId, ArrOfT s cA ty ∧ s.vm.findClass ("[" ++ ty.toString) = some cA := by
  obtain ⟨c, k, comp, h1, h2, h3⟩ := Cond.arrayClass_spec (args := args) (first := s) (o := none) (s := s) (idx := []) h
  exact ⟨c, fun n z => ⟨fun k9 h9 => (by cases h9), k, h2, comp, h3⟩, h1⟩
/-- the classes' numbers and the arrays' -/
theorem hk_K {args : Array Value} {s : State} (hts : ∀ w ∈ lw_tbl, w.before args s = true) : ∃ (D : va_G) (cA : ClassId × ClassId × ClassId), va_K D vwCl [(cA.1, .int), (cA.2.1, .long), (cA.2.2, .object "ShareGraph$Sharing")] s := by
  have h0 : ∀ i : Nat, ∃ d : ClassId × (Nat → Nat), ∀ q : vw_C, vwCl[i]? = some q → u_Kn s q.1 q.2.1 q.2.2 d.1 d.2 := by
    intro i
    generalize hz : vwCl[i]? = z
    cases z with
    | none => exact ⟨(0, fun _ => 0), fun q h => by cases h⟩
    | some q =>
      have hq : q ∈ vwCl := List.mem_of_getElem? hz
      obtain ⟨cC, iS, hKn⟩ := u_known (C := q.1) (T := q.2.1) (N := q.2.2) (n := q.2.2) hts (fun w hw => inX_all q hq w (List.mem_cons_of_mem _ hw)) (hts _ (inX_all q hq _ List.mem_cons_self))
      exact ⟨(cC, iS), fun q' h => by cases h; exact hKn⟩
  obtain ⟨d, hd⟩ := Classical.axiomOfChoice h0
  obtain ⟨c0, a0, b0⟩ := hk_arr (ty := .int) (hts _ (inFew _ (by simp [eFew])))
  obtain ⟨c1, a1, b1⟩ := hk_arr (ty := .long) (hts _ (inFew _ (by simp [eFew])))
  obtain ⟨comp, c2, k2, f4, -, f2, f3, f1⟩ := Cond.arrayOver_spec (args := args) (first := s) (o := none) (s := s) (idx := []) (n := "ShareGraph$Sharing") (hts _ (inFew _ (by simp [eFew])))
  refine ⟨(fun i => (d i).1, fun i => (d i).2), (c0, c1, c2), fun c q h => hd c q h, fun k q h => ?_⟩
  match k, h with
  | 0, h => cases h; exact ⟨a0, b0⟩
  | 1, h => cases h; exact ⟨a1, b1⟩
  | 2, h => cases h; exact ⟨fun n z => ⟨fun k9 h9 => (by cases h9), k2, f2, comp, f3⟩, k2, comp, f2, f3, f4, f1⟩
  | k + 3, h => exact absurd h (by simp)
theorem dcl_tab {w : Cond} (h : dcl w = true) : w.onTables = true := by
  cases w <;> first | rfl | exact absurd h Bool.false_ne_true
theorem dcl_in0 : ((vx_atS RX11 (xic 0) (xcl 0) xNs).filter (fun w => !goodWord w)).all (fun w => decide (w ∈ lw_tbl)) = true := by decide +kernel
theorem dcl_in1 : ((vx_atS RX11 (xic 1) (xcl 1) xNs).filter (fun w => !goodWord w)).all (fun w => decide (w ∈ lw_tbl)) = true := by decide +kernel
theorem dcl_in2 : ((vx_atS RX11 (xic 2) (xcl 2) xNs).filter (fun w => !goodWord w)).all (fun w => decide (w ∈ lw_tbl)) = true := by decide +kernel
theorem dcl_in : ∀ k, k < 3 → ∀ w ∈ (vx_atS RX11 (xic k) (xcl k) xNs).filter (fun w => !goodWord w), w ∈ lw_tbl := fun k hk => by
  have : k = 0 ∨ k = 1 ∨ k = 2 := by omega
  rcases this with rfl | rfl | rfl
  · exact fun w hw => of_decide_eq_true (List.all_eq_true.mp dcl_in0 w hw)
  · exact fun w hw => of_decide_eq_true (List.all_eq_true.mp dcl_in1 w hw)
  · exact fun w hw => of_decide_eq_true (List.all_eq_true.mp dcl_in2 w hw)
theorem T_of_X {b L : Nat} {xs : Nat → Int32} {s : State} (hbl : b < s.heap.size) (h : va_X b L xs s s.heap) : va_T .int b L (fun j => .int (iZ (xs j).toInt)) (fun q => s.heap.size ≤ q) s s.heap := by
  obtain ⟨scr, h1, h2, h3, h4, h5⟩ := h
  exact ⟨scr, h1, h2, h3, Nat.le_of_eq h4.symm, by rw [h4]; rfl, fun j hj => by rw [iZ_back]; exact h5 j hj, Nat.not_le.mpr hbl⟩
/-- all that stands fast at the entry -/
theorem hk_of {p : Program} {s : State} {m : MethodId} {meth : Method} {c : Code} (l : Launch) (hflags : l.flags = flags0) {b L : Nat} {xs : Nat → Int32} (C0 : lw_At p s m meth c b L xs) :
    ∃ (sd : Nat → Nat × Nat) (D : va_G) (cA : ClassId × ClassId × ClassId), Kst (lawH l s.heap.size sd b L (fun j => (xs j).toInt) D cA) s := by
  obtain ⟨hx, hb, hr, hml, hown, hts, hX, hbl, hlk, hgv⟩ := C0
  have hA : ∀ a : Nat, a < s.heap.size → ¬ (fun q => s.heap.size ≤ q) a := fun a h => Nat.not_le.mpr h
  have hn : ∀ w ∈ eNar, w.before #[Value.ref b] s = true := nfl_before _ [] hgv (fun w hw => absurd hw List.not_mem_nil)
  have hF : ∀ w ∈ eFew, w.before #[Value.ref b] s = true := fun w hw => hts w (inFew w hw)
  have hR : ∀ w ∈ eNrf, w.before #[Value.ref b] s = true := fun w hw => hn w (inNrf w hw)
  obtain ⟨sd, hsd⟩ := str_all hA hts hn
  obtain ⟨D, cA, hK⟩ := hk_K hts
  refine ⟨sd, D, cA, hK, fun q hq => va_Nw.of rfl (hts _ (inNest q hq)), ⟨⟨flags_off hflags, ?_, ?_, ?_, ?_, ?_, ?_, hsd, ⟨?_, ?_⟩, T_of_X hbl hX⟩, va_AO.of (hF _ (by simp [eFew]))⟩, lawH_pm⟩
  · exact vx_Zqof (hF (.laysStatic "java/lang/Throwable" "UNASSIGNED_STACK" "[Ljava/lang/StackTraceElement;") (by simp [eFew])) (hF (.initialized "java/lang/Throwable") (by simp [eFew])) (hR (.isRef (.static "java/lang/Throwable" "UNASSIGNED_STACK" "[Ljava/lang/StackTraceElement;")) (by simp [eNrf])) hA
  · exact vx_Zqof (hF (.laysStatic "java/lang/Throwable" "SUPPRESSED_SENTINEL" "Ljava/util/List;") (by simp [eFew])) (hF (.initialized "java/lang/Throwable") (by simp [eFew])) (hR (.isRef (.static "java/lang/Throwable" "SUPPRESSED_SENTINEL" "Ljava/util/List;")) (by simp [eNrf])) hA
  · exact fun k hk w hw => va_Nw.of (dcl_tab (dcl_all k hk w hw)) (hts w (dcl_in k hk w hw))
  · intro q hq
    obtain ⟨a, c9, cA9, kA9, q1, -⟩ := Cond.exactly_spec (args := #[Value.ref b]) (first := s) (o := none) (s := s) (idx := []) (t := .string RX11 q.1) (cls := "java/lang/String") (hn _ (inExa q hq))
    exact ⟨a, vk_R.of (hts _ (inStr q hq)) q1⟩
  · exact va_Zof (hF (.laysStatic "java/lang/String" "COMPACT_STRINGS" "Z") (by simp [eFew])) (hF (.initialized "java/lang/String") (by simp [eFew])) (va_eqi (hR (.eq (.static "java/lang/String" "COMPACT_STRINGS" "Z") (.int (iZ 1))) (by simp [eNrf]))) hA
  · exact va_Zqof (hF (.laysStatic "jdk/internal/util/Preconditions" "SIOOBE_FORMATTER" "Ljava/util/function/BiFunction;") (by simp [eFew])) (hF (.initialized "jdk/internal/util/Preconditions") (by simp [eFew])) (hR (.isRef (.static "jdk/internal/util/Preconditions" "SIOOBE_FORMATTER" "Ljava/util/function/BiFunction;")) (by simp [eNrf])) hA
  · intro k hk
    have : k = 0 ∨ k = 1 ∨ k = 2 := by omega
    rcases this with rfl | rfl | rfl <;> exact va_Nw.of rfl (hF _ (by simp [eFew, xcl]))
  · intro k k' hk hk' hne
    have h9 : Cond.not (.castable (xcl k) (xcl k')) ∈ eNrf := by
      have : k = 0 ∨ k = 1 ∨ k = 2 := by omega
      have : k' = 0 ∨ k' = 1 ∨ k' = 2 := by omega
      rcases ‹k = 0 ∨ k = 1 ∨ k = 2› with rfl | rfl | rfl <;> rcases ‹k' = 0 ∨ k' = 1 ∨ k' = 2› with rfl | rfl | rfl <;> first | exact absurd rfl hne | simp [eNrf]
    exact va_Nc.of (hR _ h9)
/-- YOUR PART: from the entry, for every script of at most 3072 ints, the law comes to its end with true ('hflags': the launch's flags, for a law that throws: no stack traces) -/
theorem whole_start {p : Program} {e : Env} {s : State} {m : MethodId} {below : List Frame} {meth : Method} {c : Code} (l : Launch) (hflags : l.flags = flags0) {b L : Nat} {xs : Nat → Int32} (hL : L ≤ 3072) (C0 : lw_At p s m meth c b L xs) : W p l e room_1 s m #[Value.ref b] below meth c s.heap [] 0 0 (lw_Z below #[Value.ref b] s) (entryFrame m ([Value.ref b] : List Value).toArray 9) := by
  obtain ⟨sd, D, cA, hK⟩ := hk_of l hflags C0
  exact start_of l hL C0 wsL_law_in hK
set_option maxHeartbeats 4000000 in
theorem lw_walk (l : Launch) (hflags : l.flags = flags0) (b : Addr) (xs : List Int32) : MetFree l x (headSpec (Jvm.Cond.code x code maxLocals ret :: tables_1) room_1) (lw_P b xs) (fun _ _ _ _ _ => True) lw_Q := by
  refine MetFree.of_bodyS (code := code) (maxLocals := maxLocals) (ret := ret) (by decide) ?_ ?_
  · intro args s m h hn
    obtain ⟨meth, c, h1, h2, h3, h4, h5, h6, -, -⟩ := Cond.code_spec hn (atoms_spec (ws := Jvm.Cond.code x code maxLocals ret :: tables_1) h _ List.mem_cons_self)
    exact ⟨meth, c, h1, h2, h3, h4, h5, h6⟩
  · intro p e s m args below meth c s₁ B hml0 hP _
    obtain ⟨rfl, hx, hbd, hgv⟩ := hP
    obtain ⟨scr, harrAt, hlist, hof, hsmall⟩ := hx
    obtain ⟨hcb, hkn, -, -⟩ := State.arrayAt?_spec harrAt
    have hown : s.vm.findClass R_law = some m.cls := findClass_of_methodNamed B.named
    have hts0 : ∀ c ∈ (Jvm.Cond.code x code maxLocals ret :: tables_1), c.before #[Value.ref b] s = true := atoms_spec (ws := Jvm.Cond.code x code maxLocals ret :: tables_1) B.pre
    have hts : ∀ w ∈ lw_tbl, w.before #[Value.ref b] s = true := k2_hts_sels lw_privs (fun w hw => hts0 w (List.mem_cons_of_mem _ hw)) lw_privs_ok
    have hml : c.maxLocals = 9 := B.maxLocals_eq (hts0 _ List.mem_cons_self)
    have X₀ : Stand p l e room_1 s m #[Value.ref b] below meth c s₁ [] 0 0 := Stand.of_body B
    have hh0 : s₁.heap = s.heap := by rw [B.state]; rfl
    have hsz : scr.slots.size = xs.length := by rw [← Array.length_toList, hlist, List.length_map]
    have hval : ∀ j : Nat, j < xs.length → scr.slots[j]? = some (.int (xs.getD j 0)) := fun j hj => by
      rw [← Array.getElem?_toList, hlist]
      simp [hj]
    have hbl : b < s.heap.size := (Array.getElem?_eq_some_iff.mp hcb).1
    have hX : va_X b xs.length (fun j => xs.getD j 0) s s.heap := ⟨scr, hcb, hof, hkn, hsz, hval⟩
    have K : W p l e room_1 s m #[Value.ref b] below meth c s₁.heap [] 0 0 (lw_Z below #[Value.ref b] s) (entryFrame m ([Value.ref b] : List Value).toArray 9) := by
      rw [hh0]
      exact whole_start l hflags hbd ⟨B.exec, B.bytes, B.returns, hml, hown, hts, hX, hbl, B.notSynchronized, hgv⟩
    obtain ⟨t, a1, o, b1, b2, b3⟩ := K s₁ rfl X₀
    exact ⟨t, o, a1, b1, b2, b3⟩
theorem lw_pre_spec {args : Array Value} {s : State} (h : (Jvm.Cond.and given_1 narrow_1).before args s = true) (hr : rest_1_c.before args s = true) : ∃ (b : Addr) (xs : List Int32), lw_P b xs args s := by
  have hs := flat_of_before _ h
  have hq := flat_of_before _ hr
  have hc : (Cond.count 1).before args s = true := hs _ (by decide +kernel)
  have harr : (Cond.arrayOf (.arg 0) .int).before args s = true := hs _ (by decide +kernel)
  have hle : (Cond.le (.length (.arg 0)) (.int 3072)).before args s = true := hs _ (by decide +kernel)
  have hlen : (Cond.isInt (.length (.arg 0))).before args s = true := hq _ (by decide +kernel)
  have hall : (Cond.all (.arg 0) (.isInt (.elem (.arg 0) (.index 0)))).before args s = true := hq _ (by decide +kernel)
  obtain ⟨b, xs, hb, hx⟩ := State.ints_of_pre rfl harr hlen hall
  have hsm : xs.length < 2 ^ 31 := hx.choose_spec.2.2.2
  have hev : (Term.length (.arg 0)).eval args s none [] s = some (.int xs.length.toInt32) := hx.length_eval hb
  have hv := Cond.le_ints hev (show (Term.int 3072).eval args s none [] s = some (.int 3072) from rfl)
  have hd : xs.length.toInt32 ≤ 3072 := by
    simpa [Cond.before, Cond.holds, hv] using hle
  have hN : xs.length ≤ 3072 := (Int32.ofNat_le_ofNat hsm (by decide)).mp (show Int32.ofNat xs.length ≤ Int32.ofNat 3072 from hd)
  exact ⟨b, xs, Cond.one_arg hc (show args[0]? = some (.ref b) from hb), hx, hN, h⟩
theorem lw_comes (l : Launch) (hflags : l.flags = flags0) : Comes l x (Jvm.Cond.code x code maxLocals ret :: tables_1) room_1 (fun tb e args s => Calls_1 tb e args s ∧ rest_1 tb e args s ∧ Pre_1 tb e args s)
    (fun _ _ args s o t => lw_Q args s o t) := by
  intro p e ha hc hk s m args below hf hfit hheap happ hpre
  obtain ⟨b, xs, hP⟩ := lw_pre_spec hpre.2.2 hpre.2.1
  obtain ⟨k, o, h1, h2, h3, hQ⟩ := lw_walk l hflags b xs p e ha hc hk s m args below hf ((Spec.applies_iff_loose hf).mp happ).1 hP trivial
  exact ⟨k, o, h1, h2, h3, hQ⟩
theorem lw_frame {s t : State} {o : Outcome} {args : Array Value} (h : State.butDraws s t lw_cs (fun t1 => Framed s o t1 [] 601024 7293034)) :
    State.butDraws s t [Jvm.Choice.named "NaN.bits"] (fun t1 => Framed s o t1 (fieldLocs frame_1_writes args s ++ arrayLocs frame_1_arrays args s ++ staticLocs frame_1_statics s) 601024 7293034) := h
theorem lw_limb (L : Cond) (hL : ∀ (args : Array Value) (s t : State), L.after args s (.returned (some (.int 1))) t = true) :
    ArmFor flags0 classFile x code maxLocals ret World_1 tables_1 room_1 Calls_1 rest_1 Pre_1
      (fun tb e a s o t => postC L tb e a s o t ∧ State.butDraws s t [Jvm.Choice.named "NaN.bits"] (fun t1 => Framed s o t1 (fieldLocs frame_1_writes a s ++ arrayLocs frame_1_arrays a s ++ staticLocs frame_1_statics s) 601024 7293034)) := by
  intro l hflags _ _ p e ha hc hk s m args below hf hfit hheap happ hpre
  obtain ⟨k, o, h1, h2, h3, rfl, hF⟩ := lw_comes l hflags p e ha hc hk s m args below hf hfit hheap happ hpre
  exact ⟨k, _, h1, h2, h3, hL args s _, lw_frame hF⟩
theorem i_vc : Claimed_1_1 ∧ Claimed_1_2 := ⟨lw_limb limb_1_1 (fun args s t => by simp [limb_1_1, Cond.after, Cond.holds, Cond.value]), lw_limb limb_1_2 (fun args s t => Cond.after_iff.mpr (by
  first | (rw [show limb_1_2 = Cond.eq .result (.int 1) from rfl, Cond.eq_ints (x := 1) (y := 1) rfl rfl]; simp; done) | (simp [limb_1_2, Cond.value, Term.eval]; done)))⟩

/-! ===== what stands fast at the law's entry ===== -/
theorem flags_off {l : Launch} (h : l.flags = flags0) : l.stackTraces = false := by
  unfold Launch.stackTraces
  rw [h]
  decide +kernel
/-- a string constant of these letters -/
theorem str_of {args : Array Value} {s : State} {A : Nat → Prop} (hA : ∀ a : Nat, a < s.heap.size → ¬ A a) {q : String × Nat × String × List Int × Int} (hn : ∀ w ∈ wexp q, w.before args s = true) (hr : (Cond.stringRef q.1 q.2.1 q.2.2.1).before args s = true) (hN : q.2.2.2.1.length < 2 ^ 31) :
    ∃ d : Nat × Nat, vk_R q.1 q.2.1 q.2.2.1 d.1 s ∧ va_O "java/lang/String" d.1 A s s.heap ∧ va_OF "java/lang/String" "coder" "B" (.int (iZ 0)) d.1 A s s.heap ∧ va_OF "java/lang/String" "value" "[B" (.ref d.2) d.1 A s s.heap ∧ va_T .byte d.2 q.2.2.2.1.length (fun j => .int (iZ (q.2.2.2.1.getD j 0))) A s s.heap := by
  have g : ∀ w ∈ ([.exactly (wtm q) "java/lang/String", .eq (.field (wtm q) "java/lang/String" "coder" "B") (.int (iZ 0)), .arrayOf (wvl q) .byte, .eq (.length (wvl q)) (.int (Int32.ofNat q.2.2.2.1.length))] : List Cond), w.before args s = true := fun w hw => hn w (List.mem_append_left _ hw)
  have g0 := g _ List.mem_cons_self
  have g1 := g _ (List.mem_cons_of_mem _ List.mem_cons_self)
  have g2 := g _ (List.mem_cons_of_mem _ (List.mem_cons_of_mem _ List.mem_cons_self))
  have g3 := g _ (List.mem_cons_of_mem _ (List.mem_cons_of_mem _ (List.mem_cons_of_mem _ List.mem_cons_self)))
  have gj : ∀ j : Nat, j < q.2.2.2.1.length → (Cond.eq (.elem (wvl q) (.int (Int32.ofNat j))) (.int (iZ (q.2.2.2.1.getD j 0)))).before args s = true := fun j hj => hn _ (List.mem_append_right _ (List.mem_map.mpr ⟨j, List.mem_range.mpr hj, rfl⟩))
  obtain ⟨a, c, cA, kA, q1, q2, q3, q4, q5, q6, -⟩ := Cond.exactly_spec (args := args) (first := s) (o := none) (s := s) (idx := []) (t := wtm q) (cls := "java/lang/String") g0
  obtain ⟨t, ht, hT⟩ := va_Tof (tm := wvl q) (ty := .byte) (f := fun j => .int (iZ (q.2.2.2.1.getD j 0))) (A := A) hN g2 (va_eqt g3) (fun j hj => va_eqt (gj j hj)) hA
  exact ⟨(a, t), vk_R.of hr q1, ⟨cA, q3, q5, by rw [q6]; exact q2, hA a (Array.getElem?_eq_some_iff.mp q3).1⟩, vk_OFof q1 (va_eqt g1) hA, vk_OFof q1 ht hA, hT⟩
theorem kWrd_len : ∀ q ∈ kWrd, q.2.2.2.1.length < 2 ^ 31 := by decide +kernel
/-- the strings of the words, and where they stand -/
theorem str_all {args : Array Value} {s : State} {A : Nat → Prop} (hA : ∀ a : Nat, a < s.heap.size → ¬ A a) (hts : ∀ w ∈ lw_tbl, w.before args s = true) (hn : ∀ w ∈ eNar, w.before args s = true) :
    ∃ sd : Nat → Nat × Nat, ∀ (i : Nat) (q : String × Nat × String × List Int × Int), kWrd[i]? = some q → vk_R q.1 q.2.1 q.2.2.1 (sd i).1 s ∧ va_O "java/lang/String" (sd i).1 A s s.heap ∧ va_OF "java/lang/String" "coder" "B" (.int (iZ 0)) (sd i).1 A s s.heap ∧ va_OF "java/lang/String" "value" "[B" (.ref (sd i).2) (sd i).1 A s s.heap ∧ va_T .byte (sd i).2 q.2.2.2.1.length (fun j => .int (iZ (q.2.2.2.1.getD j 0))) A s s.heap := by
  have h0 : ∀ i : Nat, ∃ d : Nat × Nat, ∀ q : String × Nat × String × List Int × Int, kWrd[i]? = some q → vk_R q.1 q.2.1 q.2.2.1 d.1 s ∧ va_O "java/lang/String" d.1 A s s.heap ∧ va_OF "java/lang/String" "coder" "B" (.int (iZ 0)) d.1 A s s.heap ∧ va_OF "java/lang/String" "value" "[B" (.ref d.2) d.1 A s s.heap ∧ va_T .byte d.2 q.2.2.2.1.length (fun j => .int (iZ (q.2.2.2.1.getD j 0))) A s s.heap := by
    intro i
    generalize hz : kWrd[i]? = z
    cases z with
    | none => exact ⟨(0, 0), fun q h => by cases h⟩
    | some q =>
      have hq : q ∈ kWrd := List.mem_of_getElem? hz
      obtain ⟨d, hd⟩ := str_of hA (q := q) (fun w hw => hn w (inLet q hq w hw)) (hts _ (inWrd q hq)) (kWrd_len q hq)
      exact ⟨d, fun q' h => by cases h; exact hd⟩
  obtain ⟨sd, hsd⟩ := Classical.axiomOfChoice h0
  exact ⟨sd, fun i q h => hsd i q h⟩
theorem hk_arr {args : Array Value} {s : State} {ty : FieldType} (h : (Cond.arrayClass ty).before args s = true) : ∃ cA : ClassId, ArrOfT s cA ty ∧ s.vm.findClass ("[" ++ ty.toString) = some cA := by
  obtain ⟨c, k, comp, h1, h2, h3⟩ := Cond.arrayClass_spec (args := args) (first := s) (o := none) (s := s) (idx := []) h
  exact ⟨c, fun n z => ⟨fun k9 h9 => (by cases h9), k, h2, comp, h3⟩, h1⟩
/-- the classes' numbers and the arrays' -/
theorem hk_K {args : Array Value} {s : State} (hts : ∀ w ∈ lw_tbl, w.before args s = true) : ∃ (D : va_G) (cA : ClassId × ClassId × ClassId), va_K D vwCl [(cA.1, .int), (cA.2.1, .long), (cA.2.2, .object "ShareGraph$Sharing")] s := by
  have h0 : ∀ i : Nat, ∃ d : ClassId × (Nat → Nat), ∀ q : vw_C, vwCl[i]? = some q → u_Kn s q.1 q.2.1 q.2.2 d.1 d.2 := by
    intro i
    generalize hz : vwCl[i]? = z
    cases z with
    | none => exact ⟨(0, fun _ => 0), fun q h => by cases h⟩
    | some q =>
      have hq : q ∈ vwCl := List.mem_of_getElem? hz
      obtain ⟨cC, iS, hKn⟩ := u_known (C := q.1) (T := q.2.1) (N := q.2.2) (n := q.2.2) hts (fun w hw => inX_all q hq w (List.mem_cons_of_mem _ hw)) (hts _ (inX_all q hq _ List.mem_cons_self))
      exact ⟨(cC, iS), fun q' h => by cases h; exact hKn⟩
  obtain ⟨d, hd⟩ := Classical.axiomOfChoice h0
  obtain ⟨c0, a0, b0⟩ := hk_arr (ty := .int) (hts _ (inFew _ (by simp [eFew])))
  obtain ⟨c1, a1, b1⟩ := hk_arr (ty := .long) (hts _ (inFew _ (by simp [eFew])))
  obtain ⟨comp, c2, k2, f4, -, f2, f3, f1⟩ := Cond.arrayOver_spec (args := args) (first := s) (o := none) (s := s) (idx := []) (n := "ShareGraph$Sharing") (hts _ (inFew _ (by simp [eFew])))
  refine ⟨(fun i => (d i).1, fun i => (d i).2), (c0, c1, c2), fun c q h => hd c q h, fun k q h => ?_⟩
  match k, h with
  | 0, h => cases h; exact ⟨a0, b0⟩
  | 1, h => cases h; exact ⟨a1, b1⟩
  | 2, h => cases h; exact ⟨fun n z => ⟨fun k9 h9 => (by cases h9), k2, f2, comp, f3⟩, k2, comp, f2, f3, f4, f1⟩
  | k + 3, h => exact absurd h (by simp)
theorem dcl_tab {w : Cond} (h : dcl w = true) : w.onTables = true := by
  cases w <;> first | rfl | exact absurd h Bool.false_ne_true
theorem dcl_in0 : ((vx_atS RX11 (xic 0) (xcl 0) xNs).filter (fun w => !goodWord w)).all (fun w => decide (w ∈ lw_tbl)) = true := by decide +kernel
theorem dcl_in1 : ((vx_atS RX11 (xic 1) (xcl 1) xNs).filter (fun w => !goodWord w)).all (fun w => decide (w ∈ lw_tbl)) = true := by decide +kernel
theorem dcl_in2 : ((vx_atS RX11 (xic 2) (xcl 2) xNs).filter (fun w => !goodWord w)).all (fun w => decide (w ∈ lw_tbl)) = true := by decide +kernel
theorem dcl_in : ∀ k, k < 3 → ∀ w ∈ (vx_atS RX11 (xic k) (xcl k) xNs).filter (fun w => !goodWord w), w ∈ lw_tbl := fun k hk => by
  have : k = 0 ∨ k = 1 ∨ k = 2 := by omega
  rcases this with rfl | rfl | rfl
  · exact fun w hw => of_decide_eq_true (List.all_eq_true.mp dcl_in0 w hw)
  · exact fun w hw => of_decide_eq_true (List.all_eq_true.mp dcl_in1 w hw)
  · exact fun w hw => of_decide_eq_true (List.all_eq_true.mp dcl_in2 w hw)
theorem T_of_X {b L : Nat} {xs : Nat → Int32} {s : State} (hbl : b < s.heap.size) (h : va_X b L xs s s.heap) : va_T .int b L (fun j => .int (iZ (xs j).toInt)) (fun q => s.heap.size ≤ q) s s.heap := by
  obtain ⟨scr, h1, h2, h3, h4, h5⟩ := h
  exact ⟨scr, h1, h2, h3, Nat.le_of_eq h4.symm, by rw [h4], fun j hj => (h5 j hj).trans (by show some (Value.int (xs j)) = some (Value.int (iZ (xs j).toInt)); rw [iZ_back]), Nat.not_le.mpr hbl⟩
/-- all that stands fast at the entry -/
theorem hk_of {p : Program} {s : State} {m : MethodId} {meth : Method} {c : Code} (l : Launch) (hflags : l.flags = flags0) {b L : Nat} {xs : Nat → Int32} (C0 : lw_At p s m meth c b L xs) :
    ∃ (sd : Nat → Nat × Nat) (D : va_G) (cA : ClassId × ClassId × ClassId), Kst (lawH l s.heap.size sd b L (fun j => (xs j).toInt) D cA) s := by
  obtain ⟨hx, hb, hr, hml, hown, hts, hX, hbl, hlk, hgv⟩ := C0
  have hA : ∀ a : Nat, a < s.heap.size → ¬ (fun q => s.heap.size ≤ q) a := fun a h => Nat.not_le.mpr h
  have hn : ∀ w ∈ eNar, w.before #[Value.ref b] s = true := nfl_before _ [] hgv (fun w hw => absurd hw List.not_mem_nil)
  have hF : ∀ w ∈ eFew, w.before #[Value.ref b] s = true := fun w hw => hts w (inFew w hw)
  have hR : ∀ w ∈ eNrf, w.before #[Value.ref b] s = true := fun w hw => hn w (inNrf w hw)
  obtain ⟨sd, hsd⟩ := str_all hA hts hn
  obtain ⟨D, cA, hK⟩ := hk_K hts
  refine ⟨sd, D, cA, hK, fun q hq => va_Nw.of rfl (hts _ (inNest q hq)), ⟨⟨flags_off hflags, ?_, ?_, ?_, ?_, ?_, ?_, hsd, ⟨?_, ?_⟩, T_of_X hbl hX⟩, va_AO.of (hF _ (by simp [eFew]))⟩, lawH_pm⟩
  · exact vx_Zqof (hF (.laysStatic "java/lang/Throwable" "UNASSIGNED_STACK" "[Ljava/lang/StackTraceElement;") (by simp [eFew])) (hF (.initialized "java/lang/Throwable") (by simp [eFew])) (hR (.isRef (.static "java/lang/Throwable" "UNASSIGNED_STACK" "[Ljava/lang/StackTraceElement;")) (by simp [eNrf])) hA
  · exact vx_Zqof (hF (.laysStatic "java/lang/Throwable" "SUPPRESSED_SENTINEL" "Ljava/util/List;") (by simp [eFew])) (hF (.initialized "java/lang/Throwable") (by simp [eFew])) (hR (.isRef (.static "java/lang/Throwable" "SUPPRESSED_SENTINEL" "Ljava/util/List;")) (by simp [eNrf])) hA
  · exact fun k hk w hw => va_Nw.of (dcl_tab (dcl_all k hk w hw)) (hts w (dcl_in k hk w hw))
  · intro q hq
    obtain ⟨a, c9, cA9, kA9, q1, -⟩ := Cond.exactly_spec (args := #[Value.ref b]) (first := s) (o := none) (s := s) (idx := []) (t := .string RX11 q.1) (cls := "java/lang/String") (hn _ (inExa q hq))
    exact ⟨a, vk_R.of (hts _ (inStr q hq)) q1⟩
  · exact va_Zof (hF (.laysStatic "java/lang/String" "COMPACT_STRINGS" "Z") (by simp [eFew])) (hF (.initialized "java/lang/String") (by simp [eFew])) (va_eqi (hR (.eq (.static "java/lang/String" "COMPACT_STRINGS" "Z") (.int (iZ 1))) (by simp [eNrf]))) hA
  · exact va_Zqof (hF (.laysStatic "jdk/internal/util/Preconditions" "SIOOBE_FORMATTER" "Ljava/util/function/BiFunction;") (by simp [eFew])) (hF (.initialized "jdk/internal/util/Preconditions") (by simp [eFew])) (hR (.isRef (.static "jdk/internal/util/Preconditions" "SIOOBE_FORMATTER" "Ljava/util/function/BiFunction;")) (by simp [eNrf])) hA
  · intro k hk
    have : k = 0 ∨ k = 1 ∨ k = 2 := by omega
    rcases this with rfl | rfl | rfl <;> exact va_Nw.of rfl (hF _ (by simp [eFew, xcl]))
  · intro k k' hk hk' hne
    have h9 : Cond.not (.castable (xcl k) (xcl k')) ∈ eNrf := by
      have : k = 0 ∨ k = 1 ∨ k = 2 := by omega
      have : k' = 0 ∨ k' = 1 ∨ k' = 2 := by omega
      rcases ‹k = 0 ∨ k = 1 ∨ k = 2› with rfl | rfl | rfl <;> rcases ‹k' = 0 ∨ k' = 1 ∨ k' = 2› with rfl | rfl | rfl <;> first | exact absurd rfl hne | simp [eNrf]
    exact va_Nc.of (hR _ h9)

/-! ===== what stands fast at the law's entry ===== -/
/-- a string constant of these letters -/
theorem str_of {args : Array Value} {s : State} {A : Nat → Prop} (hA : ∀ a : Nat, a < s.heap.size → ¬ A a) {q : (String × Nat × String × Nat) × List Int} (hn : ∀ w ∈ wexp q, w.before args s = true) (hr : (Cond.stringRef q.1.1 q.1.2.1 q.1.2.2.1).before args s = true) (hN : q.2.length < 2 ^ 31) :
    ∃ d : Nat × Nat, (vk_R q.1.1 q.1.2.1 q.1.2.2.1 d.1 s ∧ va_O "java/lang/String" d.1 A s s.heap ∧ va_OF "java/lang/String" "coder" "B" (.int (iZ 0)) d.1 A s s.heap ∧ va_OF "java/lang/String" "value" "[B" (.ref d.2) d.1 A s s.heap ∧ va_T .byte d.2 q.2.length (fun j => .int (iZ (q.2.getD j 0))) A s s.heap) ∧ d.1 < s.heap.size ∧ d.2 < s.heap.size := by
  have g : ∀ w ∈ ([.exactly (wtm q) "java/lang/String", .eq (.field (wtm q) "java/lang/String" "coder" "B") (.int (iZ 0)), .arrayOf (wvl q) .byte, .eq (.length (wvl q)) (.int (Int32.ofNat q.2.length))] : List Cond), w.before args s = true := fun w hw => hn w (List.mem_append_left _ hw)
  have g0 := g _ List.mem_cons_self
  have g1 := g _ (List.mem_cons_of_mem _ List.mem_cons_self)
  have g2 := g _ (List.mem_cons_of_mem _ (List.mem_cons_of_mem _ List.mem_cons_self))
  have g3 := g _ (List.mem_cons_of_mem _ (List.mem_cons_of_mem _ (List.mem_cons_of_mem _ List.mem_cons_self)))
  have gj : ∀ j : Nat, j < q.2.length → (Cond.eq (.elem (wvl q) (.int (Int32.ofNat j))) (.int (iZ (q.2.getD j 0)))).before args s = true := fun j hj => hn _ (List.mem_append_right _ (List.mem_map.mpr ⟨j, List.mem_range.mpr hj, rfl⟩))
  obtain ⟨a, c, cA, kA, q1, q2, q3, q4, q5, q6, -⟩ := Cond.exactly_spec (args := args) (first := s) (o := none) (s := s) (idx := []) (t := wtm q) (cls := "java/lang/String") g0
  obtain ⟨t, ht, hT⟩ := va_Tof (tm := wvl q) (ty := .byte) (f := fun j => .int (iZ (q.2.getD j 0))) (A := A) hN g2 (va_eqt g3) (fun j hj => va_eqt (gj j hj)) hA
  obtain ⟨cT, hcT, -⟩ := hT
  have hl1 := (Array.getElem?_eq_some_iff.mp q3).1
  have hl2 := (Array.getElem?_eq_some_iff.mp hcT).1
  obtain ⟨t', ht', hT'⟩ := va_Tof (tm := wvl q) (ty := .byte) (f := fun j => .int (iZ (q.2.getD j 0))) (A := A) hN g2 (va_eqt g3) (fun j hj => va_eqt (gj j hj)) hA
  have et : t' = t := by
    have := ht'.symm.trans ht
    cases this
    rfl
  subst et
  exact ⟨(a, t'), ⟨vk_R.of hr q1, ⟨cA, q3, q5, by rw [q6]; exact q2, hA a hl1⟩, vk_OFof q1 (va_eqt g1) hA, vk_OFof q1 ht' hA, hT'⟩, hl1, hl2⟩
theorem kWr_len : ∀ q ∈ kWr, q.2.length < 2 ^ 31 := by decide +kernel
theorem kWr_1 : ∀ q ∈ kWr, q.1 ∈ kLdc := fun q hq => (List.of_mem_zip hq).1
/-- the texts, and where they stand -/
theorem str_all {args : Array Value} {s : State} {A : Nat → Prop} (h0 : 0 < s.heap.size) (hA : ∀ a : Nat, a < s.heap.size → ¬ A a) (hts : ∀ w ∈ lw_tbl, w.before args s = true) (hn : ∀ w ∈ eNar, w.before args s = true) :
    ∃ sd : Nat → Nat × Nat, (∀ i, (sd i).1 < s.heap.size ∧ (sd i).2 < s.heap.size) ∧ ∀ (i : Nat) (q : (String × Nat × String × Nat) × List Int), kWr[i]? = some q → vk_R q.1.1 q.1.2.1 q.1.2.2.1 (sd i).1 s ∧ va_O "java/lang/String" (sd i).1 A s s.heap ∧ va_OF "java/lang/String" "coder" "B" (.int (iZ 0)) (sd i).1 A s s.heap ∧ va_OF "java/lang/String" "value" "[B" (.ref (sd i).2) (sd i).1 A s s.heap ∧ va_T .byte (sd i).2 q.2.length (fun j => .int (iZ (q.2.getD j 0))) A s s.heap := by
  have h1 : ∀ i : Nat, ∃ d : Nat × Nat, (d.1 < s.heap.size ∧ d.2 < s.heap.size) ∧ ∀ q : (String × Nat × String × Nat) × List Int, kWr[i]? = some q → vk_R q.1.1 q.1.2.1 q.1.2.2.1 d.1 s ∧ va_O "java/lang/String" d.1 A s s.heap ∧ va_OF "java/lang/String" "coder" "B" (.int (iZ 0)) d.1 A s s.heap ∧ va_OF "java/lang/String" "value" "[B" (.ref d.2) d.1 A s s.heap ∧ va_T .byte d.2 q.2.length (fun j => .int (iZ (q.2.getD j 0))) A s s.heap := by
    intro i
    generalize hz : kWr[i]? = z
    cases z with
    | none => exact ⟨(0, 0), ⟨h0, h0⟩, fun q h => by cases h⟩
    | some q =>
      have hq : q ∈ kWr := List.mem_of_getElem? hz
      obtain ⟨d, hd, hd2⟩ := str_of hA (q := q) (fun w hw => hn w (inLet q hq w hw)) (hts _ (inLdc q.1 (kWr_1 q hq))) (kWr_len q hq)
      exact ⟨d, hd2, fun q' h => by cases h; exact hd⟩
  obtain ⟨sd, hsd⟩ := Classical.axiomOfChoice h1
  exact ⟨sd, fun i => (hsd i).1, fun i q h => (hsd i).2 q h⟩
/-- a static row, given as it stands -/
theorem row_of {args : Array Value} {s : State} {A : Nat → Prop} {C n d : String} {ty : FieldType} {N : Nat} {f : Nat → Value} (hN : N < 2 ^ 31) (hA : ∀ a : Nat, a < s.heap.size → ¬ A a) (hl : (Cond.laysStatic C n d).before args s = true) (hini : (Cond.initialized C).before args s = true) (harr : (Cond.arrayOf (.static C n d) ty).before args s = true) (hlen : (Cond.eq (.length (.static C n d)) (.int (Int32.ofNat N))).before args s = true) (hel : ∀ j : Nat, j < N → (Term.elem (.static C n d) (.int (Int32.ofNat j))).eval args s none [] s = some (f j)) : ∃ t : Nat, va_Z C n d (.ref t) A s s.heap ∧ va_T ty t N f A s s.heap ∧ t < s.heap.size := by
  obtain ⟨t, ht, hT⟩ := va_Tof (tm := .static C n d) (ty := ty) (f := f) (A := A) hN harr (va_eqt hlen) hel hA
  have hl2 : t < s.heap.size := by
    obtain ⟨cT, hcT, -⟩ := hT
    exact (Array.getElem?_eq_some_iff.mp hcT).1
  exact ⟨t, va_Zof hl hini ht hA, hT, hl2⟩
theorem hk_arr {args : Array Value} {s : State} {ty : FieldType} (h : (Cond.arrayClass ty).before args s = true) : ∃ cA : ClassId, ArrOfT s cA ty ∧ s.vm.findClass ("[" ++ ty.toString) = some cA := by
  obtain ⟨c, k, comp, h1, h2, h3⟩ := Cond.arrayClass_spec (args := args) (first := s) (o := none) (s := s) (idx := []) h
  exact ⟨c, fun n z => ⟨fun k9 h9 => (by cases h9), k, h2, comp, h3⟩, h1⟩
theorem hk_obj {args : Array Value} {s : State} {C : String} (h : (Cond.arrayOver (.object C)).before args s = true) : ∃ cA : ClassId, ArrOfT s cA (.object C) ∧ va_RA s cA (.object C) := by
  obtain ⟨comp, c2, k2, f4, -, f2, f3, f1⟩ := Cond.arrayOver_spec (args := args) (first := s) (o := none) (s := s) (idx := []) (n := C) h
  exact ⟨c2, fun n z => ⟨fun k9 h9 => (by cases h9), k2, f2, comp, f3⟩, k2, comp, f2, f3, f4, f1⟩
/-- the rows of rows -/
theorem aoa_spec {args : Array Value} {s : State} {t : FieldType} (h : (Cond.arrayOver (.array t)).before args s = true) : ∃ comp c k, s.vm.findClass (FieldType.array t).toString = some comp ∧ (s.vm.classes.findIdx? fun (x : Class) => match x.kind with | .array component _ => component == comp | _ => false) = some c ∧ s.vm.classes[c]? = some k ∧ k.kind = .array comp (.array t) ∧ s.vm.findClass ("[" ++ (FieldType.array t).toString) = some c := by
  unfold Cond.before at h
  simp only [Cond.holds, Cond.value, beq_iff_eq] at h
  cases hc : s.vm.findClass (FieldType.array t).toString with
  | none => simp [hc] at h
  | some comp =>
    simp only [hc, Option.bind_some, Option.bind_eq_some_iff, Option.map_eq_some_iff] at h
    obtain ⟨c, hi, k, hk, hb⟩ := h
    obtain ⟨hlt, hp, -⟩ := Array.findIdx?_eq_some_iff_getElem.mp hi
    have hkk : s.vm.classes[c] = k := (Array.getElem?_eq_some_iff.mp hk).2
    rw [hkk] at hp
    cases hkind : k.kind with
    | array component ty =>
      rw [hkind] at hb hp
      simp at hb hp
      exact ⟨comp, c, k, rfl, hi, hk, by rw [hkind, hp, hb.1], hb.2⟩
    | _ => rw [hkind] at hb; simp at hb
theorem hk_aoa {args : Array Value} {s : State} {t : FieldType} (h : (Cond.arrayOver (.array t)).before args s = true) : ∃ cA : ClassId, ArrOfT s cA (.array t) ∧ s.vm.findClass ("[" ++ (FieldType.array t).toString) = some cA := by
  obtain ⟨comp, c, k, h1, -, h2, h3, h4⟩ := aoa_spec h
  exact ⟨c, fun n z => ⟨fun k9 h9 => (by cases h9), k, h2, comp, h3⟩, h4⟩
theorem wAOA.moved {t : FieldType} {u U : State} (hvm : u.vm.Alike U.vm) (h : wAOA t u) : wAOA t U := by
  obtain ⟨comp, c, k, h1, h2, h3, h4, h5⟩ := aoa_spec h
  obtain ⟨k', hk', he⟩ := hvm.2.2 _ _ h3
  have hi : (U.vm.classes.findIdx? fun (x : Class) => match x.kind with | .array component _ => component == comp | _ => false) = some c := by
    refine (va_idx_bare U.vm comp).symm.trans ?_
    first | rw [hvm.bare_eq] | rw [← hvm.bare_eq]
    exact (va_idx_bare u.vm comp).trans h2
  have hkind : k'.kind = .array comp (.array t) := by rw [he]; exact h4
  have f1 : U.vm.findClass (FieldType.array t).toString = some comp := by rw [hvm.findClass]; exact h1
  have f2 : U.vm.findClass ("[" ++ (FieldType.array t).toString) = some c := by rw [hvm.findClass]; exact h5
  unfold wAOA Cond.before Cond.holds
  simp only [Cond.value]
  rw [f1, Option.bind_some]
  refine (congrArg (fun o : Option Nat => (o.bind (fun c => (U.vm.classes[c]?).map fun (k : Class) => match k.kind with | .array _ ty => decide (ty = FieldType.array t) && decide (U.vm.findClass ("[" ++ (FieldType.array t).toString) = some c) | _ => false) == some true)) hi).trans ?_
  simp [hk', hkind, f2]
/-- the classes' numbers and the arrays' -/
theorem hk_K {args : Array Value} {s : State} (hts : ∀ w ∈ lw_tbl, w.before args s = true) : ∃ (D : va_G) (cA : KA), va_K D vwCl [(cA.1, .int), (cA.2.1, .long), (cA.2.2.1, .object "ShareGraph$Sharing"), (cA.2.2.2.1, .byte), (cA.2.2.2.2.1, .object "java/lang/Object"), (cA.2.2.2.2.2, .array .int)] s := by
  have h0 : ∀ i : Nat, ∃ d : ClassId × (Nat → Nat), ∀ q : vw_C, vwCl[i]? = some q → u_Kn s q.1 q.2.1 q.2.2 d.1 d.2 := by
    intro i
    generalize hz : vwCl[i]? = z
    cases z with
    | none => exact ⟨(0, fun _ => 0), fun q h => by cases h⟩
    | some q =>
      have hq : q ∈ vwCl := List.mem_of_getElem? hz
      obtain ⟨cC, iS, hKn⟩ := u_known (C := q.1) (T := q.2.1) (N := q.2.2) (n := q.2.2) hts (fun w hw => inC_all q hq w (List.mem_cons_of_mem _ hw)) (hts _ (inC_all q hq _ List.mem_cons_self))
      exact ⟨(cC, iS), fun q' h => by cases h; exact hKn⟩
  obtain ⟨d, hd⟩ := Classical.axiomOfChoice h0
  obtain ⟨c0, a0, b0⟩ := hk_arr (ty := .int) (hts _ (inFew _ (by simp [eFew])))
  obtain ⟨c1, a1, b1⟩ := hk_arr (ty := .long) (hts _ (inFew _ (by simp [eFew])))
  obtain ⟨c2, a2, b2⟩ := hk_obj (C := "ShareGraph$Sharing") (hts _ (inFew _ (by simp [eFew])))
  obtain ⟨c3, a3, b3⟩ := hk_arr (ty := .byte) (hts _ (inFew _ (by simp [eFew])))
  obtain ⟨c4, a4, b4⟩ := hk_obj (C := "java/lang/Object") (hts _ (inFew _ (by simp [eFew])))
  obtain ⟨c5, a5, b5⟩ := hk_aoa (t := .int) (hts _ (inFew _ (by simp [eFew])))
  refine ⟨(fun i => (d i).1, fun i => (d i).2), (c0, c1, c2, c3, c4, c5), fun c q h => hd c q h, fun k q h => ?_⟩
  match k, h with
  | 0, h => cases h; exact ⟨a0, b0⟩
  | 1, h => cases h; exact ⟨a1, b1⟩
  | 2, h => cases h; exact ⟨a2, b2⟩
  | 3, h => cases h; exact ⟨a3, b3⟩
  | 4, h => cases h; exact ⟨a4, b4⟩
  | 5, h => cases h; exact ⟨a5, b5⟩
  | k + 6, h => exact absurd h (by simp)
theorem T_of_X {b L : Nat} {xs : Nat → Int32} {s : State} (hbl : b < s.heap.size) (h : va_X b L xs s s.heap) : va_T .int b L (fun j => .int (iZ (xs j).toInt)) (fun q => s.heap.size ≤ q) s s.heap := by
  obtain ⟨scr, h1, h2, h3, h4, h5⟩ := h
  exact ⟨scr, h1, h2, h3, Nat.le_of_eq h4.symm, by rw [h4], fun j hj => (h5 j hj).trans (by show some (Value.int (xs j)) = some (Value.int (iZ (xs j).toInt)); rw [iZ_back]), Nat.not_le.mpr hbl⟩

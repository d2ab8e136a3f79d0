/-! ===== the law's words stand in the tables; a private method of the class above is selected ===== -/
theorem sg_mem {big ws : List Cond} (sg : List (Nat × Nat)) (hp : ws = sg.flatMap (fun q => (big.drop q.1).take q.2)) : ∀ w ∈ ws, w ∈ big := fun w h => seg_in sg w (by rw [← hp]; exact h)
/-- a private method, selected for an object of a class below -/
theorem sel_sub {C : String} {y x2 y2 : MethodName} {s : State} {args : Array Value} {n : Nat} (hy : y.cls ≠ "java/lang/invoke/MethodHandle" ∧ y.cls ≠ "java/lang/invoke/VarHandle") (he : y2.cls = y.cls) (hins : (Cond.instantiable C n).before args s = true) (hpriv : (Cond.privateMethod y).before args s = true) (hinst : (Cond.instanceMethod y).before args s = true) (hsel2 : (Cond.selects C x2 y2).before args s = true) : (Cond.selects C y y).before args s = true := by
  obtain ⟨c, k, hc, hk, -, -, -, -⟩ := Cond.instantiable_spec hins
  obtain ⟨mk, methM, hnamed, hmethM, -, -⟩ := Cond.instanceMethod_spec hinst
  have hfound : s.methodFound? y.cls y.name y.desc = some mk := State.methodFound?_of_named hnamed hy
  obtain ⟨c2, r2, m2, -, -, hn2, -, k2, hk2, hni⟩ := Cond.selects_spec (args := args) (first := s) (o := none) (s := s) (idx := []) hsel2
  have hcls : m2.cls = mk.cls := by
    have h1 := findClass_of_methodNamed hn2
    have h2 := findClass_of_methodNamed hnamed
    rw [he] at h1
    exact Option.some.inj (h1.symm.trans h2)
  have hsel : selectMethod {} s.vm c mk = .method mk := selectMethod_private hmethM (Cond.privateMethod_at hpriv mk methM hnamed hmethM)
  rw [hcls] at hk2
  simp only [Cond.before, Cond.holds, Cond.value, hc, hfound, hnamed, hsel, hk2]
  simp
  exact hni
def sbY : List MethodName := [⟨"java/lang/AbstractStringBuilder", "appendNull", "()Ljava/lang/AbstractStringBuilder;"⟩, ⟨"java/lang/AbstractStringBuilder", "ensureCapacityInternal", "(I)V"⟩, ⟨"java/lang/AbstractStringBuilder", "newCapacity", "(I)I"⟩, ⟨"java/lang/AbstractStringBuilder", "putStringAt", "(ILjava/lang/String;)V"⟩, ⟨"java/lang/AbstractStringBuilder", "inflateIfNeededFor", "(Ljava/lang/String;)V"⟩, ⟨"java/lang/AbstractStringBuilder", "inflate", "()V"⟩]
def sbW : List Cond := sbY.map (fun y => Cond.selects "java/lang/StringBuilder" y y)
def xt_tbl : List Cond := sbW ++ lw_tbl
theorem sb_ok : ∀ y ∈ sbY, y.cls = "java/lang/AbstractStringBuilder" := by decide +kernel
theorem in_pl {big ws : List Cond} (ps : List Nat) (hp : ws = ps.filterMap (fun i => big[i]?)) : ∀ w ∈ ws, w ∈ big := by
  intro w hw
  rw [hp] at hw
  obtain ⟨i, -, hi⟩ := List.mem_filterMap.mp hw
  exact List.mem_of_getElem? hi
set_option maxRecDepth 20000 in
theorem sb_pv : ∀ y ∈ sbY, Cond.privateMethod y ∈ lw_tbl := fun y hy => sg_mem (ws := sbY.map Cond.privateMethod) [(909, 1), (913, 1), (917, 1), (965, 1), (969, 1), (974, 1)] rfl _ (List.mem_map.mpr ⟨y, hy, rfl⟩)
set_option maxRecDepth 20000 in
theorem sb_im : ∀ y ∈ sbY, Cond.instanceMethod y ∈ lw_tbl := fun y hy => sg_mem (ws := sbY.map Cond.instanceMethod) [(910, 1), (914, 1), (918, 1), (966, 1), (970, 1), (975, 1)] rfl _ (List.mem_map.mpr ⟨y, hy, rfl⟩)
set_option maxRecDepth 20000 in
theorem sb_few : ∀ w ∈ [Cond.instantiable "java/lang/StringBuilder" 4, Cond.selects "java/lang/StringBuilder" ⟨"java/lang/AbstractStringBuilder", "isLatin1", "()Z"⟩ ⟨"java/lang/AbstractStringBuilder", "isLatin1", "()Z"⟩], w ∈ lw_tbl := sg_mem [(862, 1), (946, 1)] rfl
theorem xt_before {args : Array Value} {s : State} (hts : ∀ w ∈ lw_tbl, w.before args s = true) : ∀ w ∈ xt_tbl, w.before args s = true := by
  intro w hw
  rcases List.mem_append.mp hw with h | h
  · obtain ⟨y, hy, rfl⟩ := List.mem_map.mp h
    have hc := sb_ok y hy
    exact sel_sub (by rw [hc]; exact ⟨by decide, by decide⟩) hc.symm (hts _ (sb_few _ List.mem_cons_self)) (hts _ (sb_pv y hy)) (hts _ (sb_im y hy)) (hts _ (sb_few _ (List.mem_cons_of_mem _ List.mem_cons_self)))
  · exact hts w h

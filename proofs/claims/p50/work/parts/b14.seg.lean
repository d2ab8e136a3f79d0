/-! ===== words by stretches of a list ===== -/
theorem seg_in {big : List Cond} (sg : List (Nat × Nat)) (w : Cond) (h : w ∈ sg.flatMap (fun q => (big.drop q.1).take q.2)) : w ∈ big := by
  obtain ⟨q, -, h⟩ := List.mem_flatMap.mp h
  exact List.mem_of_mem_drop (List.mem_of_mem_take h)
theorem goodIn_s {big : List Cond} (ws : List Cond) (sg : List (Nat × Nat)) (hp : ws = sg.flatMap (fun q => (big.drop q.1).take q.2)) (h : ws.all goodWord = true) : GoodIn big ws :=
  fun w hw => ⟨seg_in sg w (by rw [← hp]; exact hw), good_of_word (List.all_eq_true.mp h w hw)⟩

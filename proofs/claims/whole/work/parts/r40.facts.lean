/-! ===== what stands fast in a run of the law ===== -/
def dcl (w : Cond) : Bool := match w with
  | .declares _ => true
  | .castable _ _ => true
  | _ => false
theorem dcl_all : ∀ k, k < 3 → ∀ w ∈ (vx_atS RX11 (xic k) (xcl k) xNs).filter (fun w => !goodWord w), dcl w = true := fun k hk => by
  have : k = 0 ∨ k = 1 ∨ k = 2 := by omega
  rcases this with rfl | rfl | rfl <;> exact List.all_eq_true.mp (by decide +kernel)
/-- the facts: l the launch, sz the first address, sd the strings, b0 the script of L ints xs -/
def kFa (l : Launch) (sz : Nat) (sd : Nat → Nat × Nat) (b0 L : Nat) (xs : Nat → Int) (U : State) : Prop :=
  l.stackTraces = false ∧ vx_Zq Bundle.tN "UNASSIGNED_STACK" Bundle.steD (fun q => sz ≤ q) U U.heap ∧ vx_Zq Bundle.tN "SUPPRESSED_SENTINEL" Bundle.listD (fun q => sz ≤ q) U U.heap ∧
  (∀ k, k < 3 → ∀ w ∈ (vx_atS RX11 (xic k) (xcl k) xNs).filter (fun w => !goodWord w), va_Nw w U) ∧ (∀ q ∈ kStr, ∃ sa, vk_R RX11 q.1 q.2 sa U) ∧
  va_Z "java/lang/String" "COMPACT_STRINGS" "Z" (.int (iZ 1)) (fun q => sz ≤ q) U U.heap ∧ va_Zq "jdk/internal/util/Preconditions" "SIOOBE_FORMATTER" "Ljava/util/function/BiFunction;" (fun q => sz ≤ q) U U.heap ∧
  (∀ (i : Nat) (q : String × Nat × String × List Int × Int), kWrd[i]? = some q → vk_R q.1 q.2.1 q.2.2.1 (sd i).1 U ∧ va_O "java/lang/String" (sd i).1 (fun q => sz ≤ q) U U.heap ∧ va_OF "java/lang/String" "coder" "B" (.int (iZ 0)) (sd i).1 (fun q => sz ≤ q) U U.heap ∧ va_OF "java/lang/String" "value" "[B" (.ref (sd i).2) (sd i).1 (fun q => sz ≤ q) U U.heap ∧ va_T .byte (sd i).2 q.2.2.2.1.length (fun j => .int (iZ (q.2.2.2.1.getD j 0))) (fun q => sz ≤ q) U U.heap) ∧
  kcX U ∧ va_T .int b0 L (fun j => .int (iZ (xs j))) (fun q => sz ≤ q) U U.heap
theorem kFa.to {l : Launch} {sz : Nat} {sd : Nat → Nat × Nat} {b0 L : Nat} {xs : Nat → Int} {u U : State} (hal : u.vm.Alike U.vm) (hq : ∀ a : Nat, a < u.heap.size → ¬ sz ≤ a → U.heap[a]? = u.heap[a]?) (hR : ∀ (own : String) (k : Nat) (tx : String) (a : Nat), vk_R own k tx a u → vk_R own k tx a U) (hN : ∀ w, dcl w = true → va_Nw w u → va_Nw w U) (h : kFa l sz sd b0 L xs u) : kFa l sz sd b0 L xs U := by
  obtain ⟨h1, h2, h3, h4, h5, h6, h7, h8, ⟨h9, h10⟩, h11⟩ := h
  refine ⟨h1, vx_Zq.kept (vx_Zq.moved hal h2) hq, vx_Zq.kept (vx_Zq.moved hal h3) hq, fun k hk w hw => hN w (dcl_all k hk w hw) (h4 k hk w hw), fun q hq => ?_, va_Z.kept (va_Z.moved hal h6) hq, va_Zq.kept (va_Zq.moved hal h7) hq, fun i q hi => ?_, ⟨fun k hk => hN _ rfl (h9 k hk), fun k k' a b c => (h10 k k' a b c).moved hal⟩, va_T.kept (va_T.moved hal h11) hq⟩
  · obtain ⟨sa, hs⟩ := h5 q hq
    exact ⟨sa, hR _ _ _ _ hs⟩
  · obtain ⟨a1, a2, a3, a4, a5⟩ := h8 i q hi
    exact ⟨hR _ _ _ _ a1, va_O.kept (va_O.moved hal a2) hq, va_OF.kept (va_OF.moved hal a3) hq, va_OF.kept (va_OF.moved hal a4) hq, va_T.kept (va_T.moved hal a5) hq⟩
/-- the law's G -/
def lawG (l : Launch) (sz : Nat) (sd : Nat → Nat × Nat) (b0 L : Nat) (xs : Nat → Int) (D : va_G) (cA : ClassId × ClassId × ClassId) (ad : Nat → Nat) : KG := ((l, kFa l sz sd b0 L xs), sz, D, cA, ad)
section LG
variable {l : Launch} {sz : Nat} {sd : Nat → Nat × Nat} {b0 L : Nat} {xs : Nat → Int} {D : va_G} {cA : ClassId × ClassId × ClassId} {ad : Nat → Nat}
theorem lawG_pm : Kpm (lawG l sz sd b0 L xs D cA ad) := by
  refine ⟨fun u U hW hq h => ?_, fun u U e e2 h => ?_⟩
  · refine kFa.to hW.alike hq (fun _ _ _ _ h => vk_R.warm hW h) (fun w hw h => ?_) h
    cases w <;> first | exact absurd hw Bool.false_ne_true | exact va_Nw.warmD hW h | exact va_Nw.warmC hW h
  · refine kFa.to (by rw [e]; exact Vm.Alike.refl _) (fun a _ _ => by rw [e2]) (fun _ _ _ _ h => vk_R.same e.symm h) (fun w hw h => ?_) h
    cases w <;> first | exact absurd hw Bool.false_ne_true | exact va_Nw.same rfl e h
theorem lawG_Z : KZx (lawG l sz sd b0 L xs D cA ad) := fun U h => ⟨h.1, h.2.1, h.2.2.1, h.2.2.2.1, h.2.2.2.2.1⟩
theorem lawG_W : KSx (lawG l sz sd b0 L xs D cA ad) := ⟨sd, fun U h => ⟨⟨h.2.2.2.2.2.1, h.2.2.2.2.2.2.1⟩, fun i q hi => h.2.2.2.2.2.2.2.1 i q hi⟩⟩
theorem lawG_C : KCx (lawG l sz sd b0 L xs D cA ad) := fun U h => h.2.2.2.2.2.2.2.2.1
theorem lawG_T : ∀ U : State, (lawG l sz sd b0 L xs D cA ad).1.2 U → va_T .int b0 L (fun j => .int (iZ (xs j))) (KFr (lawG l sz sd b0 L xs D cA ad)) U U.heap := fun U h => h.2.2.2.2.2.2.2.2.2
end LG

/-! ===== what stands fast in a run of the law ===== -/
theorem wAOA.of {t : FieldType} {A : Array Value} {U : State} (h : (Cond.arrayOver (.array t)).before A U = true) : wAOA t U := h
theorem KWf.to {G : KG} {mi : Nat} {u U : State} (hal : u.vm.Alike U.vm) (hq : ∀ a : Nat, a < u.heap.size → ¬ KFr G a → U.heap[a]? = u.heap[a]?) (hR : ∀ (own : String) (k : Nat) (tx : String) (a : Nat), vk_R own k tx a u → vk_R own k tx a U) (hN : ∀ C T, va_Nw (.castable C T) u → va_Nw (.castable C T) U) (h : KWf G mi u) : KWf G mi U := by
  obtain ⟨⟨w1, w2⟩, w3, ⟨⟨w4, w5⟩, w6, w7⟩, ⟨w8, w9⟩, ⟨x1, x2, x3, x4, x5, x6⟩, ⟨y1, y2, y3, y4⟩, z⟩ := h
  refine ⟨⟨va_Z.kept (va_Z.moved hal w1) hq, va_Zq.kept (va_Zq.moved hal w2) hq⟩, fun i w hi => ?_, ⟨⟨va_Z.kept (va_Z.moved hal w4) hq, va_T.kept (va_T.moved hal w5) hq⟩, va_Z.kept (va_Z.moved hal w6) hq, va_T.kept (va_T.moved hal w7) hq⟩, ⟨va_Z.kept (va_Z.moved hal w8) hq, va_T.kept (va_T.moved hal w9) hq⟩, ⟨va_AO.moved hal x1, wAOA.moved hal x2, hN _ _ x3, hN _ _ x4, va_Dc.moved hal x5, va_Mi.moved hal x6⟩, ⟨va_Fw.moved ⟨by decide, by decide⟩ hal y1, va_Fw.moved ⟨by decide, by decide⟩ hal y2, va_Fw.moved ⟨by decide, by decide⟩ hal y3, va_Fw.moved ⟨by decide, by decide⟩ hal y4⟩, fun q hq2 => hR _ _ _ _ (z q hq2)⟩
  obtain ⟨a2, a3, a4, a5⟩ := w3 i w hi
  exact ⟨va_O.kept (va_O.moved hal a2) hq, va_OF.kept (va_OF.moved hal a3) hq, va_OF.kept (va_OF.moved hal a4) hq, va_T.kept (va_T.moved hal a5) hq⟩
/-- the facts: l the launch, sz the first address, lit what stands where, the script of L ints xs -/
def lFa (l : Launch) (sz : Nat) (D : va_G) (cA : KA) (lit : Nat → Nat) (mi L : Nat) (xs : Nat → Int) (U : State) : Prop := KWf (gWo (l, fun _ => True) sz D cA lit) mi U ∧ va_T .int (lit 998) L (fun j => .int (iZ (xs j))) (fun q => sz ≤ q) U U.heap ∧ va_AO "ShareGraph$Sharing" U
/-- the law's G at the start -/
abbrev lG (l : Launch) (sz : Nat) (D : va_G) (cA : KA) (lit : Nat → Nat) (mi L : Nat) (xs : Nat → Int) : KG := gWo (l, lFa l sz D cA lit mi L xs) sz D cA lit
section LGS
variable {l : Launch} {sz : Nat} {D : va_G} {cA : KA} {lit : Nat → Nat} {mi L : Nat} {xs : Nat → Int}
theorem lG_pm : Kpm (lG l sz D cA lit mi L xs) := by
  refine ⟨fun u U hW hq h => ⟨?_, va_T.kept (va_T.moved hW.alike h.2.1) hq, va_AO.moved hW.alike h.2.2⟩, fun u U e e2 h => ⟨?_, ?_, va_AO.moved (by rw [e]; exact Vm.Alike.refl _) h.2.2⟩⟩
  · exact KWf.to hW.alike hq (fun _ _ _ _ h => vk_R.warm hW h) (fun C T h => va_Nw.warmC hW h) h.1
  · exact KWf.to (by rw [e]; exact Vm.Alike.refl _) (fun a _ _ => by rw [e2]) (fun _ _ _ _ h => vk_R.same e.symm h) (fun C T h => va_Nw.same rfl e h) h.1
  · exact va_T.kept (va_T.moved (by rw [e]; exact Vm.Alike.refl _) h.2.1) (fun a _ _ => by rw [e2])
theorem lG_W : KWx (lG l sz D cA lit mi L xs) := ⟨mi, fun U h => KWf_ad (G := gWo (l, fun _ => True) sz D cA lit) (G' := lG l sz D cA lit mi L xs) rfl (fun _ _ _ => rfl) h.1⟩
theorem lG_T (hL : L ≤ 100000) : KScr (lG l sz D cA lit mi L xs) L xs := ⟨hL, fun U h => h.2.1⟩
end LGS
/-- where what stands fast stands -/
def litF (sd : Nat → Nat × Nat) (aE aT aO b : Nat) : Nat → Nat := fun k => if k < 930 then (if k % 2 = 0 then (sd ((k - 900) / 2)).1 else (sd ((k - 901) / 2)).2) else if k = 930 then aE else if k = 932 then aT else if k = 933 then aO else if k = 998 then b else 0
theorem litF_s {sd : Nat → Nat × Nat} {aE aT aO b i : Nat} (hi : i < 15) : litF sd aE aT aO b (900 + 2 * i) = (sd i).1 ∧ litF sd aE aT aO b (901 + 2 * i) = (sd i).2 := by
  unfold litF
  rw [if_pos (by omega), if_pos (by omega), if_pos (by omega), if_neg (by omega), show (900 + 2 * i - 900) / 2 = i by omega, show (901 + 2 * i - 901) / 2 = i by omega]
  exact ⟨rfl, rfl⟩
theorem kLdc_i : ∀ i, i < 15 → (kLdc[i]?.map fun q => q.2.2.2) = some (900 + 2 * i) := by decide
theorem kWr_i : ∀ (i : Nat) (q : String × Nat × String × Nat) (w : List Int), kLdc[i]? = some q → kLit[i]? = some w → kWr[i]? = some (q, w) := fun i q w h1 h2 => by
  unfold kWr
  rw [List.getElem?_zip_eq_some]
  exact ⟨h1, h2⟩
/-- all that stands fast at the entry -/
theorem hk_of {p : Program} {s : State} {m : MethodId} {meth : Method} {c : Code} (l : Launch) {b L : Nat} {xs : Nat → Int32} (C0 : lw_At p s m meth c b L xs) :
    ∃ (lit : Nat → Nat) (D : va_G) (cA : KA) (mi : Nat), (∀ k, 900 ≤ k → k < 1000 → lit k < s.heap.size) ∧ lit 998 = b ∧ Kst (lG l s.heap.size D cA lit mi L (fun j => (xs j).toInt)) s := by
  obtain ⟨hx, hb, hr, hml, hown, hts, hX, hbl, hlk, hgv⟩ := C0
  have hA : ∀ a : Nat, a < s.heap.size → ¬ (fun q => s.heap.size ≤ q) a := fun a h => Nat.not_le.mpr h
  have hn : ∀ w ∈ eNar, w.before #[Value.ref b] s = true := nfl_before _ [] hgv (fun w hw => absurd hw List.not_mem_nil)
  have hF : ∀ w ∈ eFew, w.before #[Value.ref b] s = true := fun w hw => hts w (inFew w hw)
  have hR : ∀ w ∈ eNrf, w.before #[Value.ref b] s = true := fun w hw => hn w (inNrf w hw)
  obtain ⟨sd, hsz, hsd⟩ := str_all (A := fun q => s.heap.size ≤ q) (by omega) hA hts hn
  obtain ⟨D, cA, hK⟩ := hk_K hts
  obtain ⟨mi, hmi⟩ := va_Mi.of (hR (.isRef (.mirror "[Ljava/lang/Object;")) (by simp [eNrf]))
  obtain ⟨aE, eZ, eT, eS⟩ := row_of (A := fun q => s.heap.size ≤ q) (C := "java/util/ArrayList") (n := "DEFAULTCAPACITY_EMPTY_ELEMENTDATA") (d := "[Ljava/lang/Object;") (ty := .object "java/lang/Object") (N := 0) (f := fun _ => .null) (by decide) hA (hF _ (by simp [eFew])) (hF _ (by simp [eFew])) (hR _ (by simp [eNrf])) (hR _ (by simp [eNrf])) (fun j hj => absurd hj (Nat.not_lt_zero _))
  obtain ⟨aT, tZ, tT, tS⟩ := row_of (A := fun q => s.heap.size ≤ q) (C := "java/lang/Integer") (n := "DigitTens") (d := "[B") (ty := .byte) (N := 100) (f := fun j => .int (iZ (lval 932 j))) (by decide) hA (hF _ (by simp [eFew])) (hF _ (by simp [eFew])) (hR _ (by simp [eNrf])) (hR _ (by simp [eNrf])) (fun j hj => va_eqt (hn _ (inDg_932 _ (List.mem_map.mpr ⟨j, List.mem_range.mpr hj, rfl⟩))))
  obtain ⟨aO, oZ, oT, oS⟩ := row_of (A := fun q => s.heap.size ≤ q) (C := "java/lang/Integer") (n := "DigitOnes") (d := "[B") (ty := .byte) (N := 100) (f := fun j => .int (iZ (lval 933 j))) (by decide) hA (hF _ (by simp [eFew])) (hF _ (by simp [eFew])) (hR _ (by simp [eNrf])) (hR _ (by simp [eNrf])) (fun j hj => va_eqt (hn _ (inDg_933 _ (List.mem_map.mpr ⟨j, List.mem_range.mpr hj, rfl⟩))))
  refine ⟨litF sd aE aT aO b, D, cA, mi, fun k h1 h2 => ?_, rfl, hK, fun q hq => va_Nw.of rfl (hts _ (inNest q hq)), ⟨?_, T_of_X hbl hX, va_AO.of (hF _ (by simp [eFew]))⟩, lG_pm⟩
  · unfold litF
    split
    · split
      · exact (hsz _).1
      · exact (hsz _).2
    · split
      · exact eS
      · split
        · exact tS
        · split
          · exact oS
          · split
            · exact hbl
            · omega
  · have ek : ∀ k, 900 ≤ k → k < 1000 → kadr (gWo (l, fun _ => True) s.heap.size D cA (litF sd aE aT aO b)) k = litF sd aE aT aO b k := fun k h1 h2 => (ad_lit (n := 0) h1 h2).1
    have pick : ∀ i, i < 15 → ∀ w, kLit[i]? = some w → ∃ q, kLdc[i]? = some q ∧ q.2.2.2 = 900 + 2 * i ∧ kWr[i]? = some (q, w) := fun i hi w hw => by
      have h1 := kLdc_i i hi
      cases hz : kLdc[i]? with
      | none => rw [hz] at h1; cases h1
      | some q =>
        rw [hz] at h1
        exact ⟨q, rfl, Option.some.inj h1, kWr_i i q w hz hw⟩
    refine ⟨⟨va_Zof (hF (.laysStatic "java/lang/String" "COMPACT_STRINGS" "Z") (by simp [eFew])) (hF (.initialized "java/lang/String") (by simp [eFew])) (va_eqi (hR (.eq (.static "java/lang/String" "COMPACT_STRINGS" "Z") (.int (iZ 1))) (by simp [eNrf]))) hA, va_Zqof (hF (.laysStatic "jdk/internal/util/Preconditions" "SIOOBE_FORMATTER" "Ljava/util/function/BiFunction;") (by simp [eFew])) (hF (.initialized "jdk/internal/util/Preconditions") (by simp [eFew])) (hR (.isRef (.static "jdk/internal/util/Preconditions" "SIOOBE_FORMATTER" "Ljava/util/function/BiFunction;")) (by simp [eNrf])) hA⟩, fun i w hi => ?_, ⟨⟨tZ, tT⟩, oZ, oT⟩, ⟨eZ, eT⟩, ⟨va_AO.of (hF _ (by simp [eFew])), wAOA.of (hF (.arrayOver (.array .int)) (by simp [eFew])), va_Nw.of rfl (hF _ (by simp [eFew])), va_Nw.of rfl (hF _ (by simp [eFew])), va_Dc.of (hF _ (by simp [eFew])), hmi⟩, ⟨?_, ?_, ?_, ?_⟩, fun q hq => ?_⟩
    · have hi15 : i < 15 := (List.getElem?_eq_some_iff.mp hi).1
      obtain ⟨q, -, -, hq⟩ := pick i hi15 w hi
      obtain ⟨-, s2, s3, s4, s5⟩ := hsd i _ hq
      rw [ek (900 + 2 * i) (by omega) (by omega), ek (901 + 2 * i) (by omega) (by omega), (litF_s hi15).1, (litF_s hi15).2]
      exact ⟨s2, s3, s4, s5⟩
    · exact va_Fw.of (hF _ (by simp [eFew])) (hF _ (by simp [eFew])) (hF _ (by simp [eFew])) (hF _ (by simp [eFew])) (hF _ (by simp [eFew]))
    · exact va_Fw.of (hF _ (by simp [eFew])) (hF _ (by simp [eFew])) (hF _ (by simp [eFew])) (hF _ (by simp [eFew])) (hF _ (by simp [eFew]))
    · exact va_Fw.of (hF _ (by simp [eFew])) (hF _ (by simp [eFew])) (hF _ (by simp [eFew])) (hF _ (by simp [eFew])) (hF _ (by simp [eFew]))
    · exact va_Fw.of (hF _ (by simp [eFew])) (hF _ (by simp [eFew])) (hF _ (by simp [eFew])) (hF _ (by simp [eFew])) (hF _ (by simp [eFew]))
    · obtain ⟨i, hi⟩ := List.mem_iff_getElem?.mp hq
      have hi15 : i < 15 := (List.getElem?_eq_some_iff.mp hi).1
      have hw : ∃ w, kLit[i]? = some w := ⟨kLit[i]'(by exact hi15), List.getElem?_eq_getElem _⟩
      obtain ⟨w, hw⟩ := hw
      obtain ⟨q', h1, h2, h3⟩ := pick i hi15 w hw
      rw [hi] at h1
      cases h1
      obtain ⟨s1, -⟩ := hsd i _ h3
      rw [ek _ (by omega) (by omega), h2, (litF_s hi15).1]
      exact s1

/-! ===== Math.min, Math.max; static calls ===== -/
theorem goodIn_wsS {Ts ws : List Cond} {own : String} {idx : Nat} {y : MethodName} (g : GoodIn Ts (va_wsS own idx y ws)) : GoodIn Ts ws := fun w hw => g w (List.mem_append_right _ hw)
section WMM
variable {G : KG} {X : KX} {nL : Nat} {Qs : State → Prop} {a b pc : Nat} {lv : List (Option Value)} {st : List Value} {I : Ii} {J : Jj} {cc : ByteArray} {own : String} {ret : Option FieldType} {Ts : List Cond} {Q : Int → Ii → Jj → Prop}
theorem wd_min (C : Fr G X cc nL own ret Ts) {x y : Int} {idx : Nat} (h : wp_J9_min_7cf53 x y I J Q) (hlk9 : Cond.methodLink own idx Lib.Math.min.name ∈ Ts) (hst9 : Cond.static Lib.Math.min.name ∈ Ts) (hin9 : Cond.initialized "java/lang/Math" ∈ Ts) (hco9 : Cond.code Lib.Math.min.name Lib.Math.min.code 2 (some .int) ∈ Ts)
    (hR : 1 ≤ (KR X).frames ∧ (st.map fun v => v.category).sum + 13 ≤ (KR X).locals) (d : decode cc pc = .ok (.invokestatic idx, 3)) (k : ∀ (v : Int) (I1 : Ii) (J1 : Jj), Q v I1 J1 → Wz G X nL Qs a b (pc + 3) lv (.int (iZ v) :: st) I1 J1) : Wz G X nL Qs a b pc lv (.int (iZ y) :: .int (iZ x) :: st) I J := by
  obtain ⟨rx, ry, h1, h2⟩ := h
  obtain ⟨p, e, R, s, m, args, below, meth, c⟩ := X
  obtain ⟨hx, hb, hml, hown, hts, hr, hlk, hKK, hG, hlo⟩ := C
  intro k9 n9 hk9 hn9 H locs ls hP hS hl
  have hR : 1 ≤ R.frames ∧ (st.map fun v => v.category).sum + 13 ≤ R.locals := hR
  refine va_mmin hx hb (hml.trans hl.1.symm) hown (hts _ hlk9) (hts _ hst9) (hts _ hin9) (hts _ hco9) hR.1 hR.2 (by omega) (by omega) d ?_
  by_cases q : y < x
  · rw [if_pos ((iZ_lt ry rx).mpr q)]
    exact k y I J (h1 q) k9 n9 hk9 hn9 H locs ls hP hS hl
  · rw [if_neg (fun z => q ((iZ_lt ry rx).mp z))]
    exact k x I J (h2 q) k9 n9 hk9 hn9 H locs ls hP hS hl
theorem wd_max (C : Fr G X cc nL own ret Ts) {x y : Int} {idx : Nat} (h : wp_J9_max_7cf53 x y I J Q) (hlk9 : Cond.methodLink own idx Lib.Math.max.name ∈ Ts) (hst9 : Cond.static Lib.Math.max.name ∈ Ts) (hin9 : Cond.initialized "java/lang/Math" ∈ Ts) (hco9 : Cond.code Lib.Math.max.name Lib.Math.max.code 2 (some .int) ∈ Ts)
    (hR : 1 ≤ (KR X).frames ∧ (st.map fun v => v.category).sum + 13 ≤ (KR X).locals) (d : decode cc pc = .ok (.invokestatic idx, 3)) (k : ∀ (v : Int) (I1 : Ii) (J1 : Jj), Q v I1 J1 → Wz G X nL Qs a b (pc + 3) lv (.int (iZ v) :: st) I1 J1) : Wz G X nL Qs a b pc lv (.int (iZ y) :: .int (iZ x) :: st) I J := by
  obtain ⟨rx, ry, h1, h2⟩ := h
  obtain ⟨p, e, R, s, m, args, below, meth, c⟩ := X
  obtain ⟨hx, hb, hml, hown, hts, hr, hlk, hKK, hG, hlo⟩ := C
  intro k9 n9 hk9 hn9 H locs ls hP hS hl
  have hR : 1 ≤ R.frames ∧ (st.map fun v => v.category).sum + 13 ≤ R.locals := hR
  refine va_mmax hx hb (hml.trans hl.1.symm) hown (hts _ hlk9) (hts _ hst9) (hts _ hin9) (hts _ hco9) hR.1 hR.2 (by omega) (by omega) d ?_
  by_cases q : x < y
  · rw [if_pos ((iZ_lt rx ry).mpr q)]
    exact k y I J (h1 q) k9 n9 hk9 hn9 H locs ls hP hS hl
  · rw [if_neg (fun z => q ((iZ_lt rx ry).mp z))]
    exact k x I J (h2 q) k9 n9 hk9 hn9 H locs ls hP hS hl
end WMM

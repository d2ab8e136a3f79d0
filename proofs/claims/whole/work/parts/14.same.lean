/-! ===== what is the same behind a run ===== -/
/-- only the places of W may have changed -/
def Same (W : Nat → Nat → Prop) (I : Ii) (J : Jj) (I' : Ii) (J' : Jj) : Prop := ∀ k i, ¬ W k i → I' k i = I k i ∧ J' k i = J k i
theorem Same.rf {W : Nat → Nat → Prop} (I : Ii) (J : Jj) : Same W I J I J := fun _ _ _ => ⟨rfl, rfl⟩
theorem Same.upI {W : Nat → Nat → Prop} {I0 I I1 : Ii} {J0 J : Jj} {k i : Nat} {v : Int} (h : Same W I0 J0 I J) (e : I1 = up2 I k i v) (hw : W k i) : Same W I0 J0 I1 J := by
  subst e
  intro k' i' q
  have h1 := h k' i' q
  refine ⟨?_, h1.2⟩
  rw [up2_ne (fun z => q (by rw [z.1, z.2]; exact hw))]
  exact h1.1
theorem Same.upJ {W : Nat → Nat → Prop} {I0 I : Ii} {J0 J J1 : Jj} {k i : Nat} {v : Int64} (h : Same W I0 J0 I J) (e : J1 = up2 J k i v) (hw : W k i) : Same W I0 J0 I J1 := by
  subst e
  intro k' i' q
  have h1 := h k' i' q
  refine ⟨h1.1, ?_⟩
  rw [up2_ne (fun z => q (by rw [z.1, z.2]; exact hw))]
  exact h1.2
theorem Same.uprI {W : Nat → Nat → Prop} {I0 I I1 : Ii} {J0 J : Jj} {k : Nat} {r : Nat → Int} (h : Same W I0 J0 I J) (e : I1 = upr I k r) (hw : ∀ i, W k i) : Same W I0 J0 I1 J := by
  subst e
  intro k' i' q
  have h1 := h k' i' q
  refine ⟨?_, h1.2⟩
  rw [upr_ne (fun z => q (by rw [z]; exact hw i'))]
  exact h1.1
theorem Same.uprJ {W : Nat → Nat → Prop} {I0 I : Ii} {J0 J J1 : Jj} {k : Nat} {r : Nat → Int64} (h : Same W I0 J0 I J) (e : J1 = upr J k r) (hw : ∀ i, W k i) : Same W I0 J0 I J1 := by
  subst e
  intro k' i' q
  have h1 := h k' i' q
  refine ⟨h1.1, ?_⟩
  rw [upr_ne (fun z => q (by rw [z]; exact hw i'))]
  exact h1.2
theorem Same.trans {W W2 : Nat → Nat → Prop} {I0 I I2 : Ii} {J0 J J2 : Jj} (h : Same W I0 J0 I J) (h2 : Same W2 I J I2 J2) (hw : ∀ k i, W2 k i → W k i) : Same W I0 J0 I2 J2 := by
  intro k i q
  have a := h k i q
  have b := h2 k i (fun z => q (hw k i z))
  exact ⟨b.1.trans a.1, b.2.trans a.2⟩
theorem Same.I {W : Nat → Nat → Prop} {I I' : Ii} {J J' : Jj} (h : Same W I J I' J') {k i : Nat} (q : ¬ W k i) : I' k i = I k i := (h k i q).1
theorem Same.J {W : Nat → Nat → Prop} {I I' : Ii} {J J' : Jj} (h : Same W I J I' J') {k i : Nat} (q : ¬ W k i) : J' k i = J k i := (h k i q).2
theorem Same.rI {W : Nat → Nat → Prop} {I I' : Ii} {J J' : Jj} (h : Same W I J I' J') {k : Nat} (q : ∀ i, ¬ W k i) : I' k = I k := funext fun i => (h k i (q i)).1
theorem Same.rJ {W : Nat → Nat → Prop} {I I' : Ii} {J J' : Jj} (h : Same W I J I' J') {k : Nat} (q : ∀ i, ¬ W k i) : J' k = J k := funext fun i => (h k i (q i)).2
/-- a list of places: a key and a place, or (with 1000) a whole row -/
def wl : List (Nat × Nat) → Nat → Nat → Bool
  | [], _, _ => false
  | q :: t, k, i => (q.1 == k && (q.2 == 1000 || q.2 == i)) || wl t k i
def WL (l : List (Nat × Nat)) (k i : Nat) : Prop := wl l k i = true
/-- the keys of a list -/
def wlk : List (Nat × Nat) → Nat → Bool
  | [], _ => false
  | q :: t, k => (q.1 == k) || wlk t k
theorem wlk_wl : ∀ {l : List (Nat × Nat)} {k i : Nat}, wl l k i = true → wlk l k = true
  | q :: t, k, i, h => by
    unfold wl at h
    unfold wlk
    rcases Bool.or_eq_true _ _ |>.mp h with h | h
    · rw [Bool.and_eq_true] at h
      rw [h.1]; rfl
    · rw [wlk_wl h, Bool.or_true]
theorem WL_n {l : List (Nat × Nat)} {k : Nat} (h : wlk l k = false) : ∀ i, ¬ WL l k i := fun i q => by
  have := wlk_wl (show wl l k i = true from q)
  rw [h] at this
  cases this
def wls : List (Nat × Nat) → List (Nat × Nat) → Bool
  | [], _ => true
  | q :: t, l => wl l q.1 q.2 && wls t l
theorem wl_1000 : ∀ {l : List (Nat × Nat)} {k i : Nat}, wl l k 1000 = true → wl l k i = true
  | q :: t, k, i, h => by
    unfold wl at h ⊢
    rcases Bool.or_eq_true _ _ |>.mp h with h | h
    · rw [Bool.and_eq_true, Bool.or_self] at h
      rw [h.1, h.2]; rfl
    · rw [wl_1000 h, Bool.or_true]
theorem WL_any : ∀ {l1 l2 : List (Nat × Nat)}, wls l1 l2 = true → ∀ k i, WL l1 k i → WL l2 k i
  | q :: t, l2, h, k, i, z => by
    unfold wls at h
    rw [Bool.and_eq_true] at h
    have z : wl (q :: t) k i = true := z
    unfold wl at z
    show wl l2 k i = true
    rcases Bool.or_eq_true _ _ |>.mp z with z | z
    · rw [Bool.and_eq_true, Bool.or_eq_true, beq_iff_eq, beq_iff_eq, beq_iff_eq] at z
      rcases z with ⟨z1, z2 | z2⟩
      · have h1 := h.1
        rw [z1, z2] at h1
        exact wl_1000 h1
      · have h1 := h.1
        rw [z1, z2] at h1
        exact h1
    · exact WL_any h.2 k i z
theorem WL_sub {l1 l2 : List (Nat × Nat)} (h : wls l1 l2 = true) : ∀ k i, WL l1 k i → WL l2 k i := WL_any h
/-- a row with one place changed -/
def updr {α : Type} (f : Nat → α) (i : Nat) (v : α) : Nat → α := fun j => if j = i then v else f j
theorem updr_self {α : Type} (f : Nat → α) (i : Nat) (v : α) : updr f i v i = v := if_pos rfl
theorem updr_ne {α : Type} {f : Nat → α} {i j : Nat} {v : α} (h : j ≠ i) : updr f i v j = f j := if_neg h
theorem up2_row {α : Type} (f : Nat → Nat → α) (k i : Nat) (v : α) : up2 f k i v k = updr (f k) i v := by
  funext j
  unfold up2 updr
  by_cases q : j = i
  · rw [if_pos ⟨rfl, q⟩, if_pos q]
  · rw [if_neg (fun z => q z.2), if_neg q]
/-- a number that says whether -/
def Bo (v : Int) (c : Prop) : Prop := (v = 1 ∧ c) ∨ (v = 0 ∧ ¬ c)
theorem bo1 {v : Int} {c A B : Prop} (h : Bo v c) (ha : c → A) (hb : ¬ c → B) : (¬ v = 0 → A) ∧ (v = 0 → B) := by
  rcases h with ⟨rfl, h⟩ | ⟨rfl, h⟩
  · exact ⟨fun _ => ha h, fun z => absurd z (by decide)⟩
  · exact ⟨fun z => absurd rfl z, fun _ => hb h⟩
theorem bo0 {v : Int} {c A B : Prop} (h : Bo v c) (hb : ¬ c → B) (ha : c → A) : (v = 0 → B) ∧ (¬ v = 0 → A) := (bo1 h ha hb).symm
theorem Bo.one {c : Prop} (h : c) : Bo 1 c := Or.inl ⟨rfl, h⟩
theorem Bo.zero {c : Prop} (h : ¬ c) : Bo 0 c := Or.inr ⟨rfl, h⟩
theorem Bo.iff {v : Int} {c d : Prop} (h : Bo v c) (e : c ↔ d) : Bo v d := by
  rcases h with ⟨rfl, h⟩ | ⟨rfl, h⟩
  · exact Bo.one (e.mp h)
  · exact Bo.zero (fun z => h (e.mpr z))
theorem Bo.b {v : Int} {c : Prop} (h : Bo v c) : v = 0 ∨ v = 1 := by
  rcases h with ⟨rfl, h⟩ | ⟨rfl, h⟩
  · exact Or.inr rfl
  · exact Or.inl rfl
/-! ===== the operations on numbers that are not negative ===== -/
theorem andZ_nat {a b : Nat} (ha : a < 2147483648) : andZ (a : Int) (b : Int) = ((a &&& b : Nat) : Int) := by
  unfold andZ
  rw [iZ_and]
  have := Nat.and_le_left (n := a) (m := b)
  exact iZ_toInt (by omega)
theorem andZ_nat' {a b : Nat} (hb : b < 2147483648) : andZ (a : Int) (b : Int) = ((a &&& b : Nat) : Int) := by
  unfold andZ
  rw [iZ_and]
  have := Nat.and_le_right (n := a) (m := b)
  exact iZ_toInt (by omega)
theorem orZ_nat {a b : Nat} (ha : a < 2147483648) (hb : b < 2147483648) : orZ (a : Int) (b : Int) = ((a ||| b : Nat) : Int) := by
  unfold orZ
  rw [iZ_or]
  have : a ||| b < 2 ^ 31 := Nat.or_lt_two_pow ha hb
  exact iZ_toInt (by omega)
theorem shlZ_nat {a k : Nat} (hk : k < 32) (h : a * 2 ^ k < 2147483648) : shlZ (a : Int) (k : Int) = ((a * 2 ^ k : Nat) : Int) := by
  unfold shlZ
  rw [iZ_shl hk (by omega)]
  exact iZ_toInt (by omega)
theorem shl1Z {k : Nat} (hk : k < 31) : shlZ 1 (k : Int) = ((2 ^ k : Nat) : Int) := by
  have h : 2 ^ k < 2147483648 := by
    have : 2 ^ k ≤ 2 ^ 30 := Nat.pow_le_pow_right (by decide) (by omega)
    omega
  have := shlZ_nat (a := 1) (k := k) (by omega) (by omega)
  rw [Nat.one_mul] at this
  exact this
theorem shrZ_nat {a k : Nat} (hk : k < 32) (h : a < 2147483648) : shrZ (a : Int) (k : Int) = ((a / 2 ^ k : Nat) : Int) := by
  unfold shrZ
  rw [iZ_shr hk h]
  have : a / 2 ^ k ≤ a := Nat.div_le_self _ _
  generalize a / 2 ^ k = d at this ⊢
  exact iZ_toInt (by omega)
theorem ushrZ_nat {a k : Nat} (hk : k < 32) (h : a < 2147483648) : ushrZ (a : Int) (k : Int) = ((a / 2 ^ k : Nat) : Int) := by
  unfold ushrZ
  rw [iZ_ushr hk h]
  have : a / 2 ^ k ≤ a := Nat.div_le_self _ _
  generalize a / 2 ^ k = d at this ⊢
  exact iZ_toInt (by omega)
theorem bit_one {a k : Nat} : (a / 2 ^ k) &&& 1 = if a.testBit k then 1 else 0 := by
  rw [Nat.and_one_is_mod, Nat.testBit_eq_decide_div_mod_eq]
  by_cases h : a / 2 ^ k % 2 = 1
  · rw [h]; simp
  · have : a / 2 ^ k % 2 = 0 := by omega
    rw [this]; simp
theorem cmpL_toInt (a b : Int64) : cmpL a b = cmpZ a.toInt b.toInt := by
  have ha : lZ a.toInt = a := Int64.ofInt_toInt a
  have hb : lZ b.toInt = b := Int64.ofInt_toInt b
  have h := cmpL_lZ (a := a.toInt) (b := b.toInt) ⟨Int64.le_toInt a, Int64.toInt_lt a⟩ ⟨Int64.le_toInt b, Int64.toInt_lt b⟩
  rw [ha, hb] at h
  exact h
theorem i2lZ_toInt {x : Int} (h : rg x) : (i2lZ x).toInt = x := by
  rw [i2lZ_lZ h]
  exact lZ_toInt (by have := h.1; have := h.2; omega)
theorem cmpL_eq {a b : Int64} : cmpL a b = 0 ↔ a = b := by
  rw [cmpL_toInt, cmpZ_eq]
  exact Int64.toInt_inj

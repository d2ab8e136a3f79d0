/-! ===== the class's small methods on rows ===== -/
theorem rlen_of {k n : Nat} (h : shR k = some (0, n)) : rlen k = n := by unfold rlen; rw [h]; rfl
theorem isRow_of {k n : Nat} (h : shR k = some (0, n)) : isRow k := by unfold isRow; rw [rlen_of h]; exact h
section CB
variable {I : Ii} {J : Jj}
theorem at_of {k n : Nat} (hs : shR k = some (0, n)) {x : Int} {i : Nat} (hx : x = (i : Int)) (hi : i < n) {Q : Int → Ii → Jj → Prop} (h : Q (I k i) I J) : wp_X11_at k x I J Q := by
  have hl := rlen_le k
  have e := rlen_of hs
  subst hx
  exact ⟨isRow_of hs, rgI (by omega) (by omega), fun c => by omega, fun c => ⟨fun c2 => by omega, fun c2 => ⟨by omega, h⟩⟩⟩
theorem put_of {k n : Nat} (hs : shR k = some (0, n)) {x v : Int} {i : Nat} (hx : x = (i : Int)) (hi : i < n) {Q : Ii → Jj → Prop} (h : ∀ I' : Ii, I' = up2 I k i v → Q I' J) : wp_X11_put k x v I J Q := by
  have hl := rlen_le k
  have e := rlen_of hs
  subst hx
  exact ⟨isRow_of hs, rgI (by omega) (by omega), fun c => by omega, fun c => ⟨fun c2 => by omega, fun c2 => ⟨by omega, fun I' e' => h I' e'⟩⟩⟩
theorem add_of {k n : Nat} (hs : shR k = some (0, n)) {x v : Int} {i : Nat} (hx : x = (i : Int)) (hi : i < n) {Q : Ii → Jj → Prop} (h : ∀ I' : Ii, I' = up2 I k i (I k i + v) → Q I' J) : wp_X11_add k x v I J Q := by
  have hl := rlen_le k
  have e := rlen_of hs
  subst hx
  exact ⟨isRow_of hs, rgI (by omega) (by omega), fun c => by omega, fun c => ⟨fun c2 => by omega, fun c2 => ⟨by omega, by omega, fun I' e' => h I' e'⟩⟩⟩
theorem isIn_of {x y : Int} {s k : Nat} (hx : x = (s : Int)) (hy : y = (k : Int)) (hs : s < 2147483648) (hk : k < 32) {Q : Int → Ii → Jj → Prop} (h1 : s.testBit k = true → Q 1 I J) (h0 : s.testBit k = false → Q 0 I J) : wp_X11_isIn x y I J Q := by
  subst hx hy
  unfold wp_X11_isIn
  have e : andZ (ushrZ (s : Int) (k : Int)) 1 = if s.testBit k = true then 1 else 0 := by
    rw [ushrZ_nat hk hs]
    show andZ _ ((1 : Nat) : Int) = _
    rw [andZ_nat' (by decide), bit_one]
    split <;> rfl
  rw [e]
  cases h : s.testBit k
  · rw [if_neg (by decide)]
    exact ⟨fun _ => h0 h, fun c => absurd rfl c⟩
  · rw [if_pos rfl]
    exact ⟨fun c => absurd c (by decide), fun _ => h1 h⟩
theorem min_of {a b : Int} (ha : rg a) (hb : rg b) {Q : Int → Ii → Jj → Prop} (h1 : b < a → Q b I J) (h2 : ¬ b < a → Q a I J) : wp_J9_min_7cf53 a b I J Q := ⟨ha, hb, h1, h2⟩
theorem max_of {a b : Int} (ha : rg a) (hb : rg b) {Q : Int → Ii → Jj → Prop} (h1 : a < b → Q b I J) (h2 : ¬ a < b → Q a I J) : wp_J9_max_7cf53 a b I J Q := ⟨ha, hb, h1, h2⟩
/-- a row filled with v -/
def filR (n : Nat) (v : Int) (f : Nat → Int) : Nat → Int := fun i => if i < n then v else f i
theorem filR_lt {n : Nat} {v : Int} {f : Nat → Int} {i : Nat} (h : i < n) : filR n v f i = v := if_pos h
theorem filR_zero (v : Int) (f : Nat → Int) : filR 0 v f = f := by funext i; unfold filR; rw [if_neg (by omega)]
theorem filR_succ (n : Nat) (v : Int) (f : Nat → Int) : filR (n + 1) v f = updr (filR n v f) n v := by
  funext i
  show (if i < n + 1 then v else f i) = if i = n then v else (if i < n then v else f i)
  by_cases h : i = n
  · rw [if_pos (by omega), if_pos h]
  · rw [if_neg h]
    by_cases h2 : i < n
    · rw [if_pos (by omega), if_pos h2]
    · rw [if_neg (by omega), if_neg h2]
theorem upr_id {α : Type} (f : Nat → Nat → α) (k : Nat) : upr f k (f k) = f := by
  funext k'
  unfold upr
  split
  · rename_i h; rw [h]
  · rfl
theorem up2_upr {α : Type} (f : Nat → Nat → α) (k i : Nat) (r : Nat → α) (v : α) : up2 (upr f k r) k i v = upr f k (updr r i v) := by
  funext k' i'
  unfold up2 upr updr
  by_cases h : k' = k
  · subst h
    by_cases h2 : i' = i
    · rw [if_pos ⟨rfl, h2⟩, if_pos rfl, if_pos h2]
    · rw [if_neg (fun z => h2 z.2), if_pos rfl, if_pos rfl, if_neg h2]
  · rw [if_neg (fun z => h z.1), if_neg h, if_neg h]
theorem fill_of {k n : Nat} (hs : shR k = some (0, n)) {v : Int} {Q : Ii → Jj → Prop} (h : ∀ I' : Ii, I' = upr I k (filR n v (I k)) → Q I' J) : wp_J7_fill_53178 k v I J Q := by
  have hl := rlen_le k
  have e := rlen_of hs
  refine ⟨isRow_of hs, n + 1, ?_⟩
  rw [e]
  refine loopN (L := fun m (a : Ii) w => L_J7_fill_53178_5 k v Q m w (n : Int) a J) (fun w a => a = upr I k (filR w v (I k))) (N := n) (fun m w a hw ha kk => ?_) (n + 1) 0 I (by omega) (by omega) (by rw [filR_zero, upr_id])
  refine ls_J7_fill_53178_5 ?_
  unfold Lb_J7_fill_53178_5
  refine ⟨rgI (by omega) (by omega), rgI (by omega) (by omega), fun c => ?_, fun c => ⟨by omega, fun I1 e1 => kk (by omega) _ ?_⟩⟩
  · have hwn : w = n := by omega
    subst hwn
    exact h a ha
  · rw [e1, ha]
    show up2 _ k w v = _
    rw [up2_upr, filR_succ]
theorem va_cpy0 {α : Type} (f g : Nat → α) (n : Nat) : va_cpy f g 0 0 n = cpP f g n := by
  funext i
  unfold va_cpy cpP
  by_cases h : i < n
  · rw [if_pos (by omega), if_pos h, Nat.zero_add, Nat.sub_zero]
  · rw [if_neg (by omega), if_neg h]
theorem copy_of {k0 k1 n : Nat} (h0 : shR k0 = some (0, n)) (h1 : shR k1 = some (0, n)) {Q : Ii → Jj → Prop} (h : ∀ I' : Ii, I' = upr I k1 (cpP (I k0) (I k1) n) → Q I' J) : wp_X11_copy k0 k1 I J Q := by
  have hl := rlen_le k0
  have e0 := rlen_of h0
  have e1 := rlen_of h1
  refine ⟨isRow_of h0, isRow_of h1, ?_⟩
  rw [e0, e1]
  rw [e0] at hl
  refine min_of (rgI (by omega) (by omega)) (rgI (by omega) (by omega)) (fun c => absurd c (by omega)) (fun c => ⟨by omega, fun I3 e3 => h I3 ?_⟩)
  rw [e3]
  show upr I k1 (va_cpy (I k0) (I k1) 0 0 n) = _
  rw [va_cpy0]
end CB

/-! ===== tokens ===== -/
abbrev isBl (c : Int) : Prop := c = 32 ∨ c = 10
abbrev isLe (c : Int) : Prop := 97 ≤ c ∧ c ≤ 122
abbrev isDi (c : Int) : Prop := 48 ≤ c ∧ c ≤ 57
/-- the end of the run of such bytes from p on, of f bytes at most -/
def ru (P : Int → Prop) [DecidablePred P] (B : Nat → Int) : Nat → Nat → Nat
  | 0, p => p
  | f + 1, p => if P (B p) then ru P B f (p + 1) else p
theorem ru_eq {P : Int → Prop} [DecidablePred P] {B : Nat → Int} : ∀ {f p q : Nat}, p ≤ q → q ≤ p + f → (∀ i, p ≤ i → i < q → P (B i)) → (q < p + f → ¬ P (B q)) → ru P B f p = q
  | 0, p, q, h1, h2, _, _ => by show p = q; omega
  | f + 1, p, q, h1, h2, h3, h4 => by
    show (if P (B p) then ru P B f (p + 1) else p) = q
    by_cases e : p = q
    · subst e
      rw [if_neg (h4 (by omega))]
    · rw [if_pos (h3 p (Nat.le_refl _) (by omega))]
      exact ru_eq (by omega) (by omega) (fun i a b => h3 i (by omega) b) (fun c => h4 (by omega))
theorem ru_b {P : Int → Prop} [DecidablePred P] {B : Nat → Int} : ∀ {f p : Nat}, p ≤ ru P B f p ∧ ru P B f p ≤ p + f ∧ (0 < f → P (B p) → p < ru P B f p)
  | 0, p => ⟨Nat.le_refl _, Nat.le_refl _, fun h => by omega⟩
  | f + 1, p => by
    show p ≤ (if P (B p) then ru P B f (p + 1) else p) ∧ (if P (B p) then ru P B f (p + 1) else p) ≤ p + (f + 1) ∧ (0 < f + 1 → P (B p) → p < if P (B p) then ru P B f (p + 1) else p)
    have := ru_b (P := P) (B := B) (f := f) (p := p + 1)
    by_cases e : P (B p)
    · rw [if_pos e]
      exact ⟨by omega, by omega, fun _ _ => by omega⟩
    · rw [if_neg e]
      exact ⟨Nat.le_refl _, by omega, fun _ z => absurd z e⟩
theorem ru_in {P : Int → Prop} [DecidablePred P] {B : Nat → Int} : ∀ {f p i : Nat}, p ≤ i → i < ru P B f p → P (B i)
  | 0, p, i, h1, h2 => by have : i < p := h2; omega
  | f + 1, p, i, h1, h2 => by
    have h3 : i < if P (B p) then ru P B f (p + 1) else p := h2
    by_cases e : P (B p)
    · rw [if_pos e] at h3
      by_cases e2 : p = i
      · rw [← e2]; exact e
      · exact ru_in (by omega) h3
    · rw [if_neg e] at h3
      omega
/-- the word and the number of n bytes from s on -/
def wv (B : Nat → Int) (s : Nat) : Nat → Int64
  | 0 => lZ 0
  | n + 1 => (shlL (wv B s n) 5) ||| (i2lZ (B (s + n) - 96))
def nv (B : Nat → Int) (s : Nat) : Nat → Int
  | 0 => 0
  | n + 1 => nv B s n * 10 + B (s + n) - 48
/-- where the token behind p starts, where it ends, what it is -/
def tS (B : Nat → Int) (E p : Nat) : Nat := ru isBl B (E - p) p
def eS (B : Nat → Int) (E s : Nat) : Nat := if E ≤ s then s else if isLe (B s) then ru isLe B (E - s) s else if isDi (B s) then ru isDi B (E - s) s else s + 1
def kS (B : Nat → Int) (E s : Nat) : Int := if E ≤ s then 0 else if isLe (B s) then (if eS B E s - s ≤ 8 then 1 else 6) else if isDi (B s) then (if eS B E s - s ≤ 3 then 2 else 6) else if B s = 59 then 3 else if B s = 40 then 4 else if B s = 41 then 5 else 6
def tE (B : Nat → Int) (E p : Nat) : Nat := eS B E (tS B E p)
def tK (B : Nat → Int) (E p : Nat) : Int := kS B E (tS B E p)
def tW (B : Nat → Int) (E p : Nat) : Int64 := wv B (tS B E p) (tE B E p - tS B E p)
def tN (B : Nat → Int) (E p : Nat) : Int := nv B (tS B E p) (tE B E p - tS B E p)
section LX
variable {B : Nat → Int} {E p : Nat}
theorem tS_b (hp : p ≤ E) : p ≤ tS B E p ∧ tS B E p ≤ E := by
  have := ru_b (P := isBl) (B := B) (f := E - p) (p := p)
  unfold tS
  omega
theorem eS_b {s : Nat} (hs : s ≤ E) : s ≤ eS B E s ∧ eS B E s ≤ E ∧ (s < E → s < eS B E s) := by
  unfold eS
  split
  · omega
  · split
    · have := ru_b (P := isLe) (B := B) (f := E - s) (p := s)
      rename_i h1 h2
      have := this.2.2 (by omega) h2
      omega
    · split
      · have := ru_b (P := isDi) (B := B) (f := E - s) (p := s)
        rename_i h1 h2 h3
        have := this.2.2 (by omega) h3
        omega
      · omega
theorem tE_b (hp : p ≤ E) : tS B E p ≤ tE B E p ∧ tE B E p ≤ E ∧ p ≤ tE B E p := by
  have h1 := tS_b (B := B) hp
  have h2 := eS_b (B := B) h1.2
  unfold tE
  omega
theorem tK_lt (hp : p ≤ E) (h : tK B E p ≠ 0) : tS B E p < tE B E p := by
  have h1 := tS_b (B := B) hp
  have h2 := eS_b (B := B) h1.2
  unfold tK kS at h
  unfold tE
  by_cases e : E ≤ tS B E p
  · rw [if_pos e] at h; exact absurd rfl h
  · omega
theorem tK_b : 0 ≤ tK B E p ∧ tK B E p ≤ 6 := by
  unfold tK kS
  repeat' split
  all_goals omega
theorem nv_b {s : Nat} : ∀ {n : Nat}, n ≤ 3 → (∀ i, s ≤ i → i < s + n → isDi (B i)) → 0 ≤ nv B s n ∧ nv B s n ≤ (if n = 0 then 0 else if n = 1 then 9 else if n = 2 then 99 else 999)
  | 0, _, _ => by simp [nv]
  | n + 1, hn, h => by
    have i := nv_b (n := n) (by omega) (fun i a b => h i a (by omega))
    have j := h (s + n) (by omega) (by omega)
    show 0 ≤ nv B s n * 10 + B (s + n) - 48 ∧ nv B s n * 10 + B (s + n) - 48 ≤ _
    have : n = 0 ∨ n = 1 ∨ n = 2 := by omega
    rcases this with e | e | e <;> subst e <;> simp at i j ⊢ <;> omega
theorem tN_b (hp : p ≤ E) (h : tK B E p = 2) : 0 ≤ tN B E p ∧ tN B E p ≤ 999 := by
  have h1 := tS_b (B := B) hp
  unfold tK kS at h
  unfold tN tE
  by_cases e : E ≤ tS B E p
  · rw [if_pos e] at h; omega
  rw [if_neg e] at h
  by_cases e2 : isLe (B (tS B E p))
  · rw [if_pos e2] at h; split at h <;> omega
  rw [if_neg e2] at h
  by_cases e3 : isDi (B (tS B E p))
  · rw [if_pos e3] at h
    by_cases e4 : eS B E (tS B E p) - tS B E p ≤ 3
    · have := nv_b (B := B) (s := tS B E p) e4 (fun i a b => by
        have c : eS B E (tS B E p) = ru isDi B (E - tS B E p) (tS B E p) := by unfold eS; rw [if_neg e, if_neg e2, if_pos e3]
        have := ru_b (P := isDi) (B := B) (f := E - tS B E p) (p := tS B E p)
        exact ru_in (P := isDi) a (by rw [← c]; omega))
      repeat' split at this
      all_goals omega
    · rw [if_neg e4] at h; omega
  · rw [if_neg e3] at h
    repeat' split at h
    all_goals omega
end LX
section LXC
variable {I : Ii} {J : Jj} {B : Nat → Int} {E : Nat}
theorem isLe_of {x : Int} (hx : -1 ≤ x ∧ x ≤ 255) {Q : Int → Ii → Jj → Prop} (h1 : isLe x → Q 1 I J) (h0 : ¬ isLe x → Q 0 I J) : wp_X10_isLetter x I J Q :=
  ⟨rgK (by omega), fun c => h0 (by omega), fun c => ⟨fun d => h0 (by omega), fun d => h1 (by omega)⟩⟩
theorem isDi_of {x : Int} (hx : -1 ≤ x ∧ x ≤ 255) {Q : Int → Ii → Jj → Prop} (h1 : isDi x → Q 1 I J) (h0 : ¬ isDi x → Q 0 I J) : wp_X10_isDigit x I J Q :=
  ⟨rgK (by omega), fun c => h0 (by omega), fun c => ⟨fun d => h0 (by omega), fun d => h1 (by omega)⟩⟩
theorem isBl_of {x : Int} (hx : -1 ≤ x ∧ x ≤ 255) {Q : Int → Ii → Jj → Prop} (h1 : isBl x → Q 1 I J) (h0 : ¬ isBl x → Q 0 I J) : wp_X10_isBlank x I J Q :=
  ⟨rgK (by omega), fun c => h1 (by omega), fun c => ⟨fun d => h0 (by omega), fun d => h1 (by omega)⟩⟩
theorem c_takeWord {s : Nat} (h2 : I 101 2 = (E : Int)) (h3 : I 101 3 = (s : Int)) (h4 : I 101 4 = (s : Int)) (hs : s ≤ E) (hE : E ≤ 800) (hB : ∀ i, i < E → I 102 i = B i) (hb : ∀ i, i < E → 0 ≤ B i ∧ B i ≤ 255) : wp_X10_takeWord I J (fun I' J' => I' 101 4 = (ru isLe B (E - s) s : Int) ∧ J' 101 6 = wv B s (ru isLe B (E - s) s - s) ∧ I' 101 5 = (if ru isLe B (E - s) s - s ≤ 8 then 1 else 6) ∧ I' 101 3 = (s : Int)) := by
  unfold wp_X10_takeWord
  intro J1 e1
  refine ⟨E + 1, loopN (L := fun m (t : Ii × Jj) _ => L_X10_takeWord_5 _ m t.1 t.2) (fun v t => s ≤ v ∧ t.1 101 2 = (E : Int) ∧ t.1 101 3 = (s : Int) ∧ t.1 101 4 = (v : Int) ∧ t.1 102 = I 102 ∧ (∀ i, s ≤ i → i < v → isLe (B i)) ∧ t.2 101 6 = wv B s (v - s)) (N := E) (fun m v t hv ht kk => ?_) (E + 1) s (I, J1) hs (by omega) ⟨Nat.le_refl _, h2, h3, h4, rfl, fun i a b => by omega, by show J1 101 6 = _; rw [e1, Nat.sub_self]; exact up2_self _ _ _ _⟩⟩
  obtain ⟨a, aJ⟩ := t
  obtain ⟨t1, t2, t3, t4, t5, t6, t7⟩ := ht
  dsimp only at t2 t3 t4 t5 t7 kk ⊢
  refine ls_X10_takeWord_5 ?_
  generalize hr : L_X10_takeWord_5 _ m = r at kk ⊢
  unfold Lb_X10_takeWord_5
  have fin : (v < E → ¬ isLe (B v)) → B_X10_takeWord_68 (fun I' J' => I' 101 4 = (ru isLe B (E - s) s : Int) ∧ J' 101 6 = wv B s (ru isLe B (E - s) s - s) ∧ I' 101 5 = (if ru isLe B (E - s) s - s ≤ 8 then 1 else 6) ∧ I' 101 3 = (s : Int)) a aJ := by
    intro hn
    have e : ru isLe B (E - s) s = v := ru_eq t1 (by omega) t6 (fun c => hn (by omega))
    rw [e]
    refine ⟨rgK (by omega), fun d I1 e2 => ?_, fun d I1 e2 => ?_⟩
    · subst e2
      exact ⟨(up2_ne (by omega)).trans t4, t7, by rw [if_neg (by omega)]; exact up2_self _ _ _ _, (up2_ne (by omega)).trans t3⟩
    · subst e2
      exact ⟨(up2_ne (by omega)).trans t4, t7, by rw [if_pos (by omega)]; exact up2_self _ _ _ _, (up2_ne (by omega)).trans t3⟩
  refine ⟨rgK (by omega), rgK (by omega), fun d => fin (fun c => by omega), fun d => ?_⟩
  have hv' : v < E := by omega
  have hbv := hb v hv'
  have ev : a 102 v = B v := by rw [t5]; exact hB v hv'
  refine at_of (n := 800) rfl t4 (by omega) ?_
  rw [ev]
  refine isLe_of (by omega) (fun d2 => ⟨fun z => absurd z (by decide), fun _ => ?_⟩) (fun d2 => ⟨fun _ => fin (fun _ => d2), fun z => absurd rfl z⟩)
  refine at_of (n := 800) rfl t4 (by omega) ?_
  rw [ev]
  intro J8 e8 I9 e9
  refine kk hv' (I9, J8) ⟨by omega, ?_, ?_, ?_, ?_, fun i c1 c2 => ?_, ?_⟩
  · show I9 101 2 = _
    rw [e9, up2_ne (by omega)]; exact t2
  · show I9 101 3 = _
    rw [e9, up2_ne (by omega)]; exact t3
  · show I9 101 4 = _
    rw [e9, up2_self, t4]; omega
  · show I9 102 = _
    rw [e9, up2_key (by omega)]; exact t5
  · by_cases c : i = v
    · rw [c]; exact d2
    · exact t6 i c1 (by omega)
  · show J8 101 6 = _
    rw [e8, up2_self, t7, show v + 1 - s = (v - s) + 1 by omega]
    show _ = (shlL (wv B s (v - s)) 5) ||| (i2lZ (B (s + (v - s)) - 96))
    rw [show s + (v - s) = v by omega]
theorem c_takeNumber {s : Nat} (h2 : I 101 2 = (E : Int)) (h3 : I 101 3 = (s : Int)) (h4 : I 101 4 = (s : Int)) (hs : s ≤ E) (hE : E ≤ 800) (hB : ∀ i, i < E → I 102 i = B i) (hb : ∀ i, i < E → 0 ≤ B i ∧ B i ≤ 255) : wp_X10_takeNumber I J (fun I' J' => I' 101 4 = (ru isDi B (E - s) s : Int) ∧ I' 101 7 = nv B s (ru isDi B (E - s) s - s) ∧ I' 101 5 = (if ru isDi B (E - s) s - s ≤ 3 then 2 else 6) ∧ I' 101 3 = (s : Int)) := by
  unfold wp_X10_takeNumber
  intro I1 e1
  refine ⟨E + 1, loopN (L := fun m (t : Ii × Jj) _ => L_X10_takeNumber_5 _ m t.1 t.2) (fun v t => s ≤ v ∧ t.1 101 2 = (E : Int) ∧ t.1 101 3 = (s : Int) ∧ t.1 101 4 = (v : Int) ∧ t.1 102 = I 102 ∧ (∀ i, s ≤ i → i < v → isDi (B i)) ∧ t.1 101 7 = nv B s (v - s)) (N := E) (fun m v t hv ht kk => ?_) (E + 1) s (I1, J) hs (by omega) ⟨Nat.le_refl _, by show I1 101 2 = _; rw [e1, up2_ne (by omega)]; exact h2, by show I1 101 3 = _; rw [e1, up2_ne (by omega)]; exact h3, by show I1 101 4 = _; rw [e1, up2_ne (by omega)]; exact h4, by show I1 102 = _; rw [e1, up2_key (by omega)], fun i a b => by omega, by show I1 101 7 = _; rw [Nat.sub_self, e1]; exact up2_self _ _ _ _⟩⟩
  obtain ⟨a, aJ⟩ := t
  obtain ⟨t1, t2, t3, t4, t5, t6, t7⟩ := ht
  dsimp only at t2 t3 t4 t5 t7 kk ⊢
  refine ls_X10_takeNumber_5 ?_
  generalize hr : L_X10_takeNumber_5 _ m = r at kk ⊢
  unfold Lb_X10_takeNumber_5
  have fin : (v < E → ¬ isDi (B v)) → B_X10_takeNumber_72 (fun I' J' => I' 101 4 = (ru isDi B (E - s) s : Int) ∧ I' 101 7 = nv B s (ru isDi B (E - s) s - s) ∧ I' 101 5 = (if ru isDi B (E - s) s - s ≤ 3 then 2 else 6) ∧ I' 101 3 = (s : Int)) a aJ := by
    intro hn
    have e : ru isDi B (E - s) s = v := ru_eq t1 (by omega) t6 (fun c => hn (by omega))
    rw [e]
    refine ⟨rgK (by omega), fun d I1 e2 => ?_, fun d I1 e2 => ?_⟩
    · subst e2
      exact ⟨(up2_ne (by omega)).trans t4, (up2_ne (by omega)).trans t7, by rw [if_neg (by omega)]; exact up2_self _ _ _ _, (up2_ne (by omega)).trans t3⟩
    · subst e2
      exact ⟨(up2_ne (by omega)).trans t4, (up2_ne (by omega)).trans t7, by rw [if_pos (by omega)]; exact up2_self _ _ _ _, (up2_ne (by omega)).trans t3⟩
  refine ⟨rgK (by omega), rgK (by omega), fun d => fin (fun c => by omega), fun d => ?_⟩
  have hv' : v < E := by omega
  have hbv := hb v hv'
  have ev : a 102 v = B v := by rw [t5]; exact hB v hv'
  refine at_of (n := 800) rfl t4 (by omega) ?_
  rw [ev]
  refine isDi_of (by omega) (fun d2 => ⟨fun z => absurd z (by decide), fun _ => ?_⟩) (fun d2 => ⟨fun _ => fin (fun _ => d2), fun z => absurd rfl z⟩)
  refine at_of (n := 800) rfl t4 (by omega) ?_
  rw [ev]
  intro I7 e7 I8 e8
  refine kk hv' (I8, aJ) ⟨by omega, ?_, ?_, ?_, ?_, fun i c1 c2 => ?_, ?_⟩
  · show I8 101 2 = _
    rw [e8, up2_ne (by omega), e7, up2_ne (by omega)]; exact t2
  · show I8 101 3 = _
    rw [e8, up2_ne (by omega), e7, up2_ne (by omega)]; exact t3
  · show I8 101 4 = _
    rw [e8, up2_self, e7, up2_ne (by omega), t4]; omega
  · show I8 102 = _
    rw [e8, up2_key (by omega), e7, up2_key (by omega)]; exact t5
  · by_cases c : i = v
    · rw [c]; exact d2
    · exact t6 i c1 (by omega)
  · show I8 101 7 = _
    rw [e8, up2_ne (by omega), e7, up2_self, t7, show v + 1 - s = (v - s) + 1 by omega]
    show _ = nv B s (v - s) * 10 + B (s + (v - s)) - 48
    rw [show s + (v - s) = v by omega]
theorem c_tok {p : Nat} (h2 : I 101 2 = (E : Int)) (h4 : I 101 4 = (p : Int)) (hp : p ≤ E) (hE : E ≤ 800) (hB : ∀ i, i < E → I 102 i = B i) (hb : ∀ i, i < E → 0 ≤ B i ∧ B i ≤ 255) : wp_X10_advance I J (fun I' J' => I' 101 3 = (tS B E p : Int) ∧ I' 101 4 = (tE B E p : Int) ∧ I' 101 5 = tK B E p ∧ (tK B E p = 1 → J' 101 6 = tW B E p) ∧ (tK B E p = 2 → I' 101 7 = tN B E p ∧ J' 101 6 = J 101 6)) := by
  refine ⟨E + 1, loopN (L := fun m (t : Ii × Jj) _ => L_X10_advance_0 _ m t.1 t.2) (fun v t => t.2 = J ∧ p ≤ v ∧ t.1 101 2 = (E : Int) ∧ t.1 101 4 = (v : Int) ∧ t.1 102 = I 102 ∧ (∀ i, p ≤ i → i < v → isBl (B i))) (N := E) (fun m v t hv ht kk => ?_) (E + 1) p (I, J) hp (by omega) ⟨rfl, Nat.le_refl _, h2, h4, rfl, fun i a b => by omega⟩⟩
  obtain ⟨a, aJ⟩ := t
  obtain ⟨tJ, t1, t2, t4, t5, t6⟩ := ht
  dsimp only at tJ t2 t4 t5 kk ⊢
  obtain rfl := tJ.symm
  refine ls_X10_advance_0 ?_
  generalize hr : L_X10_advance_0 _ m = r at kk ⊢
  unfold Lb_X10_advance_0
  have fin : (v < E → ¬ isBl (B v)) → B_X10_advance_41 (fun I' J' => I' 101 3 = (tS B E p : Int) ∧ I' 101 4 = (tE B E p : Int) ∧ I' 101 5 = tK B E p ∧ (tK B E p = 1 → J' 101 6 = tW B E p) ∧ (tK B E p = 2 → I' 101 7 = tN B E p ∧ J' 101 6 = J 101 6)) a J := by
    intro hn
    have e : tS B E p = v := ru_eq t1 (by omega) t6 (fun c => hn (by omega))
    unfold tE tK tW tN tE
    rw [e]
    unfold B_X10_advance_41
    intro I6 e6
    have q2 : I6 101 2 = (E : Int) := by rw [e6]; exact (up2_ne (by omega)).trans t2
    have q3 : I6 101 3 = (v : Int) := by rw [e6, up2_self]; exact t4
    have q4 : I6 101 4 = (v : Int) := by rw [e6]; exact (up2_ne (by omega)).trans t4
    have q5 : I6 102 = I 102 := by rw [e6, up2_key (by omega)]; exact t5
    refine ⟨rgK (by omega), rgK (by omega), fun d => ?_, fun d => ?_⟩
    · have hv' : v < E := by omega
      have hbv := hb v hv'
      refine at_of (n := 800) rfl q4 (by omega) ?_
      rw [q5, hB v hv']
      refine isLe_of (by omega) (fun d2 => ⟨fun z => absurd z (by decide), fun _ => ?_⟩) (fun d2 => ⟨fun _ => ?_, fun z => absurd rfl z⟩)
      · have ee : eS B E v = ru isLe B (E - v) v := by unfold eS; rw [if_neg (by omega), if_pos d2]
        have ek : kS B E v = if eS B E v - v ≤ 8 then 1 else 6 := by unfold kS; rw [if_neg (by omega), if_pos d2]
        refine fr_X10_takeWord (c_takeWord q2 q3 q4 hv hE (fun i hi => by rw [q5]; exact hB i hi) hb) (fun I16 J16 h16 _ => ?_)
        rw [ek, ee]
        refine ⟨h16.2.2.2, h16.1, h16.2.2.1, fun _ => h16.2.1, fun z => ?_⟩
        split at z <;> omega
      · refine isDi_of (by omega) (fun d3 => ⟨fun z => absurd z (by decide), fun _ => ?_⟩) (fun d3 => ⟨fun _ => ?_, fun z => absurd rfl z⟩)
        · have ee : eS B E v = ru isDi B (E - v) v := by unfold eS; rw [if_neg (by omega), if_neg d2, if_pos d3]
          have ek : kS B E v = if eS B E v - v ≤ 3 then 2 else 6 := by unfold kS; rw [if_neg (by omega), if_neg d2, if_pos d3]
          refine fr_X10_takeNumber (c_takeNumber q2 q3 q4 hv hE (fun i hi => by rw [q5]; exact hB i hi) hb) (fun I16 J16 h16 s16 => ?_)
          rw [ek, ee]
          refine ⟨h16.2.2.2, h16.1, h16.2.2.1, fun z => ?_, fun _ => ⟨h16.2.1, (s16.J (k := 101) (i := 6) (by unfold W_X10_takeNumber WL; decide))⟩⟩
          split at z <;> omega
        · have ee : eS B E v = v + 1 := by unfold eS; rw [if_neg (by omega), if_neg d2, if_neg d3]
          have ek : kS B E v = if B v = 59 then 3 else if B v = 40 then 4 else if B v = 41 then 5 else 6 := by unfold kS; rw [if_neg (by omega), if_neg d2, if_neg d3]
          have go : ∀ z : Int, z = kS B E v → z ≠ 1 → z ≠ 2 → ∀ I13 : Ii, I13 = up2 I6 101 5 z → ∀ I14 : Ii, I14 = up2 I13 101 4 ((I13 101 4) + 1) → (I14 101 3 = (v : Int) ∧ I14 101 4 = (eS B E v : Int) ∧ I14 101 5 = kS B E v ∧ (kS B E v = 1 → J 101 6 = wv B v (eS B E v - v)) ∧ (kS B E v = 2 → I14 101 7 = nv B v (eS B E v - v) ∧ J 101 6 = J 101 6)) := by
            intro z hz z1 z2 I13 e13 I14 e14
            rw [← hz, ee]
            refine ⟨?_, ?_, ?_, fun c => absurd c z1, fun c => absurd c z2⟩
            · rw [e14, e13, up2_ne (by omega), up2_ne (by omega)]; exact q3
            · rw [e14, up2_self, e13, up2_ne (by omega), q4]; omega
            · rw [e14, up2_ne (by omega), e13, up2_self]
          refine ⟨rgK (by omega), fun c => go 6 ?_ (by decide) (by decide), fun c => go 4 ?_ (by decide) (by decide), fun c => go 5 ?_ (by decide) (by decide), fun c => go 3 ?_ (by decide) (by decide)⟩
          · rw [ek, if_neg (by omega), if_neg (by omega), if_neg (by omega)]
          · rw [ek, if_neg (by omega), if_pos (by omega)]
          · rw [ek, if_neg (by omega), if_neg (by omega), if_pos (by omega)]
          · rw [ek, if_pos (by omega)]
    · intro I17 e17
      have ee : eS B E v = v := by unfold eS; rw [if_pos (by omega)]
      have ek : kS B E v = 0 := by unfold kS; rw [if_pos (by omega)]
      rw [ek, ee]
      refine ⟨?_, ?_, ?_, fun c => absurd c (by decide), fun c => absurd c (by decide)⟩
      · rw [e17, up2_ne (by omega)]; exact q3
      · rw [e17, up2_ne (by omega)]; exact q4
      · rw [e17, up2_self]
  refine ⟨rgK (by omega), rgK (by omega), fun d => fin (fun c => by omega), fun d => ?_⟩
  have hv' : v < E := by omega
  have hbv := hb v hv'
  have ev : a 102 v = B v := by rw [t5]; exact hB v hv'
  refine at_of (n := 800) rfl t4 (by omega) ?_
  rw [ev]
  refine isBl_of (by omega) (fun d2 => ⟨fun z => absurd z (by decide), fun _ => ?_⟩) (fun d2 => ⟨fun _ => fin (fun _ => d2), fun z => absurd rfl z⟩)
  intro I5 e5
  refine kk hv' (I5, J) ⟨rfl, by omega, ?_, ?_, ?_, fun i c1 c2 => ?_⟩
  · show I5 101 2 = _
    rw [e5, up2_ne (by omega)]; exact t2
  · show I5 101 4 = _
    rw [e5, up2_self, t4]; omega
  · show I5 102 = _
    rw [e5, up2_key (by omega)]; exact t5
  · by_cases c : i = v
    · rw [c]; exact d2
    · exact t6 i c1 (by omega)
end LXC

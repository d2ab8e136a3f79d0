/-! ===== the world and a row: bits ===== -/
theorem bit1 {s k : Nat} (hs : s < 2147483648) (hk : k < 31) : andZ (shrZ (s : Int) (k : Int)) 1 = if s.testBit k = true then 1 else 0 := by
  rw [shrZ_nat (by omega) hs]
  show andZ _ ((1 : Nat) : Int) = _
  rw [andZ_nat' (by decide), bit_one]
  split <;> rfl
theorem ntz_x : ∀ s : Fin 1024, s.val ≠ 0 → andZ (xorZ ((s.val : Nat) : Int) (-1)) (((s.val : Nat) : Int) - 1) = ((2 ^ (fv (fun i => s.val.testBit i) 14) : Nat) : Int) - 1 ∧ fv (fun i => s.val.testBit i) 14 < 10 := by decide +kernel
theorem ntz_of {I : Ii} {J : Jj} {s : Nat} {z : Int} (hz : z = (s : Int)) (h0 : s ≠ 0) (h1 : s < 1024) {Q : Int → Ii → Jj → Prop} (hq : Q ((fv (fun i => s.testBit i) 14 : Nat) : Int) I J) : wp_J6_numberOfTrailingZeros_0f7a4 z I J Q := by
  subst hz
  obtain ⟨e, hk⟩ := ntz_x ⟨s, h1⟩ h0
  dsimp only at e hk
  unfold wp_J6_numberOfTrailingZeros_0f7a4
  rw [e]
  generalize fv (fun i => s.testBit i) 14 = k at hk hq ⊢
  have u1 : ushrZ 1 1 = 0 := by decide +kernel
  have u3 : ushrZ 3 1 = 1 := by decide +kernel
  have u7a : ushrZ 7 2 = 1 := by decide +kernel
  have u15a : ushrZ 15 2 = 3 := by decide +kernel
  have u31a : ushrZ 31 4 = 1 := by decide +kernel
  have u63a : ushrZ 63 4 = 3 := by decide +kernel
  have u127a : ushrZ 127 4 = 7 := by decide +kernel
  have u255a : ushrZ 255 4 = 15 := by decide +kernel
  have u511a : ushrZ 511 8 = 1 := by decide +kernel
  have a0 : andZ 0 32 = 0 := by decide +kernel
  have hc : k = 0 ∨ k = 1 ∨ k = 2 ∨ k = 3 ∨ k = 4 ∨ k = 5 ∨ k = 6 ∨ k = 7 ∨ k = 8 ∨ k = 9 := by omega
  unfold B_J6_numberOfTrailingZeros_0f7a4_34 B_J6_numberOfTrailingZeros_0f7a4_49 B_J6_numberOfTrailingZeros_0f7a4_62 rg
  rcases hc with rfl | rfl | rfl | rfl | rfl | rfl | rfl | rfl | rfl | rfl <;> simp [u1, u3, u7a, u15a, u31a, u63a, u127a, u255a, u511a, a0] <;> exact hq
/-! ===== the world and a row ===== -/
/-- the weight of the edge between two vertices -/
def TBz (σ : Nat → Int) (a b : Nat) : Int := sm (fun e => if (σ (110 + e) = (a : Int) ∧ σ (150 + e) = (b : Int)) ∨ (σ (110 + e) = (b : Int) ∧ σ (150 + e) = (a : Int)) then σ (190 + e) else 0) (σ 1).toNat
/-- a group's vertices, at a level -/
def mset (σ : Nat → Int) (l g : Nat) : Nat := bset (fun v => decide (gL σ l v = (g : Int))) (σ 0).toNat
def WNs (σ : Nat → Int) (I : Ii) : Prop := (I 1000 0 = σ 0 ∧ I 1000 1 = σ 2 ∧ I 1000 2 = σ 3 ∧ I 1000 3 = σ 4) ∧ (∀ v, v < (σ 0).toNat → I 1001 v = σ (7 + v)) ∧ (∀ v, v < (σ 0).toNat → I 1002 v = σ (21 + v)) ∧ ∀ a b, a < (σ 0).toNat → b < (σ 0).toNat → I (1006 + a) b = TBz σ a b
def WNl (σ : Nat → Int) (I : Ii) (L : Nat → Nat) : Prop := ALr I 1020 ((σ 5).toNat + 1) L ∧ ∀ l, l ≤ (σ 5).toNat → dL I (L l) = σ (105 + l) ∧ ∀ g : Nat, (g : Int) < σ (105 + l) → I (L l) g = ((mset σ l g : Nat) : Int)
/-- the world tells this row -/
def WO (σ : Nat → Int) (I : Ii) : Prop := (VS σ ∧ 2 ≤ σ 0 ∧ σ 0 ≤ 10) ∧ WNs σ I ∧ (∃ L, WNl σ I L) ∧ (∃ L2, ALr I 1021 (σ 6).toNat L2) ∧ I 1020 1 ≠ I 1021 1
section WOQ
variable {σ : Nat → Int} {I : Ii} {J : Jj}
theorem WO.n (h : WO σ I) : I 1000 0 = (((σ 0).toNat : Nat) : Int) := by rw [h.2.1.1.1]; have := h.1.2; omega
theorem WO.p (h : WO σ I) : I 1000 1 = (((σ 2).toNat : Nat) : Int) := by rw [h.2.1.1.2.1]; have := ms_2 h.1.1.M; omega
theorem bset_lt10 (h : WO σ I) (c : Nat → Bool) : bset c (σ 0).toNat < 1024 := Nat.lt_of_lt_of_le (bset_lt c _) (Nat.le_trans (Nat.pow_le_pow_right (by decide) (by have := h.1.2; omega)) (by decide : 2 ^ 10 ≤ 1024))
theorem mset_mem (h : WO σ I) (g : Nat) : mset σ (σ 5).toNat g = memG σ (g : Int) := rfl
/-- the groups now: their row -/
theorem w_sets {Q : Nat → Ii → Jj → Prop} (h : WO σ I) (hq : ∀ K : Nat, dS I K = 1 → dL I K = grs σ → (1022 ≤ K ∧ (K : Int) < I 999 0) → (∀ g : Nat, (g : Int) < grs σ → I K g = ((memG σ (g : Int) : Nat) : Int)) → Q K I J) : wp_X12_sets I J Q := by
  obtain ⟨hV, hN, ⟨L, hA, hL⟩, -⟩ := h
  unfold wp_X12_sets
  refine AL_size hA (AL_get hA ⟨by omega, by omega⟩ ?_)
  rw [show ((((σ 5).toNat + 1 : Nat) : Int) - 1).toNat = (σ 5).toNat by omega]
  have hl := hL (σ 5).toNat (Nat.le_refl _)
  have ha := hA.2.2.2.2.2.1 (σ 5).toNat (by omega)
  exact ⟨ha.2.2, hq _ ha.2.2 hl.1 ha.2.1 hl.2⟩
theorem w_groups {Q : Int → Ii → Jj → Prop} (h : WO σ I) (hq : Q (grs σ) I J) : wp_X12_groups I J Q := by
  unfold wp_X12_groups
  refine w_sets h (fun K h1 h2 _ _ => ⟨h1, ?_⟩)
  rw [h2]
  exact hq
theorem w_all {Q : Int → Ii → Jj → Prop} (h : WO σ I) (hq : Q (((2 ^ (σ 0).toNat - 1 : Nat)) : Int) I J) : wp_X12_all I J Q := by
  unfold wp_X12_all
  rw [h.n, shl1Z (by have := h.1.2; omega)]
  have := Nat.two_pow_pos (σ 0).toNat
  rw [show (((2 ^ (σ 0).toNat : Nat) : Int) - 1) = ((2 ^ (σ 0).toNat - 1 : Nat) : Int) by omega]
  exact hq
/-- the weight of a set -/
def swZ (σ : Nat → Int) (S : Nat) : Int := sm (fun v => if S.testBit v = true then σ (7 + v) else 0) (σ 0).toNat
theorem w_weightOf {Q : Int → Ii → Jj → Prop} (h : WO σ I) {S : Nat} {z : Int} (hz : z = (S : Int)) (hS : S < 2147483648) (hq : Q (swZ σ S) I J) : wp_X12_weightOf z I J Q := by
  subst hz
  have hn := h.n
  have hb := h.1.2
  have key : ∀ d v : Nat, v + d = (σ 0).toNat → L_X12_weightOf_4 (S : Int) Q (d + 1) (sm (fun v => if S.testBit v = true then σ (7 + v) else 0) v) (v : Int) I J := by
    intro d
    induction d with
    | zero =>
      intro v hv
      show Lb_X12_weightOf_4 (S : Int) Q _ _ (v : Int) I J
      unfold Lb_X12_weightOf_4
      rw [hn]
      refine ⟨⟨by omega, by omega⟩, ⟨by omega, by omega⟩, fun _ => ?_, fun c => absurd (by omega) c⟩
      rw [show v = (σ 0).toNat by omega]
      exact hq
    | succ d ih =>
      intro v hv
      show Lb_X12_weightOf_4 (S : Int) Q _ _ (v : Int) I J
      unfold Lb_X12_weightOf_4
      rw [hn]
      refine ⟨⟨by omega, by omega⟩, ⟨by omega, by omega⟩, fun c => by omega, fun _ => ⟨⟨by omega, by omega⟩, ?_⟩⟩
      have := ih (v + 1) (by omega)
      rw [sm_succ] at this
      rw [bit1 hS (by omega), Int.toNat_natCast, h.2.1.2.1 v (by omega)]
      rw [show ((v : Int) + 1) = ((v + 1 : Nat) : Int) by omega]
      by_cases c : S.testBit v = true
      · rw [if_pos c] at this ⊢
        rw [Int.one_mul]
        exact this
      · rw [if_neg c] at this ⊢
        rw [Int.zero_mul]
        exact this
  exact ⟨_, key (σ 0).toNat 0 (by omega)⟩
/-- the vertices of a part -/
theorem w_inPart {Q : Int → Ii → Jj → Prop} (h : WO σ I) {p : Int} (hp : rg p) (hq : Q ((inP σ p : Nat) : Int) I J) : wp_X12_inPart p I J Q := by
  have hn := h.n
  have hb := h.1.2
  have key : ∀ d v : Nat, v + d = (σ 0).toNat → L_X12_inPart_4 p Q (d + 1) ((bset (fun v => decide (σ (21 + v) = p)) v : Nat) : Int) (v : Int) I J := by
    intro d
    induction d with
    | zero =>
      intro v hv
      show Lb_X12_inPart_4 p Q _ _ (v : Int) I J
      unfold Lb_X12_inPart_4
      rw [hn]
      refine ⟨⟨by omega, by omega⟩, ⟨by omega, by omega⟩, fun _ => ?_, fun c => absurd (by omega) c⟩
      rw [show v = (σ 0).toNat by omega]
      exact hq
    | succ d ih =>
      intro v hv
      show Lb_X12_inPart_4 p Q _ _ (v : Int) I J
      unfold Lb_X12_inPart_4
      have hpv := ms_p h.1.1.M v (by omega)
      rw [hn, Int.toNat_natCast, h.2.1.2.2.1 v (by omega)]
      have nx := ih (v + 1) (by omega)
      have h1 := bset_lt14 (fun v => decide (σ (21 + v) = p)) (n := v) (by omega)
      rw [show ((v : Int) + 1) = ((v + 1 : Nat) : Int) by omega]
      refine ⟨⟨by omega, by omega⟩, ⟨by omega, by omega⟩, fun c => by omega, fun _ => ⟨⟨by omega, by omega⟩, ⟨by omega, by omega⟩, hp, fun c => ?_, fun c => ?_⟩⟩
      · rw [← bset_next (c := fun v => decide (σ (21 + v) = p)) (v := v) (by omega) (z := 0) (by rw [if_neg (by simp [c])])] at nx
        have e0 : shlZ 0 (v : Int) = 0 := by
          have := shlZ_nat (a := 0) (k := v) (by omega) (by omega)
          simpa using this
        rw [e0] at nx
        exact nx
      · rw [← bset_next (c := fun v => decide (σ (21 + v) = p)) (v := v) (by omega) (z := 1) (by rw [if_pos (by simp [c])])] at nx
        exact nx
  exact ⟨_, key (σ 0).toNat 0 (by omega)⟩
theorem swZ_inP (h : WO σ I) (p : Int) : swZ σ (inP σ p) = wOf σ p := by
  unfold swZ wOf inP
  refine sm_cong (fun v hv => ?_)
  rw [bset_bit]
  by_cases c : σ (21 + v) = p
  · rw [if_pos (by simp [c, hv]), if_pos c]
  · rw [if_neg (by simp [c]), if_neg c]
theorem swZ_mem (h : WO σ I) (g : Int) : swZ σ (memG σ g) = gW σ g := by
  unfold swZ gW memG
  refine sm_cong (fun v hv => ?_)
  rw [bset_bit]
  by_cases c : gAt σ v = g
  · rw [if_pos (by simp [c, hv]), if_pos c]
  · rw [if_neg (by simp [c]), if_neg c]
theorem swZ_all (h : WO σ I) : swZ σ (2 ^ (σ 0).toNat - 1) = allW σ := by
  unfold swZ allW
  refine sm_cong (fun v hv => ?_)
  rw [if_pos (by rw [Nat.testBit_two_pow_sub_one]; simp [hv])]
theorem inP_lt (h : WO σ I) (p : Int) : inP σ p < 1024 := bset_lt10 h _
theorem memG_lt (h : WO σ I) (g : Int) : memG σ g < 1024 := bset_lt10 h _
/-- the weight limit -/
theorem w_limit {Q : Int → Ii → Jj → Prop} (h : WO σ I) (hq : Q (limZ σ) I J) : wp_X12_limit I J Q := by
  have h2 := ms_2 h.1.1.M
  have hw := allW_b h.1.1.M
  have hb := h.1.2
  have hall : 2 ^ (σ 0).toNat - 1 < 2147483648 := by
    have := pow_le14 (n := (σ 0).toNat) (by omega)
    omega
  have key : ∀ d k : Nat, (k : Int) + d = (allW σ + σ 2 - 1) / σ 2 → L_X12_limit_2 Q (d + 1) (k : Int) I J := by
    intro d
    induction d with
    | zero =>
      intro k hk
      show Lb_X12_limit_2 Q _ (k : Int) I J
      unfold Lb_X12_limit_2
      refine w_all h (w_weightOf h rfl hall ?_)
      rw [swZ_all h, h.2.1.1.2.1, h.2.1.1.2.2.1]
      have hc : allW σ ≤ σ 2 * (k : Int) := by
        have e : σ 2 = 2 ∨ σ 2 = 3 ∨ σ 2 = 4 := by omega
        rcases e with e | e | e <;> rw [e] at hk ⊢ <;> omega
      have hk4 : (k : Int) ≤ 1400 := by
        have e : σ 2 = 2 ∨ σ 2 = 3 ∨ σ 2 = 4 := by omega
        rcases e with e | e | e <;> rw [e] at hk <;> omega
      refine ⟨⟨by omega, ?_⟩, ⟨by omega, by omega⟩, fun _ => ?_, fun c => absurd hc c⟩
      · have e : σ 2 = 2 ∨ σ 2 = 3 ∨ σ 2 = 4 := by omega
        rcases e with e | e | e <;> rw [e] <;> omega
      · have : limZ σ = (k : Int) + σ 3 := by unfold limZ; omega
        rw [← this]
        exact hq
    | succ d ih =>
      intro k hk
      show Lb_X12_limit_2 Q _ (k : Int) I J
      unfold Lb_X12_limit_2
      refine w_all h (w_weightOf h rfl hall ?_)
      rw [swZ_all h, h.2.1.1.2.1, h.2.1.1.2.2.1]
      have hc : ¬ allW σ ≤ σ 2 * (k : Int) := by
        have e : σ 2 = 2 ∨ σ 2 = 3 ∨ σ 2 = 4 := by omega
        rcases e with e | e | e <;> rw [e] at hk ⊢ <;> omega
      refine ⟨⟨?_, by omega⟩, ⟨by omega, by omega⟩, fun c => absurd c hc, fun _ => ?_⟩
      · have e : σ 2 = 2 ∨ σ 2 = 3 ∨ σ 2 = 4 := by omega
        rcases e with e | e | e <;> rw [e] <;> omega
      · have := ih (k + 1) (by omega)
        rw [show ((k : Int) + 1) = ((k + 1 : Nat) : Int) by omega]
        exact this
  have h0 : 0 ≤ (allW σ + σ 2 - 1) / σ 2 := Int.ediv_nonneg (by omega) (by omega)
  exact ⟨_, key ((allW σ + σ 2 - 1) / σ 2).toNat 0 (by omega)⟩
theorem w_max0 {x : Int} {Q : Int → Ii → Jj → Prop} (hx : rg x) (hq : Q (pos x) I J) : wp_J9_max_7cf53 0 x I J Q := by
  refine ⟨⟨by decide, by decide⟩, hx, fun c => ?_, fun c => ?_⟩
  · unfold pos at hq; rw [if_pos c] at hq; exact hq
  · unfold pos at hq; rw [if_neg c] at hq; exact hq
/-- the debts -/
theorem w_debts {Q : Int → Ii → Jj → Prop} (h : WO σ I) (hq : Q (debtsZ σ) I J) : wp_X12_debts I J Q := by
  have hn := h.p
  have h2 := ms_2 h.1.1.M
  have hlim := limZ_b h.1.1.M
  have key : ∀ d v : Nat, v + d = (σ 2).toNat → L_X12_debts_4 Q (d + 1) (sm (fun p => debtZ σ (p : Int)) v) (v : Int) I J := by
    intro d
    induction d with
    | zero =>
      intro v hv
      show Lb_X12_debts_4 Q _ _ (v : Int) I J
      unfold Lb_X12_debts_4
      rw [hn]
      refine ⟨⟨by omega, by omega⟩, ⟨by omega, by omega⟩, fun _ => ?_, fun c => absurd (by omega) c⟩
      rw [show v = (σ 2).toNat by omega]
      exact hq
    | succ d ih =>
      intro v hv
      show Lb_X12_debts_4 Q _ _ (v : Int) I J
      unfold Lb_X12_debts_4
      rw [hn]
      have hi := inP_lt h (v : Int)
      have hw := wOf_b h.1.1.M (v : Int)
      refine ⟨⟨by omega, by omega⟩, ⟨by omega, by omega⟩, fun c => by omega, fun _ => w_inPart h ⟨by omega, by omega⟩ (w_weightOf h rfl (by omega) (w_limit h (w_max0 ⟨?_, ?_⟩ ?_)))⟩
      · rw [swZ_inP h]; omega
      · rw [swZ_inP h]; omega
      · have := ih (v + 1) (by omega)
        rw [sm_succ] at this
        rw [swZ_inP h, show ((v : Int) + 1) = ((v + 1 : Nat) : Int) by omega]
        exact this
  exact ⟨_, key (σ 2).toNat 0 (by omega)⟩
end WOQ

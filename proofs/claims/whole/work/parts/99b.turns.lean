/-! ===== a script's turns are bounded ===== -/
/-- how often a place comes up again: dk, a0, a1 its open repeats; dp, p0, p1 those of the place where the run stands -/
def rmZ (dk a0 a1 dp p0 p1 pc k : Nat) (l0 l1 : Int) : Int :=
  if 0 < dk ∧ 0 < dp ∧ a0 = p0 then (if 1 < dk ∧ 1 < dp ∧ a1 = p1 then (if pc ≤ k then 1 else 0) + (l1 - 1) + 20 * (l0 - 1) else if dk = 1 then (if pc ≤ k then 1 else 0) + (l0 - 1) else (if pc ≤ k then 20 else 0) + 20 * (l0 - 1))
  else if pc ≤ k then (if dk = 0 then 1 else if dk = 1 then 20 else 400) else 0
section RM
variable {dk a0 a1 dp p0 p1 q0 q1 pc k r : Nat} {l0 l1 m0 m1 a : Int}
theorem rm_nn (h0 : 0 < dp → 1 ≤ l0) (h1 : 1 < dp → 1 ≤ l1) : 0 ≤ rmZ dk a0 a1 dp p0 p1 pc k l0 l1 := by
  unfold rmZ
  (repeat' split) <;> omega
theorem rm_top (h : dp = 0 := by rfl) : rmZ dk a0 a1 dp p0 p1 pc k l0 l1 ≤ 400 := by
  unfold rmZ
  (repeat' split) <;> omega
theorem rm_cmd : rmZ dk a0 a1 dp p0 p1 (pc + 1) k l0 l1 ≤ rmZ dk a0 a1 dp p0 p1 pc k l0 l1 := by
  unfold rmZ
  (repeat' split) <;> omega
theorem rm_cmdS (h : dp ≤ 2) : rmZ dp p0 p1 dp p0 p1 (pc + 1) pc l0 l1 < rmZ dp p0 p1 dp p0 p1 pc pc l0 l1 := by
  unfold rmZ
  (repeat' split) <;> omega
theorem rm_rep0 (h : 0 < dk → a0 < k) (ha : 1 ≤ a ∧ a ≤ 20) : rmZ dk a0 a1 1 pc q1 (pc + 1) k a m1 ≤ rmZ dk a0 a1 0 p0 p1 pc k l0 l1 := by
  unfold rmZ
  (repeat' split) <;> omega
theorem rm_rep0S : rmZ 0 p0 p1 1 pc q1 (pc + 1) pc a m1 < rmZ 0 p0 p1 0 p0 p1 pc pc l0 l1 := by
  unfold rmZ
  (repeat' split) <;> omega
theorem rm_rep1 (hk : dk ≤ 2) (h : 1 < dk → a1 < k) (ha : 1 ≤ a ∧ a ≤ 20) : rmZ dk a0 a1 2 p0 pc (pc + 1) k l0 a ≤ rmZ dk a0 a1 1 p0 p1 pc k l0 l1 := by
  unfold rmZ
  (repeat' split) <;> omega
theorem rm_rep1S : rmZ 1 p0 p1 2 p0 pc (pc + 1) pc l0 a < rmZ 1 p0 p1 1 p0 p1 pc pc l0 l1 := by
  unfold rmZ
  (repeat' split) <;> omega
theorem rm_ag1 (hr : r < pc) (h : r < k → k ≤ pc → 0 < dk ∧ a0 = r) (hl : 2 ≤ l0) : rmZ dk a0 a1 1 r q1 (r + 1) k (l0 - 1) m1 ≤ rmZ dk a0 a1 1 r p1 pc k l0 l1 := by
  unfold rmZ
  (repeat' split) <;> omega
theorem rm_ag1S (hr : r < pc) (hl : 2 ≤ l0) : rmZ 1 r p1 1 r q1 (r + 1) pc (l0 - 1) m1 < rmZ 1 r p1 1 r p1 pc pc l0 l1 := by
  unfold rmZ
  (repeat' split) <;> omega
theorem rm_ag2 (hr : r < pc) (h : r < k → k ≤ pc → 1 < dk ∧ a1 = r ∧ a0 = p0) (hl : 2 ≤ l1) : rmZ dk a0 a1 2 p0 r (r + 1) k l0 (l1 - 1) ≤ rmZ dk a0 a1 2 p0 r pc k l0 l1 := by
  unfold rmZ
  (repeat' split) <;> omega
theorem rm_ag2S (hr : r < pc) (hl : 2 ≤ l1) : rmZ 2 p0 r 2 p0 r (r + 1) pc l0 (l1 - 1) < rmZ 2 p0 r 2 p0 r pc pc l0 l1 := by
  unfold rmZ
  (repeat' split) <;> omega
theorem rm_no1 (h : pc < k → 0 < dk → a0 ≠ r) (hl : 1 ≤ l0) : rmZ dk a0 a1 0 q0 q1 (pc + 1) k m0 m1 ≤ rmZ dk a0 a1 1 r p1 pc k l0 l1 := by
  unfold rmZ
  (repeat' split) <;> omega
theorem rm_no1S (hl : 1 ≤ l0) : rmZ 1 r p1 0 q0 q1 (pc + 1) pc m0 m1 < rmZ 1 r p1 1 r p1 pc pc l0 l1 := by
  unfold rmZ
  (repeat' split) <;> omega
theorem rm_no2 (hk : dk ≤ 2) (h : pc < k → 1 < dk → a0 = p0 → a1 ≠ r) (hl : 1 ≤ l1) : rmZ dk a0 a1 1 p0 q1 (pc + 1) k l0 m1 ≤ rmZ dk a0 a1 2 p0 r pc k l0 l1 := by
  unfold rmZ
  (repeat' split) <;> omega
theorem rm_no2S (hl : 1 ≤ l1) : rmZ 2 p0 r 1 p0 q1 (pc + 1) pc l0 m1 < rmZ 2 p0 r 2 p0 r pc pc l0 l1 := by
  unfold rmZ
  (repeat' split) <;> omega
end RM
theorem sm_leq {f g : Nat → Int} : ∀ {n : Nat}, (∀ k, k < n → f k ≤ g k) → sm f n ≤ sm g n
  | 0, _ => Int.le_refl _
  | n + 1, h => by
    have := sm_leq (n := n) (fun k hk => h k (by omega))
    have := h n (by omega)
    rw [sm_succ, sm_succ]; omega
theorem sm_ltq {f g : Nat → Int} : ∀ {n : Nat} {k0 : Nat}, (∀ k, k < n → f k ≤ g k) → k0 < n → f k0 < g k0 → sm f n < sm g n
  | 0, k0, _, h, _ => absurd h (Nat.not_lt_zero _)
  | n + 1, k0, h, hk, hl => by
    rw [sm_succ, sm_succ]
    by_cases c : k0 = n
    · subst c
      have := sm_leq (n := k0) (f := f) (g := g) (fun k hk => h k (by omega))
      omega
    · have := sm_ltq (n := n) (k0 := k0) (f := f) (g := g) (fun k hk => h k (by omega)) (by omega) hl
      have := h n (by omega)
      omega
/-- the turns that are left -/
def trn (K : Nat → Int) (n pc : Nat) (l : Nat → Int) : Int := sm (fun k => rmZ (stk K k).1 ((stk K k).2 0) ((stk K k).2 1) (stk K pc).1 ((stk K pc).2 0) ((stk K pc).2 1) pc k (l 0) (l 1)) n
theorem trn_nn {K : Nat → Int} {n pc : Nat} {l : Nat → Int} (h : ∀ j, j < (stk K pc).1 → 1 ≤ l j) : 0 ≤ trn K n pc l := by
  have : ∀ m, 0 ≤ sm (fun k => rmZ (stk K k).1 ((stk K k).2 0) ((stk K k).2 1) (stk K pc).1 ((stk K pc).2 0) ((stk K pc).2 1) pc k (l 0) (l 1)) m := by
    intro m
    induction m with
    | zero => exact Int.le_refl _
    | succ m ih =>
      rw [sm_succ]
      have := rm_nn (dk := (stk K m).1) (a0 := (stk K m).2 0) (a1 := (stk K m).2 1) (dp := (stk K pc).1) (p0 := (stk K pc).2 0) (p1 := (stk K pc).2 1) (pc := pc) (k := m) (l0 := l 0) (l1 := l 1) (h 0) (h 1)
      omega
  exact this n
theorem trn_0 {K : Nat → Int} {n : Nat} {l : Nat → Int} : trn K n 0 l ≤ 400 * (n : Int) := by
  have : ∀ m, sm (fun k => rmZ (stk K k).1 ((stk K k).2 0) ((stk K k).2 1) (stk K 0).1 ((stk K 0).2 0) ((stk K 0).2 1) 0 k (l 0) (l 1)) m ≤ 400 * ((m : Nat) : Int) := by
    intro m
    induction m with
    | zero => exact Int.le_refl _
    | succ m ih =>
      rw [sm_succ]
      have h4 : rmZ (stk K m).1 ((stk K m).2 0) ((stk K m).2 1) (stk K 0).1 ((stk K 0).2 0) ((stk K 0).2 1) 0 m (l 0) (l 1) ≤ 400 := rm_top
      omega
  exact this n
section TR
variable {σ K A C : Nat → Int} {n pc : Nat} {l : Nat → Int}
theorem trn_cmd (hI : ∀ i, i < n → IT σ K A C i) (hp : pc < n) (c8 : K pc ≠ 8) (c9 : K pc ≠ 9) : trn K n (pc + 1) l < trn K n pc l := by
  have d2 : (stk K pc).1 ≤ 2 := stk_2 (fun j hj => hI j (by omega))
  unfold trn
  rw [stk_o c8 c9]
  exact sm_ltq (k0 := pc) (fun k hk => rm_cmd) hp (rm_cmdS d2)
theorem trn_rep (hI : ∀ i, i < n → IT σ K A C i) (hp : pc < n) (c8 : K pc = 8) : trn K n (pc + 1) (updr l (stk K pc).1 (A pc)) < trn K n pc l := by
  obtain ⟨d2, ha⟩ := IT_8 (hI pc hp) c8
  unfold trn
  rw [stk_8 c8]
  dsimp only
  have dd : (stk K pc).1 = 0 ∨ (stk K pc).1 = 1 := by omega
  rcases dd with e | e
  · rw [e]
    simp only [updr_self, if_true]
    exact sm_ltq (k0 := pc) (fun k hk => rm_rep0 (fun h => (stk_in h).1) ha) hp (by rw [e]; exact rm_rep0S)
  · rw [e]
    rw [if_neg (by omega), if_pos rfl, updr_ne (by omega), updr_self]
    exact sm_ltq (k0 := pc) (fun k hk => rm_rep1 (stk_2 (fun j hj => hI j (by omega))) (fun h => (stk_in h).1) ha) hp (by rw [e]; exact rm_rep1S)
theorem trn_again (hI : ∀ i, i < n → IT σ K A C i) (hp : pc < n) (c9 : K pc = 9) (hl : 0 < l ((stk K pc).1 - 1) - 1) : trn K n ((stk K pc).2 ((stk K pc).1 - 1) + 1) (updr l ((stk K pc).1 - 1) (l ((stk K pc).1 - 1) - 1)) < trn K n pc l := by
  obtain ⟨d0, -⟩ := IT_9 (hI pc hp) c9
  have d2 : (stk K pc).1 ≤ 2 := stk_2 (fun j hj => hI j (by omega))
  obtain ⟨g1, g2⟩ := stk_again (K := K) (pc := pc) d0
  have dd : (stk K pc).1 = 1 ∨ (stk K pc).1 = 2 := by omega
  obtain ⟨i1, i2, i3, i4, i5⟩ := stk_in (K := K) (i := pc) (j := (stk K pc).1 - 1) (by omega)
  unfold trn
  rw [g1, g2 0 (by omega)]
  rcases dd with e | e
  · rw [e] at hl i1 i5 ⊢
    simp only [Nat.sub_self] at hl i1 i5 ⊢
    rw [updr_self, updr_ne (by omega)]
    exact sm_ltq (k0 := pc) (fun k hk => rm_ag1 i1 (fun h1 h2 => i5 k h1 h2) (by omega)) hp (by rw [e]; exact rm_ag1S i1 (by omega))
  · rw [g2 1 (by omega)]
    rw [e] at hl i1 i4 i5 ⊢
    simp only [show 2 - 1 = 1 by omega] at hl i1 i4 i5 ⊢
    rw [updr_self, updr_ne (by omega)]
    refine sm_ltq (k0 := pc) (fun k hk => rm_ag2 i1 (fun h1 h2 => ?_) (by omega)) hp (by rw [e]; exact rm_ag2S i1 (by omega))
    obtain ⟨x1, x2⟩ := i5 k h1 h2
    obtain ⟨-, -, -, y4, -⟩ := stk_in (K := K) (i := k) (j := 1) x1
    refine ⟨x1, x2, ?_⟩
    have z1 := y4 0 (by omega)
    have z2 := i4 0 (by omega)
    rw [x2] at z1
    omega
theorem trn_on (hI : ∀ i, i < n → IT σ K A C i) (hp : pc < n) (c9 : K pc = 9) (hl : ∀ j, j < (stk K pc).1 → 1 ≤ l j) {m : Nat → Int} (hm : ∀ j, j < (stk K pc).1 - 1 → m j = l j) : trn K n (pc + 1) m < trn K n pc l := by
  obtain ⟨d0, -⟩ := IT_9 (hI pc hp) c9
  have d2 : (stk K pc).1 ≤ 2 := stk_2 (fun j hj => hI j (by omega))
  have dd : (stk K pc).1 = 1 ∨ (stk K pc).1 = 2 := by omega
  have es : stk K (pc + 1) = ((stk K pc).1 - 1, (stk K pc).2) := stk_9 c9
  -- behind the close its repeat is open no more
  have gone : ∀ k, pc < k → (stk K pc).1 - 1 < (stk K k).1 → (stk K k).2 ((stk K pc).1 - 1) ≠ (stk K pc).2 ((stk K pc).1 - 1) := by
    intro k hk hd he
    obtain ⟨-, -, -, -, y5⟩ := stk_in (K := K) (i := k) (j := (stk K pc).1 - 1) hd
    obtain ⟨i1, -⟩ := stk_in (K := K) (i := pc) (j := (stk K pc).1 - 1) (by omega)
    have := (y5 (pc + 1) (by omega) (by omega)).1
    rw [es] at this
    exact absurd this (by show ¬ (stk K pc).1 - 1 < (stk K pc).1 - 1; omega)
  unfold trn
  rw [es]
  dsimp only
  rcases dd with e | e
  · rw [e] at gone hl ⊢
    simp only [Nat.sub_self] at gone ⊢
    exact sm_ltq (k0 := pc) (fun k hk => rm_no1 (fun h1 h2 => gone k h1 h2) (hl 0 (by omega))) hp (by rw [e]; exact rm_no1S (hl 0 (by omega)))
  · rw [e] at gone hl hm ⊢
    simp only [show 2 - 1 = 1 by omega] at gone hm ⊢
    rw [hm 0 (by omega)]
    exact sm_ltq (k0 := pc) (fun k hk => rm_no2 (stk_2 (fun j hj => hI j (by omega))) (fun h1 h2 _ => gone k h1 h2) (hl 1 (by omega))) hp (by rw [e]; exact rm_no2S (hl 1 (by omega)))
end TR

/-! ===== flows: the rooms, and what they leave of a cut ===== -/
/-- what leads out of a set -/
def crs (n : Nat) (f : Nat → Int) (S : Nat) : Int := sm (fun u => sm (fun v => if S.testBit u = true ∧ S.testBit v = false then f (14 * u + v) else 0) n) n
theorem crs_upd {n : Nat} (hn : n ≤ 14) {f : Nat → Int} {x y : Nat} (hx : x < n) (hy : y < n) (d : Int) (S : Nat) : crs n (updr f (14 * x + y) (f (14 * x + y) + d)) S = crs n f S + if S.testBit x = true ∧ S.testBit y = false then d else 0 := by
  unfold crs
  rw [sm_except (f := fun u => sm (fun v => if S.testBit u = true ∧ S.testBit v = false then updr f (14 * x + y) (f (14 * x + y) + d) (14 * u + v) else 0) n) (h := fun u => sm (fun v => if S.testBit u = true ∧ S.testBit v = false then f (14 * u + v) else 0) n) (a := x) hx (fun u hu hne => sm_cong (fun v hv => by rw [updr_ne (by omega)]))]
  rw [sm_except (f := fun v => if S.testBit x = true ∧ S.testBit v = false then updr f (14 * x + y) (f (14 * x + y) + d) (14 * x + v) else 0) (h := fun v => if S.testBit x = true ∧ S.testBit v = false then f (14 * x + v) else 0) (a := y) hy (fun v hv hne => by rw [updr_ne (by omega)])]
  try dsimp only
  rw [updr_self]
  split <;> omega
theorem crs_nn {n : Nat} {f : Nat → Int} (h : ∀ u v, u < n → v < n → 0 ≤ f (14 * u + v)) (S : Nat) : 0 ≤ crs n f S := by
  have key : ∀ m, m ≤ n → 0 ≤ sm (fun u => sm (fun v => if S.testBit u = true ∧ S.testBit v = false then f (14 * u + v) else 0) n) m := by
    intro m
    induction m with
    | zero => intro _; exact Int.le_refl _
    | succ m ih =>
      intro hm
      rw [sm_succ]
      have h1 := ih (by omega)
      have h2 : ∀ k, k ≤ n → 0 ≤ sm (fun v => if S.testBit m = true ∧ S.testBit v = false then f (14 * m + v) else 0) k := by
        intro k
        induction k with
        | zero => intro _; exact Int.le_refl _
        | succ k ih2 =>
          intro hk
          rw [sm_succ]
          have := ih2 (by omega)
          have := h m k (by omega) (by omega)
          split <;> omega
      have := h2 n (Nat.le_refl _)
      omega
  exact key n (Nat.le_refl _)
theorem crs_zero {n : Nat} {f : Nat → Int} {S : Nat} (h : ∀ u v, u < n → v < n → S.testBit u = true → S.testBit v = false → f (14 * u + v) = 0) : crs n f S = 0 := by
  unfold crs
  rw [sm_cong (g := fun _ => 0) (fun u hu => by
    rw [sm_cong (g := fun _ => 0) (fun v hv => by
      split
      · rename_i q; exact h u v hu hv q.1 q.2
      · rfl)]
    exact sm_zero n)]
  exact sm_zero n
theorem sm_one {g : Nat → Int} : ∀ {m a : Nat}, (∀ k, k < m → 0 ≤ g k) → a < m → g a ≤ sm g m
  | 0, a, _, h => by omega
  | m + 1, a, hg, h => by
    rw [sm_succ]
    have h2 := hg m (by omega)
    have h3 : 0 ≤ sm g m := by
      have : ∀ k, k ≤ m → 0 ≤ sm g k := by
        intro k
        induction k with
        | zero => intro _; exact Int.le_refl _
        | succ k ih => intro hk; rw [sm_succ]; have := ih (by omega); have := hg k (by omega); omega
      exact this m (Nat.le_refl _)
    by_cases c : a = m
    · subst c; omega
    · have := sm_one (g := g) (m := m) (a := a) (fun k hk => hg k (by omega)) (by omega); omega
theorem crs_pos {n : Nat} {f : Nat → Int} (h : ∀ u v, u < n → v < n → 0 ≤ f (14 * u + v)) {S x y : Nat} (hx : x < n) (hy : y < n) (h1 : S.testBit x = true) (h2 : S.testBit y = false) : f (14 * x + y) ≤ crs n f S := by
  have a1 := sm_one (g := fun v => if S.testBit x = true ∧ S.testBit v = false then f (14 * x + v) else 0) (m := n) (a := y) (fun k hk => by
    have := h x k hx hk
    try dsimp only
    split <;> omega) hy
  try dsimp only at a1
  rw [if_pos ⟨h1, h2⟩] at a1
  have a2 := sm_one (g := fun u => sm (fun v => if S.testBit u = true ∧ S.testBit v = false then f (14 * u + v) else 0) n) (m := n) (a := x) (fun u hu => by
    have : ∀ k, k ≤ n → 0 ≤ sm (fun v => if S.testBit u = true ∧ S.testBit v = false then f (14 * u + v) else 0) k := by
      intro k
      induction k with
      | zero => intro _; exact Int.le_refl _
      | succ k ih =>
        intro hk
        rw [sm_succ]
        have := ih (by omega)
        have := h u k hu (by omega)
        split <;> omega
    exact this n (Nat.le_refl _)) hx
  try dsimp only at a2
  unfold crs
  omega
/-- the rooms behind a flow of T from a to b -/
def RO (σ : Nat → Int) (a b : Nat) (f : Nat → Int) (T : Int) : Prop := (∀ u v, u < (σ 0).toNat → v < (σ 0).toNat → 0 ≤ f (14 * u + v)) ∧ (∀ u v, u < (σ 0).toNat → v < (σ 0).toNat → f (14 * u + v) + f (14 * v + u) ≤ 8000) ∧
  0 ≤ T ∧ ∀ S : Nat, S.testBit a = true → S.testBit b = false → crs (σ 0).toNat f S = outZ σ S - T
theorem RO.T {σ : Nat → Int} {a b : Nat} {f : Nat → Int} {T : Int} (h : RO σ a b f T) (hM : MS σ) (hab : a ≠ b) : T ≤ 3960 := by
  have h1 := h.2.2.2 (2 ^ a) (by rw [Nat.testBit_two_pow]; simp) (by rw [Nat.testBit_two_pow]; simp [hab])
  have h2 := crs_nn h.1 (2 ^ a)
  have h3 := outZ_b hM (2 ^ a)
  omega
/-- a search: the found set s, its c vertices in the row q, and for each from where it was found -/
def BF (n a : Nat) (f : Nat → Int) (s c : Nat) (q P : Nat → Int) : Prop := 1 ≤ c ∧ q 0 = (a : Int) ∧ cntB s n = (c : Int) ∧ s < 2 ^ n ∧ (∀ j, j < c → 0 ≤ q j ∧ q j < (n : Int) ∧ s.testBit (q j).toNat = true) ∧
  (∀ v, s.testBit v = true → ∃ j, j < c ∧ q j = (v : Int)) ∧ (∀ i j, i < c → j < c → q i = q j → i = j) ∧
  ∃ par : Nat → Nat, ∀ j, 0 < j → j < c → par j < j ∧ P (q j).toNat = q (par j) ∧ 0 < f (14 * (q (par j)).toNat + (q j).toNat)
theorem BF.c {n a : Nat} {f : Nat → Int} {s c : Nat} {q P : Nat → Int} (h : BF n a f s c q P) : c ≤ n := by
  have := (cntB_n s n).2
  have := h.2.2.1
  omega
theorem cntB_ins {s v : Nat} (h : s.testBit v = false) : ∀ {n : Nat}, v < n → cntB (s ||| 2 ^ v) n = cntB s n + 1 := by
  have low : ∀ n, n ≤ v → cntB (s ||| 2 ^ v) n = cntB s n := by
    intro n hn
    unfold cntB
    refine sm_cong (fun i hi => ?_)
    have : (s ||| 2 ^ v).testBit i = s.testBit i := by
      rw [Nat.testBit_or, Nat.testBit_two_pow]
      have : ¬ v = i := by omega
      simp [this]
    rw [this]
  intro n
  induction n with
  | zero => intro h; omega
  | succ n ih =>
    intro hn
    by_cases c : v = n
    · subst c
      have := low v (Nat.le_refl _)
      unfold cntB at this ⊢
      rw [sm_succ, sm_succ, this, if_pos (by rw [Nat.testBit_or, Nat.testBit_two_pow]; simp), h, if_neg (by decide)]
      omega
    · have := ih (by omega)
      unfold cntB at this ⊢
      have e : (s ||| 2 ^ v).testBit n = s.testBit n := by
        rw [Nat.testBit_or, Nat.testBit_two_pow]
        simp [c]
      rw [sm_succ, sm_succ, this, e]
      omega
theorem BF_one {n a : Nat} (ha : a < n) (f : Nat → Int) {q P : Nat → Int} (hq : q 0 = (a : Int)) : BF n a f (2 ^ a) 1 q P := by
  refine ⟨by omega, hq, ?_, Nat.pow_lt_pow_right (by decide) ha, fun j hj => ?_, fun v hv => ⟨0, by omega, ?_⟩, fun i j hi hj _ => by omega, fun _ => 0, fun j h1 h2 => by omega⟩
  · have := cntB_ins (s := 0) (v := a) (Nat.zero_testBit a) ha
    rw [Nat.zero_or] at this
    rw [this]
    have z : cntB 0 n = 0 := by
      unfold cntB
      rw [sm_cong (g := fun _ => 0) (fun i _ => by rw [Nat.zero_testBit]; rfl)]
      exact sm_zero n
    rw [z]; rfl
  · have : j = 0 := by omega
    subst this
    rw [hq]
    exact ⟨by omega, by omega, by rw [Nat.testBit_two_pow]; simp⟩
  · rw [Nat.testBit_two_pow] at hv
    rw [hq, of_decide_eq_true hv]
theorem BF_ins {n a : Nat} {f : Nat → Int} {s c : Nat} {q P : Nat → Int} (h : BF n a f s c q P) {i v : Nat} (hi : i < c) (hv : v < n) (hs : s.testBit v = false) (hf : 0 < f (14 * (q i).toNat + v)) : BF n a f (s ||| 2 ^ v) (c + 1) (updr q c (v : Int)) (updr P v (q i)) := by
  obtain ⟨h1, h2, h3, h4, h5, h6, h7, par, h8⟩ := h
  have qo : ∀ j, j < c → updr q c (v : Int) j = q j := fun j hj => updr_ne (by omega)
  have qn : updr q c (v : Int) c = (v : Int) := updr_self _ _ _
  have nv : ∀ j, j < c → (q j).toNat ≠ v := fun j hj e => by
    have := (h5 j hj).2.2
    rw [e, hs] at this
    cases this
  refine ⟨by omega, by rw [qo 0 (by omega)]; exact h2, by rw [cntB_ins hs hv, h3]; omega, Nat.or_lt_two_pow h4 (Nat.pow_lt_pow_right (by decide) hv), fun j hj => ?_, fun w hw => ?_, fun x y hx hy e => ?_, updr par c i, fun j hj0 hj => ?_⟩
  · by_cases e : j = c
    · subst e
      rw [qn]
      exact ⟨by omega, by omega, by rw [Nat.testBit_or, Nat.testBit_two_pow]; simp⟩
    · rw [qo j (by omega)]
      have := h5 j (by omega)
      exact ⟨this.1, this.2.1, by rw [Nat.testBit_or, this.2.2, Bool.true_or]⟩
  · rw [Nat.testBit_or, Nat.testBit_two_pow, Bool.or_eq_true] at hw
    rcases hw with hw | hw
    · obtain ⟨j, hj, e⟩ := h6 w hw
      exact ⟨j, by omega, by rw [qo j hj]; exact e⟩
    · exact ⟨c, by omega, by rw [qn, of_decide_eq_true hw]⟩
  · by_cases ex : x = c
    · by_cases ey : y = c
      · omega
      · rw [ex, qn, qo y (by omega)] at e
        exact absurd (by omega) (nv y (by omega))
    · by_cases ey : y = c
      · rw [ey, qn, qo x (by omega)] at e
        exact absurd (by omega) (nv x (by omega))
      · rw [qo x (by omega), qo y (by omega)] at e
        exact h7 x y (by omega) (by omega) e
  · by_cases e : j = c
    · subst e
      rw [updr_self, qn, qo i hi]
      exact ⟨hi, updr_self _ _ _, hf⟩
    · have := h8 j hj0 (by omega)
      rw [updr_ne e, qo j (by omega), qo (par j) (by omega), updr_ne (nv j (by omega))]
      exact this
/-- the way back from a found vertex -/
theorem par_way {c : Nat} {par : Nat → Nat} (h : ∀ j, 0 < j → j < c → par j < j) : ∀ (j : Nat), j < c → ∃ (m : Nat) (y : Nat → Nat), m ≤ j ∧ y 0 = j ∧ y m = 0 ∧ ∀ k, k < m → 0 < y k ∧ y k < c ∧ y (k + 1) = par (y k) := by
  intro j
  induction j using Nat.strongRecOn with
  | ind j ih =>
    intro hj
    by_cases c0 : j = 0
    · exact ⟨0, fun _ => 0, by omega, c0.symm, rfl, fun k hk => by omega⟩
    · have hp := h j (by omega) hj
      obtain ⟨m, y, h1, h2, h3, h4⟩ := ih (par j) hp (by omega)
      refine ⟨m + 1, fun k => if k = 0 then j else y (k - 1), by omega, rfl, by show (if m + 1 = 0 then j else y (m + 1 - 1)) = 0; rw [if_neg (by omega), Nat.add_sub_cancel]; exact h3, fun k hk => ?_⟩
      try dsimp only
      by_cases k0 : k = 0
      · subst k0
        rw [if_pos rfl, if_neg (by omega)]
        exact ⟨by omega, hj, h2⟩
      · rw [if_neg k0, if_neg (by omega)]
        have := h4 (k - 1) (by omega)
        rw [show k - 1 + 1 = k by omega] at this
        exact this
/-- a way from b back to a, by vertices -/
def WY (n a b : Nat) (f P : Nat → Int) (m : Nat) (x : Nat → Nat) : Prop := m ≤ 13 ∧ x 0 = b ∧ x m = a ∧ (∀ k, k ≤ m → x k < n) ∧ (∀ j k, j ≤ m → k ≤ m → x j = x k → j = k) ∧ ∀ k, k < m → P (x k) = (x (k + 1) : Int) ∧ 0 < f (14 * x (k + 1) + x k)
theorem BF_way {n a b : Nat} {f : Nat → Int} {s c : Nat} {q P : Nat → Int} (hn : n ≤ 14) (h : BF n a f s c q P) (hb : s.testBit b = true) : ∃ m x, WY n a b f P m x := by
  have hc := h.c
  obtain ⟨h1, h2, h3, h4, h5, h6, h7, par, h8⟩ := h
  obtain ⟨j, hj, ej⟩ := h6 b hb
  obtain ⟨m, y, m1, m2, m3, m4⟩ := par_way (c := c) (par := par) (fun j h0 hj => (h8 j h0 hj).1) j hj
  have hy : ∀ k, k ≤ m → y k < c := fun k hk => by
    by_cases e : k = m
    · rw [e, m3]; omega
    · exact (m4 k (by omega)).2.1
  have dec : ∀ d k, k + d ≤ m → 0 < d → y (k + d) < y k := by
    intro d
    induction d with
    | zero => intro k _ h; omega
    | succ d ih =>
      intro k hk _
      have q1 := m4 (k + d) (by omega)
      have q2 := (h8 (y (k + d)) q1.1 q1.2.1).1
      rw [show k + (d + 1) = k + d + 1 by omega, q1.2.2]
      by_cases e : d = 0
      · subst e; exact q2
      · have := ih k (by omega) (by omega); omega
  refine ⟨m, fun k => (q (y k)).toNat, by omega, ?_, ?_, fun k hk => ?_, fun i k hi hk e => ?_, fun k hk => ?_⟩
  · show (q (y 0)).toNat = b
    rw [m2, ej]; rfl
  · show (q (y m)).toNat = a
    rw [m3, h2]; rfl
  · have := h5 _ (hy k hk)
    show (q (y k)).toNat < n
    omega
  · have a1 := h5 _ (hy i hi)
    have a2 := h5 _ (hy k hk)
    have e : q (y i) = q (y k) := by
      have e : (q (y i)).toNat = (q (y k)).toNat := e
      omega
    have e := h7 _ _ (hy i hi) (hy k hk) e
    rcases Nat.lt_trichotomy i k with z | z | z
    · have := dec (k - i) i (by omega) (by omega)
      rw [show i + (k - i) = k by omega] at this; omega
    · exact z
    · have := dec (i - k) k (by omega) (by omega)
      rw [show k + (i - k) = i by omega] at this; omega
  · have q1 := m4 k hk
    have q2 := h8 (y k) q1.1 q1.2.1
    have a1 := h5 _ (hy (k + 1) (by omega))
    show P (q (y k)).toNat = (((q (y (k + 1))).toNat : Nat) : Int) ∧ 0 < f (14 * (q (y (k + 1))).toNat + (q (y k)).toNat)
    rw [q1.2.2] at a1 ⊢
    exact ⟨by rw [q2.2.1]; omega, q2.2.2⟩
/-- nothing leads on from the set -/
def CLS (n : Nat) (f : Nat → Int) (s : Nat) : Prop := ∀ u v, u < n → v < n → s.testBit u = true → s.testBit v = false → f (14 * u + v) ≤ 0
/-- what a flow and its side are -/
def FLW (σ : Nat → Int) (a b : Nat) (T : Int) (s : Nat) : Prop := s < 2 ^ (σ 0).toNat ∧ s.testBit a = true ∧ s.testBit b = false ∧ outZ σ s = T ∧ ∀ S : Nat, S.testBit a = true → S.testBit b = false → T ≤ outZ σ S ∧ (outZ σ S = T → ∀ i, s.testBit i = true → S.testBit i = true)
theorem FLW_of {σ : Nat → Int} {a b s c : Nat} {f q P : Nat → Int} {T : Int} (hR : RO σ a b f T) (hB : BF (σ 0).toNat a f s c q P) (hC : CLS (σ 0).toNat f s) (hb : s.testBit b = false) : FLW σ a b T s := by
  obtain ⟨h1, h2, h3, h4, h5, h6, h7, par, h8⟩ := hB
  have hsa : s.testBit a = true := by
    have := (h5 0 (by omega)).2.2
    rw [h2] at this
    exact this
  have z := crs_zero (n := (σ 0).toNat) (f := f) (S := s) (fun u v hu hv p1 p2 => by
    have := hC u v hu hv p1 p2
    have := hR.1 u v hu hv
    omega)
  refine ⟨h4, hsa, hb, ?_, fun S p1 p2 => ⟨?_, fun e i hi => ?_⟩⟩
  · have := hR.2.2.2 s hsa hb
    omega
  · have := hR.2.2.2 S p1 p2
    have := crs_nn hR.1 S
    omega
  · have hz : crs (σ 0).toNat f S = 0 := by
      have := hR.2.2.2 S p1 p2
      omega
    have key : ∀ j, j < c → S.testBit (q j).toNat = true := by
      intro j
      induction j using Nat.strongRecOn with
      | ind j ih =>
        intro hj
        by_cases j0 : j = 0
        · rw [j0, h2]; exact p1
        · have q1 := h8 j (by omega) hj
          have q2 := ih (par j) q1.1 (by omega)
          cases hc : S.testBit (q j).toNat
          · have a1 := h5 (par j) (by omega)
            have a2 := h5 j hj
            have := crs_pos hR.1 (S := S) (x := (q (par j)).toNat) (y := (q j).toNat) (by omega) (by omega) q2 hc
            omega
          · rfl
    obtain ⟨j, hj, ej⟩ := h6 i hi
    have := key j hj
    rw [ej] at this
    exact this

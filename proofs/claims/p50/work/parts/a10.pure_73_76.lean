/-! ===== flows: the rooms, and what they leave of a cut ===== -/
/-- what leads out of a set -/
def crs (n : Nat) (f : Nat → Int) (S : Nat) : Int := sm (fun u => sm (fun v => if S.testBit u = true ∧ S.testBit v = false then f (14 * u + v) else 0) n) n
theorem crs_upd {n : Nat} (hn : n ≤ 14) {f : Nat → Int} {x y : Nat} (hx : x < n) (hy : y < n) (d : Int) (S : Nat) : crs n (updr f (14 * x + y) (f (14 * x + y) + d)) S = crs n f S + if S.testBit x = true ∧ S.testBit y = false then d else 0 := by
  unfold crs
  rw [sm_except (f := fun u => sm (fun v => if S.testBit u = true ∧ S.testBit v = false then updr f (14 * x + y) (f (14 * x + y) + d) (14 * u + v) else 0) n) (h := fun u => sm (fun v => if S.testBit u = true ∧ S.testBit v = false then f (14 * u + v) else 0) n) (a := x) hx (fun u hu hne => sm_cong (fun v hv => by rw [updr_ne (by omega)]))]
  rw [sm_except (f := fun v => if S.testBit x = true ∧ S.testBit v = false then updr f (14 * x + y) (f (14 * x + y) + d) (14 * x + v) else 0) (h := fun v => if S.testBit x = true ∧ S.testBit v = false then f (14 * x + v) else 0) (a := y) hy (fun v hv hne => by rw [updr_ne (by omega)])]
  try dsimp only
  rw [updr_self]
  split <;> omega
theorem crs_nn {n : Nat} {f : Nat → Int} (h : ∀ u v, u < n → v < n → 0 ≤ f (14 * u + v)) (S : Nat) : 0 ≤ crs n f S := by
  have key : ∀ m, m ≤ n → 0 ≤ sm (fun u => sm (fun v => if S.testBit u = true ∧ S.testBit v = false then f (14 * u + v) else 0) n) m := by
    intro m
    induction m with
    | zero => intro _; exact Int.le_refl _
    | succ m ih =>
      intro hm
      rw [sm_succ]
      have h1 := ih (by omega)
      have h2 : ∀ k, k ≤ n → 0 ≤ sm (fun v => if S.testBit m = true ∧ S.testBit v = false then f (14 * m + v) else 0) k := by
        intro k
        induction k with
        | zero => intro _; exact Int.le_refl _
        | succ k ih2 =>
          intro hk
          rw [sm_succ]
          have := ih2 (by omega)
          have := h m k (by omega) (by omega)
          split <;> omega
      have := h2 n (Nat.le_refl _)
      omega
  exact key n (Nat.le_refl _)
theorem crs_zero {n : Nat} {f : Nat → Int} {S : Nat} (h : ∀ u v, u < n → v < n → S.testBit u = true → S.testBit v = false → f (14 * u + v) = 0) : crs n f S = 0 := by
  unfold crs
  rw [sm_cong (g := fun _ => 0) (fun u hu => by
    rw [sm_cong (g := fun _ => 0) (fun v hv => by
      split
      · rename_i q; exact h u v hu hv q.1 q.2
      · rfl)]
    exact sm_zero n)]
  exact sm_zero n
theorem sm_one {g : Nat → Int} : ∀ {m a : Nat}, (∀ k, k < m → 0 ≤ g k) → a < m → g a ≤ sm g m
  | 0, a, _, h => by omega
  | m + 1, a, hg, h => by
    rw [sm_succ]
    have h2 := hg m (by omega)
    have h3 : 0 ≤ sm g m := by
      have : ∀ k, k ≤ m → 0 ≤ sm g k := by
        intro k
        induction k with
        | zero => intro _; exact Int.le_refl _
        | succ k ih => intro hk; rw [sm_succ]; have := ih (by omega); have := hg k (by omega); omega
      exact this m (Nat.le_refl _)
    by_cases c : a = m
    · subst c; omega
    · have := sm_one (g := g) (m := m) (a := a) (fun k hk => hg k (by omega)) (by omega); omega
theorem crs_pos {n : Nat} {f : Nat → Int} (h : ∀ u v, u < n → v < n → 0 ≤ f (14 * u + v)) {S x y : Nat} (hx : x < n) (hy : y < n) (h1 : S.testBit x = true) (h2 : S.testBit y = false) : f (14 * x + y) ≤ crs n f S := by
  have a1 := sm_one (g := fun v => if S.testBit x = true ∧ S.testBit v = false then f (14 * x + v) else 0) (m := n) (a := y) (fun k hk => by
    have := h x k hx hk
    try dsimp only
    split <;> omega) hy
  try dsimp only at a1
  rw [if_pos ⟨h1, h2⟩] at a1
  have a2 := sm_one (g := fun u => sm (fun v => if S.testBit u = true ∧ S.testBit v = false then f (14 * u + v) else 0) n) (m := n) (a := x) (fun u hu => by
    have : ∀ k, k ≤ n → 0 ≤ sm (fun v => if S.testBit u = true ∧ S.testBit v = false then f (14 * u + v) else 0) k := by
      intro k
      induction k with
      | zero => intro _; exact Int.le_refl _
      | succ k ih =>
        intro hk
        rw [sm_succ]
        have := ih (by omega)
        have := h u k hu (by omega)
        split <;> omega
    exact this n (Nat.le_refl _)) hx
  try dsimp only at a2
  unfold crs
  omega
/-- the rooms behind a flow of T from a to b -/
def RO (σ : Nat → Int) (a b : Nat) (f : Nat → Int) (T : Int) : Prop := (∀ u v, u < (σ 0).toNat → v < (σ 0).toNat → 0 ≤ f (14 * u + v)) ∧ (∀ u v, u < (σ 0).toNat → v < (σ 0).toNat → f (14 * u + v) + f (14 * v + u) ≤ 8000) ∧
  0 ≤ T ∧ ∀ S : Nat, S.testBit a = true → S.testBit b = false → crs (σ 0).toNat f S = outZ σ S - T
theorem RO.T {σ : Nat → Int} {a b : Nat} {f : Nat → Int} {T : Int} (h : RO σ a b f T) (hM : MS σ) (hab : a ≠ b) : T ≤ 3960 := by
  have h1 := h.2.2.2 (2 ^ a) (by rw [Nat.testBit_two_pow]; simp) (by rw [Nat.testBit_two_pow]; simp [hab])
  have h2 := crs_nn h.1 (2 ^ a)
  have h3 := outZ_b hM (2 ^ a)
  omega
/-- a search: the found set s, its c vertices in the row q, and for each from where it was found -/
def BF (n a : Nat) (f : Nat → Int) (s c : Nat) (q P : Nat → Int) : Prop := 1 ≤ c ∧ q 0 = (a : Int) ∧ cntB s n = (c : Int) ∧ s < 2 ^ n ∧ (∀ j, j < c → 0 ≤ q j ∧ q j < (n : Int) ∧ s.testBit (q j).toNat = true) ∧
  (∀ v, s.testBit v = true → ∃ j, j < c ∧ q j = (v : Int)) ∧ (∀ i j, i < c → j < c → q i = q j → i = j) ∧
  ∃ par : Nat → Nat, ∀ j, 0 < j → j < c → par j < j ∧ P (q j).toNat = q (par j) ∧ 0 < f (14 * (q (par j)).toNat + (q j).toNat)
theorem BF.c {n a : Nat} {f : Nat → Int} {s c : Nat} {q P : Nat → Int} (h : BF n a f s c q P) : c ≤ n := by
  have := (cntB_n s n).2
  have := h.2.2.1
  omega
theorem cntB_ins {s v : Nat} (h : s.testBit v = false) : ∀ {n : Nat}, v < n → cntB (s ||| 2 ^ v) n = cntB s n + 1 := by
  have low : ∀ n, n ≤ v → cntB (s ||| 2 ^ v) n = cntB s n := by
    intro n hn
    unfold cntB
    refine sm_cong (fun i hi => ?_)
    have : (s ||| 2 ^ v).testBit i = s.testBit i := by
      rw [Nat.testBit_or, Nat.testBit_two_pow]
      have : ¬ v = i := by omega
      simp [this]
    rw [this]
  intro n
  induction n with
  | zero => intro h; omega
  | succ n ih =>
    intro hn
    by_cases c : v = n
    · subst c
      have := low v (Nat.le_refl _)
      unfold cntB at this ⊢
      rw [sm_succ, sm_succ, this, if_pos (by rw [Nat.testBit_or, Nat.testBit_two_pow]; simp), h, if_neg (by decide)]
      omega
    · have := ih (by omega)
      unfold cntB at this ⊢
      have e : (s ||| 2 ^ v).testBit n = s.testBit n := by
        rw [Nat.testBit_or, Nat.testBit_two_pow]
        simp [c]
      rw [sm_succ, sm_succ, this, e]
      omega
theorem BF_one {n a : Nat} (ha : a < n) (f : Nat → Int) {q P : Nat → Int} (hq : q 0 = (a : Int)) : BF n a f (2 ^ a) 1 q P := by
  refine ⟨by omega, hq, ?_, Nat.pow_lt_pow_right (by decide) ha, fun j hj => ?_, fun v hv => ⟨0, by omega, ?_⟩, fun i j hi hj _ => by omega, fun _ => 0, fun j h1 h2 => by omega⟩
  · have := cntB_ins (s := 0) (v := a) (Nat.zero_testBit a) ha
    rw [Nat.zero_or] at this
    rw [this]
    have z : cntB 0 n = 0 := by
      unfold cntB
      rw [sm_cong (g := fun _ => 0) (fun i _ => by rw [Nat.zero_testBit]; rfl)]
      exact sm_zero n
    rw [z]; rfl
  · have : j = 0 := by omega
    subst this
    rw [hq]
    exact ⟨by omega, by omega, by rw [Nat.testBit_two_pow]; simp⟩
  · rw [Nat.testBit_two_pow] at hv
    rw [hq, of_decide_eq_true hv]
theorem BF_ins {n a : Nat} {f : Nat → Int} {s c : Nat} {q P : Nat → Int} (h : BF n a f s c q P) {i v : Nat} (hi : i < c) (hv : v < n) (hs : s.testBit v = false) (hf : 0 < f (14 * (q i).toNat + v)) : BF n a f (s ||| 2 ^ v) (c + 1) (updr q c (v : Int)) (updr P v (q i)) := by
  obtain ⟨h1, h2, h3, h4, h5, h6, h7, par, h8⟩ := h
  have qo : ∀ j, j < c → updr q c (v : Int) j = q j := fun j hj => updr_ne (by omega)
  have qn : updr q c (v : Int) c = (v : Int) := updr_self _ _ _
  have nv : ∀ j, j < c → (q j).toNat ≠ v := fun j hj e => by
    have := (h5 j hj).2.2
    rw [e, hs] at this
    cases this
  refine ⟨by omega, by rw [qo 0 (by omega)]; exact h2, by rw [cntB_ins hs hv, h3]; omega, Nat.or_lt_two_pow h4 (Nat.pow_lt_pow_right (by decide) hv), fun j hj => ?_, fun w hw => ?_, fun x y hx hy e => ?_, updr par c i, fun j hj0 hj => ?_⟩
  · by_cases e : j = c
    · subst e
      rw [qn]
      exact ⟨by omega, by omega, by rw [Nat.testBit_or, Nat.testBit_two_pow]; simp⟩
    · rw [qo j (by omega)]
      have := h5 j (by omega)
      exact ⟨this.1, this.2.1, by rw [Nat.testBit_or, this.2.2, Bool.true_or]⟩
  · rw [Nat.testBit_or, Nat.testBit_two_pow, Bool.or_eq_true] at hw
    rcases hw with hw | hw
    · obtain ⟨j, hj, e⟩ := h6 w hw
      exact ⟨j, by omega, by rw [qo j hj]; exact e⟩
    · exact ⟨c, by omega, by rw [qn, of_decide_eq_true hw]⟩
  · by_cases ex : x = c
    · by_cases ey : y = c
      · omega
      · rw [ex, qn, qo y (by omega)] at e
        exact absurd (by omega) (nv y (by omega))
    · by_cases ey : y = c
      · rw [ey, qn, qo x (by omega)] at e
        exact absurd (by omega) (nv x (by omega))
      · rw [qo x (by omega), qo y (by omega)] at e
        exact h7 x y (by omega) (by omega) e
  · by_cases e : j = c
    · subst e
      rw [updr_self, qn, qo i hi]
      exact ⟨hi, updr_self _ _ _, hf⟩
    · have := h8 j hj0 (by omega)
      rw [updr_ne e, qo j (by omega), qo (par j) (by omega), updr_ne (nv j (by omega))]
      exact this
/-- the way back from a found vertex -/
theorem par_way {c : Nat} {par : Nat → Nat} (h : ∀ j, 0 < j → j < c → par j < j) : ∀ (j : Nat), j < c → ∃ (m : Nat) (y : Nat → Nat), m ≤ j ∧ y 0 = j ∧ y m = 0 ∧ ∀ k, k < m → 0 < y k ∧ y k < c ∧ y (k + 1) = par (y k) := by
  intro j
  induction j using Nat.strongRecOn with
  | ind j ih =>
    intro hj
    by_cases c0 : j = 0
    · exact ⟨0, fun _ => 0, by omega, c0.symm, rfl, fun k hk => by omega⟩
    · have hp := h j (by omega) hj
      obtain ⟨m, y, h1, h2, h3, h4⟩ := ih (par j) hp (by omega)
      refine ⟨m + 1, fun k => if k = 0 then j else y (k - 1), by omega, rfl, by show (if m + 1 = 0 then j else y (m + 1 - 1)) = 0; rw [if_neg (by omega), Nat.add_sub_cancel]; exact h3, fun k hk => ?_⟩
      try dsimp only
      by_cases k0 : k = 0
      · subst k0
        rw [if_pos rfl, if_neg (by omega)]
        exact ⟨by omega, hj, h2⟩
      · rw [if_neg k0, if_neg (by omega)]
        have := h4 (k - 1) (by omega)
        rw [show k - 1 + 1 = k by omega] at this
        exact this
/-- a way from b back to a, by vertices -/
def WY (n a b : Nat) (f P : Nat → Int) (m : Nat) (x : Nat → Nat) : Prop := m ≤ 13 ∧ x 0 = b ∧ x m = a ∧ (∀ k, k ≤ m → x k < n) ∧ (∀ j k, j ≤ m → k ≤ m → x j = x k → j = k) ∧ ∀ k, k < m → P (x k) = (x (k + 1) : Int) ∧ 0 < f (14 * x (k + 1) + x k)
theorem BF_way {n a b : Nat} {f : Nat → Int} {s c : Nat} {q P : Nat → Int} (hn : n ≤ 14) (h : BF n a f s c q P) (hb : s.testBit b = true) : ∃ m x, WY n a b f P m x := by
  have hc := h.c
  obtain ⟨h1, h2, h3, h4, h5, h6, h7, par, h8⟩ := h
  obtain ⟨j, hj, ej⟩ := h6 b hb
  obtain ⟨m, y, m1, m2, m3, m4⟩ := par_way (c := c) (par := par) (fun j h0 hj => (h8 j h0 hj).1) j hj
  have hy : ∀ k, k ≤ m → y k < c := fun k hk => by
    by_cases e : k = m
    · rw [e, m3]; omega
    · exact (m4 k (by omega)).2.1
  have dec : ∀ d k, k + d ≤ m → 0 < d → y (k + d) < y k := by
    intro d
    induction d with
    | zero => intro k _ h; omega
    | succ d ih =>
      intro k hk _
      have q1 := m4 (k + d) (by omega)
      have q2 := (h8 (y (k + d)) q1.1 q1.2.1).1
      rw [show k + (d + 1) = k + d + 1 by omega, q1.2.2]
      by_cases e : d = 0
      · subst e; exact q2
      · have := ih k (by omega) (by omega); omega
  refine ⟨m, fun k => (q (y k)).toNat, by omega, ?_, ?_, fun k hk => ?_, fun i k hi hk e => ?_, fun k hk => ?_⟩
  · show (q (y 0)).toNat = b
    rw [m2, ej]; rfl
  · show (q (y m)).toNat = a
    rw [m3, h2]; rfl
  · have := h5 _ (hy k hk)
    show (q (y k)).toNat < n
    omega
  · have a1 := h5 _ (hy i hi)
    have a2 := h5 _ (hy k hk)
    have e : q (y i) = q (y k) := by
      have e : (q (y i)).toNat = (q (y k)).toNat := e
      omega
    have e := h7 _ _ (hy i hi) (hy k hk) e
    rcases Nat.lt_trichotomy i k with z | z | z
    · have := dec (k - i) i (by omega) (by omega)
      rw [show i + (k - i) = k by omega] at this; omega
    · exact z
    · have := dec (i - k) k (by omega) (by omega)
      rw [show k + (i - k) = i by omega] at this; omega
  · have q1 := m4 k hk
    have q2 := h8 (y k) q1.1 q1.2.1
    have a1 := h5 _ (hy (k + 1) (by omega))
    show P (q (y k)).toNat = (((q (y (k + 1))).toNat : Nat) : Int) ∧ 0 < f (14 * (q (y (k + 1))).toNat + (q (y k)).toNat)
    rw [q1.2.2] at a1 ⊢
    exact ⟨by rw [q2.2.1]; omega, q2.2.2⟩
/-- nothing leads on from the set -/
def CLS (n : Nat) (f : Nat → Int) (s : Nat) : Prop := ∀ u v, u < n → v < n → s.testBit u = true → s.testBit v = false → f (14 * u + v) ≤ 0
/-- what a flow and its side are -/
def FLW (σ : Nat → Int) (a b : Nat) (T : Int) (s : Nat) : Prop := s < 2 ^ (σ 0).toNat ∧ s.testBit a = true ∧ s.testBit b = false ∧ outZ σ s = T ∧ ∀ S : Nat, S.testBit a = true → S.testBit b = false → T ≤ outZ σ S ∧ (outZ σ S = T → ∀ i, s.testBit i = true → S.testBit i = true)
theorem FLW_of {σ : Nat → Int} {a b s c : Nat} {f q P : Nat → Int} {T : Int} (hR : RO σ a b f T) (hB : BF (σ 0).toNat a f s c q P) (hC : CLS (σ 0).toNat f s) (hb : s.testBit b = false) : FLW σ a b T s := by
  obtain ⟨h1, h2, h3, h4, h5, h6, h7, par, h8⟩ := hB
  have hsa : s.testBit a = true := by
    have := (h5 0 (by omega)).2.2
    rw [h2] at this
    exact this
  have z := crs_zero (n := (σ 0).toNat) (f := f) (S := s) (fun u v hu hv p1 p2 => by
    have := hC u v hu hv p1 p2
    have := hR.1 u v hu hv
    omega)
  refine ⟨h4, hsa, hb, ?_, fun S p1 p2 => ⟨?_, fun e i hi => ?_⟩⟩
  · have := hR.2.2.2 s hsa hb
    omega
  · have := hR.2.2.2 S p1 p2
    have := crs_nn hR.1 S
    omega
  · have hz : crs (σ 0).toNat f S = 0 := by
      have := hR.2.2.2 S p1 p2
      omega
    have key : ∀ j, j < c → S.testBit (q j).toNat = true := by
      intro j
      induction j using Nat.strongRecOn with
      | ind j ih =>
        intro hj
        by_cases j0 : j = 0
        · rw [j0, h2]; exact p1
        · have q1 := h8 j (by omega) hj
          have q2 := ih (par j) q1.1 (by omega)
          cases hc : S.testBit (q j).toNat
          · have a1 := h5 (par j) (by omega)
            have a2 := h5 j hj
            have := crs_pos hR.1 (S := S) (x := (q (par j)).toNat) (y := (q j).toNat) (by omega) (by omega) q2 hc
            omega
          · rfl
    obtain ⟨j, hj, ej⟩ := h6 i hi
    have := key j hj
    rw [ej] at this
    exact this

/-! ===== flows, the class ===== -/
section FL
variable {I : Ii} {J : Jj} {σ : Nat → Int} {nm : Nat → Int64}
theorem outZ_succ' (σ : Nat → Int) (S e : Nat) : sm (fun e => if S.testBit (σ (110 + e)).toNat = S.testBit (σ (150 + e)).toNat then 0 else σ (190 + e)) (e + 1) = sm (fun e => if S.testBit (σ (110 + e)).toNat = S.testBit (σ (150 + e)).toNat then 0 else σ (190 + e)) e + (if S.testBit (σ (110 + e)).toNat = S.testBit (σ (150 + e)).toNat then 0 else σ (190 + e)) := rfl
theorem c_fillRooms {a b : Nat} (hV : VS σ) (hR : RG 200 I J σ nm) : wp_X1_fillRooms 200 I J (fun I' _ => I' 128 3 = σ 0 ∧ RO σ a b (I' 129) 0) := by
  have b0 := ms_0 hV.M
  have b1 := ms_1 hV.M
  have hn := hR.n
  have hm := hR.m
  refine ⟨gK200, fun I1 e1 => fill_of (n := 196) rfl (fun I2 e2 => ?_)⟩
  have o2 : ∀ q, q ≠ 129 → q ≠ 128 → I2 q = I q := fun q h1 h2 => by rw [e2, upr_ne h1, e1, up2_key h2]
  have z2 : ∀ u v, u < 14 → v < 14 → I2 129 (14 * u + v) = 0 := fun u v hu hv => by rw [e2, upr_self, filR_lt (by omega)]
  refine ⟨41, loopN (L := fun n (g : Ii) v => L_X1_fillRooms_18 200 _ n v g J) (fun e g => (∀ q, q ≠ 129 → g q = I2 q) ∧ (∀ u v, u < 14 → v < 14 → 0 ≤ g 129 (14 * u + v) ∧ g 129 (14 * u + v) ≤ 99 * e) ∧ ∀ S, crs (σ 0).toNat (g 129) S = sm (fun e => if S.testBit (σ (110 + e)).toNat = S.testBit (σ (150 + e)).toNat then 0 else σ (190 + e)) e) (N := (σ 1).toNat) (fun n e g he hg kk => ?_) 41 0 I2 (by omega) (by omega) ⟨fun _ _ => rfl, fun u v hu hv => by rw [z2 u v hu hv]; omega, fun S => ?_⟩⟩
  · obtain ⟨g0, g1, g2⟩ := hg
    have h0 : g 200 1 = σ 1 := by rw [g0 _ (by decide), o2 _ (by decide) (by decide)]; exact hm
    refine ls_X1_fillRooms_18 ?_
    unfold Lb_X1_fillRooms_18
    refine ⟨rgK (by omega), rgK (by omega), fun c => ?_, fun c => ?_⟩
    · have hen : e = (σ 1).toNat := by omega
      refine ⟨by rw [g0 _ (by decide), e2, upr_ne (by decide), e1, up2_self, hn], fun u v hu hv => (g1 u v (by omega) (by omega)).1, fun u v hu hv => ?_, by omega, fun S _ _ => ?_⟩
      · have := g1 u v (by omega) (by omega)
        have := g1 v u (by omega) (by omega)
        omega
      · rw [g2, hen, Int.sub_zero]; rfl
    · have he' : e < (σ 1).toNat := by omega
      have ha := hV.a he'
      have hb := hV.b he'
      have hw := hV.w he'
      have hab := hV.ab he'
      have r3 : g 203 e = σ (110 + e) := by rw [g0 _ (by decide), o2 _ (by decide) (by decide)]; exact hR.a he'
      have r4 : g 204 e = σ (150 + e) := by rw [g0 _ (by decide), o2 _ (by decide) (by decide)]; exact hR.b he'
      have r5 : g 205 e = σ (190 + e) := by rw [g0 _ (by decide), o2 _ (by decide) (by decide)]; exact hR.h he'
      refine at_of (n := 40) rfl rfl (by omega) (at_of (n := 40) rfl rfl (by omega) (at_of (n := 40) rfl rfl (by omega) ?_))
      rw [r3, r4, r5]
      refine add_of (n := 196) rfl (i := 14 * (σ (110 + e)).toNat + (σ (150 + e)).toNat) (by omega) (by omega) (fun I8 e8 => ?_)
      refine at_of (n := 40) rfl rfl (by omega) ?_
      have q8 : I8 205 = g 205 := by rw [e8, up2_key (by decide)]
      rw [q8, r5]
      refine add_of (n := 196) rfl (i := 14 * (σ (150 + e)).toNat + (σ (110 + e)).toNat) (by omega) (by omega) (fun I10 e10 => ?_)
      have w8 : I8 129 = updr (g 129) (14 * (σ (110 + e)).toNat + (σ (150 + e)).toNat) (g 129 (14 * (σ (110 + e)).toNat + (σ (150 + e)).toNat) + σ (190 + e)) := by rw [e8, up2_row]
      have w10 : I10 129 = updr (I8 129) (14 * (σ (150 + e)).toNat + (σ (110 + e)).toNat) (I8 129 (14 * (σ (150 + e)).toNat + (σ (110 + e)).toNat) + σ (190 + e)) := by rw [e10, up2_row]
      refine kk he' I10 ⟨fun q hq => by rw [e10, up2_key hq, e8, up2_key hq]; exact g0 q hq, fun u v hu hv => ?_, fun S => ?_⟩
      · have h1 := g1 u v hu hv
        rw [w10]
        by_cases q1 : 14 * u + v = 14 * (σ (150 + e)).toNat + (σ (110 + e)).toNat
        · rw [q1, updr_self, w8, updr_ne (by omega), ← q1]; omega
        · rw [updr_ne q1, w8]
          by_cases q2 : 14 * u + v = 14 * (σ (110 + e)).toNat + (σ (150 + e)).toNat
          · rw [q2, updr_self, ← q2]; omega
          · rw [updr_ne q2]; omega
      · rw [w10, crs_upd (by omega) (by omega) (by omega), w8, crs_upd (by omega) (by omega) (by omega), g2, outZ_succ']
        cases S.testBit (σ (110 + e)).toNat <;> cases S.testBit (σ (150 + e)).toNat <;> simp
  · rw [crs_zero (fun u v hu hv _ _ => z2 u v (by omega) (by omega))]; rfl
theorem c_findWay {a b n : Nat} {x y : Int} (hn : n ≤ 14) (hx : x = (a : Int)) (ha : a < n) (hy : y = (b : Int)) (hb : b < n) (h3 : I 128 3 = (n : Int)) (hf : ∀ u v, u < n → v < n → 0 ≤ I 129 (14 * u + v) ∧ I 129 (14 * u + v) ≤ 8000) : wp_X1_findWay x y I J (fun r I' _ => ∃ s c, I' 128 5 = ((s : Nat) : Int) ∧ BF n a (I 129) s c (I' 130) (I' 131) ∧ CLS n (I 129) s ∧ Bo r (s.testBit b = true)) := by
  subst hx hy
  have pa := pow14 (v := a) (by omega)
  intro I1 e1
  rw [shlT1 (by omega)] at e1
  refine put_of (n := 14) rfl (i := 0) rfl (by omega) (fun I2 e2 => ?_)
  have o2 : ∀ q, q ≠ 128 → q ≠ 130 → I2 q = I q := fun q h1 h2 => by rw [e2, up2_key h2, e1, up2_key h1]
  have p2 : ∀ i, i ≠ 5 → I2 128 i = I 128 i := fun i hi => by rw [e2, up2_key (by decide), e1, up2_ne (by omega)]
  -- the outer loop's state: the store, the set, how many
  have body : ∀ (g : Ii), (∀ q, q ≠ 128 → q ≠ 130 → q ≠ 131 → g q = I q) → (∀ i, i ≠ 5 → g 128 i = I 128 i) → g 129 = I 129 := fun g h1 _ => h1 129 (by decide) (by decide) (by decide)
  refine ⟨15, ?_⟩
  have start : BF n a (I 129) (2 ^ a) 1 (I2 130) (I2 131) := BF_one ha _ (by rw [e2, up2_self])
  refine loopN (L := fun m (t : Ii × Nat × Nat) v => L_X1_findWay_21 (a : Int) (b : Int) _ m (t.2.2 : Int) v t.1 J) (fun i t => (∀ q, q ≠ 128 → q ≠ 130 → q ≠ 131 → t.1 q = I q) ∧ (∀ i, i ≠ 5 → t.1 128 i = I 128 i) ∧ t.1 128 5 = (t.2.1 : Int) ∧ BF n a (I 129) t.2.1 t.2.2 (t.1 130) (t.1 131) ∧ i ≤ t.2.2 ∧ ∀ j, j < i → ∀ v, v < n → t.2.1.testBit v = false → I 129 (14 * (t.1 130 j).toNat + v) ≤ 0) (N := 14) (fun m i t hi ht kk => ?_) 15 0 (I2, 2 ^ a, 1) (by omega) (by omega) ⟨fun q h1 h2 _ => o2 q h1 h2, p2, by show I2 128 5 = _; rw [e2, up2_key (by decide), e1, up2_self], start, by omega, fun j hj => by omega⟩
  obtain ⟨t0, t1, t2, tB, tc, tP⟩ := ht
  obtain ⟨g, s, c⟩ := t
  dsimp only at t0 t1 t2 tB tc tP kk ⊢
  have hcn := tB.c
  refine ls_X1_findWay_21 ?_
  generalize hr : L_X1_findWay_21 (a : Int) (b : Int) _ m = r at kk ⊢
  have s14 : s < 16384 := by
    have h4 := tB.2.2.2.1
    have : 2 ^ n ≤ 2 ^ 14 := Nat.pow_le_pow_right (by decide) hn
    omega
  have fin : c ≤ i → B_X1_findWay_136 (a : Int) (b : Int) (fun r I' _ => ∃ s c, I' 128 5 = ((s : Nat) : Int) ∧ BF n a (I 129) s c (I' 130) (I' 131) ∧ CLS n (I 129) s ∧ Bo r (s.testBit b = true)) g J := by
    intro hci
    have cls : CLS n (I 129) s := fun u v hu hv h1 h2 => by
      obtain ⟨j, hj, ej⟩ := tB.2.2.2.2.2.1 u h1
      have := tP j (by omega) v hv h2
      rw [ej] at this
      exact this
    unfold B_X1_findWay_136
    exact isIn_of t2 rfl (by omega) (by omega) (fun d => ⟨Or.inr rfl, s, c, t2, tB, cls, Bo.one d⟩) (fun d => ⟨Or.inl rfl, s, c, t2, tB, cls, Bo.zero (by rw [d]; decide)⟩)
  unfold Lb_X1_findWay_21
  refine ⟨rgK (by omega), rgK (by omega), fun d => fin (by omega), fun d => ⟨fun d2 => fin (by omega), fun d2 => ?_⟩⟩
  have hic : i < c := by omega
  refine at_of (n := 14) rfl rfl (by omega) ?_
  have hq := tB.2.2.2.2.1 i hic
  generalize hQi : (g 130 i).toNat = Qi
  have eQi : g 130 i = (Qi : Int) := by omega
  have hQn : Qi < n := by omega
  rw [eQi]
  refine ⟨15, loopN (L := fun m2 (t : Ii × Nat × Nat) w => L_X1_findWay_48 (a : Int) (b : Int) _ r m2 (t.2.2 : Int) (i : Int) (Qi : Int) w t.1 J) (fun w t => (∀ q, q ≠ 128 → q ≠ 130 → q ≠ 131 → t.1 q = I q) ∧ (∀ i, i ≠ 5 → t.1 128 i = I 128 i) ∧ t.1 128 5 = (t.2.1 : Int) ∧ BF n a (I 129) t.2.1 t.2.2 (t.1 130) (t.1 131) ∧ i < t.2.2 ∧ t.1 130 i = (Qi : Int) ∧ (∀ j, j < i → ∀ v, v < n → t.2.1.testBit v = false → I 129 (14 * (t.1 130 j).toNat + v) ≤ 0) ∧ ∀ v, v < w → t.2.1.testBit v = false → I 129 (14 * Qi + v) ≤ 0) (N := n) (fun m2 w t hw ht k2 => ?_) 15 0 (g, s, c) (by omega) (by omega) ⟨t0, t1, t2, tB, hic, eQi, tP, fun v hv => by omega⟩⟩
  obtain ⟨u0, u1, u2, uB, uc, uQ, uP, uW⟩ := ht
  obtain ⟨g2, s2, c2⟩ := t
  dsimp only at u0 u1 u2 uB uc uQ uP uW k2 ⊢
  have hcn2 := uB.c
  have s24 : s2 < 16384 := by
    have h4 := uB.2.2.2.1
    have : 2 ^ n ≤ 2 ^ 14 := Nat.pow_le_pow_right (by decide) hn
    omega
  have v3 : g2 128 3 = (n : Int) := by rw [u1 3 (by decide)]; exact h3
  have r9 : g2 129 = I 129 := u0 129 (by decide) (by decide) (by decide)
  refine ls_X1_findWay_48 ?_
  generalize hr2 : L_X1_findWay_48 (a : Int) (b : Int) _ r m2 = r2 at k2 ⊢
  unfold Lb_X1_findWay_48
  refine ⟨rgK (by omega), rgK (by omega), fun z => ?_, fun z => ?_⟩
  · have hwn : w = n := by omega
    refine kk (by omega) (g2, s2, c2) ⟨u0, u1, u2, uB, by show i + 1 ≤ c2; omega, fun j hj v hv hs => ?_⟩
    by_cases q : j = i
    · rw [q]
      show I 129 (14 * (g2 130 i).toNat + v) ≤ 0
      rw [uQ]
      show I 129 (14 * ((Qi : Int)).toNat + v) ≤ 0
      exact uW v (by omega) hs
    · exact uP j (by omega) v hv hs
  · have hwn : w < n := by omega
    refine isIn_of u2 rfl (by omega) (by omega) (fun d3 => ⟨fun _ => k2 hwn (g2, s2, c2) ⟨u0, u1, u2, uB, uc, uQ, uP, fun v hv hs => ?_⟩, fun y => absurd y (by decide)⟩) (fun d3 => ⟨fun y => absurd rfl y, fun _ => ?_⟩)
    · by_cases q : v = w
      · rw [q] at hs
        have hs : s2.testBit w = false := hs
        rw [d3] at hs; cases hs
      · exact uW v (by omega) hs
    · refine at_of (n := 196) rfl (i := 14 * Qi + w) (by omega) (by omega) ?_
      have hfb := hf Qi w hQn hwn
      rw [r9]
      refine ⟨rgK (by omega), fun d4 => k2 hwn (g2, s2, c2) ⟨u0, u1, u2, uB, uc, uQ, uP, fun v hv hs => ?_⟩, fun d4 I12 e12 => ?_⟩
      · by_cases q : v = w
        · rw [q]; exact d4
        · exact uW v (by omega) hs
      · have pw := pow14 (v := w) (by omega)
        have po := or14 s24 pw
        rw [u2, shlT1 (by omega), orZ_nat (by omega) (by omega)] at e12
        have hB2 := BF_ins uB uc hwn d3 (by rw [uQ]; show 0 < I 129 (14 * ((Qi : Int)).toNat + w); rw [show ((Qi : Int)).toNat = Qi from rfl]; omega)
        have hc3 := hB2.c
        refine put_of (n := 14) rfl rfl (by omega) (fun I13 e13 => put_of (n := 14) rfl rfl (by omega) (fun I14 e14 => ?_))
        have f130 : I14 130 = updr (g2 130) c2 (w : Int) := by rw [e14, up2_row, e13, up2_key (by decide), e12, up2_key (by decide)]
        have f131 : I14 131 = updr (g2 131) w (g2 130 i) := by rw [e14, up2_key (by decide), e13, up2_row, e12, up2_key (by decide), uQ]
        have bo : ∀ v, (s2 ||| 2 ^ w).testBit v = false → s2.testBit v = false ∧ v ≠ w := fun v hv => by
          rw [Nat.testBit_or, Nat.testBit_two_pow, Bool.or_eq_false_iff] at hv
          exact ⟨hv.1, fun q => by have := of_decide_eq_false hv.2; omega⟩
        have := k2 hwn (I14, s2 ||| 2 ^ w, c2 + 1) ⟨fun q h1 h2 h3 => ?_, fun j hj => ?_, ?_, ?_, ?_, ?_, fun j hj v hv hs => ?_, fun v hv hs => ?_⟩
        · rwa [show (((c2 + 1 : Nat)) : Int) = (c2 : Int) + 1 by omega] at this
        · show I14 q = I q
          rw [e14, up2_key h2, e13, up2_key h3, e12, up2_key h1]; exact u0 q h1 h2 h3
        · show I14 128 j = I 128 j
          rw [e14, up2_key (by decide), e13, up2_key (by decide), e12, up2_ne (by omega)]; exact u1 j hj
        · show I14 128 5 = _
          rw [e14, up2_key (by decide), e13, up2_key (by decide), e12, up2_self]
        · show BF n a (I 129) (s2 ||| 2 ^ w) (c2 + 1) (I14 130) (I14 131)
          rw [f130, f131]; exact hB2
        · show i < c2 + 1
          omega
        · show I14 130 i = _
          rw [f130, updr_ne (by omega)]; exact uQ
        · show I 129 (14 * (I14 130 j).toNat + v) ≤ 0
          rw [f130, updr_ne (by omega)]; exact uP j hj v hv (bo v hs).1
        · have := bo v hs
          exact uW v (by omega) this.1
theorem c_useWay {a b n m : Nat} {w : Nat → Nat} {x y : Int} (hn : n ≤ 14) (hx : x = (a : Int)) (hy : y = (b : Int)) (hW : WY n a b (I 129) (I 131) m w) (hf : ∀ u v, u < n → v < n → 0 ≤ I 129 (14 * u + v)) (hs : ∀ u v, u < n → v < n → I 129 (14 * u + v) + I 129 (14 * v + u) ≤ 8000) :
    wp_X1_useWay x y I J (fun r I' _ => 0 < r ∧ r ≤ 1000000 ∧ (∀ u v, u < n → v < n → 0 ≤ I' 129 (14 * u + v)) ∧ (∀ u v, u < n → v < n → I' 129 (14 * u + v) + I' 129 (14 * v + u) ≤ 8000) ∧ ∀ S : Nat, crs n (I' 129) S = crs n (I 129) S - (if S.testBit a = true then r else 0) + (if S.testBit b = true then r else 0)) := by
  subst hx hy
  obtain ⟨hm, w0, wm, wn, wi, wk⟩ := hW
  have second : ∀ r : Int, 0 < r → r ≤ 1000000 → (∀ k, k < m → r ≤ I 129 (14 * w (k + 1) + w k)) → ∃ n' : Nat, L_X1_useWay_72 (a : Int) (b : Int) (fun r I' _ => 0 < r ∧ r ≤ 1000000 ∧ (∀ u v, u < n → v < n → 0 ≤ I' 129 (14 * u + v)) ∧ (∀ u v, u < n → v < n → I' 129 (14 * u + v) + I' 129 (14 * v + u) ≤ 8000) ∧ ∀ S : Nat, crs n (I' 129) S = crs n (I 129) S - (if S.testBit a = true then r else 0) + (if S.testBit b = true then r else 0)) n' r (b : Int) 0 I J := by
    intro r r0 r1 rk
    have hb : (b : Int) = (w 0 : Int) := by rw [w0]
    rw [hb]
    refine ⟨15, loopN (L := fun n' (t : Ii × Nat) k => L_X1_useWay_72 (a : Int) ((w 0 : Nat) : Int) _ n' r (t.2 : Int) k t.1 J) (fun k t => t.2 = w k ∧ t.1 131 = I 131 ∧ (∀ u v, u < n → v < n → 0 ≤ t.1 129 (14 * u + v)) ∧ (∀ u v, u < n → v < n → t.1 129 (14 * u + v) + t.1 129 (14 * v + u) ≤ 8000) ∧ (∀ j, k ≤ j → j < m → r ≤ t.1 129 (14 * w (j + 1) + w j)) ∧ ∀ S : Nat, crs n (t.1 129) S = crs n (I 129) S - (if S.testBit (w k) = true then r else 0) + (if S.testBit b = true then r else 0)) (N := m) (fun n' k t hk ht kk => ?_) 15 0 (I, w 0) (by omega) (by omega) ⟨rfl, rfl, hf, hs, fun j _ hj => rk j hj, fun S => by show crs n (I 129) S = _; rw [w0]; omega⟩⟩
    obtain ⟨g, z⟩ := t
    obtain ⟨t0, t1, t2, t3, t4, t5⟩ := ht
    dsimp only at t0 t1 t2 t3 t4 t5 kk ⊢
    subst t0
    refine ls_X1_useWay_72 ?_
    generalize hr2 : L_X1_useWay_72 (a : Int) ((w 0 : Nat) : Int) _ n' = r2 at kk ⊢
    unfold Lb_X1_useWay_72
    have hwk := wn k hk
    have an : a < n := by rw [← wm]; exact wn m (Nat.le_refl _)
    refine ⟨rgK (by omega), fun c => by omega, fun c => ⟨rgK (by omega), rgK (by omega), fun d => ?_, fun d => ?_⟩⟩
    · have hkm : k = m := wi k m hk (Nat.le_refl _) (by rw [wm]; omega)
      refine ⟨r0, r1, t2, t3, fun S => ?_⟩
      have := t5 S
      rw [hkm, wm] at this
      exact this
    · have hkm : k < m := by
        by_cases q : k = m
        · exact absurd (by rw [q, wm]) d
        · omega
      have hk1 := wk k hkm
      have hwk1 := wn (k + 1) (by omega)
      have hne : w (k + 1) ≠ w k := fun e => by have := wi (k + 1) k (by omega) hk e; omega
      refine at_of (n := 14) rfl rfl (by omega) ?_
      rw [t1, hk1.1]
      refine add_of (n := 196) rfl (i := 14 * w (k + 1) + w k) (by omega) (by omega) (fun I12 e12 => ?_)
      refine at_of (n := 14) rfl rfl (by omega) ?_
      have q12 : I12 131 = I 131 := by rw [e12, up2_key (by decide)]; exact t1
      rw [q12, hk1.1]
      refine add_of (n := 196) rfl (i := 14 * w k + w (k + 1)) (by omega) (by omega) (fun I14 e14 => ?_)
      refine at_of (n := 14) rfl rfl (by omega) ?_
      have q14 : I14 131 = I 131 := by rw [e14, up2_key (by decide)]; exact q12
      rw [q14, hk1.1]
      have f12 : I12 129 = updr (g 129) (14 * w (k + 1) + w k) (g 129 (14 * w (k + 1) + w k) + -r) := by rw [e12, up2_row]
      have f14 : I14 129 = updr (I12 129) (14 * w k + w (k + 1)) (I12 129 (14 * w k + w (k + 1)) + r) := by rw [e14, up2_row]
      have val : ∀ u v, u < n → v < n → I14 129 (14 * u + v) = g 129 (14 * u + v) + (if u = w k ∧ v = w (k + 1) then r else 0) - (if u = w (k + 1) ∧ v = w k then r else 0) := fun u v hu hv => by
        rw [f14]
        by_cases p1 : u = w k ∧ v = w (k + 1)
        · rw [if_pos p1, if_neg (by omega), p1.1, p1.2, updr_self, f12, updr_ne (by omega)]; omega
        · rw [if_neg p1, updr_ne (by omega), f12]
          by_cases p2 : u = w (k + 1) ∧ v = w k
          · rw [if_pos p2, p2.1, p2.2, updr_self]; omega
          · rw [if_neg p2, updr_ne (by omega)]; omega
      have rr := t4 k (Nat.le_refl _) hkm
      refine kk hkm (I14, w (k + 1)) ⟨rfl, q14, fun u v hu hv => ?_, fun u v hu hv => ?_, fun j hj hjm => ?_, fun S => ?_⟩
      · show 0 ≤ I14 129 (14 * u + v)
        rw [val u v hu hv]
        have := t2 u v hu hv
        by_cases p2 : u = w (k + 1) ∧ v = w k
        · rw [if_pos p2, if_neg (by omega), p2.1, p2.2]; omega
        · rw [if_neg p2]; split <;> omega
      · show I14 129 (14 * u + v) + I14 129 (14 * v + u) ≤ 8000
        rw [val u v hu hv, val v u hv hu]
        have := t3 u v hu hv
        by_cases p1 : u = w k ∧ v = w (k + 1)
        · rw [if_pos p1, if_neg (by omega), if_neg (c := v = w k ∧ u = w (k + 1)) (by omega), if_pos (by omega)]; omega
        · by_cases p2 : u = w (k + 1) ∧ v = w k
          · rw [if_neg p1, if_pos p2, if_pos (by omega), if_neg (by omega)]; omega
          · rw [if_neg p1, if_neg p2, if_neg (by omega), if_neg (by omega)]; omega
      · show r ≤ I14 129 (14 * w (j + 1) + w j)
        have h1 := wn j (by omega)
        have h2 := wn (j + 1) (by omega)
        rw [val _ _ h2 h1]
        have := t4 j (by omega) hjm
        have ne : ¬ (w (j + 1) = w (k + 1) ∧ w j = w k) := fun z => by have := wi j k (by omega) (by omega) z.2; omega
        rw [if_neg ne]; split <;> omega
      · show crs n (I14 129) S = _
        rw [f14, crs_upd hn hwk hwk1, f12, crs_upd hn hwk1 hwk, t5 S]
        cases S.testBit (w k) <;> cases S.testBit (w (k + 1)) <;> simp <;> omega
  unfold wp_X1_useWay
  have hb : (b : Int) = (w 0 : Int) := by rw [w0]
  have hloop := loopN (L := fun n' (t : Int × Nat) k => L_X1_useWay_9 (a : Int) (b : Int) (fun r I' _ => 0 < r ∧ r ≤ 1000000 ∧ (∀ u v, u < n → v < n → 0 ≤ I' 129 (14 * u + v)) ∧ (∀ u v, u < n → v < n → I' 129 (14 * u + v) + I' 129 (14 * v + u) ≤ 8000) ∧ ∀ S : Nat, crs n (I' 129) S = crs n (I 129) S - (if S.testBit a = true then r else 0) + (if S.testBit b = true then r else 0)) n' t.1 (t.2 : Int) k I J) (fun k t => t.2 = w k ∧ 0 < t.1 ∧ t.1 ≤ 1000000 ∧ ∀ j, j < k → t.1 ≤ I 129 (14 * w (j + 1) + w j)) (N := m) (fun n' k t hk ht kk => ?_) 15 0 (1000000, b) (by omega) (by omega) ⟨w0.symm, by show (0 : Int) < 1000000; decide, by show (1000000 : Int) ≤ 1000000; decide, fun j hj => by omega⟩
  · exact ⟨15, hloop⟩
  · obtain ⟨r, z⟩ := t
    obtain ⟨t0, t1, t2, t3⟩ := ht
    dsimp only at t0 t1 t2 t3 kk ⊢
    subst t0
    refine ls_X1_useWay_9 ?_
    generalize hr2 : L_X1_useWay_9 (a : Int) (b : Int) _ n' = r2 at kk ⊢
    unfold Lb_X1_useWay_9
    have hwk := wn k hk
    have an : a < n := by rw [← wm]; exact wn m (Nat.le_refl _)
    refine ⟨rgK (by omega), fun c => by omega, fun c => ⟨rgK (by omega), rgK (by omega), fun d => ?_, fun d => ?_⟩⟩
    · have hkm : k = m := wi k m hk (Nat.le_refl _) (by rw [wm]; omega)
      exact second r t1 t2 (fun j hj => t3 j (by omega))
    · have hkm : k < m := by
        by_cases q : k = m
        · exact absurd (by rw [q, wm]) d
        · omega
      have hk1 := wk k hkm
      have hwk1 := wn (k + 1) (by omega)
      have up := hs _ _ hwk1 hwk
      have lo := hf _ _ hwk hwk1
      refine at_of (n := 14) rfl rfl (by omega) ?_
      rw [hk1.1]
      refine at_of (n := 196) rfl (i := 14 * w (k + 1) + w k) (by omega) (by omega) ?_
      refine min_of (rgK (by omega)) (rgK (by omega)) (fun d2 => at_of (n := 14) rfl rfl (by omega) ?_) (fun d2 => at_of (n := 14) rfl rfl (by omega) ?_)
      · rw [hk1.1]
        refine kk hkm (I 129 (14 * w (k + 1) + w k), w (k + 1)) ⟨rfl, hk1.2, by dsimp only; omega, fun j hj => ?_⟩
        by_cases q : j = k
        · rw [q]; exact Int.le_refl _
        · have := t3 j (by omega); dsimp only; omega
      · rw [hk1.1]
        refine kk hkm (r, w (k + 1)) ⟨rfl, t1, t2, fun j hj => ?_⟩
        by_cases q : j = k
        · rw [q]; dsimp only; omega
        · exact t3 j (by omega)
/-- a greatest flow -/
theorem c_run {a b : Nat} {x y : Int} (hV : VS σ) (hR : RG 200 I J σ nm) (hx : x = (a : Int)) (ha : a < (σ 0).toNat) (hy : y = (b : Int)) (hb : b < (σ 0).toNat) (hab : a ≠ b) : wp_X1_run 200 x y I J (fun I' _ => ∃ T s, I' 128 4 = T ∧ I' 128 5 = ((s : Nat) : Int) ∧ FLW σ a b T s) := by
  have b0 := ms_0 hV.M
  refine ⟨gK200, fr_X1_fillRooms (c_fillRooms (a := a) (b := b) hV hR) (fun I1 J1 h1 s1 I2 e2 => ?_)⟩
  refine ⟨3962, loopN (L := fun m (t : Ii × Jj) v => L_X1_run_13 200 x y _ m v t.1 t.2) (fun k t => t.1 128 3 = σ 0 ∧ RO σ a b (t.1 129) (t.1 128 4) ∧ (k : Int) ≤ t.1 128 4) (N := 3961) (fun m k t hk ht kk => ?_) 3962 0 (I2, J1) (by omega) (by omega) ⟨?_, ?_, ?_⟩⟩
  · obtain ⟨g, gJ⟩ := t
    obtain ⟨t0, t1, t2⟩ := ht
    dsimp only at t0 t1 t2 kk ⊢
    have tT := t1.T hV.M hab
    refine ls_X1_run_13 ?_
    generalize hr : L_X1_run_13 200 x y _ m = r at kk ⊢
    unfold Lb_X1_run_13
    have hf : ∀ u v, u < (σ 0).toNat → v < (σ 0).toNat → 0 ≤ g 129 (14 * u + v) ∧ g 129 (14 * u + v) ≤ 8000 := fun u v hu hv => by
      have := t1.1 u v hu hv
      have := t1.1 v u hv hu
      have := t1.2.1 u v hu hv
      omega
    refine ⟨rgK (by omega), fun c => by omega, fun c => fr_X1_findWay (c_findWay (n := (σ 0).toNat) (by omega) hx ha hy hb (by omega) hf) (fun v I4 J4 h4 s4 => ?_)⟩
    obtain ⟨s, cc, h5, hB, hC, hbo⟩ := h4
    have r4 : I4 129 = g 129 := s4.k
    have i4 : I4 128 4 = g 128 4 := s4.i
    have i3 : I4 128 3 = g 128 3 := s4.i
    refine bo0 hbo (fun d => ?_) (fun d => ?_)
    · have hF := FLW_of t1 hB hC (by cases q : s.testBit b; rfl; exact absurd q d)
      exact ⟨g 128 4, s, i4, h5, hF⟩
    · obtain ⟨mm, w, hw⟩ := BF_way (by omega) hB d
      rw [← r4] at hw
      refine fr_X1_useWay (c_useWay (n := (σ 0).toNat) (by omega) hx hy hw (fun u v hu hv => by rw [r4]; exact t1.1 u v hu hv) (fun u v hu hv => by rw [r4]; exact t1.2.1 u v hu hv)) (fun rr I5 J5 h6 s5 I6 e6 => ?_)
      obtain ⟨g1, g2, g3, g4, g5⟩ := h6
      have p4 : I6 128 4 = g 128 4 + rr := by rw [e6, up2_self, i4]
      have p9 : I6 129 = I5 129 := by rw [e6, up2_key (by decide)]
      have p3 : I6 128 3 = σ 0 := by
        have : I5 128 3 = I4 128 3 := s5.i
        rw [e6, up2_ne (by decide), this, i3, t0]
      have hRO : RO σ a b (I6 129) (I6 128 4) := by
        rw [p9, p4]
        refine ⟨g3, g4, by have := t1.2.2.1; omega, fun S q1 q2 => ?_⟩
        rw [g5 S, r4, t1.2.2.2 S q1 q2, if_pos q1, if_neg (by rw [q2]; decide)]; omega
      have tT2 := hRO.T hV.M hab
      have := kk (by omega) (I6, J5) ⟨p3, hRO, by show ((k + 1 : Nat) : Int) ≤ I6 128 4; omega⟩
      exact this
  · show I2 128 3 = σ 0
    rw [e2, up2_ne (by decide)]; exact h1.1
  · show RO σ a b (I2 129) (I2 128 4)
    rw [e2, up2_key (by decide), up2_self]; exact h1.2
  · show ((0 : Nat) : Int) ≤ I2 128 4
    rw [e2, up2_self]; exact Int.le_refl _
end FL
/-! ===== flows, the reference ===== -/
def vld (a b S : Nat) : Prop := S.testBit a = true ∧ S.testBit b = false
/-- what was found among the sets below k -/
def FS (σ : Nat → Int) (a b k : Nat) (x y : Int) : Prop := ((∀ S, S < k → ¬ vld a b S) ∧ x = -1 ∧ y = 0) ∨
  ∃ t : Nat, y = (t : Int) ∧ t < 16384 ∧ 0 ≤ x ∧ (∃ S, S < k ∧ vld a b S ∧ outZ σ S = x) ∧ (∀ S, S < k → vld a b S → x ≤ outZ σ S) ∧ ∀ i, t.testBit i = true ↔ ∀ S, S < k → vld a b S → outZ σ S = x → S.testBit i = true
theorem FS_skip {σ : Nat → Int} {a b k : Nat} {x y : Int} (h : FS σ a b k x y) (hn : ¬ vld a b k) : FS σ a b (k + 1) x y := by
  have up : ∀ S, S < k + 1 → vld a b S → S < k := fun S hS hv => by
    by_cases e : S = k
    · subst e; exact absurd hv hn
    · omega
  rcases h with ⟨h1, h2, h3⟩ | ⟨t, h1, h2, h3, ⟨S, s1, s2, s3⟩, h5, h6⟩
  · exact Or.inl ⟨fun S hS hv => h1 S (up S hS hv) hv, h2, h3⟩
  · refine Or.inr ⟨t, h1, h2, h3, ⟨S, by omega, s2, s3⟩, fun S hS hv => h5 S (up S hS hv) hv, fun i => ⟨fun q S hS hv e => (h6 i).mp q S (up S hS hv) hv e, fun q => (h6 i).mpr (fun S hS hv e => q S (by omega) hv e)⟩⟩
theorem FS_new {σ : Nat → Int} (hM : MS σ) {a b k : Nat} {x y : Int} (h : FS σ a b k x y) (hk : k < 16384) (hv : vld a b k) (hx : x = -1 ∨ outZ σ k < x) : FS σ a b (k + 1) (outZ σ k) (k : Int) := by
  have bo := outZ_b hM k
  have lt : ∀ S, S < k → vld a b S → outZ σ k < outZ σ S := fun S hS hv' => by
    rcases h with ⟨h1, -, -⟩ | ⟨t, h1, h2, h3, -, h5, -⟩
    · exact absurd hv' (h1 S hS)
    · have := h5 S hS hv'
      omega
  refine Or.inr ⟨k, rfl, hk, bo.1, ⟨k, by omega, hv, rfl⟩, fun S hS hv' => ?_, fun i => ⟨fun q S hS hv' e => ?_, fun q => q k (by omega) hv rfl⟩⟩
  · by_cases e : S = k
    · rw [e]; exact Int.le_refl _
    · have := lt S (by omega) hv'; omega
  · by_cases e2 : S = k
    · rw [e2]; exact q
    · have := lt S (by omega) hv'; omega
theorem FS_same {σ : Nat → Int} {a b k t : Nat} {x : Int} (h : FS σ a b k x (t : Int)) (hv : vld a b k) (hx : x ≠ -1) (he : outZ σ k = x) : FS σ a b (k + 1) x ((t &&& k : Nat) : Int) := by
  rcases h with ⟨-, h2, -⟩ | ⟨t', h1, h2, h3, ⟨S, s1, s2, s3⟩, h5, h6⟩
  · exact absurd h2 hx
  · have ht : t = t' := by omega
    subst ht
    refine Or.inr ⟨t &&& k, rfl, Nat.lt_of_le_of_lt Nat.and_le_left h2, h3, ⟨S, by omega, s2, s3⟩, fun S hS hv' => ?_, fun i => ⟨fun q S hS hv' e => ?_, fun q => ?_⟩⟩
    · by_cases e : S = k
      · rw [e, he]; exact Int.le_refl _
      · exact h5 S (by omega) hv'
    · rw [Nat.testBit_and, Bool.and_eq_true] at q
      by_cases e2 : S = k
      · rw [e2]; exact q.2
      · exact (h6 i).mp q.1 S (by omega) hv' e
    · rw [Nat.testBit_and, Bool.and_eq_true]
      exact ⟨(h6 i).mpr (fun S hS hv' e => q S (by omega) hv' e), q k (by omega) hv he⟩
theorem FS_more {σ : Nat → Int} {a b k : Nat} {x y : Int} (h : FS σ a b k x y) (hx : x ≠ -1) (he : x < outZ σ k) : FS σ a b (k + 1) x y := by
  rcases h with ⟨-, h2, -⟩ | ⟨t, h1, h2, h3, ⟨S, s1, s2, s3⟩, h5, h6⟩
  · exact absurd h2 hx
  · refine Or.inr ⟨t, h1, h2, h3, ⟨S, by omega, s2, s3⟩, fun S hS hv' => ?_, fun i => ⟨fun q S hS hv' e => ?_, fun q => (h6 i).mpr (fun S hS hv' e => q S (by omega) hv' e)⟩⟩
    · by_cases e : S = k
      · rw [e]; omega
      · exact h5 S (by omega) hv'
    · by_cases e2 : S = k
      · rw [e2] at e; omega
      · exact (h6 i).mp q S (by omega) hv' e
theorem FS_fin {σ : Nat → Int} {a b : Nat} {x y : Int} {T : Int} {s : Nat} (h : FS σ a b (2 ^ (σ 0).toNat) x y) (hF : FLW σ a b T s) : x = T ∧ y = (s : Int) := by
  obtain ⟨f1, f2, f3, f4, f5⟩ := hF
  rcases h with ⟨h1, -, -⟩ | ⟨t, h1, h2, h3, ⟨S, s1, s2, s3⟩, h5, h6⟩
  · exact absurd ⟨f2, f3⟩ (h1 s f1)
  · have e1 : x = T := by
      have := h5 s f1 ⟨f2, f3⟩
      have := (f5 S s2.1 s2.2).1
      omega
    refine ⟨e1, ?_⟩
    have : t = s := by
      apply Nat.eq_of_testBit_eq
      intro i
      cases c : s.testBit i
      · cases c2 : t.testBit i
        · rfl
        · have := (h6 i).mp c2 s f1 ⟨f2, f3⟩ (by rw [f4, e1])
          rw [c] at this; cases this
      · rw [(h6 i).mpr (fun S hS hv e => (f5 S hv.1 hv.2).2 (by rw [e, e1]) i c)]
    rw [h1, this]
/-- the least flow -/
def LFL (σ : Nat → Int) (r : Int) : Prop := (σ 0 < 2 → r = -1) ∧ (2 ≤ σ 0 → (∃ S : Nat, S % 2 = 1 ∧ S < 2 ^ (σ 0).toNat - 1 ∧ outZ σ S = r) ∧ ∀ S : Nat, S % 2 = 1 → S < 2 ^ (σ 0).toNat - 1 → r ≤ outZ σ S)
theorem LFL_one {σ : Nat → Int} {r q : Int} (h1 : LFL σ r) (h2 : LFL σ q) : r = q := by
  by_cases c : σ 0 < 2
  · rw [h1.1 c, h2.1 c]
  · obtain ⟨⟨S, a1, a2, a3⟩, a4⟩ := h1.2 (by omega)
    obtain ⟨⟨S', b1, b2, b3⟩, b4⟩ := h2.2 (by omega)
    have := a4 S' b1 b2
    have := b4 S a1 a2
    omega
theorem bit0 (S : Nat) : S.testBit 0 = true ↔ S % 2 = 1 := by
  rw [Nat.testBit_eq_decide_div_mod_eq, decide_eq_true_eq, Nat.pow_zero, Nat.div_one]
/-- the least of the flows from vertex 0 to those below v -/
def LL (σ : Nat → Int) (v : Nat) (x : Int) : Prop := (v = 1 ∧ x = -1) ∨ ((∃ S w : Nat, 1 ≤ w ∧ w < v ∧ S < 2 ^ (σ 0).toNat ∧ vld 0 w S ∧ outZ σ S = x) ∧ ∀ S w : Nat, 1 ≤ w → w < v → vld 0 w S → x ≤ outZ σ S)
theorem LL_b {σ : Nat → Int} (hM : MS σ) {v : Nat} {x : Int} (h : LL σ v x) : -1 ≤ x ∧ x ≤ 3960 := by
  rcases h with h | ⟨⟨S, w, h1, h2, h3, h4, h5⟩, -⟩
  · omega
  · have := outZ_b hM S
    rw [h5] at this
    omega
theorem LL_new {σ : Nat → Int} (hM : MS σ) {v s : Nat} {x T : Int} (h : LL σ v x) (hv : 1 ≤ v) (hF : FLW σ 0 v T s) (hx : x = -1 ∨ T < x) : LL σ (v + 1) T := by
  obtain ⟨f1, f2, f3, f4, f5⟩ := hF
  refine Or.inr ⟨⟨s, v, hv, by omega, f1, ⟨f2, f3⟩, f4⟩, fun S w h1 h2 h3 => ?_⟩
  by_cases e : w = v
  · subst e
    exact (f5 S h3.1 h3.2).1
  · rcases h with h | ⟨⟨S2, w2, -, -, -, -, z⟩, h6⟩
    · omega
    · have a1 := h6 S w h1 (by omega) h3
      have a2 := outZ_b hM S2
      rw [z] at a2
      omega
theorem LL_old {σ : Nat → Int} {v s : Nat} {x T : Int} (h : LL σ v x) (hF : FLW σ 0 v T s) (hx : x ≠ -1) (hx2 : x ≤ T) : LL σ (v + 1) x := by
  obtain ⟨f1, f2, f3, f4, f5⟩ := hF
  rcases h with h | ⟨⟨S2, w2, g1, g2, g3, g4, g5⟩, h6⟩
  · exact absurd h.2 hx
  · refine Or.inr ⟨⟨S2, w2, g1, by omega, g3, g4, g5⟩, fun S w h1 h2 h3 => ?_⟩
    by_cases e : w = v
    · subst e
      have := (f5 S h3.1 h3.2).1
      omega
    · exact h6 S w h1 (by omega) h3
theorem LL_fin {σ : Nat → Int} {v : Nat} {x : Int} (h : LL σ v x) (hv : v = 1 ∨ (v : Int) ≤ σ 0) (hv2 : σ 0 ≤ (v : Int)) : LFL σ x := by
  refine ⟨fun z => ?_, fun z => ?_⟩
  · rcases h with h | ⟨⟨S, w, h1, h2, -, -, -⟩, -⟩
    · exact h.2
    · omega
  · have hvn : v = (σ 0).toNat := by omega
    rcases h with h | ⟨⟨S, w, h1, h2, h3, h4, h5⟩, h6⟩
    · omega
    · refine ⟨⟨S, (bit0 S).mp h4.1, ?_, h5⟩, fun S q1 q2 => ?_⟩
      · by_cases e : S = 2 ^ (σ 0).toNat - 1
        · have q := h4.2
          rw [e, Nat.testBit_two_pow_sub_one] at q
          have := of_decide_eq_false q
          omega
        · omega
      · have hex : ∃ w, w < (σ 0).toNat ∧ S.testBit w = false := by
          apply Classical.byContradiction
          intro hno
          have : S = 2 ^ (σ 0).toNat - 1 := by
            apply Nat.eq_of_testBit_eq
            intro i
            rw [Nat.testBit_two_pow_sub_one]
            by_cases hi : i < (σ 0).toNat
            · cases c : S.testBit i
              · exact absurd ⟨i, hi, c⟩ hno
              · simp [hi]
            · have : S < 2 ^ i := Nat.lt_of_lt_of_le (by omega : S < 2 ^ (σ 0).toNat) (Nat.pow_le_pow_right (by decide) (by omega))
              rw [Nat.testBit_lt_two_pow this]
              simp [hi]
          omega
        obtain ⟨w, w1, w2⟩ := hex
        have w0 : w ≠ 0 := fun e => by rw [e, (bit0 S).mpr q1] at w2; cases w2
        exact h6 S w (by omega) (by omega) ⟨(bit0 S).mpr q1, w2⟩
section CL
variable {I : Ii} {J : Jj} {σ : Nat → Int} {nm : Nat → Int64}
theorem c_leastFlow (hV : VS σ) (hR : RG 200 I J σ nm) : wp_X11_leastFlow I J (fun r _ _ => LFL σ r) := by
  have b0 := ms_0 hV.M
  refine ⟨16, loopN (L := fun m (t : Int × Ii × Jj) v => L_X11_leastFlow_4 _ m t.1 v t.2.1 t.2.2) (fun v t => (1 ≤ v ∧ (v = 1 ∨ (v : Int) ≤ σ 0)) ∧ RG 200 t.2.1 t.2.2 σ nm ∧ LL σ v t.1) (N := (σ 0).toNat + 1) (fun m v t hv ht kk => ?_) 16 1 (-1, I, J) (by omega) (by omega) ⟨⟨by omega, Or.inl rfl⟩, hR, Or.inl ⟨rfl, rfl⟩⟩⟩
  obtain ⟨x, g, gJ⟩ := t
  obtain ⟨t1, t2, t3⟩ := ht
  dsimp only at t2 t3 kk ⊢
  have hn := t2.n
  have bx := LL_b hV.M t3
  refine ls_X11_leastFlow_4 ?_
  generalize hr : L_X11_leastFlow_4 _ m = r at kk ⊢
  unfold Lb_X11_leastFlow_4
  refine ⟨rgK (by omega), rgK (by omega), fun c => LL_fin t3 t1.2 (by omega), fun c => ?_⟩
  refine fr_X1_run (c_run (a := 0) (b := v) hV t2 rfl (by omega) rfl (by omega) (by omega)) (fun I3 J3 h3 s3 => ?_)
  obtain ⟨T, s, q4, q5, hF⟩ := h3
  have bT := outZ_b hV.M s
  rw [hF.2.2.2.1] at bT
  have R3 : RG 200 I3 J3 σ nm := t2.fr s3
  rw [q4]
  have hv1 : 1 ≤ v + 1 ∧ (v + 1 = 1 ∨ ((v + 1 : Nat) : Int) ≤ σ 0) := by omega
  exact ⟨rgK (by omega), fun d => kk (by omega) (T, I3, J3) ⟨hv1, R3, LL_new hV.M t3 t1.1 hF (Or.inl d)⟩, fun d => ⟨rgK (by omega), fun d2 => kk (by omega) (x, I3, J3) ⟨hv1, R3, LL_old t3 hF d d2⟩, fun d2 => kk (by omega) (T, I3, J3) ⟨hv1, R3, LL_new hV.M t3 t1.1 hF (Or.inr (by omega))⟩⟩⟩
end CL
/-! ===== the best sharing: the mathematics ===== -/
/-- a part's weight in a sharing of the first m groups -/
def bwZ (σ : Nat → Int) (c : Nat → Nat) (q m : Nat) : Int := sm (fun g => if c g = q then gW σ (g : Int) else 0) m
/-- its debts, its cut -/
def bdZ (σ : Nat → Int) (c : Nat → Nat) : Int := sm (fun q => pos (bwZ σ c q (grs σ).toNat - limZ σ)) (σ 2).toNat
def bkZ (σ : Nat → Int) (c : Nat → Nat) : Int := sm (fun g => sm (fun h => if c g = c h then 0 else joinZ σ (g : Int) (h : Int)) g) (grs σ).toNat
/-- one sharing is better than another -/
def klt (σ : Nat → Int) (c d : Nat → Nat) : Prop := bdZ σ c < bdZ σ d ∨ (bdZ σ c = bdZ σ d ∧ bkZ σ c < bkZ σ d)
def lxl (n : Nat) (c d : Nat → Nat) : Prop := ∃ g, g < n ∧ (∀ i, i < g → c i = d i) ∧ c g < d g
/-- the first of the best ones -/
def FB (σ : Nat → Int) (c : Nat → Nat) : Prop := (∀ g, g < (grs σ).toNat → c g < (σ 2).toNat) ∧ ∀ d : Nat → Nat, (∀ g, g < (grs σ).toNat → d g < (σ 2).toNat) → ¬ klt σ d c ∧ (lxl (grs σ).toNat d c → klt σ c d)
theorem sm_congN {f g : Nat → Int} {n : Nat} (h : ∀ k, k < n → f k = g k) : sm f n = sm g n := sm_cong h
theorem bwZ_cong {σ : Nat → Int} {c d : Nat → Nat} {q m : Nat} (h : ∀ g, g < m → c g = d g) : bwZ σ c q m = bwZ σ d q m := by
  unfold bwZ
  exact sm_cong (fun g hg => by rw [h g hg])
theorem bdZ_cong {σ : Nat → Int} {c d : Nat → Nat} (h : ∀ g, g < (grs σ).toNat → c g = d g) : bdZ σ c = bdZ σ d := by
  unfold bdZ
  exact sm_cong (fun q _ => by rw [bwZ_cong h])
theorem bkZ_cong {σ : Nat → Int} {c d : Nat → Nat} (h : ∀ g, g < (grs σ).toNat → c g = d g) : bkZ σ c = bkZ σ d := by
  unfold bkZ
  exact sm_cong (fun g hg => sm_cong (fun k hk => by rw [h g hg, h k (by omega)]))
theorem lxl_tri (n : Nat) (c d : Nat → Nat) : lxl n c d ∨ lxl n d c ∨ ∀ g, g < n → c g = d g := by
  induction n with
  | zero => exact Or.inr (Or.inr (fun g hg => by omega))
  | succ n ih =>
    rcases ih with ⟨g, h1, h2, h3⟩ | ⟨g, h1, h2, h3⟩ | h
    · exact Or.inl ⟨g, by omega, h2, h3⟩
    · exact Or.inr (Or.inl ⟨g, by omega, h2, h3⟩)
    · rcases Nat.lt_trichotomy (c n) (d n) with q | q | q
      · exact Or.inl ⟨n, by omega, h, q⟩
      · refine Or.inr (Or.inr (fun g hg => ?_))
        by_cases e : g = n
        · rw [e]; exact q
        · exact h g (by omega)
      · exact Or.inr (Or.inl ⟨n, by omega, fun i hi => (h i hi).symm, q⟩)
theorem lxl_asym {n : Nat} {c d : Nat → Nat} (h1 : lxl n c d) (h2 : lxl n d c) : False := by
  obtain ⟨g, a1, a2, a3⟩ := h1
  obtain ⟨k, b1, b2, b3⟩ := h2
  rcases Nat.lt_trichotomy g k with q | q | q
  · have := b2 g q; omega
  · subst q; omega
  · have := a2 k q; omega
theorem lxl_trans {n : Nat} {c d e : Nat → Nat} (h1 : lxl n c d) (h2 : lxl n d e) : lxl n c e := by
  obtain ⟨g, a1, a2, a3⟩ := h1
  obtain ⟨k, b1, b2, b3⟩ := h2
  rcases Nat.lt_trichotomy g k with q | q | q
  · exact ⟨g, a1, fun i hi => by rw [a2 i hi, b2 i (by omega)], by rw [← b2 g q]; exact a3⟩
  · subst q
    exact ⟨g, a1, fun i hi => by rw [a2 i hi, b2 i hi], by omega⟩
  · exact ⟨k, b1, fun i hi => by rw [a2 i (by omega), b2 i hi], by rw [a2 k q]; exact b3⟩
theorem lxl_congl {n : Nat} {c c' d : Nat → Nat} (h : ∀ g, g < n → c g = c' g) (h1 : lxl n c d) : lxl n c' d := by
  obtain ⟨g, a1, a2, a3⟩ := h1
  exact ⟨g, a1, fun i hi => by rw [← h i (by omega)]; exact a2 i hi, by rw [← h g a1]; exact a3⟩
theorem lxl_congr {n : Nat} {c d d' : Nat → Nat} (h : ∀ g, g < n → d g = d' g) (h1 : lxl n c d) : lxl n c d' := by
  obtain ⟨g, a1, a2, a3⟩ := h1
  exact ⟨g, a1, fun i hi => by rw [← h i (by omega)]; exact a2 i hi, by rw [← h g a1]; exact a3⟩
theorem FB_one {σ : Nat → Int} {c d : Nat → Nat} (h1 : FB σ c) (h2 : FB σ d) : (∀ g, g < (grs σ).toNat → c g = d g) ∧ bdZ σ c = bdZ σ d ∧ bkZ σ c = bkZ σ d := by
  have e : ∀ g, g < (grs σ).toNat → c g = d g := by
    rcases lxl_tri (grs σ).toNat c d with h | h | h
    · exact absurd ((h2.2 c h1.1).2 h) (h1.2 d h2.1).1
    · exact absurd ((h1.2 d h2.1).2 h) (h2.2 c h1.1).1
    · exact h
  exact ⟨e, bdZ_cong e, bkZ_cong e⟩
/-- the digits of a number, the highest first -/
def dg (p : Nat) : Nat → Nat → Nat → Nat
  | 0, _, _ => 0
  | n + 1, k, g => if g = n then k % p else dg p n (k / p) g
theorem dg_succ (p n k g : Nat) : dg p (n + 1) k g = if g = n then k % p else dg p n (k / p) g := rfl
theorem dg_lt {p : Nat} (hp : 0 < p) : ∀ (n k g : Nat), dg p n k g < p
  | 0, _, _ => hp
  | n + 1, k, g => by
    rw [dg_succ]
    split
    · exact Nat.mod_lt _ hp
    · exact dg_lt hp n _ g
theorem dg_lex {p : Nat} (hp : 0 < p) : ∀ (n i j : Nat), i < j → j < p ^ n → lxl n (dg p n i) (dg p n j)
  | 0, i, j, h1, h2 => by rw [Nat.pow_zero] at h2; omega
  | n + 1, i, j, h1, h2 => by
    have hd : i / p ≤ j / p := Nat.div_le_div_right (by omega)
    by_cases c : i / p < j / p
    · have hj : j / p < p ^ n := by
        rw [Nat.pow_succ] at h2
        exact Nat.div_lt_of_lt_mul (by rwa [Nat.mul_comm] at h2)
      obtain ⟨g, a1, a2, a3⟩ := dg_lex hp n _ _ c hj
      refine ⟨g, by omega, fun k hk => ?_, ?_⟩
      · rw [dg_succ, dg_succ, if_neg (by omega), if_neg (by omega)]; exact a2 k hk
      · rw [dg_succ, dg_succ, if_neg (by omega), if_neg (by omega)]; exact a3
    · have e : i / p = j / p := by omega
      refine ⟨n, by omega, fun k hk => ?_, ?_⟩
      · rw [dg_succ, dg_succ, if_neg (by omega), if_neg (by omega), e]
      · rw [dg_succ, dg_succ, if_pos rfl, if_pos rfl]
        have q1 := Nat.div_add_mod i p
        have q2 := Nat.div_add_mod j p
        rw [e] at q1
        omega
theorem dg_onto {p : Nat} (hp : 0 < p) : ∀ (n : Nat) (d : Nat → Nat), (∀ g, g < n → d g < p) → ∃ i, i < p ^ n ∧ ∀ g, g < n → dg p n i g = d g
  | 0, _, _ => ⟨0, by rw [Nat.pow_zero]; omega, fun g hg => by omega⟩
  | n + 1, d, h => by
    obtain ⟨i, h1, h2⟩ := dg_onto hp n d (fun g hg => h g (by omega))
    have hn := h n (by omega)
    have e1 : (i * p + d n) / p = i := by
      rw [Nat.mul_comm, Nat.mul_add_div hp, Nat.div_eq_of_lt hn]; rfl
    have e2 : (i * p + d n) % p = d n := by
      rw [Nat.mul_comm, Nat.mul_add_mod, Nat.mod_eq_of_lt hn]
    refine ⟨i * p + d n, ?_, fun g hg => ?_⟩
    · rw [Nat.pow_succ]
      have : (i + 1) * p ≤ p ^ n * p := Nat.mul_le_mul_right p (by omega)
      rw [Nat.add_mul, Nat.one_mul] at this
      omega
    · rw [dg_succ]
      by_cases c : g = n
      · rw [if_pos c, e2, c]
      · rw [if_neg c, e1]; exact h2 g (by omega)
/-- the highest before -/
def hbN (c : Nat → Nat) : Nat → Nat
  | 0 => 0
  | g + 1 => if hbN c g < c g then c g else hbN c g
theorem hbN_le (c : Nat → Nat) : ∀ {g i : Nat}, i < g → c i ≤ hbN c g
  | 0, i, h => by omega
  | g + 1, i, h => by
    unfold hbN
    by_cases e : i = g
    · subst e; split <;> omega
    · have := hbN_le c (g := g) (i := i) (by omega)
      split <;> omega
theorem hbN_cong {c d : Nat → Nat} : ∀ {g : Nat}, (∀ i, i < g → c i = d i) → hbN c g = hbN d g
  | 0, _ => rfl
  | g + 1, h => by unfold hbN; rw [hbN_cong (fun i hi => h i (by omega)), h g (by omega)]
theorem hbN_lt {c : Nat → Nat} {p : Nat} (hp : 0 < p) : ∀ {g : Nat}, (∀ i, i < g → c i < p) → hbN c g < p
  | 0, _ => hp
  | g + 1, h => by
    have := hbN_lt (c := c) hp (g := g) (fun i hi => h i (by omega))
    have := h g (by omega)
    unfold hbN
    split <;> omega
/-- the highest part that is tried for a group -/
def lstN (p : Nat) (c : Nat → Nat) (g : Nat) : Nat := if g = 0 then 0 else if hbN c g + 1 ≤ p - 1 then hbN c g + 1 else p - 1
/-- a sharing that is tried -/
def CN (n p : Nat) (c : Nat → Nat) : Prop := ∀ g, g < n → c g ≤ lstN p c g
theorem lstN_cong {p : Nat} {c d : Nat → Nat} {g : Nat} (h : ∀ i, i < g → c i = d i) : lstN p c g = lstN p d g := by unfold lstN; rw [hbN_cong h]
theorem CN.lt {n p : Nat} {c : Nat → Nat} (hp : 0 < p) (h : CN n p c) : ∀ g, g < n → c g < p := fun g hg => by
  have := h g hg
  unfold lstN at this
  split at this
  · omega
  · split at this <;> omega
theorem CN.cong {n p : Nat} {c d : Nat → Nat} (h : CN n p c) (e : ∀ g, g < n → c g = d g) : CN n p d := fun g hg => by
  rw [← e g hg, ← lstN_cong (fun i hi => e i (by omega))]
  exact h g hg
/-- two parts change their numbers -/
def swN (m M q : Nat) : Nat := if q = m then M else if q = M then m else q
theorem swN_inj {m M a b : Nat} (h : swN m M a = swN m M b) : a = b := by
  unfold swN at h
  split at h <;> split at h <;> (try split at h) <;> (try split at h) <;> omega
theorem swN_swN (m M q : Nat) : swN m M (swN m M q) = q := by
  unfold swN
  by_cases h1 : q = m
  · rw [if_pos h1]
    by_cases h2 : M = m
    · rw [if_pos h2]; omega
    · rw [if_neg h2, if_pos rfl]; omega
  · rw [if_neg h1]
    by_cases h2 : q = M
    · rw [if_pos h2, if_pos rfl]; omega
    · rw [if_neg h2, if_neg h1, if_neg h2]
theorem sm_swap (F : Nat → Int) {m M p : Nat} (hm : m < p) (hM : M < p) (hne : m ≠ M) : sm (fun q => F (swN m M q)) p = sm F p := by
  have e1 := sm_except (f := fun q => F (swN m M q)) (h := fun q => if q = m then F m else F (swN m M q)) (a := m) (n := p) hm (fun k _ hk => by rw [if_neg hk])
  have e2 := sm_except (f := fun q => if q = m then F m else F (swN m M q)) (h := F) (a := M) (n := p) hM (fun k _ hk => by
    by_cases q : k = m
    · rw [if_pos q, q]
    · rw [if_neg q]
      unfold swN
      rw [if_neg q, if_neg hk])
  rw [e1, e2]
  have s1 : swN m M m = M := by unfold swN; rw [if_pos rfl]
  have s2 : swN m M M = m := by unfold swN; rw [if_neg (fun z => hne z.symm), if_pos rfl]
  rw [if_pos rfl, if_neg (fun z => hne z.symm), s1, s2]
  omega
theorem key_swap (σ : Nat → Int) (c : Nat → Nat) {m M : Nat} (hm : m < (σ 2).toNat) (hM : M < (σ 2).toNat) (hne : m ≠ M) : bdZ σ (fun g => swN m M (c g)) = bdZ σ c ∧ bkZ σ (fun g => swN m M (c g)) = bkZ σ c := by
  constructor
  · have e : ∀ q, bwZ σ (fun g => swN m M (c g)) q (grs σ).toNat = bwZ σ c (swN m M q) (grs σ).toNat := fun q => by
      unfold bwZ
      refine sm_cong (fun g _ => ?_)
      by_cases h : c g = swN m M q
      · rw [if_pos h, if_pos (by show swN m M (c g) = q; rw [h, swN_swN])]
      · rw [if_neg h, if_neg (fun z => h (by rw [← z, swN_swN]))]
    unfold bdZ
    rw [sm_cong (g := fun q => pos (bwZ σ c (swN m M q) (grs σ).toNat - limZ σ)) (fun q _ => by rw [e])]
    exact sm_swap (fun q => pos (bwZ σ c q (grs σ).toNat - limZ σ)) hm hM hne
  · unfold bkZ
    refine sm_cong (fun g _ => sm_cong (fun h _ => ?_))
    by_cases q : c g = c h
    · rw [if_pos q, if_pos (by show swN m M (c g) = swN m M (c h); rw [q])]
    · rw [if_neg q, if_neg (fun z => q (swN_inj z))]
/-- each sharing has one that is tried, as good, and not behind it -/
theorem canon {σ : Nat → Int} (hM : MS σ) : ∀ (i : Nat), i < (σ 2).toNat ^ (grs σ).toNat → ∃ d : Nat → Nat, CN (grs σ).toNat (σ 2).toNat d ∧ bdZ σ d = bdZ σ (dg (σ 2).toNat (grs σ).toNat i) ∧ bkZ σ d = bkZ σ (dg (σ 2).toNat (grs σ).toNat i) ∧ ((∀ g, g < (grs σ).toNat → d g = dg (σ 2).toNat (grs σ).toNat i g) ∨ lxl (grs σ).toNat d (dg (σ 2).toNat (grs σ).toNat i)) := by
  have b2 := ms_2 hM
  have hp : 0 < (σ 2).toNat := by omega
  intro i
  induction i using Nat.strongRecOn with
  | ind i ih =>
    intro hi
    by_cases hc : CN (grs σ).toNat (σ 2).toNat (dg (σ 2).toNat (grs σ).toNat i)
    · exact ⟨_, hc, rfl, rfl, Or.inl (fun _ _ => rfl)⟩
    · have hex : ∃ g, g < (grs σ).toNat ∧ lstN (σ 2).toNat (dg (σ 2).toNat (grs σ).toNat i) g < dg (σ 2).toNat (grs σ).toNat i g := by
        apply Classical.byContradiction
        intro hno
        exact hc (fun g hg => Classical.byContradiction (fun z => hno ⟨g, hg, by omega⟩))
      obtain ⟨g, hg, hlt⟩ := hex
      generalize hcc : dg (σ 2).toNat (grs σ).toNat i = c at *
      have clt : ∀ g, c g < (σ 2).toNat := fun g => by rw [← hcc]; exact dg_lt hp _ _ g
      have hm : lstN (σ 2).toNat c g < (σ 2).toNat := by have := clt g; omega
      have hbelow : ∀ k, k < g → c k < lstN (σ 2).toNat c g := fun k hk => by
        have h1 := hbN_le c (g := g) (i := k) hk
        have h2 := clt g
        unfold lstN at hlt ⊢
        rw [if_neg (by omega)] at hlt ⊢
        split at hlt
        · rename_i z; rw [if_pos z]; omega
        · omega
      generalize hmm : lstN (σ 2).toNat c g = m at *
      have hk := key_swap σ c hm (clt g) (by omega)
      have hlx : lxl (grs σ).toNat (fun x => swN m (c g) (c x)) c := ⟨g, hg, fun k hk => by
        have := hbelow k hk
        show swN m (c g) (c k) = c k
        unfold swN
        rw [if_neg (by omega), if_neg (by omega)], by
        show swN m (c g) (c g) < c g
        unfold swN
        rw [if_neg (by omega), if_pos rfl]; exact hlt⟩
      obtain ⟨i2, h1, h2⟩ := dg_onto hp (grs σ).toNat (fun x => swN m (c g) (c x)) (fun x _ => by
        have := clt x
        have := clt g
        show swN m (c g) (c x) < _
        unfold swN
        split
        · omega
        · split <;> omega)
      have hi2 : i2 < i := by
        rcases Nat.lt_trichotomy i2 i with q | q | q
        · exact q
        · exfalso
          subst q
          rw [hcc] at h2
          exact lxl_asym hlx (lxl_congr (fun x hx => h2 x hx) (lxl_congl (fun x hx => (h2 x hx).symm) hlx))
        · exfalso
          have := dg_lex hp (grs σ).toNat i i2 q h1
          rw [hcc] at this
          exact lxl_asym hlx (lxl_congr h2 this)
      obtain ⟨d, d1, d2, d3, d4⟩ := ih i2 hi2 h1
      refine ⟨d, d1, by rw [d2, bdZ_cong h2, hk.1], by rw [d3, bkZ_cong h2, hk.2], Or.inr ?_⟩
      rcases d4 with d4 | d4
      · exact lxl_congl (fun x hx => by rw [d4 x hx, h2 x hx]) hlx
      · exact lxl_trans (lxl_congr h2 d4) hlx
/-- the first of the best ones that are tried is the first of the best ones -/
theorem FB_of {σ : Nat → Int} (hM : MS σ) {b : Nat → Nat} (hb : CN (grs σ).toNat (σ 2).toNat b) (h : ∀ d, CN (grs σ).toNat (σ 2).toNat d → ¬ klt σ d b ∧ (lxl (grs σ).toNat d b → klt σ b d)) : FB σ b := by
  have b2 := ms_2 hM
  have hp : 0 < (σ 2).toNat := by omega
  refine ⟨hb.lt hp, fun d hd => ?_⟩
  obtain ⟨i, h1, h2⟩ := dg_onto hp (grs σ).toNat d hd
  obtain ⟨d', e1, e2, e3, e4⟩ := canon hM i h1
  rw [bdZ_cong h2] at e2
  rw [bkZ_cong h2] at e3
  have hk := h d' e1
  unfold klt at hk ⊢
  rw [e2, e3] at hk
  refine ⟨hk.1, fun hl => hk.2 ?_⟩
  rcases e4 with e4 | e4
  · exact lxl_congl (fun g hg => by rw [e4 g hg, h2 g hg]) hl
  · exact lxl_trans (lxl_congr h2 e4) hl
theorem bwZ_b {σ : Nat → Int} (hM : MS σ) (c : Nat → Nat) (q : Nat) {m : Nat} (hm : m ≤ 14) : 0 ≤ bwZ σ c q m ∧ bwZ σ c q m ≤ 1386 * m := by
  have := sm_bound (f := fun g => if c g = q then gW σ (g : Int) else 0) (c := 1386) (n := m) (fun k _ => by
    have := gW_b hM (k : Int)
    try dsimp only
    split <;> omega)
  exact this
theorem bdZ_b {σ : Nat → Int} (hM : MS σ) (c : Nat → Nat) : 0 ≤ bdZ σ c ∧ bdZ σ c ≤ 80000 := by
  have b2 := ms_2 hM
  have gr := grs_b hM
  have bl := limZ_b hM
  have := sm_bound (f := fun q => pos (bwZ σ c q (grs σ).toNat - limZ σ)) (c := 19404) (n := (σ 2).toNat) (fun k _ => by
    have := bwZ_b hM c k (m := (grs σ).toNat) (by omega)
    exact pos_b (by omega) (by omega))
  unfold bdZ
  omega
theorem bkZ_b {σ : Nat → Int} (hM : MS σ) (c : Nat → Nat) (h7 : grs σ ≤ 7) : 0 ≤ bkZ σ c ∧ bkZ σ c ≤ 200000 := by
  have gr := grs_b hM
  have := sm_bound (f := fun g => sm (fun h => if c g = c h then 0 else joinZ σ (g : Int) (h : Int)) g) (c := 27720) (n := (grs σ).toNat) (fun g hg => by
    have := sm_bound (f := fun h => if c g = c h then 0 else joinZ σ (g : Int) (h : Int)) (c := 3960) (n := g) (fun k _ => by
      have := joinZ_b hM (g : Int) (k : Int)
      try dsimp only
      split <;> omega)
    omega)
  unfold bkZ
  omega
theorem joinZ_comm (σ : Nat → Int) (g h : Int) : joinZ σ g h = joinZ σ h g := by
  unfold joinZ
  refine sm_cong (fun e _ => ?_)
  by_cases q : (gAt σ (σ (110 + e)).toNat = g ∧ gAt σ (σ (150 + e)).toNat = h) ∨ (gAt σ (σ (110 + e)).toNat = h ∧ gAt σ (σ (150 + e)).toNat = g)
  · rw [if_pos q, if_pos q.symm]
  · rw [if_neg q, if_neg (fun z => q z.symm)]
/-- the pairs may be gone through either way -/
theorem sm_pairs (F : Nat → Nat → Int) : ∀ n, sm (fun g => sm (fun h => if g < h then F g h else 0) n) n = sm (fun h => sm (fun g => F g h) h) n
  | 0 => rfl
  | n + 1 => by
    rw [sm_succ (fun h => sm (fun g => F g h) h) n, ← sm_pairs F n, sm_succ]
    have z : sm (fun h => if n < h then F n h else 0) (n + 1) = 0 := by
      rw [sm_cong (g := fun _ => 0) (fun k hk => by rw [if_neg (by omega)])]
      exact sm_zero _
    rw [z]
    have e : sm (fun g => sm (fun h => if g < h then F g h else 0) (n + 1)) n = sm (fun g => sm (fun h => if g < h then F g h else 0) n + F g n) n := sm_cong (fun g hg => by rw [sm_succ, if_pos hg])
    rw [e, sm_add]
    omega


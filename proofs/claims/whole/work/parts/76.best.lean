/-! ===== the best sharing: the mathematics ===== -/
/-- a part's weight in a sharing of the first m groups -/
def bwZ (σ : Nat → Int) (c : Nat → Nat) (q m : Nat) : Int := sm (fun g => if c g = q then gW σ (g : Int) else 0) m
/-- its debts, its cut -/
def bdZ (σ : Nat → Int) (c : Nat → Nat) : Int := sm (fun q => pos (bwZ σ c q (grs σ).toNat - limZ σ)) (σ 2).toNat
def bkZ (σ : Nat → Int) (c : Nat → Nat) : Int := sm (fun g => sm (fun h => if c g = c h then 0 else joinZ σ (g : Int) (h : Int)) g) (grs σ).toNat
/-- one sharing is better than another -/
def klt (σ : Nat → Int) (c d : Nat → Nat) : Prop := bdZ σ c < bdZ σ d ∨ (bdZ σ c = bdZ σ d ∧ bkZ σ c < bkZ σ d)
def lxl (n : Nat) (c d : Nat → Nat) : Prop := ∃ g, g < n ∧ (∀ i, i < g → c i = d i) ∧ c g < d g
/-- the first of the best ones -/
def FB (σ : Nat → Int) (c : Nat → Nat) : Prop := (∀ g, g < (grs σ).toNat → c g < (σ 2).toNat) ∧ ∀ d : Nat → Nat, (∀ g, g < (grs σ).toNat → d g < (σ 2).toNat) → ¬ klt σ d c ∧ (lxl (grs σ).toNat d c → klt σ c d)
theorem sm_congN {f g : Nat → Int} {n : Nat} (h : ∀ k, k < n → f k = g k) : sm f n = sm g n := sm_cong h
theorem bwZ_cong {σ : Nat → Int} {c d : Nat → Nat} {q m : Nat} (h : ∀ g, g < m → c g = d g) : bwZ σ c q m = bwZ σ d q m := by
  unfold bwZ
  exact sm_cong (fun g hg => by rw [h g hg])
theorem bdZ_cong {σ : Nat → Int} {c d : Nat → Nat} (h : ∀ g, g < (grs σ).toNat → c g = d g) : bdZ σ c = bdZ σ d := by
  unfold bdZ
  exact sm_cong (fun q _ => by rw [bwZ_cong h])
theorem bkZ_cong {σ : Nat → Int} {c d : Nat → Nat} (h : ∀ g, g < (grs σ).toNat → c g = d g) : bkZ σ c = bkZ σ d := by
  unfold bkZ
  exact sm_cong (fun g hg => sm_cong (fun k hk => by rw [h g hg, h k (by omega)]))
theorem lxl_tri (n : Nat) (c d : Nat → Nat) : lxl n c d ∨ lxl n d c ∨ ∀ g, g < n → c g = d g := by
  induction n with
  | zero => exact Or.inr (Or.inr (fun g hg => by omega))
  | succ n ih =>
    rcases ih with ⟨g, h1, h2, h3⟩ | ⟨g, h1, h2, h3⟩ | h
    · exact Or.inl ⟨g, by omega, h2, h3⟩
    · exact Or.inr (Or.inl ⟨g, by omega, h2, h3⟩)
    · rcases Nat.lt_trichotomy (c n) (d n) with q | q | q
      · exact Or.inl ⟨n, by omega, h, q⟩
      · refine Or.inr (Or.inr (fun g hg => ?_))
        by_cases e : g = n
        · rw [e]; exact q
        · exact h g (by omega)
      · exact Or.inr (Or.inl ⟨n, by omega, fun i hi => (h i hi).symm, q⟩)
theorem lxl_asym {n : Nat} {c d : Nat → Nat} (h1 : lxl n c d) (h2 : lxl n d c) : False := by
  obtain ⟨g, a1, a2, a3⟩ := h1
  obtain ⟨k, b1, b2, b3⟩ := h2
  rcases Nat.lt_trichotomy g k with q | q | q
  · have := b2 g q; omega
  · subst q; omega
  · have := a2 k q; omega
theorem lxl_trans {n : Nat} {c d e : Nat → Nat} (h1 : lxl n c d) (h2 : lxl n d e) : lxl n c e := by
  obtain ⟨g, a1, a2, a3⟩ := h1
  obtain ⟨k, b1, b2, b3⟩ := h2
  rcases Nat.lt_trichotomy g k with q | q | q
  · exact ⟨g, a1, fun i hi => by rw [a2 i hi, b2 i (by omega)], by rw [← b2 g q]; exact a3⟩
  · subst q
    exact ⟨g, a1, fun i hi => by rw [a2 i hi, b2 i hi], by omega⟩
  · exact ⟨k, b1, fun i hi => by rw [a2 i (by omega), b2 i hi], by rw [a2 k q]; exact b3⟩
theorem lxl_congl {n : Nat} {c c' d : Nat → Nat} (h : ∀ g, g < n → c g = c' g) (h1 : lxl n c d) : lxl n c' d := by
  obtain ⟨g, a1, a2, a3⟩ := h1
  exact ⟨g, a1, fun i hi => by rw [← h i (by omega)]; exact a2 i hi, by rw [← h g a1]; exact a3⟩
theorem lxl_congr {n : Nat} {c d d' : Nat → Nat} (h : ∀ g, g < n → d g = d' g) (h1 : lxl n c d) : lxl n c d' := by
  obtain ⟨g, a1, a2, a3⟩ := h1
  exact ⟨g, a1, fun i hi => by rw [← h i (by omega)]; exact a2 i hi, by rw [← h g a1]; exact a3⟩
theorem FB_one {σ : Nat → Int} {c d : Nat → Nat} (h1 : FB σ c) (h2 : FB σ d) : (∀ g, g < (grs σ).toNat → c g = d g) ∧ bdZ σ c = bdZ σ d ∧ bkZ σ c = bkZ σ d := by
  have e : ∀ g, g < (grs σ).toNat → c g = d g := by
    rcases lxl_tri (grs σ).toNat c d with h | h | h
    · exact absurd ((h2.2 c h1.1).2 h) (h1.2 d h2.1).1
    · exact absurd ((h1.2 d h2.1).2 h) (h2.2 c h1.1).1
    · exact h
  exact ⟨e, bdZ_cong e, bkZ_cong e⟩
/-- the digits of a number, the highest first -/
def dg (p : Nat) : Nat → Nat → Nat → Nat
  | 0, _, _ => 0
  | n + 1, k, g => if g = n then k % p else dg p n (k / p) g
theorem dg_succ (p n k g : Nat) : dg p (n + 1) k g = if g = n then k % p else dg p n (k / p) g := rfl
theorem dg_lt {p : Nat} (hp : 0 < p) : ∀ (n k g : Nat), dg p n k g < p
  | 0, _, _ => hp
  | n + 1, k, g => by
    rw [dg_succ]
    split
    · exact Nat.mod_lt _ hp
    · exact dg_lt hp n _ g
theorem dg_lex {p : Nat} (hp : 0 < p) : ∀ (n i j : Nat), i < j → j < p ^ n → lxl n (dg p n i) (dg p n j)
  | 0, i, j, h1, h2 => by rw [Nat.pow_zero] at h2; omega
  | n + 1, i, j, h1, h2 => by
    have hd : i / p ≤ j / p := Nat.div_le_div_right (by omega)
    by_cases c : i / p < j / p
    · have hj : j / p < p ^ n := by
        rw [Nat.pow_succ] at h2
        exact Nat.div_lt_of_lt_mul (by rwa [Nat.mul_comm] at h2)
      obtain ⟨g, a1, a2, a3⟩ := dg_lex hp n _ _ c hj
      refine ⟨g, by omega, fun k hk => ?_, ?_⟩
      · rw [dg_succ, dg_succ, if_neg (by omega), if_neg (by omega)]; exact a2 k hk
      · rw [dg_succ, dg_succ, if_neg (by omega), if_neg (by omega)]; exact a3
    · have e : i / p = j / p := by omega
      refine ⟨n, by omega, fun k hk => ?_, ?_⟩
      · rw [dg_succ, dg_succ, if_neg (by omega), if_neg (by omega), e]
      · rw [dg_succ, dg_succ, if_pos rfl, if_pos rfl]
        have q1 := Nat.div_add_mod i p
        have q2 := Nat.div_add_mod j p
        rw [e] at q1
        omega
theorem dg_onto {p : Nat} (hp : 0 < p) : ∀ (n : Nat) (d : Nat → Nat), (∀ g, g < n → d g < p) → ∃ i, i < p ^ n ∧ ∀ g, g < n → dg p n i g = d g
  | 0, _, _ => ⟨0, by rw [Nat.pow_zero]; omega, fun g hg => by omega⟩
  | n + 1, d, h => by
    obtain ⟨i, h1, h2⟩ := dg_onto hp n d (fun g hg => h g (by omega))
    have hn := h n (by omega)
    have e1 : (i * p + d n) / p = i := by
      rw [Nat.mul_comm, Nat.mul_add_div hp, Nat.div_eq_of_lt hn]; rfl
    have e2 : (i * p + d n) % p = d n := by
      rw [Nat.mul_comm, Nat.mul_add_mod, Nat.mod_eq_of_lt hn]
    refine ⟨i * p + d n, ?_, fun g hg => ?_⟩
    · rw [Nat.pow_succ]
      have : (i + 1) * p ≤ p ^ n * p := Nat.mul_le_mul_right p (by omega)
      rw [Nat.add_mul, Nat.one_mul] at this
      omega
    · rw [dg_succ]
      by_cases c : g = n
      · rw [if_pos c, e2, c]
      · rw [if_neg c, e1]; exact h2 g (by omega)
/-- the highest before -/
def hbN (c : Nat → Nat) : Nat → Nat
  | 0 => 0
  | g + 1 => if hbN c g < c g then c g else hbN c g
theorem hbN_le (c : Nat → Nat) : ∀ {g i : Nat}, i < g → c i ≤ hbN c g
  | 0, i, h => by omega
  | g + 1, i, h => by
    unfold hbN
    by_cases e : i = g
    · subst e; split <;> omega
    · have := hbN_le c (g := g) (i := i) (by omega)
      split <;> omega
theorem hbN_cong {c d : Nat → Nat} : ∀ {g : Nat}, (∀ i, i < g → c i = d i) → hbN c g = hbN d g
  | 0, _ => rfl
  | g + 1, h => by unfold hbN; rw [hbN_cong (fun i hi => h i (by omega)), h g (by omega)]
theorem hbN_lt {c : Nat → Nat} {p : Nat} (hp : 0 < p) : ∀ {g : Nat}, (∀ i, i < g → c i < p) → hbN c g < p
  | 0, _ => hp
  | g + 1, h => by
    have := hbN_lt (c := c) hp (g := g) (fun i hi => h i (by omega))
    have := h g (by omega)
    unfold hbN
    split <;> omega
/-- the highest part that is tried for a group -/
def lstN (p : Nat) (c : Nat → Nat) (g : Nat) : Nat := if g = 0 then 0 else if hbN c g + 1 ≤ p - 1 then hbN c g + 1 else p - 1
/-- a sharing that is tried -/
def CN (n p : Nat) (c : Nat → Nat) : Prop := ∀ g, g < n → c g ≤ lstN p c g
theorem lstN_cong {p : Nat} {c d : Nat → Nat} {g : Nat} (h : ∀ i, i < g → c i = d i) : lstN p c g = lstN p d g := by unfold lstN; rw [hbN_cong h]
theorem CN.lt {n p : Nat} {c : Nat → Nat} (hp : 0 < p) (h : CN n p c) : ∀ g, g < n → c g < p := fun g hg => by
  have := h g hg
  unfold lstN at this
  split at this
  · omega
  · split at this <;> omega
theorem CN.cong {n p : Nat} {c d : Nat → Nat} (h : CN n p c) (e : ∀ g, g < n → c g = d g) : CN n p d := fun g hg => by
  rw [← e g hg, ← lstN_cong (fun i hi => e i (by omega))]
  exact h g hg
/-- two parts change their numbers -/
def swN (m M q : Nat) : Nat := if q = m then M else if q = M then m else q
theorem swN_inj {m M a b : Nat} (h : swN m M a = swN m M b) : a = b := by
  unfold swN at h
  split at h <;> split at h <;> (try split at h) <;> (try split at h) <;> omega
theorem swN_swN (m M q : Nat) : swN m M (swN m M q) = q := by
  unfold swN
  by_cases h1 : q = m
  · rw [if_pos h1]
    by_cases h2 : M = m
    · rw [if_pos h2]; omega
    · rw [if_neg h2, if_pos rfl]; omega
  · rw [if_neg h1]
    by_cases h2 : q = M
    · rw [if_pos h2, if_pos rfl]; omega
    · rw [if_neg h2, if_neg h1, if_neg h2]
theorem sm_swap (F : Nat → Int) {m M p : Nat} (hm : m < p) (hM : M < p) (hne : m ≠ M) : sm (fun q => F (swN m M q)) p = sm F p := by
  have e1 := sm_except (f := fun q => F (swN m M q)) (h := fun q => if q = m then F m else F (swN m M q)) (a := m) (n := p) hm (fun k _ hk => by rw [if_neg hk])
  have e2 := sm_except (f := fun q => if q = m then F m else F (swN m M q)) (h := F) (a := M) (n := p) hM (fun k _ hk => by
    by_cases q : k = m
    · rw [if_pos q, q]
    · rw [if_neg q]
      unfold swN
      rw [if_neg q, if_neg hk])
  rw [e1, e2]
  have s1 : swN m M m = M := by unfold swN; rw [if_pos rfl]
  have s2 : swN m M M = m := by unfold swN; rw [if_neg (fun z => hne z.symm), if_pos rfl]
  rw [if_pos rfl, if_neg (fun z => hne z.symm), s1, s2]
  omega
theorem key_swap (σ : Nat → Int) (c : Nat → Nat) {m M : Nat} (hm : m < (σ 2).toNat) (hM : M < (σ 2).toNat) (hne : m ≠ M) : bdZ σ (fun g => swN m M (c g)) = bdZ σ c ∧ bkZ σ (fun g => swN m M (c g)) = bkZ σ c := by
  constructor
  · have e : ∀ q, bwZ σ (fun g => swN m M (c g)) q (grs σ).toNat = bwZ σ c (swN m M q) (grs σ).toNat := fun q => by
      unfold bwZ
      refine sm_cong (fun g _ => ?_)
      by_cases h : c g = swN m M q
      · rw [if_pos h, if_pos (by show swN m M (c g) = q; rw [h, swN_swN])]
      · rw [if_neg h, if_neg (fun z => h (by rw [← z, swN_swN]))]
    unfold bdZ
    rw [sm_cong (g := fun q => pos (bwZ σ c (swN m M q) (grs σ).toNat - limZ σ)) (fun q _ => by rw [e])]
    exact sm_swap (fun q => pos (bwZ σ c q (grs σ).toNat - limZ σ)) hm hM hne
  · unfold bkZ
    refine sm_cong (fun g _ => sm_cong (fun h _ => ?_))
    by_cases q : c g = c h
    · rw [if_pos q, if_pos (by show swN m M (c g) = swN m M (c h); rw [q])]
    · rw [if_neg q, if_neg (fun z => q (swN_inj z))]
/-- each sharing has one that is tried, as good, and not behind it -/
theorem canon {σ : Nat → Int} (hM : MS σ) : ∀ (i : Nat), i < (σ 2).toNat ^ (grs σ).toNat → ∃ d : Nat → Nat, CN (grs σ).toNat (σ 2).toNat d ∧ bdZ σ d = bdZ σ (dg (σ 2).toNat (grs σ).toNat i) ∧ bkZ σ d = bkZ σ (dg (σ 2).toNat (grs σ).toNat i) ∧ ((∀ g, g < (grs σ).toNat → d g = dg (σ 2).toNat (grs σ).toNat i g) ∨ lxl (grs σ).toNat d (dg (σ 2).toNat (grs σ).toNat i)) := by
  have b2 := ms_2 hM
  have hp : 0 < (σ 2).toNat := by omega
  intro i
  induction i using Nat.strongRecOn with
  | ind i ih =>
    intro hi
    by_cases hc : CN (grs σ).toNat (σ 2).toNat (dg (σ 2).toNat (grs σ).toNat i)
    · exact ⟨_, hc, rfl, rfl, Or.inl (fun _ _ => rfl)⟩
    · have hex : ∃ g, g < (grs σ).toNat ∧ lstN (σ 2).toNat (dg (σ 2).toNat (grs σ).toNat i) g < dg (σ 2).toNat (grs σ).toNat i g := by
        apply Classical.byContradiction
        intro hno
        exact hc (fun g hg => Classical.byContradiction (fun z => hno ⟨g, hg, by omega⟩))
      obtain ⟨g, hg, hlt⟩ := hex
      generalize hcc : dg (σ 2).toNat (grs σ).toNat i = c at *
      have clt : ∀ g, c g < (σ 2).toNat := fun g => by rw [← hcc]; exact dg_lt hp _ _ g
      have hm : lstN (σ 2).toNat c g < (σ 2).toNat := by have := clt g; omega
      have hbelow : ∀ k, k < g → c k < lstN (σ 2).toNat c g := fun k hk => by
        have h1 := hbN_le c (g := g) (i := k) hk
        have h2 := clt g
        unfold lstN at hlt ⊢
        rw [if_neg (by omega)] at hlt ⊢
        split at hlt
        · rename_i z; rw [if_pos z]; omega
        · omega
      generalize hmm : lstN (σ 2).toNat c g = m at *
      have hk := key_swap σ c hm (clt g) (by omega)
      have hlx : lxl (grs σ).toNat (fun x => swN m (c g) (c x)) c := ⟨g, hg, fun k hk => by
        have := hbelow k hk
        show swN m (c g) (c k) = c k
        unfold swN
        rw [if_neg (by omega), if_neg (by omega)], by
        show swN m (c g) (c g) < c g
        unfold swN
        rw [if_neg (by omega), if_pos rfl]; exact hlt⟩
      obtain ⟨i2, h1, h2⟩ := dg_onto hp (grs σ).toNat (fun x => swN m (c g) (c x)) (fun x _ => by
        have := clt x
        have := clt g
        show swN m (c g) (c x) < _
        unfold swN
        split
        · omega
        · split <;> omega)
      have hi2 : i2 < i := by
        rcases Nat.lt_trichotomy i2 i with q | q | q
        · exact q
        · exfalso
          subst q
          rw [hcc] at h2
          exact lxl_asym hlx (lxl_congr (fun x hx => h2 x hx) (lxl_congl (fun x hx => (h2 x hx).symm) hlx))
        · exfalso
          have := dg_lex hp (grs σ).toNat i i2 q h1
          rw [hcc] at this
          exact lxl_asym hlx (lxl_congr h2 this)
      obtain ⟨d, d1, d2, d3, d4⟩ := ih i2 hi2 h1
      refine ⟨d, d1, by rw [d2, bdZ_cong h2, hk.1], by rw [d3, bkZ_cong h2, hk.2], Or.inr ?_⟩
      rcases d4 with d4 | d4
      · exact lxl_congl (fun x hx => by rw [d4 x hx, h2 x hx]) hlx
      · exact lxl_trans (lxl_congr h2 d4) hlx
/-- the first of the best ones that are tried is the first of the best ones -/
theorem FB_of {σ : Nat → Int} (hM : MS σ) {b : Nat → Nat} (hb : CN (grs σ).toNat (σ 2).toNat b) (h : ∀ d, CN (grs σ).toNat (σ 2).toNat d → ¬ klt σ d b ∧ (lxl (grs σ).toNat d b → klt σ b d)) : FB σ b := by
  have b2 := ms_2 hM
  have hp : 0 < (σ 2).toNat := by omega
  refine ⟨hb.lt hp, fun d hd => ?_⟩
  obtain ⟨i, h1, h2⟩ := dg_onto hp (grs σ).toNat d hd
  obtain ⟨d', e1, e2, e3, e4⟩ := canon hM i h1
  rw [bdZ_cong h2] at e2
  rw [bkZ_cong h2] at e3
  have hk := h d' e1
  unfold klt at hk ⊢
  rw [e2, e3] at hk
  refine ⟨hk.1, fun hl => hk.2 ?_⟩
  rcases e4 with e4 | e4
  · exact lxl_congl (fun g hg => by rw [e4 g hg, h2 g hg]) hl
  · exact lxl_trans (lxl_congr h2 e4) hl
theorem bwZ_b {σ : Nat → Int} (hM : MS σ) (c : Nat → Nat) (q : Nat) {m : Nat} (hm : m ≤ 14) : 0 ≤ bwZ σ c q m ∧ bwZ σ c q m ≤ 1386 * m := by
  have := sm_bound (f := fun g => if c g = q then gW σ (g : Int) else 0) (c := 1386) (n := m) (fun k _ => by
    have := gW_b hM (k : Int)
    try dsimp only
    split <;> omega)
  exact this
theorem bdZ_b {σ : Nat → Int} (hM : MS σ) (c : Nat → Nat) : 0 ≤ bdZ σ c ∧ bdZ σ c ≤ 80000 := by
  have b2 := ms_2 hM
  have gr := grs_b hM
  have bl := limZ_b hM
  have := sm_bound (f := fun q => pos (bwZ σ c q (grs σ).toNat - limZ σ)) (c := 19404) (n := (σ 2).toNat) (fun k _ => by
    have := bwZ_b hM c k (m := (grs σ).toNat) (by omega)
    exact pos_b (by omega) (by omega))
  unfold bdZ
  omega
theorem bkZ_b {σ : Nat → Int} (hM : MS σ) (c : Nat → Nat) (h7 : grs σ ≤ 7) : 0 ≤ bkZ σ c ∧ bkZ σ c ≤ 200000 := by
  have gr := grs_b hM
  have := sm_bound (f := fun g => sm (fun h => if c g = c h then 0 else joinZ σ (g : Int) (h : Int)) g) (c := 27720) (n := (grs σ).toNat) (fun g hg => by
    have := sm_bound (f := fun h => if c g = c h then 0 else joinZ σ (g : Int) (h : Int)) (c := 3960) (n := g) (fun k _ => by
      have := joinZ_b hM (g : Int) (k : Int)
      try dsimp only
      split <;> omega)
    omega)
  unfold bkZ
  omega
theorem joinZ_comm (σ : Nat → Int) (g h : Int) : joinZ σ g h = joinZ σ h g := by
  unfold joinZ
  refine sm_cong (fun e _ => ?_)
  by_cases q : (gAt σ (σ (110 + e)).toNat = g ∧ gAt σ (σ (150 + e)).toNat = h) ∨ (gAt σ (σ (110 + e)).toNat = h ∧ gAt σ (σ (150 + e)).toNat = g)
  · rw [if_pos q, if_pos q.symm]
  · rw [if_neg q, if_neg (fun z => q z.symm)]
/-- the pairs may be gone through either way -/
theorem sm_pairs (F : Nat → Nat → Int) : ∀ n, sm (fun g => sm (fun h => if g < h then F g h else 0) n) n = sm (fun h => sm (fun g => F g h) h) n
  | 0 => rfl
  | n + 1 => by
    rw [sm_succ (fun h => sm (fun g => F g h) h) n, ← sm_pairs F n, sm_succ]
    have z : sm (fun h => if n < h then F n h else 0) (n + 1) = 0 := by
      rw [sm_cong (g := fun _ => 0) (fun k hk => by rw [if_neg (by omega)])]
      exact sm_zero _
    rw [z]
    have e : sm (fun g => sm (fun h => if g < h then F g h else 0) (n + 1)) n = sm (fun g => sm (fun h => if g < h then F g h else 0) n + F g n) n := sm_cong (fun g hg => by rw [sm_succ, if_pos hg])
    rw [e, sm_add]
    omega

/-! ===== the best sharing: the class ===== -/
/-- the next sharing that is tried -/
def nxN (c : Nat → Nat) (g0 : Nat) : Nat → Nat := fun i => if i < g0 then c i else if i = g0 then c g0 + 1 else 0
theorem nxN_CN {n p : Nat} {c : Nat → Nat} {g0 : Nat} (hc : CN n p c) (h : c g0 < lstN p c g0) : CN n p (nxN c g0) := fun g hg => by
  by_cases q1 : g < g0
  · rw [← lstN_cong (c := c) (fun i hi => by unfold nxN; rw [if_pos (by omega)])]
    unfold nxN
    rw [if_pos q1]; exact hc g hg
  · by_cases q2 : g = g0
    · subst q2
      rw [← lstN_cong (c := c) (fun i hi => by unfold nxN; rw [if_pos (by omega)])]
      unfold nxN
      rw [if_neg (by omega), if_pos rfl]; exact h
    · have e : nxN c g0 g = 0 := by unfold nxN; rw [if_neg q1, if_neg q2]
      rw [e]; exact Nat.zero_le _
theorem nxN_iff {n p : Nat} {c d : Nat → Nat} {g0 : Nat} (hc : CN n p c) (hd : CN n p d) (hg : g0 < n) (hl : ∀ i, g0 < i → i < n → lstN p c i ≤ c i) : lxl n d (nxN c g0) ↔ (lxl n d c ∨ ∀ g, g < n → d g = c g) := by
  have lo : ∀ i, i < g0 → nxN c g0 i = c i := fun i hi => by unfold nxN; rw [if_pos hi]
  have at0 : nxN c g0 g0 = c g0 + 1 := by unfold nxN; rw [if_neg (by omega), if_pos rfl]
  have hi0 : ∀ i, g0 < i → nxN c g0 i = 0 := fun i hi => by unfold nxN; rw [if_neg (by omega), if_neg (by omega)]
  constructor
  · rintro ⟨g, a1, a2, a3⟩
    rcases Nat.lt_trichotomy g g0 with q | q | q
    · exact Or.inl ⟨g, a1, fun i hi => by rw [a2 i hi, lo i (by omega)], by rw [← lo g q]; exact a3⟩
    · subst q
      rw [at0] at a3
      have eqlo : ∀ i, i < g → d i = c i := fun i hi => by rw [a2 i hi, lo i hi]
      by_cases e : d g = c g
      · rcases lxl_tri n d c with h | h | h
        · exact Or.inl h
        · exfalso
          obtain ⟨k, b1, b2, b3⟩ := h
          have hk : g < k := by
            rcases Nat.lt_trichotomy k g with z | z | z
            · have := eqlo k z; omega
            · subst z; omega
            · exact z
          have h1 := hl k hk b1
          have h2 := hd k b1
          rw [← lstN_cong (c := c) (fun i hi => b2 i hi)] at h2
          omega
        · exact Or.inr h
      · exact Or.inl ⟨g, a1, eqlo, by omega⟩
    · rw [hi0 g q] at a3; omega
  · rintro (⟨g, a1, a2, a3⟩ | h)
    · by_cases q : g < g0
      · exact ⟨g, a1, fun i hi => by rw [a2 i hi, lo i (by omega)], by rw [lo g q]; exact a3⟩
      · refine ⟨g0, hg, fun i hi => by rw [a2 i (by omega), lo i hi], ?_⟩
        rw [at0]
        by_cases e : g = g0
        · subst e; omega
        · rw [a2 g0 (by omega)]; omega
    · exact ⟨g0, hg, fun i hi => by rw [h i (by omega), lo i hi], by rw [at0, h g0 hg]; omega⟩
theorem last_iff {n p : Nat} {c d : Nat → Nat} (hc : CN n p c) (hd : CN n p d) (hl : ∀ i, 0 < i → i < n → lstN p c i ≤ c i) : lxl n d c ∨ ∀ g, g < n → d g = c g := by
  rcases lxl_tri n d c with h | h | h
  · exact Or.inl h
  · exfalso
    obtain ⟨k, b1, b2, b3⟩ := h
    have h2 := hd k b1
    by_cases k0 : k = 0
    · subst k0
      unfold lstN at h2
      rw [if_pos rfl] at h2
      omega
    · have h1 := hl k (by omega) b1
      rw [← lstN_cong (c := c) (fun i hi => b2 i hi)] at h2
      omega
  · exact Or.inr h
/-- the best of those that P names -/
def BST (σ : Nat → Int) (P : (Nat → Nat) → Prop) (x y : Int) (r : Nat → Int) : Prop := ((∀ d, CN (grs σ).toNat (σ 2).toNat d → ¬ P d) ∧ x = 1000000 ∧ y = 1000000) ∨
  ∃ b : Nat → Nat, CN (grs σ).toNat (σ 2).toNat b ∧ P b ∧ x = bdZ σ b ∧ y = bkZ σ b ∧ (∀ g, g < (grs σ).toNat → r g = (b g : Int)) ∧ ∀ d, CN (grs σ).toNat (σ 2).toNat d → P d → ¬ klt σ d b ∧ (lxl (grs σ).toNat d b → klt σ b d)
theorem BST_iff {σ : Nat → Int} {P P' : (Nat → Nat) → Prop} {x y : Int} {r : Nat → Int} (h : BST σ P x y r) (e : ∀ d, CN (grs σ).toNat (σ 2).toNat d → (P' d ↔ P d)) : BST σ P' x y r := by
  rcases h with ⟨h1, h2, h3⟩ | ⟨b, h1, h2, h3, h4, h5, h6⟩
  · exact Or.inl ⟨fun d hd z => h1 d hd ((e d hd).mp z), h2, h3⟩
  · exact Or.inr ⟨b, h1, (e b h1).mpr h2, h3, h4, h5, fun d hd z => h6 d hd ((e d hd).mp z)⟩
theorem BST_b {σ : Nat → Int} (hM : MS σ) (h7 : grs σ ≤ 7) {P : (Nat → Nat) → Prop} {x y : Int} {r : Nat → Int} (h : BST σ P x y r) : 0 ≤ x ∧ x ≤ 1000000 ∧ 0 ≤ y ∧ y ≤ 1000000 := by
  rcases h with ⟨-, h2, h3⟩ | ⟨b, -, -, h3, h4, -, -⟩
  · omega
  · have := bdZ_b hM b
    have := bkZ_b hM b h7
    omega
theorem BST_new {σ : Nat → Int} (hM : MS σ) {c : Nat → Nat} {x y : Int} {r r' : Nat → Int} (hc : CN (grs σ).toNat (σ 2).toNat c) (h : BST σ (fun d => lxl (grs σ).toNat d c) x y r) (hb : bdZ σ c < x ∨ (bdZ σ c = x ∧ bkZ σ c < y)) (hr : ∀ g, g < (grs σ).toNat → r' g = (c g : Int)) : BST σ (fun d => lxl (grs σ).toNat d c ∨ ∀ g, g < (grs σ).toNat → d g = c g) (bdZ σ c) (bkZ σ c) r' := by
  refine Or.inr ⟨c, hc, Or.inr (fun _ _ => rfl), rfl, rfl, hr, fun d hd hP => ?_⟩
  rcases hP with hP | hP
  · rcases h with ⟨h1, -, -⟩ | ⟨b, h1, h2, h3, h4, h5, h6⟩
    · exact absurd hP (h1 d hd)
    · have h7 := (h6 d hd hP).1
      unfold klt at h7 ⊢
      refine ⟨fun z => ?_, fun _ => ?_⟩ <;> omega
  · have e1 := bdZ_cong (σ := σ) hP
    have e2 := bkZ_cong (σ := σ) hP
    refine ⟨fun z => ?_, fun z => absurd (lxl_congl hP z) (fun z => lxl_asym z z)⟩
    unfold klt at z
    omega
theorem BST_old {σ : Nat → Int} (hM : MS σ) (h7 : grs σ ≤ 7) {c : Nat → Nat} {x y : Int} {r : Nat → Int} (h : BST σ (fun d => lxl (grs σ).toNat d c) x y r) (hb : ¬ (bdZ σ c < x ∨ (bdZ σ c = x ∧ bkZ σ c < y))) : BST σ (fun d => lxl (grs σ).toNat d c ∨ ∀ g, g < (grs σ).toNat → d g = c g) x y r := by
  rcases h with ⟨-, h2, h3⟩ | ⟨b, h1, h2, h3, h4, h5, h6⟩
  · have := bdZ_b hM c
    have := bkZ_b hM c h7
    omega
  · refine Or.inr ⟨b, h1, Or.inl h2, h3, h4, h5, fun d hd hP => ?_⟩
    rcases hP with hP | hP
    · exact h6 d hd hP
    · have e1 := bdZ_cong (σ := σ) hP
      have e2 := bkZ_cong (σ := σ) hP
      refine ⟨fun z => ?_, fun z => absurd (lxl_congl hP z) (fun z => lxl_asym z h2)⟩
      unfold klt at z
      omega
theorem BST_fin {σ : Nat → Int} (hM : MS σ) {x y : Int} {r : Nat → Int} (h : BST σ (fun _ => True) x y r) : ∃ b : Nat → Nat, FB σ b ∧ x = bdZ σ b ∧ y = bkZ σ b ∧ ∀ g, g < (grs σ).toNat → r g = (b g : Int) := by
  rcases h with ⟨h1, -, -⟩ | ⟨b, h1, h2, h3, h4, h5, h6⟩
  · exact absurd trivial (h1 (fun _ => 0) (fun g _ => Nat.zero_le _))
  · exact ⟨b, FB_of hM h1 (fun d hd => h6 d hd trivial), h3, h4, h5⟩
section CBS
variable {I : Ii} {J : Jj} {σ : Nat → Int} {nm : Nat → Int64}
theorem c_triedDebts {c : Nat → Nat} (hV : VS σ) (h7 : grs σ ≤ 7) (hE : ME σ I) (hc : ∀ g, g < (grs σ).toNat → I 125 g = (c g : Int)) (hl : ∀ g, g < (grs σ).toNat → c g < (σ 2).toNat) : wp_X0_triedDebts I J (fun r _ _ => r = bdZ σ c) := by
  have hM := hV.M
  have gr := grs_b hM
  have b2 := ms_2 hM
  have bl := limZ_b hM
  obtain ⟨e0, e1, e2, e3, e4, e5, e6, e7, e8⟩ := hE
  refine fill_of (n := 4) rfl (fun I1 h1 => ?_)
  have o1 : ∀ q, q ≠ 127 → I1 q = I q := fun q hq => by rw [h1, upr_ne hq]
  refine ⟨15, loopN (L := fun m (a : Ii) v => L_X0_triedDebts_10 _ m v a J) (fun v a => (∀ q, q ≠ 127 → a q = I q) ∧ ∀ q, q < 4 → a 127 q = bwZ σ c q v) (N := (grs σ).toNat) (fun m v a hv ha kk => ?_) 15 0 I1 (by omega) (by omega) ⟨o1, fun q hq => by rw [h1, upr_self, filR_lt hq]; rfl⟩⟩
  obtain ⟨a0, a1⟩ := ha
  have r0 : a 113 0 = grs σ := by rw [a0 _ (by decide)]; exact e0
  have r1 : a 113 1 = σ 2 := by rw [a0 _ (by decide)]; exact e1
  have r2 : a 113 2 = limZ σ := by rw [a0 _ (by decide)]; exact e2
  refine ls_X0_triedDebts_10 ?_
  generalize hr : L_X0_triedDebts_10 _ m = r at kk ⊢
  unfold Lb_X0_triedDebts_10
  refine ⟨rgK (by omega), rgK (by omega), fun d => ?_, fun d => ?_⟩
  · have hvn : v = (grs σ).toNat := by omega
    refine ⟨5, loopN (L := fun m (t : Int) q => L_X0_triedDebts_51 _ m t q a J) (fun q t => t = sm (fun q => pos (bwZ σ c q (grs σ).toNat - limZ σ)) q) (N := (σ 2).toNat) (fun m q t hq ht k2 => ?_) 5 0 0 (by omega) (by omega) rfl⟩
    refine ls_X0_triedDebts_51 ?_
    unfold Lb_X0_triedDebts_51
    refine ⟨rgK (by omega), rgK (by omega), fun d2 => ?_, fun d2 => at_of (n := 4) rfl rfl (by omega) ?_⟩
    · rw [ht, show q = (σ 2).toNat by omega]; rfl
    · rw [a1 q (by omega), hvn]
      have bw := bwZ_b hM c q (m := (grs σ).toNat) (by omega)
      refine ⟨rgK (by omega), rgK (by omega), fun d3 => k2 (by omega) _ ?_, fun d3 => k2 (by omega) _ ?_⟩
      · rw [ht, sm_succ]; unfold pos; rw [if_neg (by omega)]
      · rw [ht, sm_succ, r2]; unfold pos; rw [if_pos (by omega)]
  · have hv' : v < (grs σ).toNat := by omega
    have hcv := hl v hv'
    refine at_of (n := 7) rfl rfl (by omega) (at_of (n := 14) rfl rfl (by omega) ?_)
    rw [a0 125 (by decide), hc v hv', a0 115 (by decide), (e6 v (by omega)).2.1]
    refine add_of (n := 4) rfl rfl (by omega) (fun I6 h6 => kk hv' I6 ⟨fun q hq => by rw [h6, up2_key hq]; exact a0 q hq, fun q hq => ?_⟩)
    rw [h6, up2_row]
    unfold bwZ
    rw [sm_succ]
    by_cases z : q = c v
    · rw [z, updr_self, if_pos rfl, a1 _ (by omega)]; rfl
    · rw [updr_ne z, if_neg (fun y => z y.symm), a1 q hq]
      unfold bwZ
      omega
theorem c_triedCut {c : Nat → Nat} {x : Int} (hV : VS σ) (h7 : grs σ ≤ 7) (hJ : JN σ I) (hx : x = grs σ) (hc : ∀ g, g < (grs σ).toNat → I 125 g = (c g : Int)) (hl : ∀ g, g < (grs σ).toNat → c g < (σ 2).toNat) : wp_X0_triedCut x I J (fun r _ _ => r = bkZ σ c) := by
  have hM := hV.M
  have gr := grs_b hM
  have b2 := ms_2 hM
  subst hx
  refine ⟨15, loopN (L := fun m (t : Int) v => L_X0_triedCut_5 (grs σ) _ m t v I J) (fun v t => t = sm (fun g => sm (fun h => if g < h then (if c g = c h then 0 else joinZ σ (g : Int) (h : Int)) else 0) (grs σ).toNat) v) (N := (grs σ).toNat) (fun m v t hv ht kk => ?_) 15 0 0 (by omega) (by omega) rfl⟩
  refine ls_X0_triedCut_5 ?_
  generalize hr : L_X0_triedCut_5 (grs σ) _ m = r at kk ⊢
  unfold Lb_X0_triedCut_5
  refine ⟨rgK (by omega), rgK (by omega), fun d => ?_, fun d => ?_⟩
  · rw [ht, show v = (grs σ).toNat by omega, sm_pairs (fun g h => if c g = c h then 0 else joinZ σ (g : Int) (h : Int))]
    unfold bkZ
    refine sm_cong (fun g _ => sm_cong (fun h _ => ?_))
    by_cases q : c h = c g
    · rw [if_pos q, if_pos q.symm]
    · rw [if_neg q, if_neg (fun z => q z.symm), joinZ_comm]
  · have e1 : (v : Int) + 1 = ((v + 1 : Nat) : Int) := by omega
    rw [e1]
    have z0 : sm (fun h => if v < h then (if c v = c h then 0 else joinZ σ (v : Int) (h : Int)) else 0) (v + 1) = 0 := by
      rw [sm_cong (g := fun _ => 0) (fun k hk => by rw [if_neg (by omega)])]
      exact sm_zero _
    refine ⟨15, loopN (L := fun m2 (u : Int) w => L_X0_triedCut_17 (grs σ) _ r m2 u v w I J) (fun w u => v + 1 ≤ w ∧ u = t + sm (fun h => if v < h then (if c v = c h then 0 else joinZ σ (v : Int) (h : Int)) else 0) w) (N := (grs σ).toNat) (fun m2 w u hw hu k2 => ?_) 15 (v + 1) t (by omega) (by omega) ⟨by omega, by rw [z0]; omega⟩⟩
    obtain ⟨hvw, hu⟩ := hu
    refine ls_X0_triedCut_17 ?_
    generalize hr2 : L_X0_triedCut_17 (grs σ) _ r m2 = r2 at k2 ⊢
    unfold Lb_X0_triedCut_17
    refine ⟨rgK (by omega), rgK (by omega), fun d2 => ?_, fun d2 => ?_⟩
    · have := kk (by omega) u (by rw [sm_succ, hu, ht, show w = (grs σ).toNat by omega])
      rwa [e1] at this
    · have h1 := hl v (by omega)
      have h2 := hl w (by omega)
      refine at_of (n := 7) rfl rfl (by omega) (at_of (n := 7) rfl rfl (by omega) ?_)
      rw [hc v (by omega), hc w (by omega)]
      refine ⟨rgK (by omega), rgK (by omega), fun d3 => k2 (by omega) _ ⟨by omega, ?_⟩, fun d3 => at_of (n := 196) rfl (i := 14 * v + w) (by omega) (by omega) (k2 (by omega) _ ⟨by omega, ?_⟩)⟩
      · rw [hu, sm_succ, if_pos (by omega), if_pos (by omega)]; omega
      · rw [hu, sm_succ, if_pos (by omega), if_neg (by omega), hJ v w (by omega) (by omega) (by omega)]; omega
theorem highestBefore_of {c : Nat → Nat} {x : Int} {g : Nat} (hx : x = (g : Int)) (hg : g < 7) (hc : ∀ i, i < g → I 125 i = (c i : Int)) (hl : ∀ i, i < g → c i < 4) {Q : Int → Ii → Jj → Prop} (h : Q (hbN c g : Int) I J) : wp_X0_highestBefore x I J Q := by
  subst hx
  refine ⟨15, loopN (L := fun m (t : Int) v => L_X0_highestBefore_4 (g : Int) Q m t v I J) (fun v t => t = (hbN c v : Int)) (N := g) (fun m v t hv ht kk => ?_) 15 0 0 (by omega) (by omega) rfl⟩
  refine ls_X0_highestBefore_4 ?_
  unfold Lb_X0_highestBefore_4
  have hb : hbN c v < 4 := hbN_lt (by decide) (fun i hi => hl i (by omega))
  refine ⟨rgK (by omega), rgK (by omega), fun d => by rw [ht, show v = g by omega]; exact h, fun d => at_of (n := 7) rfl rfl (by omega) ?_⟩
  have h1 := hl v (by omega)
  rw [hc v (by omega)]
  refine max_of (rgK (by omega)) (rgK (by omega)) (fun d2 => kk (by omega) _ ?_) (fun d2 => kk (by omega) _ ?_)
  · unfold hbN; rw [if_pos (by omega)]
  · unfold hbN; rw [if_neg (by omega)]; exact ht
theorem c_advance {c : Nat → Nat} (hV : VS σ) (h7 : grs σ ≤ 7) (h0 : I 113 0 = grs σ) (h1 : I 113 1 = σ 2) (hc : ∀ g, g < (grs σ).toNat → I 125 g = (c g : Int)) (hn : CN (grs σ).toNat (σ 2).toNat c) : wp_X0_advance I J (fun r I' _ => (r = 0 ∧ ∀ i, 0 < i → i < (grs σ).toNat → lstN (σ 2).toNat c i ≤ c i) ∨ (r = 1 ∧ ∃ g0, 0 < g0 ∧ g0 < (grs σ).toNat ∧ c g0 < lstN (σ 2).toNat c g0 ∧ (∀ i, g0 < i → i < (grs σ).toNat → lstN (σ 2).toNat c i ≤ c i) ∧ ∀ g, g < (grs σ).toNat → I' 125 g = (nxN c g0 g : Int))) := by
  have hM := hV.M
  have gr := grs_b hM
  have b2 := ms_2 hM
  have cl := hn.lt (by omega)
  unfold wp_X0_advance
  rw [h0]
  have key : ∀ (n m : Nat) (a : Ii), m ≤ (grs σ).toNat → m + 1 ≤ n → (∀ q, q ≠ 125 → a q = I q) → (∀ g, g < m → a 125 g = (c g : Int)) → (∀ g, m ≤ g → g < (grs σ).toNat → a 125 g = 0) → (∀ i, m ≤ i → 0 < i → i < (grs σ).toNat → lstN (σ 2).toNat c i ≤ c i) → L_X0_advance_7 (fun r I' _ => (r = 0 ∧ ∀ i, 0 < i → i < (grs σ).toNat → lstN (σ 2).toNat c i ≤ c i) ∨ (r = 1 ∧ ∃ g0, 0 < g0 ∧ g0 < (grs σ).toNat ∧ c g0 < lstN (σ 2).toNat c g0 ∧ (∀ i, g0 < i → i < (grs σ).toNat → lstN (σ 2).toNat c i ≤ c i) ∧ ∀ g, g < (grs σ).toNat → I' 125 g = (nxN c g0 g : Int))) n ((m : Int) - 1) a J := by
    intro n
    induction n with
    | zero => intro m a h1 h2; omega
    | succ n ih =>
      intro m a hm hmn a0 a1 a2 a3
      refine ls_X0_advance_7 ?_
      unfold Lb_X0_advance_7
      refine ⟨rgK (by omega), fun d => Or.inl ⟨rfl, fun i hi hin => a3 i (by omega) hi hin⟩, fun d => ?_⟩
      obtain ⟨g, rfl⟩ : ∃ g, m = g + 1 := ⟨m - 1, by omega⟩
      have hg0 : 0 < g := by omega
      have hb : hbN c g < (σ 2).toNat := hbN_lt (by omega) (fun i hi => cl i (by omega))
      have e2 : (((g + 1 : Nat) : Int) - 1) = (g : Int) := by omega
      have hcg := cl g (by omega)
      rw [e2]
      refine highestBefore_of (c := c) rfl (by omega) (fun i hi => a1 i (by omega)) (fun i hi => by have := cl i (by omega); omega) ?_
      have p1 : a 113 1 = σ 2 := by rw [a0 _ (by decide)]; exact h1
      rw [p1]
      have body : ∀ l : Int, l = (lstN (σ 2).toNat c g : Int) → wp_X11_at 125 (g : Int) a J (fun v4 I4 J4 => rg v4 ∧ rg l ∧ (l ≤ v4 → wp_X11_put 125 (g : Int) 0 I4 J4 (fun I7 J7 => L_X0_advance_7 (fun r I' _ => (r = 0 ∧ ∀ i, 0 < i → i < (grs σ).toNat → lstN (σ 2).toNat c i ≤ c i) ∨ (r = 1 ∧ ∃ g0, 0 < g0 ∧ g0 < (grs σ).toNat ∧ c g0 < lstN (σ 2).toNat c g0 ∧ (∀ i, g0 < i → i < (grs σ).toNat → lstN (σ 2).toNat c i ≤ c i) ∧ ∀ g, g < (grs σ).toNat → I' 125 g = (nxN c g0 g : Int))) n ((g : Int) + (-1)) I7 J7)) ∧ (¬ l ≤ v4 → wp_X11_add 125 (g : Int) 1 I4 J4 (fun I8 J8 => (fun r I' _ => (r = 0 ∧ ∀ i, 0 < i → i < (grs σ).toNat → lstN (σ 2).toNat c i ≤ c i) ∨ (r = 1 ∧ ∃ g0, 0 < g0 ∧ g0 < (grs σ).toNat ∧ c g0 < lstN (σ 2).toNat c g0 ∧ (∀ i, g0 < i → i < (grs σ).toNat → lstN (σ 2).toNat c i ≤ c i) ∧ ∀ g, g < (grs σ).toNat → I' 125 g = (nxN c g0 g : Int))) (1 : Int) I8 J8))) := by
        intro l hl
        have ll : lstN (σ 2).toNat c g < (σ 2).toNat := by
          unfold lstN
          split
          · omega
          · split <;> omega
        refine at_of (n := 7) rfl rfl (by omega) ?_
        rw [a1 g (by omega)]
        refine ⟨rgK (by omega), rgK (by omega), fun d2 => put_of (n := 7) rfl rfl (by omega) (fun I7 e7 => ?_), fun d2 => add_of (n := 7) rfl rfl (by omega) (fun I8 e8 => Or.inr ⟨rfl, g, hg0, by omega, by omega, fun i hi hin => a3 i (by omega) (by omega) hin, fun x hx => ?_⟩)⟩
        · refine ih g I7 (by omega) (by omega) (fun q hq => by rw [e7, up2_key hq]; exact a0 q hq) (fun x hx => ?_) (fun x hx hxn => ?_) (fun i hi hi0 hin => ?_)
          · rw [e7, up2_row, updr_ne (by omega)]; exact a1 x (by omega)
          · rw [e7, up2_row]
            by_cases q : x = g
            · rw [q, updr_self]
            · rw [updr_ne q]; exact a2 x (by omega) hxn
          · by_cases q : i = g
            · rw [q]; omega
            · exact a3 i (by omega) hi0 hin
        · rw [e8, up2_row]
          unfold nxN
          by_cases q : x < g
          · rw [if_pos q, updr_ne (by omega)]; exact a1 x (by omega)
          · rw [if_neg q]
            by_cases q2 : x = g
            · rw [if_pos q2, q2, updr_self, a1 g (by omega)]; omega
            · rw [if_neg q2, updr_ne q2]; exact a2 x (by omega) hx
      have hl : (lstN (σ 2).toNat c g : Int) = if (hbN c g : Int) + 1 ≤ σ 2 - 1 then (hbN c g : Int) + 1 else σ 2 - 1 := by
        unfold lstN
        rw [if_neg (by omega)]
        by_cases q : hbN c g + 1 ≤ (σ 2).toNat - 1
        · rw [if_pos q, if_pos (by omega)]; omega
        · rw [if_neg q, if_neg (by omega)]; omega
      refine min_of (rgK (by omega)) (rgK (by omega)) (fun d2 => body _ ?_) (fun d2 => body _ ?_)
      · rw [hl, if_neg (by omega)]
      · rw [hl, if_pos (by omega)]
  have := key ((grs σ).toNat + 1) (grs σ).toNat I (Nat.le_refl _) (Nat.le_refl _) (fun _ _ => rfl) hc (fun g h1 h2 => by omega) (fun i h1 h2 h3 => by omega)
  rw [show (((grs σ).toNat : Nat) : Int) = grs σ by omega] at this
  exact ⟨_, this⟩
theorem pow_4_7 {p n : Nat} (hp : p ≤ 4) (hn : n ≤ 7) : p ^ n ≤ 16384 := by
  have h1 : p ^ n ≤ 4 ^ n := Nat.pow_le_pow_left hp n
  have h2 : 4 ^ n ≤ 4 ^ 7 := Nat.pow_le_pow_right (by decide) hn
  have : (4 : Nat) ^ 7 = 16384 := by decide
  omega
theorem c_search (hV : VS σ) (h7 : grs σ ≤ 7) (hE : ME σ I) (hJ : JN σ I) : wp_X0_search I J (fun I' _ => ∃ b : Nat → Nat, FB σ b ∧ I' 124 3 = bdZ σ b ∧ I' 124 4 = bkZ σ b ∧ ∀ g, g < (grs σ).toNat → I' 126 g = (b g : Int)) := by
  have hM := hV.M
  have gr := grs_b hM
  have b2 := ms_2 hM
  have hpw := pow_4_7 (p := (σ 2).toNat) (n := (grs σ).toNat) (by omega) (by omega)
  have hp : 0 < (σ 2).toNat := by omega
  refine fill_of (n := 7) rfl (fun I1 e1 I2 e2 I3 e3 => ?_)
  have o3 : ∀ q, q < 124 → I3 q = I q := fun q hq => by rw [e3, up2_key (by omega), e2, up2_key (by omega), e1, upr_ne (by omega)]
  have z3 : ∀ g, g < 7 → I3 125 g = 0 := fun g hg => by rw [e3, up2_key (by decide), e2, up2_key (by decide), e1, upr_self, filR_lt hg]
  refine ⟨16387, loopN (L := fun m (t : Int × Ii × Jj) v => L_X0_search_25 _ m t.1 v t.2.1 t.2.2) (fun v t => (∀ q, q < 124 → t.2.1 q = I q) ∧ ((t.1 = 0 ∧ BST σ (fun _ => True) (t.2.1 124 3) (t.2.1 124 4) (t.2.1 126)) ∨ (t.1 = 1 ∧ ∃ c : Nat → Nat, CN (grs σ).toNat (σ 2).toNat c ∧ (∀ g, g < (grs σ).toNat → t.2.1 125 g = (c g : Int)) ∧ BST σ (fun d => lxl (grs σ).toNat d c) (t.2.1 124 3) (t.2.1 124 4) (t.2.1 126) ∧ ∃ i, v ≤ i ∧ i < (σ 2).toNat ^ (grs σ).toNat ∧ ∀ g, g < (grs σ).toNat → dg (σ 2).toNat (grs σ).toNat i g = c g))) (N := 16386) (fun m v t hv ht kk => ?_) 16387 0 (1, I3, J) (by omega) (by omega) ⟨o3, Or.inr ⟨rfl, fun _ => 0, fun g _ => Nat.zero_le _, fun g hg => z3 g (by omega), Or.inl ⟨fun d _ z => ?_, ?_, ?_⟩, ?_⟩⟩⟩
  · obtain ⟨more, a, aJ⟩ := t
    obtain ⟨a0, a1⟩ := ht
    dsimp only at a0 a1 kk ⊢
    refine ls_X0_search_25 ?_
    generalize hr : L_X0_search_25 _ m = r at kk ⊢
    unfold Lb_X0_search_25
    rcases a1 with ⟨m0, hB⟩ | ⟨m1, c, hC, hc, hB, i, hvi, hip, hdg⟩
    · refine ⟨rgK (by omega), fun _ => BST_fin hM hB, fun z => absurd m0 z⟩
    · refine ⟨rgK (by omega), fun z => by omega, fun _ => ⟨rgK (by omega), fun z => by omega, fun _ => ?_⟩⟩
      have cl := hC.lt hp
      have frE : ∀ {a : Ii}, (∀ q, q < 124 → a q = I q) → ME σ a ∧ JN σ a := fun {a} a0 => by
        unfold ME JN
        rw [a0 113 (by decide), a0 114 (by decide), a0 115 (by decide), a0 116 (by decide), a0 117 (by decide), a0 118 (by decide), a0 119 (by decide), a0 121 (by decide)]
        exact ⟨hE, hJ⟩
      refine fr_X0_triedDebts (c_triedDebts hV h7 (frE a0).1 hc cl) (fun db I6 J6 h6 s6 => ?_)
      subst h6
      have a6 : ∀ q, q ≠ 127 → I6 q = a q := fun q hq => s6.rI (W_X0_triedDebts_n (by simp [wlk, Ne.symm hq]))
      have a60 : ∀ q, q < 124 → I6 q = I q := fun q hq => by rw [a6 q (by omega)]; exact a0 q hq
      have bB := BST_b hM h7 hB
      have bd := bdZ_b hM c
      have bk := bkZ_b hM c h7
      have r3 : I6 124 3 = a 124 3 := by rw [a6 _ (by decide)]
      have r4 : I6 124 4 = a 124 4 := by rw [a6 _ (by decide)]
      have hc6 : ∀ g, g < (grs σ).toNat → I6 125 g = (c g : Int) := fun g hg => by rw [a6 _ (by decide)]; exact hc g hg
      -- advancing
      have adv : ∀ (b : Ii) (bJ : Jj), (∀ q, q < 124 → b q = I q) → (∀ g, g < (grs σ).toNat → b 125 g = (c g : Int)) → BST σ (fun d => lxl (grs σ).toNat d c ∨ ∀ g, g < (grs σ).toNat → d g = c g) (b 124 3) (b 124 4) (b 126) → B_X0_search_109 (fun I' _ => ∃ b : Nat → Nat, FB σ b ∧ I' 124 3 = bdZ σ b ∧ I' 124 4 = bkZ σ b ∧ ∀ g, g < (grs σ).toNat → I' 126 g = (b g : Int)) r (v : Int) b bJ := by
        intro b bJ q0 q1 q2
        unfold B_X0_search_109
        refine fr_X0_advance (c_advance hV h7 (by rw [q0 _ (by decide)]; exact hE.1) (by rw [q0 _ (by decide)]; exact hE.2.1) q1 hC) (fun rr I7 J7 h7' s7 => ?_)
        have a7 : ∀ q, q ≠ 125 → I7 q = b q := fun q hq => s7.rI (W_X0_advance_n (by simp [wlk, Ne.symm hq]))
        have b7 : ∀ q, q < 124 → I7 q = I q := fun q hq => by rw [a7 q (by omega)]; exact q0 q hq
        rcases h7' with ⟨rfl, hl⟩ | ⟨rfl, g0, g1, g2, g3, g4, g5⟩
        · refine kk (by omega) (0, I7, J7) ⟨b7, Or.inl ⟨rfl, ?_⟩⟩
          show BST σ (fun _ => True) (I7 124 3) (I7 124 4) (I7 126)
          rw [a7 124 (by decide), a7 126 (by decide)]
          exact BST_iff q2 (fun d hd => ⟨fun _ => last_iff hC hd hl, fun _ => trivial⟩)
        · have hN := nxN_CN hC g3
          have hlt : lxl (grs σ).toNat c (nxN c g0) := (nxN_iff hC hC g2 g4).mpr (Or.inr (fun _ _ => rfl))
          obtain ⟨i2, j1, j2⟩ := dg_onto hp (grs σ).toNat (nxN c g0) (hN.lt hp)
          have hii : i < i2 := by
            rcases Nat.lt_trichotomy i i2 with z | z | z
            · exact z
            · exfalso
              subst z
              have e : ∀ g, g < (grs σ).toNat → nxN c g0 g = c g := fun g hg => by rw [← j2 g hg, hdg g hg]
              exact lxl_asym hlt (lxl_congl (fun g hg => (e g hg).symm) (lxl_congr e hlt))
            · exfalso
              have := dg_lex hp (grs σ).toNat i2 i z hip
              exact lxl_asym hlt (lxl_congl j2 (lxl_congr hdg this))
          refine kk (by omega) (1, I7, J7) ⟨b7, Or.inr ⟨rfl, nxN c g0, hN, g5, ?_, i2, by omega, j1, j2⟩⟩
          show BST σ (fun d => lxl (grs σ).toNat d (nxN c g0)) (I7 124 3) (I7 124 4) (I7 126)
          rw [a7 124 (by decide), a7 126 (by decide)]
          exact BST_iff q2 (fun d hd => nxN_iff hC hd g2 g4)
      have new : ∀ (b : Ii) (bJ : Jj), (∀ q, q < 124 → b q = I q) → (∀ g, g < (grs σ).toNat → b 125 g = (c g : Int)) → (bdZ σ c < a 124 3 ∨ (bdZ σ c = a 124 3 ∧ bkZ σ c < a 124 4)) → ∀ w : Int, w = bkZ σ c → B_X0_search_86 (fun I' _ => ∃ b : Nat → Nat, FB σ b ∧ I' 124 3 = bdZ σ b ∧ I' 124 4 = bkZ σ b ∧ ∀ g, g < (grs σ).toNat → I' 126 g = (b g : Int)) r (v : Int) (bdZ σ c) w b bJ := by
        intro b bJ q0 q1 hb w hw
        subst hw
        unfold B_X0_search_86
        intro I14 e14 I15 e15
        refine copy_of (n := 7) rfl rfl (fun I16 e16 => ?_)
        have f125 : I15 125 = b 125 := by rw [e15, up2_key (by decide), e14, up2_key (by decide)]
        refine adv I16 bJ (fun q hq => by rw [e16, upr_ne (by omega), e15, up2_key (by omega), e14, up2_key (by omega)]; exact q0 q hq) (fun g hg => by rw [e16, upr_ne (by decide), f125]; exact q1 g hg) ?_
        have w3 : I16 124 3 = bdZ σ c := by rw [e16, upr_ne (by decide), e15, up2_ne (by decide), e14, up2_self]
        have w4 : I16 124 4 = bkZ σ c := by rw [e16, upr_ne (by decide), e15, up2_self]
        rw [w3, w4]
        refine BST_new hM hC hB hb (fun g hg => ?_)
        rw [e16, upr_self, cpP_lt (by omega), f125]
        exact q1 g hg
      have judge : ∀ (b : Ii) (bJ : Jj) (t0 : Int), (∀ q, q < 124 → b q = I q) → (∀ g, g < (grs σ).toNat → b 125 g = (c g : Int)) → b 124 3 = a 124 3 → b 124 4 = a 124 4 → b 126 = a 126 → ((bdZ σ c ≤ a 124 3 ∧ t0 = bkZ σ c) ∨ (a 124 3 < bdZ σ c ∧ t0 = 1000000)) → B_X0_search_66 (fun I' _ => ∃ b : Nat → Nat, FB σ b ∧ I' 124 3 = bdZ σ b ∧ I' 124 4 = bkZ σ b ∧ ∀ g, g < (grs σ).toNat → I' 126 g = (b g : Int)) r (v : Int) (bdZ σ c) t0 b bJ := by
        intro b bJ t0 q0 q1 w3 w4 w126 ht0
        unfold B_X0_search_66
        rw [w3, w4]
        refine ⟨rgK (by omega), rgK (by omega), fun z => new b bJ q0 q1 (Or.inl z) t0 (by omega), fun z => ⟨rgK (by omega), rgK (by omega), fun z2 => adv b bJ q0 q1 ?_, fun z2 => new b bJ q0 q1 (by omega) t0 (by omega)⟩⟩
        rw [w3, w4, w126]
        exact BST_old hM h7 hB (by omega)
      rw [r3]
      refine ⟨rgK (by omega), rgK (by omega), fun z => ?_, fun z => judge I6 J6 1000000 a60 hc6 r3 r4 (a6 _ (by decide)) (Or.inr ⟨by omega, rfl⟩)⟩
      refine fr_X0_triedCut (c_triedCut (c := c) hV h7 (frE a60).2 (by rw [a60 _ (by decide)]; exact hE.1) hc6 cl) (fun w hw => ?_)
      exact judge I6 J6 w a60 hc6 r3 r4 (a6 _ (by decide)) (Or.inl ⟨z, hw⟩)
  · obtain ⟨g, -, -, z⟩ := z
    exact absurd z (Nat.not_lt_zero _)
  · show I3 124 3 = 1000000
    rw [e3, up2_ne (by decide), e2, up2_self]
  · show I3 124 4 = 1000000
    rw [e3, up2_self]
  · obtain ⟨i, h1, h2⟩ := dg_onto hp (grs σ).toNat (fun _ => 0) (fun _ _ => hp)
    exact ⟨i, by omega, h1, h2⟩
theorem c_searchBest (hV : VS σ) (h7 : grs σ ≤ 7) (hR : RG 200 I J σ nm) (hS : RS 300 I σ) : wp_X11_searchBest I J (fun I' _ => ME σ I' ∧ ∃ b : Nat → Nat, FB σ b ∧ I' 124 3 = bdZ σ b ∧ I' 124 4 = bkZ σ b ∧ ∀ g, g < (grs σ).toNat → I' 126 g = (b g : Int)) := by
  refine fr_X4_take (c_take sK300 hV hR hS) (fun I3 J3 hE s3 => ?_)
  refine fr_X5_join (c_join sK300 hV (hR.fr s3) (hS.fr s3)) (fun I4 J4 hJ s4 => ?_)
  have hE4 : ME σ I4 := hE.fr s4
  exact fr_X0_search (c_search hV h7 hE4 hJ) (fun I5 J5 hb s5 => ⟨hE4.fr s5, hb⟩)
end CBS
/-! ===== the best sharing: the reference ===== -/
/-- the digits of k, as a sharing -/
def dgS (σ : Nat → Int) (k : Nat) : Nat → Nat := dg (σ 2).toNat (grs σ).toNat k
/-- the best of the first k -/
def RB (σ : Nat → Int) (k : Nat) (x y : Int) (r : Nat → Int) : Prop := (k = 0 ∧ x = -1) ∨
  ∃ j, j < k ∧ x = bdZ σ (dgS σ j) ∧ y = bkZ σ (dgS σ j) ∧ (∀ g, g < (grs σ).toNat → r g = (dgS σ j g : Int)) ∧ ∀ i, i < k → ¬ klt σ (dgS σ i) (dgS σ j) ∧ (i < j → klt σ (dgS σ j) (dgS σ i))
theorem RB_b {σ : Nat → Int} (hM : MS σ) (h7 : grs σ ≤ 7) {k : Nat} {x y : Int} {r : Nat → Int} (h : RB σ k x y r) : -1 ≤ x ∧ x ≤ 80000 ∧ (x ≠ -1 → 0 ≤ y ∧ y ≤ 200000) := by
  rcases h with ⟨-, h2⟩ | ⟨j, -, h3, h4, -, -⟩
  · omega
  · have := bdZ_b hM (dgS σ j)
    have := bkZ_b hM (dgS σ j) h7
    omega
theorem RB_new {σ : Nat → Int} (hM : MS σ) {k : Nat} {x y : Int} {r r' : Nat → Int} (h : RB σ k x y r) (hb : x = -1 ∨ bdZ σ (dgS σ k) < x ∨ (bdZ σ (dgS σ k) = x ∧ bkZ σ (dgS σ k) < y)) (hr : ∀ g, g < (grs σ).toNat → r' g = (dgS σ k g : Int)) : RB σ (k + 1) (bdZ σ (dgS σ k)) (bkZ σ (dgS σ k)) r' := by
  refine Or.inr ⟨k, by omega, rfl, rfl, hr, fun i hi => ?_⟩
  by_cases e : i = k
  · subst e
    refine ⟨fun z => ?_, fun z => by omega⟩
    unfold klt at z
    omega
  · rcases h with ⟨h1, -⟩ | ⟨j, h1, h2, h3, h4, h5⟩
    · omega
    · have h6 := (h5 i (by omega)).1
      have bj := bdZ_b hM (dgS σ j)
      unfold klt at h6 ⊢
      refine ⟨fun z => ?_, fun _ => ?_⟩ <;> omega
theorem RB_old {σ : Nat → Int} {k : Nat} {x y : Int} {r : Nat → Int} (h : RB σ k x y r) (hb : ¬ (x = -1 ∨ bdZ σ (dgS σ k) < x ∨ (bdZ σ (dgS σ k) = x ∧ bkZ σ (dgS σ k) < y))) : RB σ (k + 1) x y r := by
  rcases h with ⟨-, h2⟩ | ⟨j, h1, h2, h3, h4, h5⟩
  · omega
  · refine Or.inr ⟨j, by omega, h2, h3, h4, fun i hi => ?_⟩
    by_cases e : i = k
    · subst e
      refine ⟨fun z => ?_, fun z => by omega⟩
      unfold klt at z
      omega
    · exact h5 i (by omega)
theorem RB_fin {σ : Nat → Int} (hM : MS σ) {x y : Int} {r : Nat → Int} (h : RB σ ((σ 2).toNat ^ (grs σ).toNat) x y r) : ∃ b : Nat → Nat, FB σ b ∧ x = bdZ σ b ∧ y = bkZ σ b ∧ ∀ g, g < (grs σ).toNat → r g = (b g : Int) := by
  have b2 := ms_2 hM
  have hp : 0 < (σ 2).toNat := by omega
  rcases h with ⟨h1, -⟩ | ⟨j, h1, h2, h3, h4, h5⟩
  · have : 0 < (σ 2).toNat ^ (grs σ).toNat := Nat.pow_pos hp
    omega
  · refine ⟨dgS σ j, ⟨fun g _ => dg_lt hp _ _ g, fun d hd => ?_⟩, h2, h3, h4⟩
    obtain ⟨i, i1, i2⟩ := dg_onto hp (grs σ).toNat d hd
    have h6 := h5 i i1
    have e1 : bdZ σ (dgS σ i) = bdZ σ d := bdZ_cong i2
    have e2 : bkZ σ (dgS σ i) = bkZ σ d := bkZ_cong i2
    unfold klt at h6 ⊢
    rw [e1, e2] at h6
    refine ⟨h6.1, fun hl => h6.2 ?_⟩
    rcases Nat.lt_trichotomy i j with z | z | z
    · exact z
    · exfalso
      subst z
      exact lxl_asym hl (lxl_congl (fun g hg => (i2 g hg).symm) (lxl_congr i2 hl))
    · exfalso
      have := dg_lex hp (grs σ).toNat j i z i1
      exact lxl_asym hl (lxl_congr i2 this)
theorem bwZ_none {σ : Nat → Int} {c : Nat → Nat} {q m : Nat} (h : ∀ g, g < m → c g ≠ q) : bwZ σ c q m = 0 := by
  unfold bwZ
  rw [sm_cong (g := fun _ => 0) (fun g hg => by rw [if_neg (h g hg)])]
  exact sm_zero m
/-- of a search: the weights, the joins -/
def WJ (σ : Nat → Int) (I : Ii) : Prop := (∀ g : Nat, g < (grs σ).toNat → I 12 g = gW σ (g : Int)) ∧ ∀ g h : Nat, g < (grs σ).toNat → h < (grs σ).toNat → I 11 (7 * g + h) = if g = h then 0 else joinZ σ (g : Int) (h : Int)
/-! ===== groups that come into parts, one after the other ===== -/
/-- the row behind the groups below g have come into the parts b, and how many moved -/
def plZ (σ : Nat → Int) (b : Nat → Int) : Nat → (Nat → Int) × Nat
  | 0 => (σ, 0)
  | g + 1 => (comesZ (plZ σ b g).1 (g : Int) (b g), (plZ σ b g).2 + if gPt (plZ σ b g).1 (g : Int) = b g then 0 else 1)
theorem cnt_if (n : Nat) (P : Prop) [Decidable P] : (n : Int) + (if P then 0 else 1) = ((n + (if P then 0 else 1) : Nat) : Int) := by split <;> omega
theorem plZ_succ (σ : Nat → Int) (b : Nat → Int) (g : Nat) : plZ σ b (g + 1) = (comesZ (plZ σ b g).1 (g : Int) (b g), (plZ σ b g).2 + if gPt (plZ σ b g).1 (g : Int) = b g then 0 else 1) := rfl
theorem gPt_comes {σ : Nat → Int} {g p g' : Int} (hV : VS σ) (hg : 0 ≤ g ∧ g < grs σ) (hp : 0 ≤ p ∧ p < σ 2) (h6 : σ 6 < 1000000000) (h' : 0 ≤ g' ∧ g' < grs σ) (hne : g' ≠ g) : gPt (comesZ σ g p) g' = gPt σ g' := by
  have b0 := ms_0 hV.M
  have hV2 := VS_comes hV hg hp h6
  obtain ⟨v, hv, e⟩ := hV.GV g' h'.1 h'.2
  have e0 : comesZ σ g p 0 = σ 0 := comesZ_o (by omega) (by omega)
  have e2 : gAt (comesZ σ g p) v = g' := by rw [comesZ_gAt hV.M (by omega)]; exact e
  have h1 := hV.gp hv
  have h2 := hV2.gp (v := v) (by rw [e0]; exact hv)
  rw [e] at h1
  rw [e2] at h2
  rw [h1, h2, comesZ_p hV.M hv hV.un, if_neg (by rw [e]; exact hne)]
theorem plZ_keeps {σ : Nat → Int} {b : Nat → Int} (hV : VS σ) (hb : ∀ g : Nat, (g : Int) < grs σ → 0 ≤ b g ∧ b g < σ 2) (h6 : σ 6 + 14 ≤ 1000000000) : ∀ g : Nat, (g : Int) ≤ grs σ → VS (plZ σ b g).1 ∧ GE σ (plZ σ b g).1 ∧ grs (plZ σ b g).1 = grs σ ∧ (plZ σ b g).1 5 = σ 5 ∧ (plZ σ b g).1 6 ≤ σ 6 + (g : Int) ∧ (plZ σ b g).2 ≤ g ∧ (∀ i, i = 4 ∨ (35 ≤ i ∧ i < 110) ∨ 350 ≤ i → (plZ σ b g).1 i = σ i) ∧ ∀ g' : Nat, g ≤ g' → (g' : Int) < grs σ → gPt (plZ σ b g).1 g' = gPt σ g'
  | 0, _ => ⟨hV, GE.refl σ, rfl, rfl, by show σ 6 ≤ σ 6 + ((0 : Nat) : Int); omega, Nat.le_refl _, fun _ _ => rfl, fun _ _ _ => rfl⟩
  | g + 1, hg => by
    have gr := grs_b hV.M
    obtain ⟨i1, i2, i3, i4, i5, i6, i7, i8⟩ := plZ_keeps hV hb h6 g (by omega)
    have b0 := ms_0 i1.M
    have hbg := hb g (by omega)
    have e2 : (plZ σ b g).1 2 = σ 2 := i2 2 (by omega)
    have c1 : (0 : Int) ≤ (g : Int) ∧ (g : Int) < grs (plZ σ b g).1 := by rw [i3]; omega
    have c2 : 0 ≤ b g ∧ b g < (plZ σ b g).1 2 := by rw [e2]; exact hbg
    have c6 : (plZ σ b g).1 6 < 1000000000 := by omega
    rw [plZ_succ]
    refine ⟨VS_comes i1 c1 c2 c6, i2.trans (comesZ_GE i1.M), by rw [comesZ_grs i1.M]; exact i3, by show comesZ (plZ σ b g).1 (g : Int) (b g) 5 = σ 5; rw [comesZ_o (by omega) (by omega)]; exact i4, ?_, ?_, fun i hi => by show comesZ (plZ σ b g).1 (g : Int) (b g) i = σ i; rw [comesZ_o (by omega) (by omega)]; exact i7 i hi, fun g' h1 h2 => ?_⟩
    · have := comesZ_6 (σ := (plZ σ b g).1) (g := (g : Int)) (p := b g) i1.M
      dsimp only
      rw [this]
      split <;> omega
    · dsimp only; split <;> omega
    · dsimp only
      rw [gPt_comes i1 c1 c2 c6 ⟨by omega, by rw [i3]; exact h2⟩ (by omega)]
      exact i8 g' (by omega) h2
section PL
variable {I : Ii} {J : Jj} {σ : Nat → Int} {nm : Nat → Int64}
theorem c_takeTo2 {x y : Int} {g p : Nat} (hV : VS σ) (hR : RG 200 I J σ nm) (hS : RS 300 I σ) (hx : x = (g : Int)) (hg : (g : Int) < grs σ) (hy : y = (p : Int)) (hp : (p : Int) < σ 2) (hne : gPt σ g ≠ p) : wp_X11_takeTo x y I J (fun I' _ => RS 300 I' (comesZ σ g p) ∧ ∀ g' : Nat, (g' : Int) < grs σ → I' 116 g' = gPt σ g') := by
  refine fr_X4_take (c_take sK300 hV hR hS) (fun I3 J3 hE s3 => ?_)
  refine fr_X11_transfer (c_transfer sK300 hV hE (hS.fr s3) hx hg hy hp hne) (fun I8 J8 h8 s8 => ⟨h8, fun g' hg' => ?_⟩)
  have : I8 116 = I3 116 := s8.k
  rw [this]
  exact (hE.2.2.2.2.2.2.1 g' hg').2.2
theorem c_takeBest {b : Nat → Nat} (hV : VS σ) (h7 : grs σ ≤ 7) (h6 : σ 6 + 14 ≤ 1000000000) (hR : RG 200 I J σ nm) (hS : RS 300 I σ) (hb : ∀ g : Nat, g < (grs σ).toNat → b g < (σ 2).toNat) (hp : ∀ g : Nat, (g : Int) < grs σ → I 116 g = gPt σ g) (hc : ∀ g : Nat, g < (grs σ).toNat → I 126 g = (b g : Int)) : wp_X11_takeBest I J (fun r I' _ => r = ((plZ σ (fun g => (b g : Int)) (grs σ).toNat).2 : Int) ∧ RS 300 I' (plZ σ (fun g => (b g : Int)) (grs σ).toNat).1) := by
  have hM := hV.M
  have gr := grs_b hM
  have b2 := ms_2 hM
  have hbI : ∀ g : Nat, (g : Int) < grs σ → 0 ≤ (b g : Int) ∧ (b g : Int) < σ 2 := fun g hg => by have := hb g (by omega); omega
  refine groupCount_of sK300 hV hS ⟨15, loopN (L := fun m (t : Nat × Ii × Jj) v => L_X11_takeBest_12 _ m (t.1 : Int) (grs σ) v t.2.1 t.2.2) (fun g t => t.1 = (plZ σ (fun g => (b g : Int)) g).2 ∧ RG 200 t.2.1 t.2.2 σ nm ∧ RS 300 t.2.1 (plZ σ (fun g => (b g : Int)) g).1 ∧ (∀ g' : Nat, g ≤ g' → (g' : Int) < grs σ → t.2.1 116 g' = gPt σ g') ∧ t.2.1 126 = I 126) (N := (grs σ).toNat) (fun m g t hg ht kk => ?_) 15 0 (0, I, J) (by omega) (by omega) ⟨rfl, hR, hS, fun g' _ h => hp g' h, rfl⟩⟩
  obtain ⟨n, a, aJ⟩ := t
  obtain ⟨t0, t1, t2, t3, t4⟩ := ht
  dsimp only at t0 t1 t2 t3 t4 kk ⊢
  obtain ⟨i1, i2, i3, i4, i5, i6, i7, i8⟩ := plZ_keeps hV hbI h6 g (by omega)
  refine ls_X11_takeBest_12 ?_
  generalize hr : L_X11_takeBest_12 _ m = r at kk ⊢
  unfold Lb_X11_takeBest_12
  refine ⟨rgK (by omega), rgK (by omega), fun d => ?_, fun d => ?_⟩
  · have hgn : g = (grs σ).toNat := by omega
    subst hgn
    exact ⟨by rw [t0], t2⟩
  · have hbg := hb g (by omega)
    have bgp := hV.gpb (g := (g : Int)) (by omega) (by omega)
    refine at_of (n := 7) rfl rfl (by omega) (at_of (n := 14) rfl rfl (by omega) ?_)
    rw [t4, hc g (by omega), t3 g (Nat.le_refl _) (by omega)]
    have hgp := i8 g (Nat.le_refl _) (by omega)
    refine ⟨rgK (by omega), rgK (by omega), fun d2 => kk (by omega) (n, a, aJ) ⟨?_, t1, ?_, fun g' h1 h2 => t3 g' (by omega) h2, t4⟩, fun d2 => ?_⟩
    · rw [plZ_succ]
      dsimp only
      rw [if_pos (by rw [hgp]; exact d2), t0]; rfl
    · rw [plZ_succ]
      dsimp only
      unfold comesZ
      rw [if_pos (by rw [hgp]; exact d2)]
      exact t2
    · have e2 : (plZ σ (fun g => (b g : Int)) g).1 2 = σ 2 := i2 2 (by omega)
      refine fr_X11_takeTo (c_takeTo2 i1 (t1.ge i2 hM) t2 rfl (by rw [i3]; omega) rfl (by rw [e2]; omega) (by rw [hgp]; exact d2)) (fun I8 J8 h8 s8 => ?_)
      have := kk (by omega) (n + 1, I8, J8) ⟨?_, t1.fr s8, ?_, fun g' h1 h2 => ?_, ?_⟩
      · rwa [show (((n + 1 : Nat)) : Int) = (n : Int) + 1 by omega] at this
      · rw [plZ_succ]
        dsimp only
        rw [if_neg (by rw [hgp]; exact d2), t0]
      · rw [plZ_succ]
        exact h8.1
      · show I8 116 g' = _
        rw [h8.2 g' (by rw [i3]; exact h2)]
        exact i8 g' (by omega) h2
      · have : I8 126 = a 126 := s8.k
        show I8 126 = I 126
        rw [this, t4]
theorem c_takeApart {x y : Int} {v w : Nat} (hV : VS σ) (h2 : σ 2 = 2) (h5 : σ 5 = 0) (h6 : σ 6 + 14 ≤ 1000000000) (hR : RG 200 I J σ nm) (hS : RS 300 I σ) (hx : x = (v : Int)) (hv : v < (σ 0).toNat) (hy : y = (w : Int)) (hw : w < (σ 0).toNat) (hvw : v ≠ w) : wp_X11_takeApart x y I J (fun r I' _ => ∃ T s, FLW σ v w T s ∧ r = ((plZ σ (fun g => if s.testBit g = true then 0 else 1) (σ 0).toNat).2 : Int) ∧ RS 300 I' (plZ σ (fun g => if s.testBit g = true then 0 else 1) (σ 0).toNat).1) := by
  have hM := hV.M
  have b0 := ms_0 hM
  have hgs : grs σ = σ 0 := by
    unfold grs
    rw [h5]; exact hV.n0
  refine fr_X1_run (c_run hV hR hx hv hy hw hvw) (fun I1 J1 h1 s1 => ?_)
  obtain ⟨T, s, -, q5, hF⟩ := h1
  have s14 : s < 16384 := by
    have h4 := hF.1
    have : 2 ^ (σ 0).toNat ≤ 2 ^ 14 := Nat.pow_le_pow_right (by decide) (by omega)
    omega
  have hbI : ∀ g : Nat, (g : Int) < grs σ → 0 ≤ (if s.testBit g = true then (0 : Int) else 1) ∧ (if s.testBit g = true then (0 : Int) else 1) < σ 2 := fun g _ => by split <;> omega
  refine ⟨15, loopN (L := fun m (t : Nat × Ii × Jj) v' => L_X11_takeApart_18 x y _ m (t.1 : Int) v' t.2.1 t.2.2) (fun g t => t.1 = (plZ σ (fun g => if s.testBit g = true then 0 else 1) g).2 ∧ RG 200 t.2.1 t.2.2 σ nm ∧ RS 300 t.2.1 (plZ σ (fun g => if s.testBit g = true then 0 else 1) g).1 ∧ t.2.1 128 5 = (s : Int)) (N := (σ 0).toNat) (fun m g t hg ht kk => ?_) 15 0 (0, I1, J1) (by omega) (by omega) ⟨rfl, hR.fr s1, hS.fr s1, q5⟩⟩
  obtain ⟨n, a, aJ⟩ := t
  obtain ⟨t0, t1, t2, t4⟩ := ht
  dsimp only at t0 t1 t2 t4 kk ⊢
  have hn := t1.n
  obtain ⟨i1, i2, i3, i4, i5, i6, i7, i8⟩ := plZ_keeps hV hbI h6 g (by omega)
  refine ls_X11_takeApart_18 ?_
  generalize hr : L_X11_takeApart_18 x y _ m = r at kk ⊢
  unfold Lb_X11_takeApart_18
  refine ⟨rgK (by omega), rgK (by omega), fun d => ?_, fun d => ?_⟩
  · have hgn : g = (σ 0).toNat := by omega
    subst hgn
    exact ⟨T, s, hF, by rw [t0], t2⟩
  · have hg' : g < (σ 0).toNat := by omega
    have e0 : (plZ σ (fun g => if s.testBit g = true then 0 else 1) g).1 0 = σ 0 := i2 0 (by omega)
    have e2 : (plZ σ (fun g => if s.testBit g = true then 0 else 1) g).1 2 = σ 2 := i2 2 (by omega)
    have b0' := ms_0 i1.M
    have hga : gAt (plZ σ (fun g => if s.testBit g = true then 0 else 1) g).1 g = (g : Int) := by
      have := i1.g0 (v := g) (by rw [e0]; exact hg')
      unfold gL at this
      unfold gAt
      rw [i4, h5]; exact this
    have hgp : gPt (plZ σ (fun g => if s.testBit g = true then 0 else 1) g).1 g = (plZ σ (fun g => if s.testBit g = true then 0 else 1) g).1 (21 + g) := by
      have := i1.gp (v := g) (by rw [e0]; exact hg')
      rwa [hga] at this
    have bp := i1.p (v := g) (by rw [e0]; exact hg')
    have body : ∀ q : Nat, (q : Int) = (if s.testBit g = true then 0 else 1) → B_X11_takeApart_50 x y (fun r I' _ => ∃ T s, FLW σ v w T s ∧ r = ((plZ σ (fun g => if s.testBit g = true then 0 else 1) (σ 0).toNat).2 : Int) ∧ RS 300 I' (plZ σ (fun g => if s.testBit g = true then 0 else 1) (σ 0).toNat).1) r (n : Int) (g : Int) (q : Int) a aJ := by
      intro q hq
      have hq1 : (q : Int) ≤ 1 := by rw [hq]; split <;> omega
      unfold B_X11_takeApart_50
      refine at_of (n := 14) rfl rfl (by omega) ?_
      have hrd : a 301 g = (plZ σ (fun g => if s.testBit g = true then 0 else 1) g).1 (21 + g) := t2.p (by rw [e0]; exact hg')
      rw [hrd, ← hgp]
      rw [← hgp] at bp
      refine ⟨rgK (by omega), rgK (by omega), fun d2 => kk hg' (n, a, aJ) ⟨?_, t1, ?_, t4⟩, fun d2 => ?_⟩
      · rw [plZ_succ]
        dsimp only
        rw [if_pos (by rw [d2]; exact hq), t0]; rfl
      · rw [plZ_succ]
        dsimp only
        unfold comesZ
        rw [if_pos (by rw [d2]; exact hq)]
        exact t2
      · refine fr_X11_takeTo (c_takeTo2 i1 (t1.ge i2 hM) t2 rfl (by rw [i3]; omega) rfl (by rw [e2]; omega) d2) (fun I8 J8 h8 s8 => ?_)
        have := kk hg' (n + 1, I8, J8) ⟨?_, t1.fr s8, ?_, ?_⟩
        · rwa [show (((n + 1 : Nat)) : Int) = (n : Int) + 1 by omega] at this
        · rw [plZ_succ]
          dsimp only
          rw [if_neg (by rw [← hq]; exact d2), t0]
        · rw [plZ_succ]
          dsimp only
          rw [← hq]
          exact h8.1
        · have : I8 128 5 = a 128 5 := s8.i
          show I8 128 5 = _
          rw [this, t4]
    refine isIn_of t4 rfl (by omega) (by omega) (fun d2 => ⟨fun z => absurd z (by decide), fun _ => body 0 (by rw [if_pos d2]; rfl)⟩) (fun d2 => ⟨fun _ => body 1 (by rw [if_neg (by rw [d2]; decide)]; rfl), fun z => absurd rfl z⟩)
end PL
/-! ===== tokens ===== -/
abbrev isBl (c : Int) : Prop := c = 32 ∨ c = 10
abbrev isLe (c : Int) : Prop := 97 ≤ c ∧ c ≤ 122
abbrev isDi (c : Int) : Prop := 48 ≤ c ∧ c ≤ 57
/-- the end of the run of such bytes from p on, of f bytes at most -/
def ru (P : Int → Prop) [DecidablePred P] (B : Nat → Int) : Nat → Nat → Nat
  | 0, p => p
  | f + 1, p => if P (B p) then ru P B f (p + 1) else p
theorem ru_eq {P : Int → Prop} [DecidablePred P] {B : Nat → Int} : ∀ {f p q : Nat}, p ≤ q → q ≤ p + f → (∀ i, p ≤ i → i < q → P (B i)) → (q < p + f → ¬ P (B q)) → ru P B f p = q
  | 0, p, q, h1, h2, _, _ => by show p = q; omega
  | f + 1, p, q, h1, h2, h3, h4 => by
    show (if P (B p) then ru P B f (p + 1) else p) = q
    by_cases e : p = q
    · subst e
      rw [if_neg (h4 (by omega))]
    · rw [if_pos (h3 p (Nat.le_refl _) (by omega))]
      exact ru_eq (by omega) (by omega) (fun i a b => h3 i (by omega) b) (fun c => h4 (by omega))
theorem ru_b {P : Int → Prop} [DecidablePred P] {B : Nat → Int} : ∀ {f p : Nat}, p ≤ ru P B f p ∧ ru P B f p ≤ p + f ∧ (0 < f → P (B p) → p < ru P B f p)
  | 0, p => ⟨Nat.le_refl _, Nat.le_refl _, fun h => by omega⟩
  | f + 1, p => by
    show p ≤ (if P (B p) then ru P B f (p + 1) else p) ∧ (if P (B p) then ru P B f (p + 1) else p) ≤ p + (f + 1) ∧ (0 < f + 1 → P (B p) → p < if P (B p) then ru P B f (p + 1) else p)
    have := ru_b (P := P) (B := B) (f := f) (p := p + 1)
    by_cases e : P (B p)
    · rw [if_pos e]
      exact ⟨by omega, by omega, fun _ _ => by omega⟩
    · rw [if_neg e]
      exact ⟨Nat.le_refl _, by omega, fun _ z => absurd z e⟩
theorem ru_in {P : Int → Prop} [DecidablePred P] {B : Nat → Int} : ∀ {f p i : Nat}, p ≤ i → i < ru P B f p → P (B i)
  | 0, p, i, h1, h2 => by have : i < p := h2; omega
  | f + 1, p, i, h1, h2 => by
    have h3 : i < if P (B p) then ru P B f (p + 1) else p := h2
    by_cases e : P (B p)
    · rw [if_pos e] at h3
      by_cases e2 : p = i
      · rw [← e2]; exact e
      · exact ru_in (by omega) h3
    · rw [if_neg e] at h3
      omega
/-- the word and the number of n bytes from s on -/
def wv (B : Nat → Int) (s : Nat) : Nat → Int64
  | 0 => lZ 0
  | n + 1 => (shlL (wv B s n) 5) ||| (i2lZ (B (s + n) - 96))
def nv (B : Nat → Int) (s : Nat) : Nat → Int
  | 0 => 0
  | n + 1 => nv B s n * 10 + B (s + n) - 48
/-- where the token behind p starts, where it ends, what it is -/
def tS (B : Nat → Int) (E p : Nat) : Nat := ru isBl B (E - p) p
def eS (B : Nat → Int) (E s : Nat) : Nat := if E ≤ s then s else if isLe (B s) then ru isLe B (E - s) s else if isDi (B s) then ru isDi B (E - s) s else s + 1
def kS (B : Nat → Int) (E s : Nat) : Int := if E ≤ s then 0 else if isLe (B s) then (if eS B E s - s ≤ 8 then 1 else 6) else if isDi (B s) then (if eS B E s - s ≤ 3 then 2 else 6) else if B s = 59 then 3 else if B s = 40 then 4 else if B s = 41 then 5 else 6
def tE (B : Nat → Int) (E p : Nat) : Nat := eS B E (tS B E p)
def tK (B : Nat → Int) (E p : Nat) : Int := kS B E (tS B E p)
def tW (B : Nat → Int) (E p : Nat) : Int64 := wv B (tS B E p) (tE B E p - tS B E p)
def tN (B : Nat → Int) (E p : Nat) : Int := nv B (tS B E p) (tE B E p - tS B E p)
section LX
variable {B : Nat → Int} {E p : Nat}
theorem tS_b (hp : p ≤ E) : p ≤ tS B E p ∧ tS B E p ≤ E := by
  have := ru_b (P := isBl) (B := B) (f := E - p) (p := p)
  unfold tS
  omega
theorem eS_b {s : Nat} (hs : s ≤ E) : s ≤ eS B E s ∧ eS B E s ≤ E ∧ (s < E → s < eS B E s) := by
  unfold eS
  split
  · omega
  · split
    · have := ru_b (P := isLe) (B := B) (f := E - s) (p := s)
      rename_i h1 h2
      have := this.2.2 (by omega) h2
      omega
    · split
      · have := ru_b (P := isDi) (B := B) (f := E - s) (p := s)
        rename_i h1 h2 h3
        have := this.2.2 (by omega) h3
        omega
      · omega
theorem tE_b (hp : p ≤ E) : tS B E p ≤ tE B E p ∧ tE B E p ≤ E ∧ p ≤ tE B E p := by
  have h1 := tS_b (B := B) hp
  have h2 := eS_b (B := B) h1.2
  unfold tE
  omega
theorem tK_lt (hp : p ≤ E) (h : tK B E p ≠ 0) : tS B E p < tE B E p := by
  have h1 := tS_b (B := B) hp
  have h2 := eS_b (B := B) h1.2
  unfold tK kS at h
  unfold tE
  by_cases e : E ≤ tS B E p
  · rw [if_pos e] at h; exact absurd rfl h
  · omega
theorem tK_b : 0 ≤ tK B E p ∧ tK B E p ≤ 6 := by
  unfold tK kS
  repeat' split
  all_goals omega
theorem nv_b {s : Nat} : ∀ {n : Nat}, n ≤ 3 → (∀ i, s ≤ i → i < s + n → isDi (B i)) → 0 ≤ nv B s n ∧ nv B s n ≤ (if n = 0 then 0 else if n = 1 then 9 else if n = 2 then 99 else 999)
  | 0, _, _ => by simp [nv]
  | n + 1, hn, h => by
    have i := nv_b (n := n) (by omega) (fun i a b => h i a (by omega))
    have j := h (s + n) (by omega) (by omega)
    show 0 ≤ nv B s n * 10 + B (s + n) - 48 ∧ nv B s n * 10 + B (s + n) - 48 ≤ _
    have : n = 0 ∨ n = 1 ∨ n = 2 := by omega
    rcases this with e | e | e <;> subst e <;> simp at i j ⊢ <;> omega
theorem tN_b (hp : p ≤ E) (h : tK B E p = 2) : 0 ≤ tN B E p ∧ tN B E p ≤ 999 := by
  have h1 := tS_b (B := B) hp
  unfold tK kS at h
  unfold tN tE
  by_cases e : E ≤ tS B E p
  · rw [if_pos e] at h; omega
  rw [if_neg e] at h
  by_cases e2 : isLe (B (tS B E p))
  · rw [if_pos e2] at h; split at h <;> omega
  rw [if_neg e2] at h
  by_cases e3 : isDi (B (tS B E p))
  · rw [if_pos e3] at h
    by_cases e4 : eS B E (tS B E p) - tS B E p ≤ 3
    · have := nv_b (B := B) (s := tS B E p) e4 (fun i a b => by
        have c : eS B E (tS B E p) = ru isDi B (E - tS B E p) (tS B E p) := by unfold eS; rw [if_neg e, if_neg e2, if_pos e3]
        have := ru_b (P := isDi) (B := B) (f := E - tS B E p) (p := tS B E p)
        exact ru_in (P := isDi) a (by rw [← c]; omega))
      repeat' split at this
      all_goals omega
    · rw [if_neg e4] at h; omega
  · rw [if_neg e3] at h
    repeat' split at h
    all_goals omega
end LX
section LXC
variable {I : Ii} {J : Jj} {B : Nat → Int} {E : Nat}
theorem isLe_of {x : Int} (hx : -1 ≤ x ∧ x ≤ 255) {Q : Int → Ii → Jj → Prop} (h1 : isLe x → Q 1 I J) (h0 : ¬ isLe x → Q 0 I J) : wp_X10_isLetter x I J Q :=
  ⟨rgK (by omega), fun c => h0 (by omega), fun c => ⟨fun d => h0 (by omega), fun d => h1 (by omega)⟩⟩
theorem isDi_of {x : Int} (hx : -1 ≤ x ∧ x ≤ 255) {Q : Int → Ii → Jj → Prop} (h1 : isDi x → Q 1 I J) (h0 : ¬ isDi x → Q 0 I J) : wp_X10_isDigit x I J Q :=
  ⟨rgK (by omega), fun c => h0 (by omega), fun c => ⟨fun d => h0 (by omega), fun d => h1 (by omega)⟩⟩
theorem isBl_of {x : Int} (hx : -1 ≤ x ∧ x ≤ 255) {Q : Int → Ii → Jj → Prop} (h1 : isBl x → Q 1 I J) (h0 : ¬ isBl x → Q 0 I J) : wp_X10_isBlank x I J Q :=
  ⟨rgK (by omega), fun c => h1 (by omega), fun c => ⟨fun d => h0 (by omega), fun d => h1 (by omega)⟩⟩
theorem c_takeWord {s : Nat} (h2 : I 101 2 = (E : Int)) (h3 : I 101 3 = (s : Int)) (h4 : I 101 4 = (s : Int)) (hs : s ≤ E) (hE : E ≤ 800) (hB : ∀ i, i < E → I 102 i = B i) (hb : ∀ i, i < E → 0 ≤ B i ∧ B i ≤ 255) : wp_X10_takeWord I J (fun I' J' => I' 101 4 = (ru isLe B (E - s) s : Int) ∧ J' 101 6 = wv B s (ru isLe B (E - s) s - s) ∧ I' 101 5 = (if ru isLe B (E - s) s - s ≤ 8 then 1 else 6) ∧ I' 101 3 = (s : Int)) := by
  unfold wp_X10_takeWord
  intro J1 e1
  refine ⟨E + 1, loopN (L := fun m (t : Ii × Jj) _ => L_X10_takeWord_5 _ m t.1 t.2) (fun v t => s ≤ v ∧ t.1 101 2 = (E : Int) ∧ t.1 101 3 = (s : Int) ∧ t.1 101 4 = (v : Int) ∧ t.1 102 = I 102 ∧ (∀ i, s ≤ i → i < v → isLe (B i)) ∧ t.2 101 6 = wv B s (v - s)) (N := E) (fun m v t hv ht kk => ?_) (E + 1) s (I, J1) hs (by omega) ⟨Nat.le_refl _, h2, h3, h4, rfl, fun i a b => by omega, by show J1 101 6 = _; rw [e1, Nat.sub_self]; exact up2_self _ _ _ _⟩⟩
  obtain ⟨a, aJ⟩ := t
  obtain ⟨t1, t2, t3, t4, t5, t6, t7⟩ := ht
  dsimp only at t2 t3 t4 t5 t7 kk ⊢
  refine ls_X10_takeWord_5 ?_
  generalize hr : L_X10_takeWord_5 _ m = r at kk ⊢
  unfold Lb_X10_takeWord_5
  have fin : (v < E → ¬ isLe (B v)) → B_X10_takeWord_68 (fun I' J' => I' 101 4 = (ru isLe B (E - s) s : Int) ∧ J' 101 6 = wv B s (ru isLe B (E - s) s - s) ∧ I' 101 5 = (if ru isLe B (E - s) s - s ≤ 8 then 1 else 6) ∧ I' 101 3 = (s : Int)) a aJ := by
    intro hn
    have e : ru isLe B (E - s) s = v := ru_eq t1 (by omega) t6 (fun c => hn (by omega))
    rw [e]
    refine ⟨rgK (by omega), fun d I1 e2 => ?_, fun d I1 e2 => ?_⟩
    · subst e2
      exact ⟨(up2_ne (by omega)).trans t4, t7, by rw [if_neg (by omega)]; exact up2_self _ _ _ _, (up2_ne (by omega)).trans t3⟩
    · subst e2
      exact ⟨(up2_ne (by omega)).trans t4, t7, by rw [if_pos (by omega)]; exact up2_self _ _ _ _, (up2_ne (by omega)).trans t3⟩
  refine ⟨rgK (by omega), rgK (by omega), fun d => fin (fun c => by omega), fun d => ?_⟩
  have hv' : v < E := by omega
  have hbv := hb v hv'
  have ev : a 102 v = B v := by rw [t5]; exact hB v hv'
  refine at_of (n := 800) rfl t4 (by omega) ?_
  rw [ev]
  refine isLe_of (by omega) (fun d2 => ⟨fun z => absurd z (by decide), fun _ => ?_⟩) (fun d2 => ⟨fun _ => fin (fun _ => d2), fun z => absurd rfl z⟩)
  refine at_of (n := 800) rfl t4 (by omega) ?_
  rw [ev]
  intro J8 e8 I9 e9
  refine kk hv' (I9, J8) ⟨by omega, ?_, ?_, ?_, ?_, fun i c1 c2 => ?_, ?_⟩
  · show I9 101 2 = _
    rw [e9, up2_ne (by omega)]; exact t2
  · show I9 101 3 = _
    rw [e9, up2_ne (by omega)]; exact t3
  · show I9 101 4 = _
    rw [e9, up2_self, t4]; omega
  · show I9 102 = _
    rw [e9, up2_key (by omega)]; exact t5
  · by_cases c : i = v
    · rw [c]; exact d2
    · exact t6 i c1 (by omega)
  · show J8 101 6 = _
    rw [e8, up2_self, t7, show v + 1 - s = (v - s) + 1 by omega]
    show _ = (shlL (wv B s (v - s)) 5) ||| (i2lZ (B (s + (v - s)) - 96))
    rw [show s + (v - s) = v by omega]
theorem c_takeNumber {s : Nat} (h2 : I 101 2 = (E : Int)) (h3 : I 101 3 = (s : Int)) (h4 : I 101 4 = (s : Int)) (hs : s ≤ E) (hE : E ≤ 800) (hB : ∀ i, i < E → I 102 i = B i) (hb : ∀ i, i < E → 0 ≤ B i ∧ B i ≤ 255) : wp_X10_takeNumber I J (fun I' J' => I' 101 4 = (ru isDi B (E - s) s : Int) ∧ I' 101 7 = nv B s (ru isDi B (E - s) s - s) ∧ I' 101 5 = (if ru isDi B (E - s) s - s ≤ 3 then 2 else 6) ∧ I' 101 3 = (s : Int)) := by
  unfold wp_X10_takeNumber
  intro I1 e1
  refine ⟨E + 1, loopN (L := fun m (t : Ii × Jj) _ => L_X10_takeNumber_5 _ m t.1 t.2) (fun v t => s ≤ v ∧ t.1 101 2 = (E : Int) ∧ t.1 101 3 = (s : Int) ∧ t.1 101 4 = (v : Int) ∧ t.1 102 = I 102 ∧ (∀ i, s ≤ i → i < v → isDi (B i)) ∧ t.1 101 7 = nv B s (v - s)) (N := E) (fun m v t hv ht kk => ?_) (E + 1) s (I1, J) hs (by omega) ⟨Nat.le_refl _, by show I1 101 2 = _; rw [e1, up2_ne (by omega)]; exact h2, by show I1 101 3 = _; rw [e1, up2_ne (by omega)]; exact h3, by show I1 101 4 = _; rw [e1, up2_ne (by omega)]; exact h4, by show I1 102 = _; rw [e1, up2_key (by omega)], fun i a b => by omega, by show I1 101 7 = _; rw [Nat.sub_self, e1]; exact up2_self _ _ _ _⟩⟩
  obtain ⟨a, aJ⟩ := t
  obtain ⟨t1, t2, t3, t4, t5, t6, t7⟩ := ht
  dsimp only at t2 t3 t4 t5 t7 kk ⊢
  refine ls_X10_takeNumber_5 ?_
  generalize hr : L_X10_takeNumber_5 _ m = r at kk ⊢
  unfold Lb_X10_takeNumber_5
  have fin : (v < E → ¬ isDi (B v)) → B_X10_takeNumber_72 (fun I' J' => I' 101 4 = (ru isDi B (E - s) s : Int) ∧ I' 101 7 = nv B s (ru isDi B (E - s) s - s) ∧ I' 101 5 = (if ru isDi B (E - s) s - s ≤ 3 then 2 else 6) ∧ I' 101 3 = (s : Int)) a aJ := by
    intro hn
    have e : ru isDi B (E - s) s = v := ru_eq t1 (by omega) t6 (fun c => hn (by omega))
    rw [e]
    refine ⟨rgK (by omega), fun d I1 e2 => ?_, fun d I1 e2 => ?_⟩
    · subst e2
      exact ⟨(up2_ne (by omega)).trans t4, (up2_ne (by omega)).trans t7, by rw [if_neg (by omega)]; exact up2_self _ _ _ _, (up2_ne (by omega)).trans t3⟩
    · subst e2
      exact ⟨(up2_ne (by omega)).trans t4, (up2_ne (by omega)).trans t7, by rw [if_pos (by omega)]; exact up2_self _ _ _ _, (up2_ne (by omega)).trans t3⟩
  refine ⟨rgK (by omega), rgK (by omega), fun d => fin (fun c => by omega), fun d => ?_⟩
  have hv' : v < E := by omega
  have hbv := hb v hv'
  have ev : a 102 v = B v := by rw [t5]; exact hB v hv'
  refine at_of (n := 800) rfl t4 (by omega) ?_
  rw [ev]
  refine isDi_of (by omega) (fun d2 => ⟨fun z => absurd z (by decide), fun _ => ?_⟩) (fun d2 => ⟨fun _ => fin (fun _ => d2), fun z => absurd rfl z⟩)
  refine at_of (n := 800) rfl t4 (by omega) ?_
  rw [ev]
  intro I7 e7 I8 e8
  refine kk hv' (I8, aJ) ⟨by omega, ?_, ?_, ?_, ?_, fun i c1 c2 => ?_, ?_⟩
  · show I8 101 2 = _
    rw [e8, up2_ne (by omega), e7, up2_ne (by omega)]; exact t2
  · show I8 101 3 = _
    rw [e8, up2_ne (by omega), e7, up2_ne (by omega)]; exact t3
  · show I8 101 4 = _
    rw [e8, up2_self, e7, up2_ne (by omega), t4]; omega
  · show I8 102 = _
    rw [e8, up2_key (by omega), e7, up2_key (by omega)]; exact t5
  · by_cases c : i = v
    · rw [c]; exact d2
    · exact t6 i c1 (by omega)
  · show I8 101 7 = _
    rw [e8, up2_ne (by omega), e7, up2_self, t7, show v + 1 - s = (v - s) + 1 by omega]
    show _ = nv B s (v - s) * 10 + B (s + (v - s)) - 48
    rw [show s + (v - s) = v by omega]
theorem c_tok {p : Nat} (h2 : I 101 2 = (E : Int)) (h4 : I 101 4 = (p : Int)) (hp : p ≤ E) (hE : E ≤ 800) (hB : ∀ i, i < E → I 102 i = B i) (hb : ∀ i, i < E → 0 ≤ B i ∧ B i ≤ 255) : wp_X10_advance I J (fun I' J' => I' 101 3 = (tS B E p : Int) ∧ I' 101 4 = (tE B E p : Int) ∧ I' 101 5 = tK B E p ∧ (tK B E p = 1 → J' 101 6 = tW B E p) ∧ (tK B E p = 2 → I' 101 7 = tN B E p ∧ J' 101 6 = J 101 6)) := by
  refine ⟨E + 1, loopN (L := fun m (t : Ii × Jj) _ => L_X10_advance_0 _ m t.1 t.2) (fun v t => t.2 = J ∧ p ≤ v ∧ t.1 101 2 = (E : Int) ∧ t.1 101 4 = (v : Int) ∧ t.1 102 = I 102 ∧ (∀ i, p ≤ i → i < v → isBl (B i))) (N := E) (fun m v t hv ht kk => ?_) (E + 1) p (I, J) hp (by omega) ⟨rfl, Nat.le_refl _, h2, h4, rfl, fun i a b => by omega⟩⟩
  obtain ⟨a, aJ⟩ := t
  obtain ⟨tJ, t1, t2, t4, t5, t6⟩ := ht
  dsimp only at tJ t2 t4 t5 kk ⊢
  obtain rfl := tJ.symm
  refine ls_X10_advance_0 ?_
  generalize hr : L_X10_advance_0 _ m = r at kk ⊢
  unfold Lb_X10_advance_0
  have fin : (v < E → ¬ isBl (B v)) → B_X10_advance_41 (fun I' J' => I' 101 3 = (tS B E p : Int) ∧ I' 101 4 = (tE B E p : Int) ∧ I' 101 5 = tK B E p ∧ (tK B E p = 1 → J' 101 6 = tW B E p) ∧ (tK B E p = 2 → I' 101 7 = tN B E p ∧ J' 101 6 = J 101 6)) a J := by
    intro hn
    have e : tS B E p = v := ru_eq t1 (by omega) t6 (fun c => hn (by omega))
    unfold tE tK tW tN tE
    rw [e]
    unfold B_X10_advance_41
    intro I6 e6
    have q2 : I6 101 2 = (E : Int) := by rw [e6]; exact (up2_ne (by omega)).trans t2
    have q3 : I6 101 3 = (v : Int) := by rw [e6, up2_self]; exact t4
    have q4 : I6 101 4 = (v : Int) := by rw [e6]; exact (up2_ne (by omega)).trans t4
    have q5 : I6 102 = I 102 := by rw [e6, up2_key (by omega)]; exact t5
    refine ⟨rgK (by omega), rgK (by omega), fun d => ?_, fun d => ?_⟩
    · have hv' : v < E := by omega
      have hbv := hb v hv'
      refine at_of (n := 800) rfl q4 (by omega) ?_
      rw [q5, hB v hv']
      refine isLe_of (by omega) (fun d2 => ⟨fun z => absurd z (by decide), fun _ => ?_⟩) (fun d2 => ⟨fun _ => ?_, fun z => absurd rfl z⟩)
      · have ee : eS B E v = ru isLe B (E - v) v := by unfold eS; rw [if_neg (by omega), if_pos d2]
        have ek : kS B E v = if eS B E v - v ≤ 8 then 1 else 6 := by unfold kS; rw [if_neg (by omega), if_pos d2]
        refine fr_X10_takeWord (c_takeWord q2 q3 q4 hv hE (fun i hi => by rw [q5]; exact hB i hi) hb) (fun I16 J16 h16 _ => ?_)
        rw [ek, ee]
        refine ⟨h16.2.2.2, h16.1, h16.2.2.1, fun _ => h16.2.1, fun z => ?_⟩
        split at z <;> omega
      · refine isDi_of (by omega) (fun d3 => ⟨fun z => absurd z (by decide), fun _ => ?_⟩) (fun d3 => ⟨fun _ => ?_, fun z => absurd rfl z⟩)
        · have ee : eS B E v = ru isDi B (E - v) v := by unfold eS; rw [if_neg (by omega), if_neg d2, if_pos d3]
          have ek : kS B E v = if eS B E v - v ≤ 3 then 2 else 6 := by unfold kS; rw [if_neg (by omega), if_neg d2, if_pos d3]
          refine fr_X10_takeNumber (c_takeNumber q2 q3 q4 hv hE (fun i hi => by rw [q5]; exact hB i hi) hb) (fun I16 J16 h16 s16 => ?_)
          rw [ek, ee]
          refine ⟨h16.2.2.2, h16.1, h16.2.2.1, fun z => ?_, fun _ => ⟨h16.2.1, (s16.J (k := 101) (i := 6) (by unfold W_X10_takeNumber WL; decide))⟩⟩
          split at z <;> omega
        · have ee : eS B E v = v + 1 := by unfold eS; rw [if_neg (by omega), if_neg d2, if_neg d3]
          have ek : kS B E v = if B v = 59 then 3 else if B v = 40 then 4 else if B v = 41 then 5 else 6 := by unfold kS; rw [if_neg (by omega), if_neg d2, if_neg d3]
          have go : ∀ z : Int, z = kS B E v → z ≠ 1 → z ≠ 2 → ∀ I13 : Ii, I13 = up2 I6 101 5 z → ∀ I14 : Ii, I14 = up2 I13 101 4 ((I13 101 4) + 1) → (I14 101 3 = (v : Int) ∧ I14 101 4 = (eS B E v : Int) ∧ I14 101 5 = kS B E v ∧ (kS B E v = 1 → J 101 6 = wv B v (eS B E v - v)) ∧ (kS B E v = 2 → I14 101 7 = nv B v (eS B E v - v) ∧ J 101 6 = J 101 6)) := by
            intro z hz z1 z2 I13 e13 I14 e14
            rw [← hz, ee]
            refine ⟨?_, ?_, ?_, fun c => absurd c z1, fun c => absurd c z2⟩
            · rw [e14, e13, up2_ne (by omega), up2_ne (by omega)]; exact q3
            · rw [e14, up2_self, e13, up2_ne (by omega), q4]; omega
            · rw [e14, up2_ne (by omega), e13, up2_self]
          refine ⟨rgK (by omega), fun c => go 6 ?_ (by decide) (by decide), fun c => go 4 ?_ (by decide) (by decide), fun c => go 5 ?_ (by decide) (by decide), fun c => go 3 ?_ (by decide) (by decide)⟩
          · rw [ek, if_neg (by omega), if_neg (by omega), if_neg (by omega)]
          · rw [ek, if_neg (by omega), if_pos (by omega)]
          · rw [ek, if_neg (by omega), if_neg (by omega), if_pos (by omega)]
          · rw [ek, if_pos (by omega)]
    · intro I17 e17
      have ee : eS B E v = v := by unfold eS; rw [if_pos (by omega)]
      have ek : kS B E v = 0 := by unfold kS; rw [if_pos (by omega)]
      rw [ek, ee]
      refine ⟨?_, ?_, ?_, fun c => absurd c (by decide), fun c => absurd c (by decide)⟩
      · rw [e17, up2_ne (by omega)]; exact q3
      · rw [e17, up2_ne (by omega)]; exact q4
      · rw [e17, up2_self]
  refine ⟨rgK (by omega), rgK (by omega), fun d => fin (fun c => by omega), fun d => ?_⟩
  have hv' : v < E := by omega
  have hbv := hb v hv'
  have ev : a 102 v = B v := by rw [t5]; exact hB v hv'
  refine at_of (n := 800) rfl t4 (by omega) ?_
  rw [ev]
  refine isBl_of (by omega) (fun d2 => ⟨fun z => absurd z (by decide), fun _ => ?_⟩) (fun d2 => ⟨fun _ => fin (fun _ => d2), fun z => absurd rfl z⟩)
  intro I5 e5
  refine kk hv' (I5, J) ⟨rfl, by omega, ?_, ?_, ?_, fun i c1 c2 => ?_⟩
  · show I5 101 2 = _
    rw [e5, up2_ne (by omega)]; exact t2
  · show I5 101 4 = _
    rw [e5, up2_self, t4]; omega
  · show I5 102 = _
    rw [e5, up2_key (by omega)]; exact t5
  · by_cases c : i = v
    · rw [c]; exact d2
    · exact t6 i c1 (by omega)
end LXC
/-! ===== tokens: the reference ===== -/
/-- the reference's sort of a token -/
def soK (k : Int) : Int := if k = 0 then 0 else if k = 1 then 1 else if k = 2 then 2 else if k = 6 then 4 else 3
/-- the token behind p has been looked at -/
def LK (B : Nat → Int) (E p : Nat) (I : Ii) (J : Jj) : Prop := I 0 5 = (tS B E p : Int) ∧ I 0 4 = (tE B E p : Int) ∧ I 0 6 = soK (tK B E p) ∧ (tK B E p = 1 → J 0 14 = tW B E p) ∧ (tK B E p = 2 → I 0 7 = tN B E p) ∧ (tK B E p = 3 → I 0 7 = 59) ∧ (tK B E p = 4 → I 0 7 = 40) ∧ (tK B E p = 5 → I 0 7 = 41)

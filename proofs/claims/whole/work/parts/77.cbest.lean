/-! ===== the best sharing: the class ===== -/
/-- the next sharing that is tried -/
def nxN (c : Nat → Nat) (g0 : Nat) : Nat → Nat := fun i => if i < g0 then c i else if i = g0 then c g0 + 1 else 0
theorem nxN_CN {n p : Nat} {c : Nat → Nat} {g0 : Nat} (hc : CN n p c) (h : c g0 < lstN p c g0) : CN n p (nxN c g0) := fun g hg => by
  by_cases q1 : g < g0
  · rw [← lstN_cong (c := c) (fun i hi => by unfold nxN; rw [if_pos (by omega)])]
    unfold nxN
    rw [if_pos q1]; exact hc g hg
  · by_cases q2 : g = g0
    · subst q2
      rw [← lstN_cong (c := c) (fun i hi => by unfold nxN; rw [if_pos (by omega)])]
      unfold nxN
      rw [if_neg (by omega), if_pos rfl]; exact h
    · have e : nxN c g0 g = 0 := by unfold nxN; rw [if_neg q1, if_neg q2]
      rw [e]; exact Nat.zero_le _
theorem nxN_iff {n p : Nat} {c d : Nat → Nat} {g0 : Nat} (hc : CN n p c) (hd : CN n p d) (hg : g0 < n) (hl : ∀ i, g0 < i → i < n → lstN p c i ≤ c i) : lxl n d (nxN c g0) ↔ (lxl n d c ∨ ∀ g, g < n → d g = c g) := by
  have lo : ∀ i, i < g0 → nxN c g0 i = c i := fun i hi => by unfold nxN; rw [if_pos hi]
  have at0 : nxN c g0 g0 = c g0 + 1 := by unfold nxN; rw [if_neg (by omega), if_pos rfl]
  have hi0 : ∀ i, g0 < i → nxN c g0 i = 0 := fun i hi => by unfold nxN; rw [if_neg (by omega), if_neg (by omega)]
  constructor
  · rintro ⟨g, a1, a2, a3⟩
    rcases Nat.lt_trichotomy g g0 with q | q | q
    · exact Or.inl ⟨g, a1, fun i hi => by rw [a2 i hi, lo i (by omega)], by rw [← lo g q]; exact a3⟩
    · subst q
      rw [at0] at a3
      have eqlo : ∀ i, i < g → d i = c i := fun i hi => by rw [a2 i hi, lo i hi]
      by_cases e : d g = c g
      · rcases lxl_tri n d c with h | h | h
        · exact Or.inl h
        · exfalso
          obtain ⟨k, b1, b2, b3⟩ := h
          have hk : g < k := by
            rcases Nat.lt_trichotomy k g with z | z | z
            · have := eqlo k z; omega
            · subst z; omega
            · exact z
          have h1 := hl k hk b1
          have h2 := hd k b1
          rw [← lstN_cong (c := c) (fun i hi => b2 i hi)] at h2
          omega
        · exact Or.inr h
      · exact Or.inl ⟨g, a1, eqlo, by omega⟩
    · rw [hi0 g q] at a3; omega
  · rintro (⟨g, a1, a2, a3⟩ | h)
    · by_cases q : g < g0
      · exact ⟨g, a1, fun i hi => by rw [a2 i hi, lo i (by omega)], by rw [lo g q]; exact a3⟩
      · refine ⟨g0, hg, fun i hi => by rw [a2 i (by omega), lo i hi], ?_⟩
        rw [at0]
        by_cases e : g = g0
        · subst e; omega
        · rw [a2 g0 (by omega)]; omega
    · exact ⟨g0, hg, fun i hi => by rw [h i (by omega), lo i hi], by rw [at0, h g0 hg]; omega⟩
theorem last_iff {n p : Nat} {c d : Nat → Nat} (hc : CN n p c) (hd : CN n p d) (hl : ∀ i, 0 < i → i < n → lstN p c i ≤ c i) : lxl n d c ∨ ∀ g, g < n → d g = c g := by
  rcases lxl_tri n d c with h | h | h
  · exact Or.inl h
  · exfalso
    obtain ⟨k, b1, b2, b3⟩ := h
    have h2 := hd k b1
    by_cases k0 : k = 0
    · subst k0
      unfold lstN at h2
      rw [if_pos rfl] at h2
      omega
    · have h1 := hl k (by omega) b1
      rw [← lstN_cong (c := c) (fun i hi => b2 i hi)] at h2
      omega
  · exact Or.inr h
/-- the best of those that P names -/
def BST (σ : Nat → Int) (P : (Nat → Nat) → Prop) (x y : Int) (r : Nat → Int) : Prop := ((∀ d, CN (grs σ).toNat (σ 2).toNat d → ¬ P d) ∧ x = 1000000 ∧ y = 1000000) ∨
  ∃ b : Nat → Nat, CN (grs σ).toNat (σ 2).toNat b ∧ P b ∧ x = bdZ σ b ∧ y = bkZ σ b ∧ (∀ g, g < (grs σ).toNat → r g = (b g : Int)) ∧ ∀ d, CN (grs σ).toNat (σ 2).toNat d → P d → ¬ klt σ d b ∧ (lxl (grs σ).toNat d b → klt σ b d)
theorem BST_iff {σ : Nat → Int} {P P' : (Nat → Nat) → Prop} {x y : Int} {r : Nat → Int} (h : BST σ P x y r) (e : ∀ d, CN (grs σ).toNat (σ 2).toNat d → (P' d ↔ P d)) : BST σ P' x y r := by
  rcases h with ⟨h1, h2, h3⟩ | ⟨b, h1, h2, h3, h4, h5, h6⟩
  · exact Or.inl ⟨fun d hd z => h1 d hd ((e d hd).mp z), h2, h3⟩
  · exact Or.inr ⟨b, h1, (e b h1).mpr h2, h3, h4, h5, fun d hd z => h6 d hd ((e d hd).mp z)⟩
theorem BST_b {σ : Nat → Int} (hM : MS σ) (h7 : grs σ ≤ 7) {P : (Nat → Nat) → Prop} {x y : Int} {r : Nat → Int} (h : BST σ P x y r) : 0 ≤ x ∧ x ≤ 1000000 ∧ 0 ≤ y ∧ y ≤ 1000000 := by
  rcases h with ⟨-, h2, h3⟩ | ⟨b, -, -, h3, h4, -, -⟩
  · omega
  · have := bdZ_b hM b
    have := bkZ_b hM b h7
    omega
theorem BST_new {σ : Nat → Int} (hM : MS σ) {c : Nat → Nat} {x y : Int} {r r' : Nat → Int} (hc : CN (grs σ).toNat (σ 2).toNat c) (h : BST σ (fun d => lxl (grs σ).toNat d c) x y r) (hb : bdZ σ c < x ∨ (bdZ σ c = x ∧ bkZ σ c < y)) (hr : ∀ g, g < (grs σ).toNat → r' g = (c g : Int)) : BST σ (fun d => lxl (grs σ).toNat d c ∨ ∀ g, g < (grs σ).toNat → d g = c g) (bdZ σ c) (bkZ σ c) r' := by
  refine Or.inr ⟨c, hc, Or.inr (fun _ _ => rfl), rfl, rfl, hr, fun d hd hP => ?_⟩
  rcases hP with hP | hP
  · rcases h with ⟨h1, -, -⟩ | ⟨b, h1, h2, h3, h4, h5, h6⟩
    · exact absurd hP (h1 d hd)
    · have h7 := (h6 d hd hP).1
      unfold klt at h7 ⊢
      refine ⟨fun z => ?_, fun _ => ?_⟩ <;> omega
  · have e1 := bdZ_cong (σ := σ) hP
    have e2 := bkZ_cong (σ := σ) hP
    refine ⟨fun z => ?_, fun z => absurd (lxl_congl hP z) (fun z => lxl_asym z z)⟩
    unfold klt at z
    omega
theorem BST_old {σ : Nat → Int} (hM : MS σ) (h7 : grs σ ≤ 7) {c : Nat → Nat} {x y : Int} {r : Nat → Int} (h : BST σ (fun d => lxl (grs σ).toNat d c) x y r) (hb : ¬ (bdZ σ c < x ∨ (bdZ σ c = x ∧ bkZ σ c < y))) : BST σ (fun d => lxl (grs σ).toNat d c ∨ ∀ g, g < (grs σ).toNat → d g = c g) x y r := by
  rcases h with ⟨-, h2, h3⟩ | ⟨b, h1, h2, h3, h4, h5, h6⟩
  · have := bdZ_b hM c
    have := bkZ_b hM c h7
    omega
  · refine Or.inr ⟨b, h1, Or.inl h2, h3, h4, h5, fun d hd hP => ?_⟩
    rcases hP with hP | hP
    · exact h6 d hd hP
    · have e1 := bdZ_cong (σ := σ) hP
      have e2 := bkZ_cong (σ := σ) hP
      refine ⟨fun z => ?_, fun z => absurd (lxl_congl hP z) (fun z => lxl_asym z h2)⟩
      unfold klt at z
      omega
theorem BST_fin {σ : Nat → Int} (hM : MS σ) {x y : Int} {r : Nat → Int} (h : BST σ (fun _ => True) x y r) : ∃ b : Nat → Nat, FB σ b ∧ x = bdZ σ b ∧ y = bkZ σ b ∧ ∀ g, g < (grs σ).toNat → r g = (b g : Int) := by
  rcases h with ⟨h1, -, -⟩ | ⟨b, h1, h2, h3, h4, h5, h6⟩
  · exact absurd trivial (h1 (fun _ => 0) (fun g _ => Nat.zero_le _))
  · exact ⟨b, FB_of hM h1 (fun d hd => h6 d hd trivial), h3, h4, h5⟩
section CBS
variable {I : Ii} {J : Jj} {σ : Nat → Int} {nm : Nat → Int64}
theorem c_triedDebts {c : Nat → Nat} (hV : VS σ) (h7 : grs σ ≤ 7) (hE : ME σ I) (hc : ∀ g, g < (grs σ).toNat → I 125 g = (c g : Int)) (hl : ∀ g, g < (grs σ).toNat → c g < (σ 2).toNat) : wp_X0_triedDebts I J (fun r _ _ => r = bdZ σ c) := by
  have hM := hV.M
  have gr := grs_b hM
  have b2 := ms_2 hM
  have bl := limZ_b hM
  obtain ⟨e0, e1, e2, e3, e4, e5, e6, e7, e8⟩ := hE
  refine fill_of (n := 4) rfl (fun I1 h1 => ?_)
  have o1 : ∀ q, q ≠ 127 → I1 q = I q := fun q hq => by rw [h1, upr_ne hq]
  refine ⟨15, loopN (L := fun m (a : Ii) v => L_X0_triedDebts_10 _ m v a J) (fun v a => (∀ q, q ≠ 127 → a q = I q) ∧ ∀ q, q < 4 → a 127 q = bwZ σ c q v) (N := (grs σ).toNat) (fun m v a hv ha kk => ?_) 15 0 I1 (by omega) (by omega) ⟨o1, fun q hq => by rw [h1, upr_self, filR_lt hq]; rfl⟩⟩
  obtain ⟨a0, a1⟩ := ha
  have r0 : a 113 0 = grs σ := by rw [a0 _ (by decide)]; exact e0
  have r1 : a 113 1 = σ 2 := by rw [a0 _ (by decide)]; exact e1
  have r2 : a 113 2 = limZ σ := by rw [a0 _ (by decide)]; exact e2
  refine ls_X0_triedDebts_10 ?_
  generalize hr : L_X0_triedDebts_10 _ m = r at kk ⊢
  unfold Lb_X0_triedDebts_10
  refine ⟨rgK (by omega), rgK (by omega), fun d => ?_, fun d => ?_⟩
  · have hvn : v = (grs σ).toNat := by omega
    refine ⟨5, loopN (L := fun m (t : Int) q => L_X0_triedDebts_51 _ m t q a J) (fun q t => t = sm (fun q => pos (bwZ σ c q (grs σ).toNat - limZ σ)) q) (N := (σ 2).toNat) (fun m q t hq ht k2 => ?_) 5 0 0 (by omega) (by omega) rfl⟩
    refine ls_X0_triedDebts_51 ?_
    unfold Lb_X0_triedDebts_51
    refine ⟨rgK (by omega), rgK (by omega), fun d2 => ?_, fun d2 => at_of (n := 4) rfl rfl (by omega) ?_⟩
    · rw [ht, show q = (σ 2).toNat by omega]; rfl
    · rw [a1 q (by omega), hvn]
      have bw := bwZ_b hM c q (m := (grs σ).toNat) (by omega)
      refine ⟨rgK (by omega), rgK (by omega), fun d3 => k2 (by omega) _ ?_, fun d3 => k2 (by omega) _ ?_⟩
      · rw [ht, sm_succ]; unfold pos; rw [if_neg (by omega)]
      · rw [ht, sm_succ, r2]; unfold pos; rw [if_pos (by omega)]
  · have hv' : v < (grs σ).toNat := by omega
    have hcv := hl v hv'
    refine at_of (n := 7) rfl rfl (by omega) (at_of (n := 14) rfl rfl (by omega) ?_)
    rw [a0 125 (by decide), hc v hv', a0 115 (by decide), (e6 v (by omega)).2.1]
    refine add_of (n := 4) rfl rfl (by omega) (fun I6 h6 => kk hv' I6 ⟨fun q hq => by rw [h6, up2_key hq]; exact a0 q hq, fun q hq => ?_⟩)
    rw [h6, up2_row]
    unfold bwZ
    rw [sm_succ]
    by_cases z : q = c v
    · rw [z, updr_self, if_pos rfl, a1 _ (by omega)]; rfl
    · rw [updr_ne z, if_neg (fun y => z y.symm), a1 q hq]
      unfold bwZ
      omega
theorem c_triedCut {c : Nat → Nat} {x : Int} (hV : VS σ) (h7 : grs σ ≤ 7) (hJ : JN σ I) (hx : x = grs σ) (hc : ∀ g, g < (grs σ).toNat → I 125 g = (c g : Int)) (hl : ∀ g, g < (grs σ).toNat → c g < (σ 2).toNat) : wp_X0_triedCut x I J (fun r _ _ => r = bkZ σ c) := by
  have hM := hV.M
  have gr := grs_b hM
  have b2 := ms_2 hM
  subst hx
  refine ⟨15, loopN (L := fun m (t : Int) v => L_X0_triedCut_5 (grs σ) _ m t v I J) (fun v t => t = sm (fun g => sm (fun h => if g < h then (if c g = c h then 0 else joinZ σ (g : Int) (h : Int)) else 0) (grs σ).toNat) v) (N := (grs σ).toNat) (fun m v t hv ht kk => ?_) 15 0 0 (by omega) (by omega) rfl⟩
  refine ls_X0_triedCut_5 ?_
  generalize hr : L_X0_triedCut_5 (grs σ) _ m = r at kk ⊢
  unfold Lb_X0_triedCut_5
  refine ⟨rgK (by omega), rgK (by omega), fun d => ?_, fun d => ?_⟩
  · rw [ht, show v = (grs σ).toNat by omega, sm_pairs (fun g h => if c g = c h then 0 else joinZ σ (g : Int) (h : Int))]
    unfold bkZ
    refine sm_cong (fun g _ => sm_cong (fun h _ => ?_))
    by_cases q : c h = c g
    · rw [if_pos q, if_pos q.symm]
    · rw [if_neg q, if_neg (fun z => q z.symm), joinZ_comm]
  · have e1 : (v : Int) + 1 = ((v + 1 : Nat) : Int) := by omega
    rw [e1]
    have z0 : sm (fun h => if v < h then (if c v = c h then 0 else joinZ σ (v : Int) (h : Int)) else 0) (v + 1) = 0 := by
      rw [sm_cong (g := fun _ => 0) (fun k hk => by rw [if_neg (by omega)])]
      exact sm_zero _
    refine ⟨15, loopN (L := fun m2 (u : Int) w => L_X0_triedCut_17 (grs σ) _ r m2 u v w I J) (fun w u => v + 1 ≤ w ∧ u = t + sm (fun h => if v < h then (if c v = c h then 0 else joinZ σ (v : Int) (h : Int)) else 0) w) (N := (grs σ).toNat) (fun m2 w u hw hu k2 => ?_) 15 (v + 1) t (by omega) (by omega) ⟨by omega, by rw [z0]; omega⟩⟩
    obtain ⟨hvw, hu⟩ := hu
    refine ls_X0_triedCut_17 ?_
    generalize hr2 : L_X0_triedCut_17 (grs σ) _ r m2 = r2 at k2 ⊢
    unfold Lb_X0_triedCut_17
    refine ⟨rgK (by omega), rgK (by omega), fun d2 => ?_, fun d2 => ?_⟩
    · have := kk (by omega) u (by rw [sm_succ, hu, ht, show w = (grs σ).toNat by omega])
      rwa [e1] at this
    · have h1 := hl v (by omega)
      have h2 := hl w (by omega)
      refine at_of (n := 7) rfl rfl (by omega) (at_of (n := 7) rfl rfl (by omega) ?_)
      rw [hc v (by omega), hc w (by omega)]
      refine ⟨rgK (by omega), rgK (by omega), fun d3 => k2 (by omega) _ ⟨by omega, ?_⟩, fun d3 => at_of (n := 196) rfl (i := 14 * v + w) (by omega) (by omega) (k2 (by omega) _ ⟨by omega, ?_⟩)⟩
      · rw [hu, sm_succ, if_pos (by omega), if_pos (by omega)]; omega
      · rw [hu, sm_succ, if_pos (by omega), if_neg (by omega), hJ v w (by omega) (by omega) (by omega)]; omega
theorem highestBefore_of {c : Nat → Nat} {x : Int} {g : Nat} (hx : x = (g : Int)) (hg : g < 7) (hc : ∀ i, i < g → I 125 i = (c i : Int)) (hl : ∀ i, i < g → c i < 4) {Q : Int → Ii → Jj → Prop} (h : Q (hbN c g : Int) I J) : wp_X0_highestBefore x I J Q := by
  subst hx
  refine ⟨15, loopN (L := fun m (t : Int) v => L_X0_highestBefore_4 (g : Int) Q m t v I J) (fun v t => t = (hbN c v : Int)) (N := g) (fun m v t hv ht kk => ?_) 15 0 0 (by omega) (by omega) rfl⟩
  refine ls_X0_highestBefore_4 ?_
  unfold Lb_X0_highestBefore_4
  have hb : hbN c v < 4 := hbN_lt (by decide) (fun i hi => hl i (by omega))
  refine ⟨rgK (by omega), rgK (by omega), fun d => by rw [ht, show v = g by omega]; exact h, fun d => at_of (n := 7) rfl rfl (by omega) ?_⟩
  have h1 := hl v (by omega)
  rw [hc v (by omega)]
  refine max_of (rgK (by omega)) (rgK (by omega)) (fun d2 => kk (by omega) _ ?_) (fun d2 => kk (by omega) _ ?_)
  · unfold hbN; rw [if_pos (by omega)]
  · unfold hbN; rw [if_neg (by omega)]; exact ht
theorem c_advance {c : Nat → Nat} (hV : VS σ) (h7 : grs σ ≤ 7) (h0 : I 113 0 = grs σ) (h1 : I 113 1 = σ 2) (hc : ∀ g, g < (grs σ).toNat → I 125 g = (c g : Int)) (hn : CN (grs σ).toNat (σ 2).toNat c) : wp_X0_advance I J (fun r I' _ => (r = 0 ∧ ∀ i, 0 < i → i < (grs σ).toNat → lstN (σ 2).toNat c i ≤ c i) ∨ (r = 1 ∧ ∃ g0, 0 < g0 ∧ g0 < (grs σ).toNat ∧ c g0 < lstN (σ 2).toNat c g0 ∧ (∀ i, g0 < i → i < (grs σ).toNat → lstN (σ 2).toNat c i ≤ c i) ∧ ∀ g, g < (grs σ).toNat → I' 125 g = (nxN c g0 g : Int))) := by
  have hM := hV.M
  have gr := grs_b hM
  have b2 := ms_2 hM
  have cl := hn.lt (by omega)
  unfold wp_X0_advance
  rw [h0]
  have key : ∀ (n m : Nat) (a : Ii), m ≤ (grs σ).toNat → m + 1 ≤ n → (∀ q, q ≠ 125 → a q = I q) → (∀ g, g < m → a 125 g = (c g : Int)) → (∀ g, m ≤ g → g < (grs σ).toNat → a 125 g = 0) → (∀ i, m ≤ i → 0 < i → i < (grs σ).toNat → lstN (σ 2).toNat c i ≤ c i) → L_X0_advance_7 (fun r I' _ => (r = 0 ∧ ∀ i, 0 < i → i < (grs σ).toNat → lstN (σ 2).toNat c i ≤ c i) ∨ (r = 1 ∧ ∃ g0, 0 < g0 ∧ g0 < (grs σ).toNat ∧ c g0 < lstN (σ 2).toNat c g0 ∧ (∀ i, g0 < i → i < (grs σ).toNat → lstN (σ 2).toNat c i ≤ c i) ∧ ∀ g, g < (grs σ).toNat → I' 125 g = (nxN c g0 g : Int))) n ((m : Int) - 1) a J := by
    intro n
    induction n with
    | zero => intro m a h1 h2; omega
    | succ n ih =>
      intro m a hm hmn a0 a1 a2 a3
      refine ls_X0_advance_7 ?_
      unfold Lb_X0_advance_7
      refine ⟨rgK (by omega), fun d => Or.inl ⟨rfl, fun i hi hin => a3 i (by omega) hi hin⟩, fun d => ?_⟩
      obtain ⟨g, rfl⟩ : ∃ g, m = g + 1 := ⟨m - 1, by omega⟩
      have hg0 : 0 < g := by omega
      have hb : hbN c g < (σ 2).toNat := hbN_lt (by omega) (fun i hi => cl i (by omega))
      have e2 : (((g + 1 : Nat) : Int) - 1) = (g : Int) := by omega
      have hcg := cl g (by omega)
      rw [e2]
      refine highestBefore_of (c := c) rfl (by omega) (fun i hi => a1 i (by omega)) (fun i hi => by have := cl i (by omega); omega) ?_
      have p1 : a 113 1 = σ 2 := by rw [a0 _ (by decide)]; exact h1
      rw [p1]
      have body : ∀ l : Int, l = (lstN (σ 2).toNat c g : Int) → wp_X11_at 125 (g : Int) a J (fun v4 I4 J4 => rg v4 ∧ rg l ∧ (l ≤ v4 → wp_X11_put 125 (g : Int) 0 I4 J4 (fun I7 J7 => L_X0_advance_7 (fun r I' _ => (r = 0 ∧ ∀ i, 0 < i → i < (grs σ).toNat → lstN (σ 2).toNat c i ≤ c i) ∨ (r = 1 ∧ ∃ g0, 0 < g0 ∧ g0 < (grs σ).toNat ∧ c g0 < lstN (σ 2).toNat c g0 ∧ (∀ i, g0 < i → i < (grs σ).toNat → lstN (σ 2).toNat c i ≤ c i) ∧ ∀ g, g < (grs σ).toNat → I' 125 g = (nxN c g0 g : Int))) n ((g : Int) + (-1)) I7 J7)) ∧ (¬ l ≤ v4 → wp_X11_add 125 (g : Int) 1 I4 J4 (fun I8 J8 => (fun r I' _ => (r = 0 ∧ ∀ i, 0 < i → i < (grs σ).toNat → lstN (σ 2).toNat c i ≤ c i) ∨ (r = 1 ∧ ∃ g0, 0 < g0 ∧ g0 < (grs σ).toNat ∧ c g0 < lstN (σ 2).toNat c g0 ∧ (∀ i, g0 < i → i < (grs σ).toNat → lstN (σ 2).toNat c i ≤ c i) ∧ ∀ g, g < (grs σ).toNat → I' 125 g = (nxN c g0 g : Int))) (1 : Int) I8 J8))) := by
        intro l hl
        have ll : lstN (σ 2).toNat c g < (σ 2).toNat := by
          unfold lstN
          split
          · omega
          · split <;> omega
        refine at_of (n := 7) rfl rfl (by omega) ?_
        rw [a1 g (by omega)]
        refine ⟨rgK (by omega), rgK (by omega), fun d2 => put_of (n := 7) rfl rfl (by omega) (fun I7 e7 => ?_), fun d2 => add_of (n := 7) rfl rfl (by omega) (fun I8 e8 => Or.inr ⟨rfl, g, hg0, by omega, by omega, fun i hi hin => a3 i (by omega) (by omega) hin, fun x hx => ?_⟩)⟩
        · refine ih g I7 (by omega) (by omega) (fun q hq => by rw [e7, up2_key hq]; exact a0 q hq) (fun x hx => ?_) (fun x hx hxn => ?_) (fun i hi hi0 hin => ?_)
          · rw [e7, up2_row, updr_ne (by omega)]; exact a1 x (by omega)
          · rw [e7, up2_row]
            by_cases q : x = g
            · rw [q, updr_self]
            · rw [updr_ne q]; exact a2 x (by omega) hxn
          · by_cases q : i = g
            · rw [q]; omega
            · exact a3 i (by omega) hi0 hin
        · rw [e8, up2_row]
          unfold nxN
          by_cases q : x < g
          · rw [if_pos q, updr_ne (by omega)]; exact a1 x (by omega)
          · rw [if_neg q]
            by_cases q2 : x = g
            · rw [if_pos q2, q2, updr_self, a1 g (by omega)]; omega
            · rw [if_neg q2, updr_ne q2]; exact a2 x (by omega) hx
      have hl : (lstN (σ 2).toNat c g : Int) = if (hbN c g : Int) + 1 ≤ σ 2 - 1 then (hbN c g : Int) + 1 else σ 2 - 1 := by
        unfold lstN
        rw [if_neg (by omega)]
        by_cases q : hbN c g + 1 ≤ (σ 2).toNat - 1
        · rw [if_pos q, if_pos (by omega)]; omega
        · rw [if_neg q, if_neg (by omega)]; omega
      refine min_of (rgK (by omega)) (rgK (by omega)) (fun d2 => body _ ?_) (fun d2 => body _ ?_)
      · rw [hl, if_neg (by omega)]
      · rw [hl, if_pos (by omega)]
  have := key ((grs σ).toNat + 1) (grs σ).toNat I (Nat.le_refl _) (Nat.le_refl _) (fun _ _ => rfl) hc (fun g h1 h2 => by omega) (fun i h1 h2 h3 => by omega)
  rw [show (((grs σ).toNat : Nat) : Int) = grs σ by omega] at this
  exact ⟨_, this⟩
theorem pow_4_7 {p n : Nat} (hp : p ≤ 4) (hn : n ≤ 7) : p ^ n ≤ 16384 := by
  have h1 : p ^ n ≤ 4 ^ n := Nat.pow_le_pow_left hp n
  have h2 : 4 ^ n ≤ 4 ^ 7 := Nat.pow_le_pow_right (by decide) hn
  have : (4 : Nat) ^ 7 = 16384 := by decide
  omega
theorem c_search (hV : VS σ) (h7 : grs σ ≤ 7) (hE : ME σ I) (hJ : JN σ I) : wp_X0_search I J (fun I' _ => ∃ b : Nat → Nat, FB σ b ∧ I' 124 3 = bdZ σ b ∧ I' 124 4 = bkZ σ b ∧ ∀ g, g < (grs σ).toNat → I' 126 g = (b g : Int)) := by
  have hM := hV.M
  have gr := grs_b hM
  have b2 := ms_2 hM
  have hpw := pow_4_7 (p := (σ 2).toNat) (n := (grs σ).toNat) (by omega) (by omega)
  have hp : 0 < (σ 2).toNat := by omega
  refine fill_of (n := 7) rfl (fun I1 e1 I2 e2 I3 e3 => ?_)
  have o3 : ∀ q, q < 124 → I3 q = I q := fun q hq => by rw [e3, up2_key (by omega), e2, up2_key (by omega), e1, upr_ne (by omega)]
  have z3 : ∀ g, g < 7 → I3 125 g = 0 := fun g hg => by rw [e3, up2_key (by decide), e2, up2_key (by decide), e1, upr_self, filR_lt hg]
  refine ⟨16387, loopN (L := fun m (t : Int × Ii × Jj) v => L_X0_search_25 _ m t.1 v t.2.1 t.2.2) (fun v t => (∀ q, q < 124 → t.2.1 q = I q) ∧ ((t.1 = 0 ∧ BST σ (fun _ => True) (t.2.1 124 3) (t.2.1 124 4) (t.2.1 126)) ∨ (t.1 = 1 ∧ ∃ c : Nat → Nat, CN (grs σ).toNat (σ 2).toNat c ∧ (∀ g, g < (grs σ).toNat → t.2.1 125 g = (c g : Int)) ∧ BST σ (fun d => lxl (grs σ).toNat d c) (t.2.1 124 3) (t.2.1 124 4) (t.2.1 126) ∧ ∃ i, v ≤ i ∧ i < (σ 2).toNat ^ (grs σ).toNat ∧ ∀ g, g < (grs σ).toNat → dg (σ 2).toNat (grs σ).toNat i g = c g))) (N := 16386) (fun m v t hv ht kk => ?_) 16387 0 (1, I3, J) (by omega) (by omega) ⟨o3, Or.inr ⟨rfl, fun _ => 0, fun g _ => Nat.zero_le _, fun g hg => z3 g (by omega), Or.inl ⟨fun d _ z => ?_, ?_, ?_⟩, ?_⟩⟩⟩
  · obtain ⟨more, a, aJ⟩ := t
    obtain ⟨a0, a1⟩ := ht
    dsimp only at a0 a1 kk ⊢
    refine ls_X0_search_25 ?_
    generalize hr : L_X0_search_25 _ m = r at kk ⊢
    unfold Lb_X0_search_25
    rcases a1 with ⟨m0, hB⟩ | ⟨m1, c, hC, hc, hB, i, hvi, hip, hdg⟩
    · refine ⟨rgK (by omega), fun _ => BST_fin hM hB, fun z => absurd m0 z⟩
    · refine ⟨rgK (by omega), fun z => by omega, fun _ => ⟨rgK (by omega), fun z => by omega, fun _ => ?_⟩⟩
      have cl := hC.lt hp
      have frE : ∀ {a : Ii}, (∀ q, q < 124 → a q = I q) → ME σ a ∧ JN σ a := fun {a} a0 => by
        unfold ME JN
        rw [a0 113 (by decide), a0 114 (by decide), a0 115 (by decide), a0 116 (by decide), a0 117 (by decide), a0 118 (by decide), a0 119 (by decide), a0 121 (by decide)]
        exact ⟨hE, hJ⟩
      refine fr_X0_triedDebts (c_triedDebts hV h7 (frE a0).1 hc cl) (fun db I6 J6 h6 s6 => ?_)
      subst h6
      have a6 : ∀ q, q ≠ 127 → I6 q = a q := fun q hq => s6.rI (W_X0_triedDebts_n (by simp [wlk, Ne.symm hq]))
      have a60 : ∀ q, q < 124 → I6 q = I q := fun q hq => by rw [a6 q (by omega)]; exact a0 q hq
      have bB := BST_b hM h7 hB
      have bd := bdZ_b hM c
      have bk := bkZ_b hM c h7
      have r3 : I6 124 3 = a 124 3 := by rw [a6 _ (by decide)]
      have r4 : I6 124 4 = a 124 4 := by rw [a6 _ (by decide)]
      have hc6 : ∀ g, g < (grs σ).toNat → I6 125 g = (c g : Int) := fun g hg => by rw [a6 _ (by decide)]; exact hc g hg
      -- advancing
      have adv : ∀ (b : Ii) (bJ : Jj), (∀ q, q < 124 → b q = I q) → (∀ g, g < (grs σ).toNat → b 125 g = (c g : Int)) → BST σ (fun d => lxl (grs σ).toNat d c ∨ ∀ g, g < (grs σ).toNat → d g = c g) (b 124 3) (b 124 4) (b 126) → B_X0_search_109 (fun I' _ => ∃ b : Nat → Nat, FB σ b ∧ I' 124 3 = bdZ σ b ∧ I' 124 4 = bkZ σ b ∧ ∀ g, g < (grs σ).toNat → I' 126 g = (b g : Int)) r (v : Int) b bJ := by
        intro b bJ q0 q1 q2
        unfold B_X0_search_109
        refine fr_X0_advance (c_advance hV h7 (by rw [q0 _ (by decide)]; exact hE.1) (by rw [q0 _ (by decide)]; exact hE.2.1) q1 hC) (fun rr I7 J7 h7' s7 => ?_)
        have a7 : ∀ q, q ≠ 125 → I7 q = b q := fun q hq => s7.rI (W_X0_advance_n (by simp [wlk, Ne.symm hq]))
        have b7 : ∀ q, q < 124 → I7 q = I q := fun q hq => by rw [a7 q (by omega)]; exact q0 q hq
        rcases h7' with ⟨rfl, hl⟩ | ⟨rfl, g0, g1, g2, g3, g4, g5⟩
        · refine kk (by omega) (0, I7, J7) ⟨b7, Or.inl ⟨rfl, ?_⟩⟩
          show BST σ (fun _ => True) (I7 124 3) (I7 124 4) (I7 126)
          rw [a7 124 (by decide), a7 126 (by decide)]
          exact BST_iff q2 (fun d hd => ⟨fun _ => last_iff hC hd hl, fun _ => trivial⟩)
        · have hN := nxN_CN hC g3
          have hlt : lxl (grs σ).toNat c (nxN c g0) := (nxN_iff hC hC g2 g4).mpr (Or.inr (fun _ _ => rfl))
          obtain ⟨i2, j1, j2⟩ := dg_onto hp (grs σ).toNat (nxN c g0) (hN.lt hp)
          have hii : i < i2 := by
            rcases Nat.lt_trichotomy i i2 with z | z | z
            · exact z
            · exfalso
              subst z
              have e : ∀ g, g < (grs σ).toNat → nxN c g0 g = c g := fun g hg => by rw [← j2 g hg, hdg g hg]
              exact lxl_asym hlt (lxl_congl (fun g hg => (e g hg).symm) (lxl_congr e hlt))
            · exfalso
              have := dg_lex hp (grs σ).toNat i2 i z hip
              exact lxl_asym hlt (lxl_congl j2 (lxl_congr hdg this))
          refine kk (by omega) (1, I7, J7) ⟨b7, Or.inr ⟨rfl, nxN c g0, hN, g5, ?_, i2, by omega, j1, j2⟩⟩
          show BST σ (fun d => lxl (grs σ).toNat d (nxN c g0)) (I7 124 3) (I7 124 4) (I7 126)
          rw [a7 124 (by decide), a7 126 (by decide)]
          exact BST_iff q2 (fun d hd => nxN_iff hC hd g2 g4)
      have new : ∀ (b : Ii) (bJ : Jj), (∀ q, q < 124 → b q = I q) → (∀ g, g < (grs σ).toNat → b 125 g = (c g : Int)) → (bdZ σ c < a 124 3 ∨ (bdZ σ c = a 124 3 ∧ bkZ σ c < a 124 4)) → ∀ w : Int, w = bkZ σ c → B_X0_search_86 (fun I' _ => ∃ b : Nat → Nat, FB σ b ∧ I' 124 3 = bdZ σ b ∧ I' 124 4 = bkZ σ b ∧ ∀ g, g < (grs σ).toNat → I' 126 g = (b g : Int)) r (v : Int) (bdZ σ c) w b bJ := by
        intro b bJ q0 q1 hb w hw
        subst hw
        unfold B_X0_search_86
        intro I14 e14 I15 e15
        refine copy_of (n := 7) rfl rfl (fun I16 e16 => ?_)
        have f125 : I15 125 = b 125 := by rw [e15, up2_key (by decide), e14, up2_key (by decide)]
        refine adv I16 bJ (fun q hq => by rw [e16, upr_ne (by omega), e15, up2_key (by omega), e14, up2_key (by omega)]; exact q0 q hq) (fun g hg => by rw [e16, upr_ne (by decide), f125]; exact q1 g hg) ?_
        have w3 : I16 124 3 = bdZ σ c := by rw [e16, upr_ne (by decide), e15, up2_ne (by decide), e14, up2_self]
        have w4 : I16 124 4 = bkZ σ c := by rw [e16, upr_ne (by decide), e15, up2_self]
        rw [w3, w4]
        refine BST_new hM hC hB hb (fun g hg => ?_)
        rw [e16, upr_self, cpP_lt (by omega), f125]
        exact q1 g hg
      have judge : ∀ (b : Ii) (bJ : Jj) (t0 : Int), (∀ q, q < 124 → b q = I q) → (∀ g, g < (grs σ).toNat → b 125 g = (c g : Int)) → b 124 3 = a 124 3 → b 124 4 = a 124 4 → b 126 = a 126 → ((bdZ σ c ≤ a 124 3 ∧ t0 = bkZ σ c) ∨ (a 124 3 < bdZ σ c ∧ t0 = 1000000)) → B_X0_search_66 (fun I' _ => ∃ b : Nat → Nat, FB σ b ∧ I' 124 3 = bdZ σ b ∧ I' 124 4 = bkZ σ b ∧ ∀ g, g < (grs σ).toNat → I' 126 g = (b g : Int)) r (v : Int) (bdZ σ c) t0 b bJ := by
        intro b bJ t0 q0 q1 w3 w4 w126 ht0
        unfold B_X0_search_66
        rw [w3, w4]
        refine ⟨rgK (by omega), rgK (by omega), fun z => new b bJ q0 q1 (Or.inl z) t0 (by omega), fun z => ⟨rgK (by omega), rgK (by omega), fun z2 => adv b bJ q0 q1 ?_, fun z2 => new b bJ q0 q1 (by omega) t0 (by omega)⟩⟩
        rw [w3, w4, w126]
        exact BST_old hM h7 hB (by omega)
      rw [r3]
      refine ⟨rgK (by omega), rgK (by omega), fun z => ?_, fun z => judge I6 J6 1000000 a60 hc6 r3 r4 (a6 _ (by decide)) (Or.inr ⟨by omega, rfl⟩)⟩
      refine fr_X0_triedCut (c_triedCut (c := c) hV h7 (frE a60).2 (by rw [a60 _ (by decide)]; exact hE.1) hc6 cl) (fun w hw => ?_)
      exact judge I6 J6 w a60 hc6 r3 r4 (a6 _ (by decide)) (Or.inl ⟨z, hw⟩)
  · obtain ⟨g, -, -, z⟩ := z
    exact absurd z (Nat.not_lt_zero _)
  · show I3 124 3 = 1000000
    rw [e3, up2_ne (by decide), e2, up2_self]
  · show I3 124 4 = 1000000
    rw [e3, up2_self]
  · obtain ⟨i, h1, h2⟩ := dg_onto hp (grs σ).toNat (fun _ => 0) (fun _ _ => hp)
    exact ⟨i, by omega, h1, h2⟩
theorem c_searchBest (hV : VS σ) (h7 : grs σ ≤ 7) (hR : RG 200 I J σ nm) (hS : RS 300 I σ) : wp_X11_searchBest I J (fun I' _ => ME σ I' ∧ ∃ b : Nat → Nat, FB σ b ∧ I' 124 3 = bdZ σ b ∧ I' 124 4 = bkZ σ b ∧ ∀ g, g < (grs σ).toNat → I' 126 g = (b g : Int)) := by
  refine fr_X4_take (c_take sK300 hV hR hS) (fun I3 J3 hE s3 => ?_)
  refine fr_X5_join (c_join sK300 hV (hR.fr s3) (hS.fr s3)) (fun I4 J4 hJ s4 => ?_)
  have hE4 : ME σ I4 := hE.fr s4
  exact fr_X0_search (c_search hV h7 hE4 hJ) (fun I5 J5 hb s5 => ⟨hE4.fr s5, hb⟩)
end CBS

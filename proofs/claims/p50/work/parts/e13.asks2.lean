/-! ===== what the world answers of a move ===== -/
section WOB
variable {σ : Nat → Int} {I : Ii} {J : Jj}
theorem lk_pull (h : WO σ I) {g p : Int} (hp : gPt σ g ≠ p) : lkZ σ (memG σ g) (inP σ p) = pullZ σ g p := by
  rw [lk_eq h.1.1]
  unfold pullZ
  refine sm_cong (fun e he => ?_)
  have ha := h.1.1.a he
  have hb := h.1.1.b he
  unfold lkE pullE
  simp only [wmem_bit, winP_bit]
  generalize hx : (σ (110 + e)).toNat = x at *
  generalize hy : (σ (150 + e)).toNat = y at *
  have hxn : x < (σ 0).toNat := by omega
  have hyn : y < (σ 0).toNat := by omega
  have px : gAt σ x = g → σ (21 + x) = gPt σ g := fun c => by rw [← c, h.1.1.gp hxn]
  have py : gAt σ y = g → σ (21 + y) = gPt σ g := fun c => by rw [← c, h.1.1.gp hyn]
  by_cases c : gAt σ x = gAt σ y
  · rw [if_pos c]
    rw [if_neg (fun z => hp (by rw [← py (by rw [← c]; exact z.1.2)]; exact z.2.2)), if_neg (fun z => hp (by rw [← px (by rw [c]; exact z.1.2)]; exact z.2.2))]
    rfl
  · rw [if_neg c]
    congr 1
    · by_cases q : gAt σ x = g ∧ σ (21 + y) = p
      · rw [if_pos q, if_pos ⟨⟨hxn, q.1⟩, hyn, q.2⟩]
      · rw [if_neg q, if_neg (fun z => q ⟨z.1.2, z.2.2⟩)]
    · by_cases q : gAt σ y = g ∧ σ (21 + x) = p
      · rw [if_pos q, if_pos ⟨⟨hyn, q.1⟩, hxn, q.2⟩]
      · rw [if_neg q, if_neg (fun z => q ⟨z.1.2, z.2.2⟩)]
theorem lk_pullD (h : WO σ I) (g : Int) : lkZ σ (memG σ g) (difN (inP σ (gPt σ g)) (memG σ g)) = pullZ σ g (gPt σ g) := by
  rw [lk_eq h.1.1]
  unfold pullZ
  refine sm_cong (fun e he => ?_)
  have ha := h.1.1.a he
  have hb := h.1.1.b he
  unfold lkE pullE
  simp only [difN_bit]
  have bb : ∀ a b : Bool, ((a && !b) = true) ↔ (a = true ∧ ¬ b = true) := by decide
  simp only [bb, wmem_bit, winP_bit]
  generalize hx : (σ (110 + e)).toNat = x at *
  generalize hy : (σ (150 + e)).toNat = y at *
  have hxn : x < (σ 0).toNat := by omega
  have hyn : y < (σ 0).toNat := by omega
  by_cases c : gAt σ x = gAt σ y
  · rw [if_pos c, if_neg (fun z => z.2.2 ⟨hyn, by rw [← c]; exact z.1.2⟩), if_neg (fun z => z.2.2 ⟨hxn, by rw [c]; exact z.1.2⟩)]
    rfl
  · rw [if_neg c]
    congr 1
    · by_cases q : gAt σ x = g ∧ σ (21 + y) = gPt σ g
      · rw [if_pos q, if_pos ⟨⟨hxn, q.1⟩, ⟨hyn, q.2⟩, fun z => c (by rw [q.1, z.2])⟩]
      · rw [if_neg q, if_neg (fun z => q ⟨z.1.2, z.2.1.2⟩)]
    · by_cases q : gAt σ y = g ∧ σ (21 + x) = gPt σ g
      · rw [if_pos q, if_pos ⟨⟨hyn, q.1⟩, ⟨hxn, q.2⟩, fun z => c (by rw [q.1, z.2])⟩]
      · rw [if_neg q, if_neg (fun z => q ⟨z.1.2, z.2.1.2⟩)]
theorem lk_join (h : WO σ I) {g k : Int} (hgk : g ≠ k) : lkZ σ (memG σ g) (memG σ k) = joinZ σ g k := by
  rw [lk_eq h.1.1]
  unfold joinZ
  refine sm_cong (fun e he => ?_)
  have ha := h.1.1.a he
  have hb := h.1.1.b he
  unfold lkE
  simp only [wmem_bit]
  generalize hx : (σ (110 + e)).toNat = x at *
  generalize hy : (σ (150 + e)).toNat = y at *
  have hxn : x < (σ 0).toNat := by omega
  have hyn : y < (σ 0).toNat := by omega
  by_cases c1 : gAt σ x = g ∧ gAt σ y = k
  · rw [if_pos ⟨⟨hxn, c1.1⟩, hyn, c1.2⟩, if_pos (Or.inl c1), if_neg (fun z => hgk (by rw [← c1.1, z.2.2]))]
    omega
  · rw [if_neg (fun z => c1 ⟨z.1.2, z.2.2⟩)]
    by_cases c2 : gAt σ x = k ∧ gAt σ y = g
    · rw [if_pos ⟨⟨hyn, c2.2⟩, hxn, c2.1⟩, if_pos (Or.inr c2)]
      omega
    · rw [if_neg (fun z => c2 ⟨z.2.2, z.1.2⟩), if_neg (fun z => z.elim c1 c2)]
      rfl
theorem joinZ_sym (σ : Nat → Int) (g k : Int) : joinZ σ g k = joinZ σ k g := by
  unfold joinZ
  refine sm_cong (fun e _ => ?_)
  by_cases q : (gAt σ (σ (110 + e)).toNat = g ∧ gAt σ (σ (150 + e)).toNat = k) ∨ (gAt σ (σ (110 + e)).toNat = k ∧ gAt σ (σ (150 + e)).toNat = g)
  · rw [if_pos q, if_pos q.symm]
  · rw [if_neg q, if_neg (fun z => q z.symm)]
/-- by how much the cut falls -/
theorem w_gain {Q : Int → Ii → Jj → Prop} (h : WO σ I) {g p : Int} (g0 : 0 ≤ g) (g1 : g < grs σ) (hp : rg p) (hq : Q (gainZ σ g p) I J) : wp_X12_gain g p I J Q := by
  have hb := h.1.2
  have hgp := h.1.1.gpb g0 g1
  have h2 := ms_2 h.1.1.M
  unfold wp_X12_gain
  refine w_partOf h g0 g1 ⟨⟨by omega, by omega⟩, hp, fun c => ?_, fun c => ?_⟩
  · refine w_sets h (fun K a1 a2 a3 a4 => ⟨⟨a1, g0, by omega⟩, w_inPart h hp ?_⟩)
    have e := a4 g.toNat (by omega)
    rw [Int.toNat_of_nonneg g0] at e
    have hm := memG_lt h g
    have hi := inP_lt h p
    have hi2 := inP_lt h (gPt σ g)
    refine w_links h e (by omega) rfl (by omega) (w_sets h (fun K2 b1 b2 b3 b4 => ⟨⟨b1, g0, by omega⟩, w_partOf h g0 g1 (w_inPart h ⟨by omega, by omega⟩ (w_sets h (fun K3 c1 c2 c3 c4 => ⟨⟨c1, g0, by omega⟩, ?_⟩)))⟩))
    have e2 := b4 g.toNat (by omega)
    have e3 := c4 g.toNat (by omega)
    rw [Int.toNat_of_nonneg g0] at e2 e3
    have hd : difN (inP σ (gPt σ g)) (memG σ g) < 2 ^ 10 := difN_lt (by omega)
    refine w_links h e2 (by omega) (T := difN (inP σ (gPt σ g)) (memG σ g)) (by rw [e3]; exact andn_nat (by omega)) (by omega) ?_
    rw [lk_pull h c, lk_pullD h g, ← gainZ_pull]
    exact hq
  · have : gainZ σ g p = 0 := by unfold gainZ; rw [if_pos c]
    rw [this] at hq
    exact hq
theorem swZ_or (h : WO σ I) {g p : Int} (hp : gPt σ g ≠ p) : swZ σ (inP σ p ||| memG σ g) = wOf σ p + gW σ g := by
  unfold swZ wOf gW
  rw [← sm_add]
  refine sm_cong (fun v hv => ?_)
  rw [Nat.testBit_or]
  have bb : ∀ a b : Bool, ((a || b) = true) ↔ (a = true ∨ b = true) := by decide
  simp only [bb, wmem_bit, winP_bit]
  by_cases c1 : gAt σ v = g
  · have c2 : σ (21 + v) ≠ p := fun z => hp (by rw [← c1, h.1.1.gp hv]; exact z)
    rw [if_pos (Or.inr ⟨hv, c1⟩), if_neg c2, if_pos c1]
    omega
  · rw [if_neg c1]
    by_cases c2 : σ (21 + v) = p
    · rw [if_pos (Or.inl ⟨hv, c2⟩), if_pos c2]; omega
    · rw [if_neg (fun z => z.elim (fun q => c2 q.2) (fun q => c1 q.2)), if_neg c2]; rfl
theorem swZ_dif (h : WO σ I) (g q : Int) : swZ σ (difN (inP σ q) (memG σ g)) = wOf σ q - (if q = gPt σ g then 1 else 0) * gW σ g := by
  have e : (if q = gPt σ g then (1 : Int) else 0) * gW σ g = sm (fun v => if gAt σ v = g ∧ σ (21 + v) = q then σ (7 + v) else 0) (σ 0).toNat := by
    by_cases c : q = gPt σ g
    · rw [if_pos c, Int.one_mul]
      unfold gW
      refine sm_cong (fun v hv => ?_)
      by_cases c1 : gAt σ v = g
      · rw [if_pos c1, if_pos ⟨c1, by rw [c, ← c1, h.1.1.gp hv]⟩]
      · rw [if_neg c1, if_neg (fun z => c1 z.1)]
    · rw [if_neg c, Int.zero_mul]
      exact (sm_none (fun v hv => if_neg (fun z => c (by rw [← z.2, ← z.1, h.1.1.gp hv])))).symm
  rw [e]
  unfold swZ wOf
  rw [← sm_sub]
  refine sm_cong (fun v hv => ?_)
  rw [difN_bit]
  have bb : ∀ a b : Bool, ((a && !b) = true) ↔ (a = true ∧ ¬ b = true) := by decide
  simp only [bb, wmem_bit, winP_bit]
  by_cases c2 : σ (21 + v) = q
  · by_cases c1 : gAt σ v = g
    · rw [if_neg (fun z => z.2 ⟨hv, c1⟩), if_pos c2, if_pos ⟨c1, c2⟩]; omega
    · rw [if_pos ⟨⟨hv, c2⟩, fun z => c1 z.2⟩, if_pos c2, if_neg (fun z => c1 z.1)]; omega
  · rw [if_neg (fun z => c2 z.1.2), if_neg c2, if_neg (fun z => c2 z.2)]; rfl
/-- the debts if a group moved -/
theorem w_debtsIf {Q : Int → Ii → Jj → Prop} (h : WO σ I) {g p : Int} (g0 : 0 ≤ g) (g1 : g < grs σ) (p0 : 0 ≤ p ∧ p < σ 2) (hp : gPt σ g ≠ p) (hq : Q (dwZ σ g p) I J) : wp_X12_debtsIf g p I J Q := by
  have hn := h.p
  have h2 := ms_2 h.1.1.M
  have hlim := limZ_b h.1.1.M
  have hm := memG_lt h g
  have hgw := gW_b h.1.1.M g
  have key : ∀ d v : Nat, v + d = (σ 2).toNat → L_X12_debtsIf_5 g p Q (d + 1) (sm (dwQ σ g p) v) (v : Int) I J := by
    intro d
    induction d with
    | zero =>
      intro v hv
      show Lb_X12_debtsIf_5 g p Q _ _ (v : Int) I J
      unfold Lb_X12_debtsIf_5
      rw [hn]
      refine ⟨⟨by omega, by omega⟩, ⟨by omega, by omega⟩, fun _ => ?_, fun c => absurd (by omega) c⟩
      rw [show v = (σ 2).toNat by omega]
      exact hq
    | succ d ih =>
      intro v hv
      show Lb_X12_debtsIf_5 g p Q _ _ (v : Int) I J
      unfold Lb_X12_debtsIf_5
      rw [hn]
      have hi := inP_lt h (v : Int)
      have hw := wOf_b h.1.1.M (v : Int)
      have nx := ih (v + 1) (by omega)
      rw [sm_succ, show ((v + 1 : Nat) : Int) = (v : Int) + 1 by omega] at nx
      refine ⟨⟨by omega, by omega⟩, ⟨by omega, by omega⟩, fun c => by omega, fun _ => ⟨⟨by omega, by omega⟩, fun c => ?_, fun c => ?_⟩⟩
      · refine w_inPart h ⟨by omega, by omega⟩ (w_sets h (fun K a1 a2 a3 a4 => ⟨⟨a1, g0, by omega⟩, ?_⟩))
        have e := a4 g.toNat (by omega)
        rw [Int.toNat_of_nonneg g0] at e
        unfold B_X12_debtsIf_54
        have hd : difN (inP σ (v : Int)) (memG σ g) < 2 ^ 10 := difN_lt (by omega)
        have es := swZ_dif h g (v : Int)
        have ex : dwQ σ g p v = pos (swZ σ (difN (inP σ (v : Int)) (memG σ g)) - limZ σ) := by
          unfold dwQ
          rw [es, if_neg (c := (v : Int) = p) c]
          congr 1
          omega
        have hs : 0 ≤ swZ σ (difN (inP σ (v : Int)) (memG σ g)) + 2000 ∧ swZ σ (difN (inP σ (v : Int)) (memG σ g)) ≤ 2000 := by
          rw [es]; split <;> omega
        refine w_weightOf h (S := difN (inP σ (v : Int)) (memG σ g)) (by rw [e]; exact andn_nat (by omega)) (by omega) (w_limit h (w_max0 ⟨by omega, by omega⟩ ?_))
        rw [← ex]
        exact nx
      · refine w_inPart h ⟨by omega, by omega⟩ (w_sets h (fun K a1 a2 a3 a4 => ⟨⟨a1, g0, by omega⟩, ?_⟩))
        have e := a4 g.toNat (by omega)
        rw [Int.toNat_of_nonneg g0] at e
        unfold B_X12_debtsIf_54
        have hd : inP σ (v : Int) ||| memG σ g < 2 ^ 10 := Nat.or_lt_two_pow (by omega) (by omega)
        have es := swZ_or h (g := g) (p := (v : Int)) (by rw [c]; exact hp)
        have ex : dwQ σ g p v = pos (swZ σ (inP σ (v : Int) ||| memG σ g) - limZ σ) := by
          unfold dwQ
          rw [es, if_pos (c := (v : Int) = p) c, if_neg (c := (v : Int) = gPt σ g) (by rw [c]; exact fun z => hp z.symm)]
          congr 1
          omega
        refine w_weightOf h (S := inP σ (v : Int) ||| memG σ g) (by rw [e]; exact orZ_nat (by omega) (by omega)) (by omega) (w_limit h (w_max0 ⟨by omega, by omega⟩ ?_))
        rw [← ex]
        exact nx
  exact ⟨_, key (σ 2).toNat 0 (by omega)⟩
/-- why a group may not move -/
theorem w_why {Q : Int → Ii → Jj → Prop} (h : WO σ I) {g p : Int} (g0 : 0 ≤ g) (g1 : g < grs σ) (p0 : 0 ≤ p ∧ p < σ 2) (hq : Q (wmZ σ g p) I J) : wp_X12_why g p I J Q := by
  have h2 := ms_2 h.1.1.M
  have h4 := ms_4 h.1.1.M
  have hgp := h.1.1.gpb g0 g1
  have hdw := dwZ_b h.1.1.M g p
  have hdz := debtsZ_b h.1.1.M
  unfold wp_X12_why
  unfold wmZ at hq
  refine w_partOf h g0 g1 ⟨⟨by omega, by omega⟩, ⟨by omega, by omega⟩, fun c => ?_, fun c => ?_⟩
  · rw [if_neg c] at hq
    refine w_debtsIf h g0 g1 p0 c ⟨⟨by omega, by omega⟩, by rw [h.2.1.1.2.2.2]; exact ⟨by omega, by omega⟩, fun c2 => ?_, fun c2 => w_debts h ⟨⟨by omega, by omega⟩, ⟨by omega, by omega⟩, fun c3 => ?_, fun c3 => ?_⟩⟩
    · rw [h.2.1.1.2.2.2] at c2
      rw [if_neg (by omega)] at hq
      exact hq
    · rw [if_neg (by omega)] at hq
      exact hq
    · rw [h.2.1.1.2.2.2] at c2
      rw [if_pos (by omega)] at hq
      exact hq
  · rw [if_pos c] at hq
    exact hq
end WOB

/-! ===== what the world answers ===== -/
section WOA
variable {σ : Nat → Int} {I : Ii} {J : Jj}
theorem wmem_bit (σ : Nat → Int) (g : Int) (v : Nat) : (memG σ g).testBit v = true ↔ v < (σ 0).toNat ∧ gAt σ v = g := by
  unfold memG
  rw [bset_bit]
  simp
theorem winP_bit (σ : Nat → Int) (p : Int) (v : Nat) : (inP σ p).testBit v = true ↔ v < (σ 0).toNat ∧ σ (21 + v) = p := by
  unfold inP
  rw [bset_bit]
  simp
theorem mem_ne (h : WO σ I) {g : Int} (g0 : 0 ≤ g) (g1 : g < grs σ) : memG σ g ≠ 0 := by
  obtain ⟨v, hv, e⟩ := h.1.1.GV g g0 g1
  intro z
  have := (wmem_bit σ g v).mpr ⟨hv, e⟩
  rw [z, Nat.zero_testBit] at this
  cases this
/-- the first vertex of a group -/
theorem fst_mem (h : WO σ I) {g : Int} (g0 : 0 ≤ g) (g1 : g < grs σ) : fv (fun i => (memG σ g).testBit i) 14 = fv (fun v => decide (gAt σ v = g)) 14 ∧ fv (fun v => decide (gAt σ v = g)) 14 < (σ 0).toNat := by
  obtain ⟨v, hv, e⟩ := h.1.1.GV g g0 g1
  have hb := h.1.2
  have hl : ¬ v < fv (fun v => decide (gAt σ v = g)) 14 := fun z => by
    have := fv_min z
    simp [e] at this
  have h2 : fv (fun v => decide (gAt σ v = g)) 14 < (σ 0).toNat := by omega
  have h3 := fv_lt (c := fun v => decide (gAt σ v = g)) (n := 14) (by omega)
  refine ⟨fv_eq (by omega) ((wmem_bit σ g _).mpr ⟨h2, of_decide_eq_true h3⟩) (fun u hu => ?_), h2⟩
  have h4 := fv_min hu
  cases c : (memG σ g).testBit u
  · rfl
  · have := ((wmem_bit σ g u).mp c).2
    simp [this] at h4
/-- a group's part -/
theorem w_partOf {Q : Int → Ii → Jj → Prop} (h : WO σ I) {g : Int} (g0 : 0 ≤ g) (g1 : g < grs σ) (hq : Q (gPt σ g) I J) : wp_X12_partOf g I J Q := by
  have hb := h.1.2
  unfold wp_X12_partOf
  refine w_sets h (fun K h1 h2 _ h4 => ⟨⟨h1, g0, by omega⟩, ?_⟩)
  have e := h4 g.toNat (by omega)
  rw [Int.toNat_of_nonneg g0] at e
  obtain ⟨f1, f2⟩ := fst_mem h g0 g1
  refine ntz_of e (mem_ne h g0 g1) (memG_lt h g) ?_
  rw [f1]
  refine ⟨⟨by omega, by omega⟩, ?_⟩
  rw [Int.toNat_natCast, h.2.1.2.2.1 _ f2]
  exact hq
/-- a vertex' group -/
theorem w_groupOf {Q : Int → Ii → Jj → Prop} (h : WO σ I) {v : Nat} (hv : v < (σ 0).toNat) (hq : Q (gAt σ v) I J) : wp_X12_groupOf (v : Int) I J Q := by
  have hg := h.1.1.g hv
  have hb := h.1.2
  have key : ∀ d g : Nat, (g : Int) + d = gAt σ v → L_X12_groupOf_2 (v : Int) Q (d + 1) (g : Int) I J := by
    intro d
    induction d with
    | zero =>
      intro g hgv
      show Lb_X12_groupOf_2 (v : Int) Q _ (g : Int) I J
      unfold Lb_X12_groupOf_2
      refine w_sets h (fun K h1 h2 _ h4 => ⟨⟨h1, by omega, by omega⟩, ?_⟩)
      have hm := memG_lt h (g : Int)
      rw [Int.toNat_natCast, h4 g (by omega), bit1 (by omega) (by omega)]
      rw [if_pos ((wmem_bit σ _ v).mpr ⟨hv, by omega⟩)]
      refine ⟨fun _ => ?_, fun c => absurd c (by decide)⟩
      rw [show (g : Int) = gAt σ v by omega]
      exact hq
    | succ d ih =>
      intro g hgv
      show Lb_X12_groupOf_2 (v : Int) Q _ (g : Int) I J
      unfold Lb_X12_groupOf_2
      refine w_sets h (fun K h1 h2 _ h4 => ⟨⟨h1, by omega, by omega⟩, ?_⟩)
      have hm := memG_lt h (g : Int)
      rw [Int.toNat_natCast, h4 g (by omega), bit1 (by omega) (by omega)]
      rw [if_neg (fun z => by have := ((wmem_bit σ _ v).mp z).2; omega)]
      refine ⟨fun c => absurd rfl c, fun _ => ?_⟩
      rw [show ((g : Int) + 1) = ((g + 1 : Nat) : Int) by omega]
      exact ih (g + 1) (by omega)
  exact ⟨_, key (gAt σ v).toNat 0 (by omega)⟩
/-- the edges between two sets -/
theorem w_links {Q : Int → Ii → Jj → Prop} (h : WO σ I) {S T : Nat} {z t : Int} (hz : z = (S : Int)) (hS : S < 2147483648) (ht : t = (T : Int)) (hT : T < 2147483648) (hq : Q (lkZ σ S T) I J) : wp_X12_links z t I J Q := by
  subst hz ht
  have hn := h.n
  have hb := h.1.2
  have key : ∀ d a : Nat, a + d = (σ 0).toNat → L_X12_links_5 (S : Int) (T : Int) Q (d + 1) (sm (fun a => if S.testBit a = true then sm (fun b => if T.testBit b = true then TBz σ a b else 0) (σ 0).toNat else 0) a) (a : Int) I J := by
    intro d
    induction d with
    | zero =>
      intro a ha
      show Lb_X12_links_5 (S : Int) (T : Int) Q _ _ (a : Int) I J
      unfold Lb_X12_links_5
      rw [hn]
      refine ⟨⟨by omega, by omega⟩, ⟨by omega, by omega⟩, fun _ => ?_, fun c => absurd (by omega) c⟩
      rw [show a = (σ 0).toNat by omega]
      exact hq
    | succ d ih =>
      intro a ha
      show Lb_X12_links_5 (S : Int) (T : Int) Q _ _ (a : Int) I J
      unfold Lb_X12_links_5
      rw [hn]
      refine ⟨⟨by omega, by omega⟩, ⟨by omega, by omega⟩, fun c => by omega, fun _ => ?_⟩
      have nx := ih (a + 1) (by omega)
      rw [sm_succ] at nx
      generalize hacc : sm (fun a => if S.testBit a = true then sm (fun b => if T.testBit b = true then TBz σ a b else 0) (σ 0).toNat else 0) a = acc at nx ⊢
      generalize hr : L_X12_links_5 (S : Int) (T : Int) Q (d + 1) = r5 at nx ⊢
      rw [show ((a + 1 : Nat) : Int) = (a : Int) + 1 by omega] at nx
      by_cases c : S.testBit a = true
      · rw [if_pos c] at nx
        have key2 : ∀ d2 b : Nat, b + d2 = (σ 0).toNat → L_X12_links_17 (S : Int) (T : Int) Q r5 (d2 + 1) (acc + sm (fun b => if T.testBit b = true then TBz σ a b else 0) b) (a : Int) (b : Int) I J := by
          intro d2
          induction d2 with
          | zero =>
            intro b hb2
            show Lb_X12_links_17 (S : Int) (T : Int) Q r5 _ _ (a : Int) (b : Int) I J
            unfold Lb_X12_links_17
            rw [hn]
            refine ⟨⟨by omega, by omega⟩, ⟨by omega, by omega⟩, fun _ => ?_, fun c => absurd (by omega) c⟩
            rw [show b = (σ 0).toNat by omega]
            exact nx
          | succ d2 ih2 =>
            intro b hb2
            show Lb_X12_links_17 (S : Int) (T : Int) Q r5 _ _ (a : Int) (b : Int) I J
            unfold Lb_X12_links_17
            rw [hn]
            refine ⟨⟨by omega, by omega⟩, ⟨by omega, by omega⟩, fun c => by omega, fun _ => ?_⟩
            rw [bit1 hS (by omega), if_pos c, bit1 hT (by omega), Int.toNat_natCast, Int.toNat_natCast, h.2.1.2.2.2 a b (by omega) (by omega)]
            refine ⟨fun z => absurd rfl z, fun _ => ⟨⟨by omega, by omega⟩, ⟨by omega, by omega⟩, ?_⟩⟩
            have n2 := ih2 (b + 1) (by omega)
            rw [sm_succ] at n2
            rw [show ((b : Int) + 1) = ((b + 1 : Nat) : Int) by omega]
            by_cases c2 : T.testBit b = true
            · rw [if_pos c2] at n2 ⊢
              rw [Int.one_mul, Int.add_assoc]
              exact n2
            · rw [if_neg c2] at n2 ⊢
              rw [Int.zero_mul, Int.add_assoc]
              exact n2
        have := key2 (σ 0).toNat 0 (by omega)
        rw [show acc + sm (fun b => if T.testBit b = true then TBz σ a b else 0) 0 = acc by show acc + 0 = acc; omega] at this
        exact ⟨_, this⟩
      · rw [if_neg c, Int.add_zero] at nx
        refine ⟨1, ?_⟩
        show Lb_X12_links_17 (S : Int) (T : Int) Q r5 _ _ (a : Int) 0 I J
        unfold Lb_X12_links_17
        rw [hn, bit1 hS (by omega), if_neg c]
        exact ⟨⟨by omega, by omega⟩, ⟨by omega, by omega⟩, fun _ => nx, fun _ => ⟨fun _ => nx, fun z => absurd z (by decide)⟩⟩
  exact ⟨_, key (σ 0).toNat 0 (by omega)⟩
/-- the world's numbers alone -/
def WO9 (σ : Nat → Int) (I : Ii) : Prop := (VS σ ∧ 2 ≤ σ 0 ∧ σ 0 ≤ 10) ∧ WNs σ I ∧ True
theorem WO9.n (h : WO9 σ I) : I 1000 0 = (((σ 0).toNat : Nat) : Int) := by rw [h.2.1.1.1]; have := h.1.2; omega
theorem WO.to9 (h : WO σ I) : WO9 σ I := ⟨h.1, h.2.1, trivial⟩
/-- the cut -/
theorem w_cut9 {Q : Int → Ii → Jj → Prop} (h : WO9 σ I) (hq : Q (cutZ σ) I J) : wp_X12_cut I J Q := by
  have hn := WO9.n h
  have hb := h.1.2
  rw [← cut_eq h.1.1] at hq
  have key : ∀ d a : Nat, a + d = (σ 0).toNat → L_X12_cut_4 Q (d + 1) (sm (fun a => sm (fun b => if σ (21 + a) = σ (21 + b) then 0 else TBz σ a b) a) a) (a : Int) I J := by
    intro d
    induction d with
    | zero =>
      intro a ha
      show Lb_X12_cut_4 Q _ _ (a : Int) I J
      unfold Lb_X12_cut_4
      rw [hn]
      refine ⟨⟨by omega, by omega⟩, ⟨by omega, by omega⟩, fun _ => ?_, fun c => absurd (by omega) c⟩
      rw [show a = (σ 0).toNat by omega]
      exact hq
    | succ d ih =>
      intro a ha
      show Lb_X12_cut_4 Q _ _ (a : Int) I J
      unfold Lb_X12_cut_4
      rw [hn]
      refine ⟨⟨by omega, by omega⟩, ⟨by omega, by omega⟩, fun c => by omega, fun _ => ?_⟩
      have nx := ih (a + 1) (by omega)
      rw [sm_succ] at nx
      generalize hacc : sm (fun a => sm (fun b => if σ (21 + a) = σ (21 + b) then 0 else TBz σ a b) a) a = acc at nx ⊢
      generalize hr : L_X12_cut_4 Q (d + 1) = r4 at nx ⊢
      rw [show ((a + 1 : Nat) : Int) = (a : Int) + 1 by omega] at nx
      have hpa := ms_p h.1.1.M a (by omega)
      have key2 : ∀ d2 b : Nat, b + d2 = a → L_X12_cut_14 Q r4 (d2 + 1) (acc + sm (fun b => if σ (21 + a) = σ (21 + b) then 0 else TBz σ a b) b) (a : Int) (b : Int) I J := by
        intro d2
        induction d2 with
        | zero =>
          intro b hb2
          show Lb_X12_cut_14 Q r4 _ _ (a : Int) (b : Int) I J
          unfold Lb_X12_cut_14
          refine ⟨⟨by omega, by omega⟩, ⟨by omega, by omega⟩, fun _ => ?_, fun c => absurd (by omega) c⟩
          rw [show b = a by omega]
          exact nx
        | succ d2 ih2 =>
          intro b hb2
          show Lb_X12_cut_14 Q r4 _ _ (a : Int) (b : Int) I J
          unfold Lb_X12_cut_14
          have hpb := ms_p h.1.1.M b (by omega)
          rw [Int.toNat_natCast, Int.toNat_natCast, h.2.1.2.2.1 a (by omega), h.2.1.2.2.1 b (by omega), h.2.1.2.2.2 a b (by omega) (by omega)]
          have n2 := ih2 (b + 1) (by omega)
          rw [sm_succ] at n2
          rw [show ((b : Int) + 1) = ((b + 1 : Nat) : Int) by omega]
          refine ⟨⟨by omega, by omega⟩, ⟨by omega, by omega⟩, fun c => by omega, fun _ => ⟨⟨by omega, by omega⟩, ⟨by omega, by omega⟩, ⟨by omega, by omega⟩, ⟨by omega, by omega⟩, fun c => ⟨⟨by omega, by omega⟩, ⟨by omega, by omega⟩, ?_⟩, fun c => ?_⟩⟩
          · rw [if_neg c] at n2
            rw [Int.add_assoc]
            exact n2
          · rw [if_pos c] at n2
            rw [Int.add_assoc]
            exact n2
      have := key2 a 0 (by omega)
      rw [show acc + sm (fun b => if σ (21 + a) = σ (21 + b) then 0 else TBz σ a b) 0 = acc by show acc + 0 = acc; omega] at this
      exact ⟨_, this⟩
  exact ⟨_, key (σ 0).toNat 0 (by omega)⟩
theorem w_cut {Q : Int → Ii → Jj → Prop} (h : WO σ I) (hq : Q (cutZ σ) I J) : wp_X12_cut I J Q := w_cut9 h.to9 hq
end WOA

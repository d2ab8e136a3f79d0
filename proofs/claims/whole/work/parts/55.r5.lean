/-! ===== moves ===== -/
/-- the row with the vertices below v of a group in another part -/
def mvR (σ : Nat → Int) (g p : Int) (v : Nat) : Nat → Int := fun i => if (21 ≤ i ∧ i < 21 + v) ∧ gAt σ (i - 21) = g then p else σ i
/-- the row with one more event -/
def evK (τ : Nat → Int) : Nat := 230 + 4 * (τ 6 % 30).toNat
def evR (τ : Nat → Int) (g was p : Int) : Nat → Int := updr (updr (updr (updr (updr τ (evK τ) g) (evK τ + 1) was) (evK τ + 2) p) (evK τ + 3) (cutZ τ)) 6 (τ 6 + 1)
/-- the row behind a move -/
def comesZ (σ : Nat → Int) (g p : Int) : Nat → Int := if gPt σ g = p then σ else evR (mvR σ g p (σ 0).toNat) g (gPt σ g) p
theorem evK_b {τ : Nat → Int} : 230 ≤ evK τ ∧ evK τ + 3 < 350 := by unfold evK; omega
theorem mvR_o {σ : Nat → Int} {g p : Int} {v i : Nat} (h : i < 21 ∨ 21 + v ≤ i) : mvR σ g p v i = σ i := by unfold mvR; rw [if_neg (by omega)]
theorem mvR_v {σ : Nat → Int} {g p : Int} {v u : Nat} (h : u < v) : mvR σ g p v (21 + u) = if gAt σ u = g then p else σ (21 + u) := by
  unfold mvR
  rw [show 21 + u - 21 = u by omega]
  by_cases q : gAt σ u = g
  · rw [if_pos ⟨by omega, q⟩, if_pos q]
  · rw [if_neg (fun z => q z.2), if_neg q]
theorem mvR_succ (σ : Nat → Int) (g p : Int) (v : Nat) : mvR σ g p (v + 1) = if gAt σ v = g then updr (mvR σ g p v) (21 + v) p else mvR σ g p v := by
  funext i
  by_cases hi : i = 21 + v
  · subst hi
    rw [mvR_v (by omega)]
    by_cases q : gAt σ v = g
    · rw [if_pos q, if_pos q, updr_self]
    · rw [if_neg q, if_neg q, mvR_o (by omega)]
  · have e : mvR σ g p (v + 1) i = mvR σ g p v i := by
      unfold mvR
      by_cases c : (21 ≤ i ∧ i < 21 + v) ∧ gAt σ (i - 21) = g
      · rw [if_pos c, if_pos ⟨by omega, c.2⟩]
      · rw [if_neg c, if_neg (fun z => c ⟨by omega, z.2⟩)]
    rw [e]
    split
    · rw [updr_ne hi]
    · rfl
theorem evR_o {τ : Nat → Int} {g was p : Int} {i : Nat} (h : i < 6 ∨ (6 < i ∧ i < 230) ∨ 350 ≤ i) : evR τ g was p i = τ i := by
  have b := evK_b (τ := τ)
  unfold evR
  rw [updr_ne (by omega), updr_ne (by omega), updr_ne (by omega), updr_ne (by omega), updr_ne (by omega)]
theorem comesZ_o {σ : Nat → Int} {g p : Int} {i : Nat} (hn : (σ 0).toNat ≤ 14) (h : i < 6 ∨ (6 < i ∧ i < 21) ∨ (35 ≤ i ∧ i < 230) ∨ 350 ≤ i) : comesZ σ g p i = σ i := by
  unfold comesZ
  split
  · rfl
  · rw [evR_o (by omega), mvR_o (by omega)]
theorem comesZ_p {σ : Nat → Int} {g p : Int} (hM : MS σ) {u : Nat} (hu : u < (σ 0).toNat) (hun : ∀ w, w < (σ 0).toNat → gAt σ w = g → σ (21 + w) = gPt σ g) : comesZ σ g p (21 + u) = if gAt σ u = g then p else σ (21 + u) := by
  have b := ms_0 hM
  unfold comesZ
  split
  · rename_i h
    split
    · rename_i h2; rw [hun u hu h2, h]
    · rfl
  · rw [evR_o (by omega), mvR_v hu]
theorem gAt_congr {σ τ : Nat → Int} (h5 : τ 5 = σ 5) (h : ∀ i, 35 ≤ i → i < 105 → τ i = σ i) (hM : MS σ) {v : Nat} (hv : v < 14) : gAt τ v = gAt σ v := by
  have b := ms_5 hM
  unfold gAt
  rw [h5]
  exact h _ (by omega) (by omega)
theorem comesZ_gAt {σ : Nat → Int} {g p : Int} (hM : MS σ) {v : Nat} (hv : v < 14) : gAt (comesZ σ g p) v = gAt σ v := by
  have b := ms_0 hM
  exact gAt_congr (comesZ_o (by omega) (by omega)) (fun i h1 h2 => comesZ_o (by omega) (by omega)) hM hv
theorem comesZ_grs {σ : Nat → Int} {g p : Int} (hM : MS σ) : grs (comesZ σ g p) = grs σ := by
  have b := ms_0 hM
  have b5 := ms_5 hM
  unfold grs
  rw [comesZ_o (i := 5) (by omega) (by omega), comesZ_o (by omega) (by omega)]
theorem comesZ_6 {σ : Nat → Int} {g p : Int} (hM : MS σ) : comesZ σ g p 6 = if gPt σ g = p then σ 6 else σ 6 + 1 := by
  unfold comesZ
  split
  · rfl
  · unfold evR
    rw [updr_self, mvR_o (by omega)]
theorem cutZ_congr {σ τ : Nat → Int} (h1 : τ 1 = σ 1) (hp : ∀ v, v < 14 → τ (21 + v) = σ (21 + v)) (h : ∀ i, 110 ≤ i → i < 230 → τ i = σ i) (hM : MS σ) : cutZ τ = cutZ σ := by
  have b := ms_1 hM
  unfold cutZ
  rw [h1]
  refine sm_cong (fun e he => ?_)
  have ha := ms_a hM e (by omega)
  have hb := ms_b hM e (by omega)
  unfold cutE
  rw [h (110 + e) (by omega) (by omega), h (150 + e) (by omega) (by omega), h (190 + e) (by omega) (by omega), hp _ (by omega), hp _ (by omega)]
theorem mvR_MS {σ : Nat → Int} {g p : Int} (hM : MS σ) (hp : 0 ≤ p ∧ p ≤ 3) {v : Nat} (hv : v ≤ 14) : MS (mvR σ g p v) := by
  have o : ∀ i, i < 21 ∨ 35 ≤ i → mvR σ g p v i = σ i := fun i hi => mvR_o (by omega)
  refine ⟨?_, ?_, ?_, ?_, ?_, ?_, ?_, fun w hw => ?_, fun w hw => ?_, fun w hw => ?_, fun w hw => ?_, fun w hw => ?_, fun w hw => ?_, fun w hw => ?_, fun w hw => ?_⟩
  · rw [o 0 (by omega)]; exact ms_0 hM
  · rw [o 1 (by omega)]; exact ms_1 hM
  · rw [o 2 (by omega)]; exact ms_2 hM
  · rw [o 3 (by omega)]; exact ms_3 hM
  · rw [o 4 (by omega)]; exact ms_4 hM
  · rw [o 5 (by omega)]; exact ms_5 hM
  · rw [o 6 (by omega)]; exact ms_6 hM
  · rw [o _ (by omega)]; exact ms_w hM w hw
  · have := ms_p hM w hw
    unfold mvR
    split <;> omega
  · rw [o _ (by omega)]; exact ms_g hM w hw
  · rw [o _ (by omega)]; exact ms_n hM w hw
  · rw [o _ (by omega)]; exact ms_a hM w hw
  · rw [o _ (by omega)]; exact ms_b hM w hw
  · rw [o _ (by omega)]; exact ms_h hM w hw
  · rw [o _ (by omega)]; exact ms_e hM w hw
theorem updr_MS {σ : Nat → Int} (hM : MS σ) {i : Nat} {x : Int} (hi : 230 ≤ i) (hx : 0 ≤ x ∧ x ≤ 1000000000) : MS (updr σ i x) := by
  have o : ∀ j, j < 230 → updr σ i x j = σ j := fun j hj => updr_ne (by omega)
  refine ⟨?_, ?_, ?_, ?_, ?_, ?_, ?_, fun w hw => ?_, fun w hw => ?_, fun w hw => ?_, fun w hw => ?_, fun w hw => ?_, fun w hw => ?_, fun w hw => ?_, fun w hw => ?_⟩
  · rw [o 0 (by omega)]; exact ms_0 hM
  · rw [o 1 (by omega)]; exact ms_1 hM
  · rw [o 2 (by omega)]; exact ms_2 hM
  · rw [o 3 (by omega)]; exact ms_3 hM
  · rw [o 4 (by omega)]; exact ms_4 hM
  · rw [o 5 (by omega)]; exact ms_5 hM
  · rw [o 6 (by omega)]; exact ms_6 hM
  · rw [o _ (by omega)]; exact ms_w hM w hw
  · rw [o _ (by omega)]; exact ms_p hM w hw
  · rw [o _ (by omega)]; exact ms_g hM w hw
  · rw [o _ (by omega)]; exact ms_n hM w hw
  · rw [o _ (by omega)]; exact ms_a hM w hw
  · rw [o _ (by omega)]; exact ms_b hM w hw
  · rw [o _ (by omega)]; exact ms_h hM w hw
  · have := ms_e hM w hw
    by_cases q : 230 + w = i
    · rw [q, updr_self]; exact hx
    · rw [updr_ne q]; exact this
theorem updr6_MS {σ : Nat → Int} (hM : MS σ) {x : Int} (hx : 0 ≤ x ∧ x ≤ 1000000000) : MS (updr σ 6 x) := by
  have o : ∀ j, j ≠ 6 → updr σ 6 x j = σ j := fun j hj => updr_ne hj
  refine ⟨?_, ?_, ?_, ?_, ?_, ?_, ?_, fun w hw => ?_, fun w hw => ?_, fun w hw => ?_, fun w hw => ?_, fun w hw => ?_, fun w hw => ?_, fun w hw => ?_, fun w hw => ?_⟩
  · rw [o 0 (by omega)]; exact ms_0 hM
  · rw [o 1 (by omega)]; exact ms_1 hM
  · rw [o 2 (by omega)]; exact ms_2 hM
  · rw [o 3 (by omega)]; exact ms_3 hM
  · rw [o 4 (by omega)]; exact ms_4 hM
  · rw [o 5 (by omega)]; exact ms_5 hM
  · rw [updr_self]; exact hx
  · rw [o _ (by omega)]; exact ms_w hM w hw
  · rw [o _ (by omega)]; exact ms_p hM w hw
  · rw [o _ (by omega)]; exact ms_g hM w hw
  · rw [o _ (by omega)]; exact ms_n hM w hw
  · rw [o _ (by omega)]; exact ms_a hM w hw
  · rw [o _ (by omega)]; exact ms_b hM w hw
  · rw [o _ (by omega)]; exact ms_h hM w hw
  · rw [o _ (by omega)]; exact ms_e hM w hw
theorem comesZ_MS {σ : Nat → Int} {g p : Int} (hM : MS σ) (hg : 0 ≤ g ∧ g ≤ 13) (hp : 0 ≤ p ∧ p ≤ 3) (hv : hasV σ g) (h6 : σ 6 < 1000000000) : MS (comesZ σ g p) := by
  have b0 := ms_0 hM
  have b6 := ms_6 hM
  have bg := gPt_b hM hv
  unfold comesZ
  split
  · exact hM
  · have m1 : MS (mvR σ g p (σ 0).toNat) := mvR_MS hM hp (by omega)
    have c1 := cutZ_b m1
    have k := evK_b (τ := mvR σ g p (σ 0).toNat)
    have e6 : mvR σ g p (σ 0).toNat 6 = σ 6 := mvR_o (by omega)
    unfold evR
    exact updr6_MS (updr_MS (updr_MS (updr_MS (updr_MS m1 (by omega) (by omega)) (by omega) (by omega)) (by omega) (by omega)) (by omega) (by omega)) (by rw [e6]; omega)
theorem comesZ_GV {σ : Nat → Int} {g p : Int} (hM : MS σ) (h : GV σ) : GV (comesZ σ g p) := by
  have b0 := ms_0 hM
  intro q h0 h1
  rw [comesZ_grs hM] at h1
  obtain ⟨v, hv, e⟩ := h q h0 h1
  refine ⟨v, ?_, ?_⟩
  · rw [comesZ_o (by omega) (by omega)]; exact hv
  · rw [comesZ_gAt hM (by omega)]; exact e
theorem comesZ_Tl {σ : Nat → Int} {g p : Int} (hM : MS σ) (h : Tl 350 σ) : Tl 350 (comesZ σ g p) := fun i hi => by
  have b0 := ms_0 hM
  rw [comesZ_o (by omega) (by omega)]
  exact h i hi
/-- steps: how many, and the row behind them -/
def stpZ : Nat → (Nat → Int) → Nat × (Nat → Int)
  | 0, σ => (0, σ)
  | k + 1, σ => if nxZ σ = -1 then (0, σ) else ((stpZ k (comesZ σ (nxZ σ / 10) (nxZ σ % 10))).1 + 1, (stpZ k (comesZ σ (nxZ σ / 10) (nxZ σ % 10))).2)
/-- what a move that is chosen is -/
theorem bmR_in {σ : Nat → Int} (lw : Bool) (g : Nat) {B : Nat} : ∀ {p : Nat} {a : Int × Int × Int}, p ≤ B → (a.1 = -1 ∨ ∃ g' p' : Nat, g' ≤ g ∧ p' < B ∧ a.1 = 10 * (g' : Int) + (p' : Int)) → ((bmR σ lw g p a).1 = -1 ∨ ∃ g' p' : Nat, g' ≤ g ∧ p' < B ∧ (bmR σ lw g p a).1 = 10 * (g' : Int) + (p' : Int))
  | 0, a, _, h => h
  | p + 1, a, hp, h => by
    have ih := bmR_in (σ := σ) lw g (B := B) (p := p) (a := a) (by omega) h
    rw [show bmR σ lw g (p + 1) a = bmS σ lw g p (bmR σ lw g p a) from rfl]
    unfold bmS
    split
    · exact ih
    · split
      · exact ih
      · exact Or.inr ⟨g, p, by omega, by omega, rfl⟩
theorem bmZ_in {σ : Nat → Int} (lw : Bool) : ∀ (g : Nat), (bmZ σ lw g).1 = -1 ∨ ∃ g' p' : Nat, g' < g ∧ p' < (σ 2).toNat ∧ (bmZ σ lw g).1 = 10 * (g' : Int) + (p' : Int)
  | 0 => Or.inl rfl
  | g + 1 => by
    have ih := bmZ_in (σ := σ) lw g
    have := bmR_in (σ := σ) lw g (B := (σ 2).toNat) (p := (σ 2).toNat) (a := bmZ σ lw g) (Nat.le_refl _) (by
      rcases ih with h | ⟨g', p', h1, h2, h3⟩
      · exact Or.inl h
      · exact Or.inr ⟨g', p', by omega, h2, h3⟩)
    rcases this with h | ⟨g', p', h1, h2, h3⟩
    · exact Or.inl h
    · exact Or.inr ⟨g', p', by omega, h2, h3⟩
theorem nxZ_in {σ : Nat → Int} (hM : MS σ) (h : nxZ σ ≠ -1) : (0 ≤ nxZ σ / 10 ∧ nxZ σ / 10 < grs σ) ∧ (0 ≤ nxZ σ % 10 ∧ nxZ σ % 10 < σ 2) := by
  have b2 := ms_2 hM
  have bG := grs_b hM
  have key : ∀ x : Int, x ≠ -1 → (x = -1 ∨ ∃ g' p' : Nat, g' < (grs σ).toNat ∧ p' < (σ 2).toNat ∧ x = 10 * (g' : Int) + (p' : Int)) → (0 ≤ x / 10 ∧ x / 10 < grs σ) ∧ (0 ≤ x % 10 ∧ x % 10 < σ 2) := by
    intro x hx hh
    rcases hh with hh | ⟨g', p', h1, h2, h3⟩
    · exact absurd hh hx
    · omega
  refine key _ h ?_
  unfold nxZ
  split
  · split
    · exact bmZ_in _ _
    · exact bmZ_in _ _
  · exact bmZ_in _ _
section RV5
variable {I : Ii} {J : Jj}
theorem s_comes' {g p : Int} {Q : Int → Ii → Jj → Prop} (hM : MS (I 2)) (hg : 0 ≤ g ∧ g ≤ 13) (hp : 0 ≤ p ∧ p ≤ 3) (hv : hasV (I 2) g) (hQ : ∀ (r : Int) (I' : Ii), r = (if gPt (I 2) g = p then 0 else 1) → I' 2 = comesZ (I 2) g p → Q r I' J) : wp_X12_comes g p I J Q := by
  have b0 := ms_0 hM
  have b6 := ms_6 hM
  have bg := gPt_b hM hv
  unfold wp_X12_comes
  refine fr_X12_groupPart (s_gPt hM (rgK (by omega)) hv) (fun own hown => ?_)
  refine ⟨rgK (by omega), rgK (by omega), fun d => ?_, fun d => hQ _ _ (by rw [if_pos (by rw [← hown]; exact d)]) (by unfold comesZ; rw [if_pos (by rw [← hown]; exact d)])⟩
  refine ⟨15, loopN (L := fun n (a : Ii) v => L_X12_comes_16 g p Q n own v a J) (fun v a => a 2 = mvR (I 2) g p v) (N := (I 2 0).toNat) (fun n v a hv ha k => ?_) 15 0 I (by omega) (by omega) (by funext i; unfold mvR; rw [if_neg (by omega)])⟩
  have m1 : MS (a 2) := by rw [ha]; exact mvR_MS hM hp (by omega)
  have e0 : a 2 0 = I 2 0 := by rw [ha]; exact mvR_o (by omega)
  have b6a := ms_6 m1
  refine ls_X12_comes_16 ?_
  generalize hr : L_X12_comes_16 g p Q n = r at k ⊢
  unfold Lb_X12_comes_16
  have hK : 230 + 4 * (a 2 6 % 30) = (evK (a 2) : Int) := by unfold evK; omega
  rw [hK]
  have kb := evK_b (τ := a 2)
  generalize hk : evK (a 2) = K at kb ⊢
  refine ⟨rgK (by omega), rgK (by rw [e0]; omega), fun c => ?_, fun c => ?_⟩
  · rw [e0] at c
    have hvn : v = (I 2 0).toNat := by omega
    rw [show ((K : Int)).toNat = K by omega, show ((K : Int) + 1).toNat = K + 1 by omega, show ((K : Int) + 2).toNat = K + 2 by omega, show ((K : Int) + 3).toNat = K + 3 by omega]
    refine ⟨by omega, by omega, fun I1 h1 => ⟨by omega, fun I2 h2 => ⟨by omega, fun I3 h3 => ?_⟩⟩⟩
    have q3 : I3 2 = updr (updr (updr (a 2) K g) (K + 1) own) (K + 2) p := by rw [h3, up2_row, h2, up2_row, h1, up2_row]
    have m3 : MS (I3 2) := by rw [q3]; exact updr_MS (updr_MS (updr_MS m1 (by omega) (by omega)) (by omega) (by omega)) (by omega) (by omega)
    have o3 : ∀ i, i < 230 → I3 2 i = a 2 i := fun i hi => by rw [q3, updr_ne (by omega), updr_ne (by omega), updr_ne (by omega)]
    have c3 : cutZ (I3 2) = cutZ (a 2) := cutZ_congr (o3 1 (by omega)) (fun v hv => o3 _ (by omega)) (fun i h1 h2 => o3 _ (by omega)) m1
    refine fr_X12_cutNow (s_cutNow m3) (fun x hx => ⟨by omega, fun I4 h4 I5 h5 => hQ _ _ (by rw [if_neg (by rw [← hown]; exact d)]) ?_⟩)
    have q46 : I4 2 6 = a 2 6 := by rw [h4, up2_row, updr_ne (by omega), o3 6 (by omega)]
    have e5 : I5 2 = updr (updr (I3 2) (K + 3) (cutZ (a 2))) 6 (a 2 6 + 1) := by rw [h5, up2_row, q46, h4, up2_row, hx, c3]
    rw [e5, q3]
    unfold comesZ
    rw [if_neg (by rw [← hown]; exact d), ← hvn, ← ha, ← hown]
    unfold evR
    rw [hk]
  · rw [e0] at c
    have hgA : gAt (a 2) v = gAt (I 2) v := gAt_congr (by rw [ha]; exact mvR_o (by omega)) (fun i h1 h2 => by rw [ha]; exact mvR_o (by omega)) hM (by omega)
    refine fr_X12_groupAt (s_groupAt m1 rfl (by omega)) (fun x hx => ?_)
    have hb := gAt_b hM (v := v) (by omega)
    refine ⟨rgK (by omega), rgK (by omega), fun d2 => k (by omega) _ ?_, fun d2 => ⟨by omega, fun I1 h1 => k (by omega) _ ?_⟩⟩
    · rw [ha, mvR_succ, if_neg (by rw [← hgA, ← hx]; exact d2)]
    · rw [h1, up2_row, ha, mvR_succ, if_pos (by rw [← hgA, ← hx]; exact d2), show (21 + (v : Int)).toNat = 21 + v by omega]
theorem s_comes {g p : Int} (hM : MS (I 2)) (hg : 0 ≤ g ∧ g ≤ 13) (hp : 0 ≤ p ∧ p ≤ 3) (hv : hasV (I 2) g) : wp_X12_comes g p I J (fun r I' _ => r = (if gPt (I 2) g = p then 0 else 1) ∧ I' 2 = comesZ (I 2) g p) := s_comes' hM hg hp hv (fun _ _ h1 h2 => ⟨h1, h2⟩)
theorem s_moves {g p : Int} (hM : MS (I 2)) (hg : 0 ≤ g ∧ g ≤ 13) (hp : 0 ≤ p ∧ p ≤ 3) (hv : hasV (I 2) g) (h6 : I 2 6 < 1000000000) : wp_X12_moves g p I J (fun r I' _ => r = cutZ (comesZ (I 2) g p) ∧ I' 2 = comesZ (I 2) g p) := by
  unfold wp_X12_moves
  refine fr_X12_comes (s_comes hM hg hp hv) (fun r I1 J1 h hs => ?_)
  exact fr_X12_cutNow (s_cutNow (by rw [h.2]; exact comesZ_MS hM hg hp hv h6)) (fun r2 h2 => ⟨by rw [h2, h.2], h.2⟩)
theorem s_stepNow (hM : MS (I 2)) (hG : GV (I 2)) (h6 : I 2 6 < 1000000000) : wp_X12_stepNow I J (fun r I' _ => (nxZ (I 2) = -1 → r = -1 ∧ I' 2 = I 2) ∧ (nxZ (I 2) ≠ -1 → r = cutZ (I' 2) ∧ I' 2 = comesZ (I 2) (nxZ (I 2) / 10) (nxZ (I 2) % 10))) := by
  have bx := nxZ_b hM
  have bG := grs_b hM
  have b2 := ms_2 hM
  unfold wp_X12_stepNow
  refine fr_X12_nextNow (s_nextNow hM hG) (fun r hr => ?_)
  subst hr
  refine ⟨rgK (by omega), fun c => ⟨by omega, by omega, ?_⟩, fun c => ⟨fun _ => ⟨rfl, rfl⟩, fun z => absurd c z⟩⟩
  have hin := nxZ_in hM c
  refine fr_X12_moves (s_moves hM (by omega) (by omega) (hG.has hM hin.1.1 hin.1.2) h6) (fun r I' J' h _ => ⟨fun z => absurd z c, fun _ => ⟨by rw [h.1, h.2], h.2⟩⟩)
/-- what steps keep -/
theorem step_keeps {σ : Nat → Int} (hM : MS σ) (hG : GV σ) (h6 : σ 6 < 1000000000) (h : nxZ σ ≠ -1) : MS (comesZ σ (nxZ σ / 10) (nxZ σ % 10)) ∧ GV (comesZ σ (nxZ σ / 10) (nxZ σ % 10)) ∧ comesZ σ (nxZ σ / 10) (nxZ σ % 10) 6 ≤ σ 6 + 1 := by
  have hin := nxZ_in hM h
  have bG := grs_b hM
  have b2 := ms_2 hM
  refine ⟨comesZ_MS hM (by omega) (by omega) (hG.has hM hin.1.1 hin.1.2) h6, comesZ_GV hM hG, ?_⟩
  rw [comesZ_6 hM]
  split <;> omega
theorem stpZ_keeps : ∀ (k : Nat) {σ : Nat → Int}, MS σ → GV σ → σ 6 + (k : Int) ≤ 1000000000 → MS (stpZ k σ).2 ∧ GV (stpZ k σ).2 ∧ (stpZ k σ).2 6 ≤ σ 6 + (k : Int) ∧ (stpZ k σ).1 ≤ k
  | 0, σ, hM, hG, h6 => ⟨hM, hG, (by show σ 6 ≤ σ 6 + ((0 : Nat) : Int); omega), Nat.le_refl _⟩
  | k + 1, σ, hM, hG, h6 => by
    unfold stpZ
    split
    · exact ⟨hM, hG, by dsimp only; omega, by dsimp only; omega⟩
    · rename_i h
      have h1 := step_keeps hM hG (by omega) h
      have ih := stpZ_keeps k h1.1 h1.2.1 (by omega)
      exact ⟨ih.1, ih.2.1, by have := ih.2.2.1; dsimp only; omega, by have := ih.2.2.2; dsimp only; omega⟩
theorem s_stepsNow {m : Nat} (hM : MS (I 2)) (hG : GV (I 2)) (hm : m ≤ 200) (h6 : I 2 6 + (m : Int) ≤ 1000000000) : wp_X12_stepsNow (m : Int) I J (fun r I' _ => r = ((stpZ m (I 2)).1 : Int) ∧ I' 2 = (stpZ m (I 2)).2) := by
  unfold wp_X12_stepsNow
  have key : ∀ (n made : Nat) (more : Int) (a : Ii) (b : Jj) (left : Nat), m = made + left → (1 ≤ n ∧ (more = 1 → left + 2 ≤ n)) → (more = 0 ∨ more = 1) → MS (a 2) → GV (a 2) → a 2 6 + (left : Int) ≤ 1000000000 → (more = 1 → (stpZ m (I 2)) = ((stpZ left (a 2)).1 + made, (stpZ left (a 2)).2)) → (more = 0 → (stpZ m (I 2)) = (made, a 2)) → L_X12_stepsNow_4 (m : Int) (fun r I' _ => r = ((stpZ m (I 2)).1 : Int) ∧ I' 2 = (stpZ m (I 2)).2) n (made : Int) more a b := by
    intro n
    induction n with
    | zero => intro made more a b left h1 h2; exact absurd h2.1 (by omega)
    | succ n ih =>
      intro made more a b left h1 h2 h3 h4 h5 h6 h7 h8
      refine ls_X12_stepsNow_4 ?_
      unfold Lb_X12_stepsNow_4 B_X12_stepsNow_26
      have done : (left = 0 ∨ more = 0) → ((made : Int) = ((stpZ m (I 2)).1 : Int) ∧ a 2 = (stpZ m (I 2)).2) := by
        intro hh
        rcases h3 with e | e
        · rw [h8 e]; exact ⟨rfl, rfl⟩
        · rcases hh with z | z
          · rw [h7 e, z]; unfold stpZ; exact ⟨by dsimp only; omega, rfl⟩
          · omega
      refine ⟨rgK (by omega), rgK (by omega), fun c => done (Or.inl (by omega)), fun c => ⟨rgK (by omega), fun c2 => done (Or.inr c2), fun c2 => ?_⟩⟩
      obtain ⟨l, rfl⟩ : ∃ l, left = l + 1 := ⟨left - 1, by omega⟩
      have e1 : more = 1 := by omega
      have h7 := h7 e1
      have h2 := h2.2 e1
      have b4 := cutZ_b h4
      refine fr_X12_stepNow (s_stepNow h4 h5 (by omega)) (fun r I1 J1 h _ => ?_)
      by_cases hx : nxZ (a 2) = -1
      · obtain ⟨hr, ha⟩ := h.1 hx
        subst hr
        refine ⟨rgK (by omega), fun _ => fr_X12_truth (s_truth (Or.inl rfl)) (fun t ht => ?_), fun z => absurd rfl z⟩
        subst ht
        have := ih made 0 I1 J1 (l + 1) h1 ⟨by omega, fun z => by omega⟩ (Or.inl rfl) (by rw [ha]; exact h4) (by rw [ha]; exact h5) (by rw [ha]; exact h6) (fun z => by omega) (fun _ => by
          rw [h7, ha]; unfold stpZ; rw [if_pos hx]; simp)
        rwa [show (made : Int) + 0 = (made : Int) by omega]
      · obtain ⟨hr, ha⟩ := h.2 hx
        have sk := step_keeps h4 h5 (by omega) hx
        rw [← ha] at sk
        have bc := cutZ_b sk.1
        rw [← hr] at bc
        refine ⟨rgK (by omega), fun z => by omega, fun _ => fr_X12_truth (s_truth (Or.inr rfl)) (fun t ht => ?_)⟩
        subst ht
        have := ih (made + 1) 1 I1 J1 l (by omega) ⟨by omega, fun _ => by omega⟩ (Or.inr rfl) sk.1 sk.2.1 (by omega) (fun _ => by
          rw [h7]
          conv => lhs; unfold stpZ
          rw [if_neg hx, ← ha]
          simp only [Prod.mk.injEq, and_true]
          omega) (fun z => by omega)
        rwa [show (((made + 1 : Nat)) : Int) = (made : Int) + 1 by omega] at this
  exact ⟨m + 2, key (m + 2) 0 1 I J m (by omega) ⟨by omega, fun _ => by omega⟩ (Or.inr rfl) hM hG h6 (fun _ => rfl) (fun z => by omega)⟩
end RV5

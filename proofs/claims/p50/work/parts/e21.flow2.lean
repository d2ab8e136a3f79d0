/-! ===== flows, as the world looks for them: the way, and all ===== -/
theorem crs_cong {n : Nat} {f f' : Nat → Int} (h : ∀ u v, u < n → v < n → f' (14 * u + v) = f (14 * u + v)) (S : Nat) : crs n f' S = crs n f S := by
  unfold crs
  exact sm_cong (fun u hu => sm_cong (fun v hv => by rw [h u v hu hv]))
theorem UW_cong {n a b m : Nat} {w : Nat → Nat} {f0 f f' : Nat → Int} {k : Nat} {r : Int} (wn : ∀ k, k ≤ m → w k < n) (h : ∀ u v, u < n → v < n → f' (14 * u + v) = f (14 * u + v)) (hU : UW n a b m w f0 f k r) : UW n a b m w f0 f' k r := by
  obtain ⟨t2, t3, t4, t5⟩ := hU
  exact ⟨fun u v hu hv => by rw [h u v hu hv]; exact t2 u v hu hv, fun u v hu hv => by rw [h u v hu hv, h v u hv hu]; exact t3 u v hu hv, fun j h1 h2 => by rw [h _ _ (wn (j + 1) (by omega)) (wn j (by omega))]; exact t4 j h1 h2, fun S => by rw [crs_cong h]; exact t5 S⟩
theorem RO_cong {σ : Nat → Int} {a b : Nat} {f f' : Nat → Int} {T : Int} (h : ∀ u v, u < (σ 0).toNat → v < (σ 0).toNat → f' (14 * u + v) = f (14 * u + v)) (hR : RO σ a b f T) : RO σ a b f' T := by
  obtain ⟨h1, h2, h3, h4⟩ := hR
  exact ⟨fun u v hu hv => by rw [h u v hu hv]; exact h1 u v hu hv, fun u v hu hv => by rw [h u v hu hv, h v u hv hu]; exact h2 u v hu hv, h3, fun S p q => by rw [crs_cong h]; exact h4 S p q⟩
section WSY
variable {n a b M N : Nat} {I1 : Ii} {J : Jj} {l4 : Int} {Q : Nat → Ii → Jj → Prop} {r54 : Nat → Int → Ii → Jj → Prop}
theorem f_min {I : Ii} {s c m : Nat} {q : Nat → Int} {w : Nat → Nat} (hf : SWf n M N I1) (h : SWr n a M (rmF I1 N) I1 I s c q) (hW : WY n a b (rmF I1 N) (I M) m w)
    (kk : ∀ r : Int, 0 < r → r ≤ 9999 → (∀ j, j < m → r ≤ rmF I1 N (14 * w (j + 1) + w j)) → ∃ n' : Nat, L_X12_flow_289 (a : Int) (b : Int) Q r54 n' N l4 M r (b : Int) I J) : ∃ n' : Nat, L_X12_flow_253 (a : Int) (b : Int) Q r54 n' N l4 M 9999 (b : Int) I J := by
  have d3 := h.ds hf
  obtain ⟨f0, f1, f2, f3, f4, f5, f6, f7, f8⟩ := id hf
  obtain ⟨hm, w0, wm, wn, wi, wk⟩ := hW
  have key : ∀ d k : Nat, k + d = m → ∀ r : Int, 0 < r → r ≤ 9999 → (∀ j, j < k → r ≤ rmF I1 N (14 * w (j + 1) + w j)) → L_X12_flow_253 (a : Int) (b : Int) Q r54 (d + 1) N l4 M r (w k : Int) I J := by
    intro d
    induction d with
    | zero =>
      intro k hk r r0 r1 rk
      show Lb_X12_flow_253 (a : Int) (b : Int) Q r54 _ N l4 M r (w k : Int) I J
      unfold Lb_X12_flow_253
      have hwk := wn k (by omega)
      have an : a < n := by rw [← wm]; exact wn m (Nat.le_refl _)
      have hkm : k = m := by omega
      refine ⟨⟨by omega, by omega⟩, ⟨by omega, by omega⟩, fun _ => kk r r0 r1 (fun j hj => rk j (by omega)), fun z => absurd (by rw [hkm, wm]) z⟩
    | succ d ih =>
      intro k hk r r0 r1 rk
      show Lb_X12_flow_253 (a : Int) (b : Int) Q r54 _ N l4 M r (w k : Int) I J
      unfold Lb_X12_flow_253
      have hwk := wn k (by omega)
      have hwk1 := wn (k + 1) (by omega)
      have an : a < n := by rw [← wm]; exact wn m (Nat.le_refl _)
      have hk1 := wk k (by omega)
      have iN : I N = I1 N := h.1 N (by omega)
      have iR : I (N + 1 + w (k + 1)) = I1 (N + 1 + w (k + 1)) := h.1 _ (by omega)
      have eR : (((N + 1 + w (k + 1) : Nat) : Int)).toNat = N + 1 + w (k + 1) := Int.toNat_natCast _
      have b8 := f8 (w (k + 1)) (w k) hwk1 hwk
      have b9 := hk1.2
      rw [rmF_at (by omega)] at b8 b9
      have nx : ∀ r2 : Int, 0 < r2 → r2 ≤ 9999 → (∀ j, j < k + 1 → r2 ≤ rmF I1 N (14 * w (j + 1) + w j)) → L_X12_flow_253 (a : Int) (b : Int) Q r54 (d + 1) N l4 M r2 (w (k + 1) : Int) I J := ih (k + 1) (by omega)
      refine ⟨⟨by omega, by omega⟩, ⟨by omega, by omega⟩, fun z => ?_, fun _ => ?_⟩
      · have := wi k m (by omega) (Nat.le_refl _) (by rw [wm]; omega)
        omega
      · rw [Int.toNat_natCast, hk1.1, Int.toNat_natCast, iN, f2.2.2 _ hwk1, eR, iR, (d3 M).1, (d3 M).2, (d3 N).1, (d3 N).2, (d3 (N + 1 + w (k + 1))).1, (d3 (N + 1 + w (k + 1))).2, f4.1, f4.2, f2.1, f2.2.1, (f3 _ hwk1).1, (f3 _ hwk1).2]
        refine ⟨⟨rfl, by omega, by omega⟩, ⟨rfl, ⟨by omega, by omega⟩, by omega⟩, ⟨rfl, by omega, by omega⟩, min_of ⟨by omega, by omega⟩ ⟨by omega, by omega⟩ (fun z => ⟨⟨by rw [(d3 M).1, f4.1], by omega, by rw [(d3 M).2, f4.2]; omega⟩, ?_⟩) (fun z => ⟨⟨by rw [(d3 M).1, f4.1], by omega, by rw [(d3 M).2, f4.2]; omega⟩, ?_⟩)⟩
        · rw [hk1.1]
          refine nx _ b9 (by omega) (fun j hj => ?_)
          by_cases c : j = k
          · rw [c, rmF_at (by omega)]; exact Int.le_refl _
          · have := rk j (by omega); omega
        · rw [hk1.1]
          refine nx _ r0 r1 (fun j hj => ?_)
          by_cases c : j = k
          · rw [c, rmF_at (by omega)]; omega
          · exact rk j (by omega)
  refine ⟨m + 1, ?_⟩
  have := key m 0 (by omega) 9999 (by decide) (by decide) (fun j hj => by omega)
  rw [w0] at this
  exact this
theorem f_use {I : Ii} {s c m : Nat} {q : Nat → Int} {w : Nat → Nat} {r : Int} (hf : SWf n M N I1) (h : SWr n a M (rmF I1 N) I1 I s c q) (hW : WY n a b (rmF I1 N) (I M) m w) (r0 : 0 < r) (hU : UW n a b m w (rmF I1 N) (rmF I1 N) 0 r)
    (kk : ∀ I2 : Ii, (∀ k, ¬ (N + 1 ≤ k ∧ k < N + 1 + n) → I2 k = I k) → UW n a b m w (rmF I1 N) (rmF I2 N) m r → r54 N (l4 + r) I2 J) : ∃ n' : Nat, L_X12_flow_289 (a : Int) (b : Int) Q r54 n' N l4 M r (b : Int) I J := by
  have d3 := h.ds hf
  obtain ⟨f0, f1, f2, f3, f4, f5, f6, f7, f8⟩ := id hf
  obtain ⟨hm, w0, wm, wn, wi, wk⟩ := hW
  have key : ∀ d k : Nat, k + d = m → ∀ I2 : Ii, (∀ k, ¬ (N + 1 ≤ k ∧ k < N + 1 + n) → I2 k = I k) → UW n a b m w (rmF I1 N) (rmF I2 N) k r → L_X12_flow_289 (a : Int) (b : Int) Q r54 (d + 1) N l4 M r (w k : Int) I2 J := by
    intro d
    induction d with
    | zero =>
      intro k hk I2 o2 u2
      show Lb_X12_flow_289 (a : Int) (b : Int) Q r54 _ N l4 M r (w k : Int) I2 J
      unfold Lb_X12_flow_289
      have hwk := wn k (by omega)
      have an : a < n := by rw [← wm]; exact wn m (Nat.le_refl _)
      have hkm : k = m := by omega
      rw [hkm] at u2
      refine ⟨⟨by omega, by omega⟩, ⟨by omega, by omega⟩, fun _ => kk I2 o2 u2, fun z => absurd (by rw [hkm, wm]) z⟩
    | succ d ih =>
      intro k hk I2 o2 u2
      show Lb_X12_flow_289 (a : Int) (b : Int) Q r54 _ N l4 M r (w k : Int) I2 J
      unfold Lb_X12_flow_289
      have hwk := wn k (by omega)
      have hwk1 := wn (k + 1) (by omega)
      have an : a < n := by rw [← wm]; exact wn m (Nat.le_refl _)
      have hk1 := wk k (by omega)
      have ds2 : ∀ j, dS I2 j = dS I1 j ∧ dL I2 j = dL I1 j := fun j => by
        have := o2 (1000000 + j) (by omega)
        have e := d3 j
        exact ⟨(congrFun this 0).trans e.1, (congrFun this 1).trans e.2⟩
      have iN : I2 N = I1 N := by rw [o2 N (by omega)]; exact h.1 N (by omega)
      have iM : I2 M = I M := o2 M (by omega)
      have eR : (((N + 1 + w (k + 1) : Nat) : Int)).toNat = N + 1 + w (k + 1) := Int.toNat_natCast _
      have eR2 : (((N + 1 + w k : Nat) : Int)).toNat = N + 1 + w k := Int.toNat_natCast _
      have us := UW_step (by omega) r0 wn wi u2 (by omega)
      refine ⟨⟨by omega, by omega⟩, ⟨by omega, by omega⟩, fun z => ?_, fun _ => ?_⟩
      · have := wi k m (by omega) (Nat.le_refl _) (by rw [wm]; omega)
        omega
      · rw [Int.toNat_natCast, iM, hk1.1, Int.toNat_natCast, iN, f2.2.2 _ hwk1, eR, (ds2 M).1, (ds2 M).2, (ds2 N).1, (ds2 N).2, (ds2 (N + 1 + w (k + 1))).1, (ds2 (N + 1 + w (k + 1))).2, f4.1, f4.2, f2.1, f2.2.1, (f3 _ hwk1).1, (f3 _ hwk1).2]
        refine ⟨⟨rfl, by omega, by omega⟩, ⟨rfl, ⟨by omega, by omega⟩, by omega⟩, ⟨rfl, by omega, by omega⟩, ⟨rfl, by omega, by omega⟩, fun I49 e49 => ?_⟩
        have o49 : ∀ j, j ≠ N + 1 + w (k + 1) → I49 j = I2 j := fun j hj => by rw [e49, up2_key hj]
        have ds4 : ∀ j, dS I49 j = dS I1 j ∧ dL I49 j = dL I1 j := fun j => by
          have := o49 (1000000 + j) (by omega)
          have e := ds2 j
          exact ⟨(congrFun this 0).trans e.1, (congrFun this 1).trans e.2⟩
        rw [o49 N (by omega), iN, f2.2.2 _ hwk, eR2, o49 M (by omega), iM, hk1.1, Int.toNat_natCast, (ds4 M).1, (ds4 M).2, (ds4 N).1, (ds4 N).2, (ds4 (N + 1 + w k)).1, (ds4 (N + 1 + w k)).2, f4.1, f4.2, f2.1, f2.2.1, (f3 _ hwk).1, (f3 _ hwk).2]
        refine ⟨⟨rfl, ⟨by omega, by omega⟩, by omega⟩, ⟨rfl, by omega, by omega⟩, ⟨rfl, by omega, by omega⟩, ⟨rfl, by omega, by omega⟩, fun I54 e54 => ?_⟩
        have o54 : ∀ j, j ≠ N + 1 + w k → I54 j = I49 j := fun j hj => by rw [e54, up2_key hj]
        have g49 : rmF I49 N = updr (rmF I2 N) (14 * w (k + 1) + w k) (rmF I2 N (14 * w (k + 1) + w k) + -r) := by
          rw [e49, rmF_up (by omega), rmF_at (by omega)]
          rfl
        have g54 : rmF I54 N = updr (rmF I49 N) (14 * w k + w (k + 1)) (rmF I49 N (14 * w k + w (k + 1)) + r) := by
          rw [e54, rmF_up (by omega), rmF_at (by omega)]
        have i54M : I54 M = I M := by rw [o54 M (by omega), o49 M (by omega), iM]
        have d54 : dS I54 M = 1 ∧ dL I54 M = (n : Int) := by
          have := o54 (1000000 + M) (by omega)
          have e := ds4 M
          exact ⟨((congrFun this 0).trans e.1).trans f4.1, ((congrFun this 1).trans e.2).trans f4.2⟩
        refine ⟨⟨d54.1, by omega, by rw [d54.2]; omega⟩, ?_⟩
        rw [i54M, hk1.1]
        refine ih (k + 1) (by omega) I54 (fun j hj => by rw [o54 j (by omega), o49 j (by omega)]; exact o2 j hj) ?_
        rw [g54, g49]
        exact us
  refine ⟨m + 1, ?_⟩
  have := key m 0 (by omega) I (fun _ _ => rfl) (UW_cong wn (fun u v hu hv => by rw [rmF_at (by omega), rmF_at (by omega), h.1 _ (by omega)]) hU)
  rw [w0] at this
  exact this
end WSY
section WSZ
variable {σ : Nat → Int} {I0 : Ii} {J : Jj} {N a b : Nat} {Q : Nat → Ii → Jj → Prop}
theorem FFr.ex {I I' : Ii} (h : FFr σ I0 N I) (hN : 1022 ≤ N) (x : Ex I I') (h10 : 0 ≤ σ 0) : FFr σ I0 N I' := by
  obtain ⟨f1, f2, f3, f4⟩ := h
  have hx := x.1
  have sN := ExW.ds x (k := N) (by omega) (by omega)
  refine ⟨f1.trans x (fun _ q => q) (fun _ _ _ q => q), ⟨by rw [sN.1]; exact f2.1, by rw [sN.2]; exact f2.2.1, fun u hu => by rw [(x.2 N (by omega) (by omega)).1 (fun q => q)]; exact f2.2.2 u hu⟩, fun u hu => ?_, by omega⟩
  have sR := ExW.ds x (k := N + 1 + u) (by omega) (by omega)
  rw [sR.1, sR.2]
  exact f3 u hu
/-- what the world's flow comes to -/
def FQ (σ : Nat → Int) (a b : Nat) (I0 : Ii) (J : Jj) (Q : Nat → Ii → Jj → Prop) : Prop := ∀ (I' : Ii) (K : Nat) (T : Int) (s : Nat), WO σ I' → Ex I0 I' → I' 999 0 ≤ I0 999 0 + 140 → dS I' K = 1 → dL I' K = 2 → I' K 0 = T → I' K 1 = (s : Int) → FLW σ a b T s → Q K I' J
theorem f_end {I : Ii} {T : Int} {s M : Nat} (w : WO σ I0) (hN : 1022 ≤ I0 999 0 ∧ I0 999 0 ≤ 600000) (hx : Ex I0 I) (h9 : I 999 0 ≤ I0 999 0 + 130) (hM : dS I M = 1 ∧ dL I M = σ 0) (hs : ∀ v, v < (σ 0).toNat → (s.testBit v = true → 0 ≤ I M v ∧ I M v < σ 0) ∧ (s.testBit v = false → I M v = -1)) (hF : FLW σ a b T s) (hq : FQ σ a b I0 J Q) : ∃ n : Nat, L_X12_flow_195 (a : Int) (b : Int) Q n T M 0 0 I J := by
  have w1 := w.ex hN.1 hx
  have h0 := w1.n
  have hb := w.1.2
  have x1 := hx.1
  have key : ∀ d v : Nat, v + d = (σ 0).toNat → L_X12_flow_195 (a : Int) (b : Int) Q (d + 1) T M ((bset (fun v => s.testBit v) v : Nat) : Int) (v : Int) I J := by
    intro d
    induction d with
    | zero =>
      intro v hv
      show Lb_X12_flow_195 (a : Int) (b : Int) Q _ T M _ (v : Int) I J
      unfold Lb_X12_flow_195
      rw [h0]
      refine ⟨⟨by omega, by omega⟩, ⟨by omega, by omega⟩, fun _ => ⟨⟨⟨by decide, by decide⟩, by omega⟩, fun I33 e33 K ek => ?_⟩, fun z => absurd (by omega) z⟩
      subst ek
      have hvn : v = (σ 0).toNat := by omega
      rw [hvn, bset_self hF.1]
      generalize hK : (I 999 0).toNat = K
      have s33 : dS I33 K = 1 ∧ dL I33 K = 2 := by rw [e33, ← hK]; exact nwI_s
      have x33 : Ex I I33 := by rw [e33]; exact ExW.nw ⟨by omega, by omega⟩
      have n33 : I33 999 0 = I 999 0 + 1 := by rw [e33]; exact nwI_9 _ _ _ _
      refine ⟨⟨s33.1, by decide, by rw [s33.2]; decide⟩, fun I36 e36 => ⟨⟨by rw [e36, up2_dS (by omega)]; exact s33.1, by decide, by rw [e36, up2_dL (by omega), s33.2]; decide⟩, fun I38 e38 => ?_⟩⟩
      have o38 : ∀ k, k ≠ K → I38 k = I33 k := fun k hk => by rw [e38, up2_key hk, e36, up2_key hk]
      have x38 : Ex I0 I38 := (hx.trans x33 (W2 := fun _ => False) (fun _ q => q) (fun _ _ _ q => q)).trans (W' := fun j => j = K) ⟨by rw [o38 999 (by omega)]; exact Int.le_refl _, fun k _ _ => ⟨fun q => o38 k q, o38 _ (by omega)⟩⟩ (fun _ q => q) (fun k h9 hk q => by omega)
      refine hq I38 K T s (w.ex hN.1 x38) x38 (by rw [o38 999 (by omega)]; omega) ?_ ?_ ?_ ?_ hF
      · rw [e38, up2_dS (by omega), e36, up2_dS (by omega)]; exact s33.1
      · rw [e38, up2_dL (by omega), e36, up2_dL (by omega)]; exact s33.2
      · rw [e38, up2_ne (fun z => by have := z.2; cases this), e36]; exact up2_self _ _ _ _
      · rw [e38]; exact up2_self _ _ _ _
    | succ d ih =>
      intro v hv
      show Lb_X12_flow_195 (a : Int) (b : Int) Q _ T M _ (v : Int) I J
      unfold Lb_X12_flow_195
      rw [h0, Int.toNat_natCast, hM.1, hM.2]
      have hsv := hs v (by omega)
      have nx := ih (v + 1) (by omega)
      have h1 := bset_lt14 (fun v => s.testBit v) (n := v) (by omega)
      rw [show ((v : Int) + 1) = ((v + 1 : Nat) : Int) by omega]
      refine ⟨⟨by omega, by omega⟩, ⟨by omega, by omega⟩, fun c => by omega, fun _ => ⟨⟨rfl, by omega, by omega⟩, ?_, fun c => ?_, fun c => ?_⟩⟩
      · cases hb2 : s.testBit v
        · rw [hsv.2 hb2]; exact ⟨by decide, by decide⟩
        · have := hsv.1 hb2; exact ⟨by omega, by omega⟩
      · have hb2 : s.testBit v = true := by
          cases hb2 : s.testBit v
          · have := hsv.2 hb2; omega
          · rfl
        rw [← bset_next (c := fun v => s.testBit v) (v := v) (by omega) (z := 1) (by rw [if_pos hb2])] at nx
        exact nx
      · have hb2 : s.testBit v = false := by
          cases hb2 : s.testBit v
          · rfl
          · have := hsv.1 hb2; omega
        rw [← bset_next (c := fun v => s.testBit v) (v := v) (by omega) (z := 0) (by rw [if_neg (by rw [hb2]; decide)])] at nx
        have e0 : shlZ 0 (v : Int) = 0 := by
          have := shlZ_nat (a := 0) (k := v) (by omega) (by omega)
          simpa using this
        rw [e0] at nx
        exact nx
  exact ⟨_, key (σ 0).toNat 0 (by omega)⟩
end WSZ

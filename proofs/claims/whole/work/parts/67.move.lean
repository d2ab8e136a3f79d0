/-! ===== a move: events, parts ===== -/
/-- rows that tell the same graph -/
def GE (σ τ : Nat → Int) : Prop := ∀ i, (i < 4 ∨ (7 ≤ i ∧ i < 21) ∨ (110 ≤ i ∧ i < 230)) → τ i = σ i
theorem GE.refl (σ : Nat → Int) : GE σ σ := fun _ _ => rfl
theorem GE.symm {σ τ : Nat → Int} (h : GE σ τ) : GE τ σ := fun i hi => (h i hi).symm
theorem GE.trans {σ τ υ : Nat → Int} (h : GE σ τ) (h2 : GE τ υ) : GE σ υ := fun i hi => (h2 i hi).trans (h i hi)
theorem GE.allW {σ τ : Nat → Int} (h : GE σ τ) (hM : MS σ) : allW τ = allW σ := by
  have b := ms_0 hM
  unfold _root_.Jvm.Pilot.@@N@@.allW
  rw [h 0 (by omega)]
  exact sm_cong (fun k hk => h _ (by omega))
theorem GE.allE {σ τ : Nat → Int} (h : GE σ τ) (hM : MS σ) : allE τ = allE σ := by
  have b := ms_1 hM
  unfold _root_.Jvm.Pilot.@@N@@.allE
  rw [h 1 (by omega)]
  exact sm_cong (fun k hk => h _ (by omega))
theorem RG.ge {k : Nat} {I : Ii} {J : Jj} {σ τ : Nat → Int} {nm : Nat → Int64} (h : RG k I J σ nm) (g : GE σ τ) (hM : MS σ) : RG k I J τ nm := by
  have b := ms_0 hM
  have b1 := ms_1 hM
  refine ⟨by rw [h.n, g 0 (by omega)], by rw [h.m, g 1 (by omega)], by rw [h.q, g 2 (by omega)], by rw [h.s, g 3 (by omega)], by rw [h.aw, g.allW hM], by rw [h.ae, g.allE hM], fun v hv => ?_, fun v hv => ?_, fun e he => ?_, fun e he => ?_, fun e he => ?_⟩
  · rw [g 0 (by omega)] at hv; rw [h.w hv, g _ (by omega)]
  · rw [g 0 (by omega)] at hv; rw [h.z hv]
  · rw [g 1 (by omega)] at he; rw [h.a he, g _ (by omega)]
  · rw [g 1 (by omega)] at he; rw [h.b he, g _ (by omega)]
  · rw [g 1 (by omega)] at he; rw [h.h he, g _ (by omega)]
theorem comesZ_GE {σ : Nat → Int} {g p : Int} (hM : MS σ) : GE σ (comesZ σ g p) := fun i hi => by
  have b := ms_0 hM
  exact comesZ_o (by omega) (by omega)
theorem VS.un {σ : Nat → Int} (hV : VS σ) {g : Int} : ∀ w, w < (σ 0).toNat → gAt σ w = g → σ (21 + w) = gPt σ g := fun w hw e => by rw [← e, hV.gp hw]
theorem gL_congr {σ τ : Nat → Int} (h : ∀ i, 35 ≤ i → i < 105 → τ i = σ i) {l v : Nat} (hl : l ≤ 4) (hv : v < 14) : gL τ l v = gL σ l v := h _ (by omega) (by omega)
theorem VS_comes {σ : Nat → Int} {g p : Int} (hV : VS σ) (hg : 0 ≤ g ∧ g < grs σ) (hp : 0 ≤ p ∧ p < σ 2) (h6 : σ 6 < 1000000000) : VS (comesZ σ g p) := by
  have hM := hV.M
  have b0 := ms_0 hM
  have b1 := ms_1 hM
  have b2 := ms_2 hM
  have b5 := ms_5 hM
  have gr := grs_b hM
  have o : ∀ i, i < 6 ∨ (6 < i ∧ i < 21) ∨ (35 ≤ i ∧ i < 230) → comesZ σ g p i = σ i := fun i hi => comesZ_o (by omega) (by omega)
  have ogl : ∀ l v, l ≤ 4 → v < 14 → gL (comesZ σ g p) l v = gL σ l v := fun l v hl hv => gL_congr (fun i h1 h2 => o i (by omega)) hl hv
  refine ⟨comesZ_MS hM (by omega) (by omega) (hV.GV.has hM hg.1 hg.2) h6, ⟨fun e he => ?_, fun e f he hf => ?_⟩, fun v hv => ?_, fun v hv => ?_, ?_, fun l hl => ⟨fun v hv => ?_, fun q h0 h1 => ?_⟩, fun l u v hl hu hv => ?_, fun u v hu hv => ?_⟩
  · rw [o 1 (by omega)] at he
    rw [o 0 (by omega), o _ (by omega), o _ (by omega)]; exact hV.E.1 e he
  · rw [o 1 (by omega)] at he hf
    rw [o _ (by omega), o (110 + f) (by omega), o (150 + e) (by omega), o (150 + f) (by omega)]; exact hV.E.2 e f he hf
  · rw [o 0 (by omega)] at hv
    rw [comesZ_p hM hv hV.un, o 2 (by omega)]
    have := hV.p hv
    split <;> omega
  · rw [o 0 (by omega)] at hv
    rw [ogl 0 v (by omega) (by omega)]; exact hV.g0 hv
  · rw [o _ (by omega), o 0 (by omega)]; exact hV.n0
  · rw [o 5 (by omega)] at hl
    rw [o 0 (by omega)] at hv
    rw [ogl l v (by omega) (by omega), o _ (by omega)]; exact (hV.L hl).1 v hv
  · rw [o 5 (by omega)] at hl
    rw [o _ (by omega)] at h1
    obtain ⟨v, hv, e⟩ := (hV.L hl).2 q h0 h1
    exact ⟨v, by rw [o 0 (by omega)]; exact hv, by rw [ogl l v (by omega) (by omega)]; exact e⟩
  · rw [o 5 (by omega)] at hl
    rw [o 0 (by omega)] at hu hv
    rw [ogl l u (by omega) (by omega), ogl l v (by omega) (by omega), ogl (l + 1) u (by omega) (by omega), ogl (l + 1) v (by omega) (by omega)]
    exact hV.nest hl hu hv
  · rw [o 0 (by omega)] at hu hv
    rw [comesZ_gAt hM (by omega), comesZ_gAt hM (by omega), comesZ_p hM hu hV.un, comesZ_p hM hv hV.un]
    intro e
    rw [e]
    split
    · rfl
    · exact hV.one hu hv e
/-- by a move the cut falls by its gain -/
theorem cutZ_move {σ : Nat → Int} (hV : VS σ) {g p : Int} (hne : gPt σ g ≠ p) : cutZ (mvR σ g p (σ 0).toNat) = cutZ σ - gainZ σ g p := by
  have b0 := ms_0 hV.M
  have b1 := ms_1 hV.M
  have o : ∀ i, i < 21 ∨ 35 ≤ i → mvR σ g p (σ 0).toNat i = σ i := fun i hi => mvR_o (by omega)
  have hz : gainZ σ g p = sm (gainE σ g p) (σ 1).toNat := by unfold gainZ; rw [if_neg hne]
  rw [hz]
  unfold cutZ
  rw [o 1 (by omega), ← sm_sub]
  refine sm_cong (fun e he => ?_)
  have ha := hV.a he
  have hb := hV.b he
  have c1 : cutE (mvR σ g p (σ 0).toNat) e ↔ (if gAt σ (σ (110 + e)).toNat = g then p else σ (21 + (σ (110 + e)).toNat)) ≠ (if gAt σ (σ (150 + e)).toNat = g then p else σ (21 + (σ (150 + e)).toNat)) := by
    unfold cutE
    rw [o (110 + e) (by omega), o (150 + e) (by omega), mvR_v (by omega), mvR_v (by omega)]
  have c2 : cutE σ e ↔ σ (21 + (σ (110 + e)).toNat) ≠ σ (21 + (σ (150 + e)).toNat) := Iff.rfl
  have ua := hV.un (g := g) (σ (110 + e)).toNat (by omega)
  have ub := hV.un (g := g) (σ (150 + e)).toNat (by omega)
  rw [o (190 + e) (by omega)]
  unfold gainE
  simp only [c1, c2]
  generalize gAt σ (σ (110 + e)).toNat = A at ua
  generalize gAt σ (σ (150 + e)).toNat = B at ub
  generalize σ (21 + (σ (110 + e)).toNat) = PA at ua
  generalize σ (21 + (σ (150 + e)).toNat) = PB at ub
  generalize σ (190 + e) = w
  generalize gPt σ g = own at *
  by_cases h1 : A = g
  · have ua := ua h1
    by_cases h2 : B = g
    · have ub := ub h2
      rw [if_pos h1, if_pos h2, if_neg (fun z => z rfl), if_neg (fun z => z (by omega)), if_pos (by simp [h1, h2])]; rfl
    · rw [if_pos h1, if_neg h2, if_neg (c := (A = g ↔ B = g)) (by simp [h1, h2]), if_pos (c := A = g) h1]
      by_cases q : PB = p
      · rw [if_neg (fun z => z q.symm), if_pos (by omega), if_pos q]; omega
      · rw [if_pos (fun z => q z.symm), if_neg q]
        by_cases q2 : PB = own
        · rw [if_neg (fun z => z (by omega)), if_pos q2]; omega
        · rw [if_pos (by omega), if_neg q2]; omega
  · by_cases h2 : B = g
    · have ub := ub h2
      rw [if_neg h1, if_pos h2, if_neg (c := (A = g ↔ B = g)) (by simp [h1, h2]), if_neg (c := A = g) h1]
      by_cases q : PA = p
      · rw [if_neg (fun z => z q), if_pos (by omega), if_pos q]; omega
      · rw [if_pos q, if_neg q]
        by_cases q2 : PA = own
        · rw [if_neg (fun z => z (by omega)), if_pos q2]; omega
        · rw [if_pos (by omega), if_neg q2]; omega
    · rw [if_neg h1, if_neg h2, if_pos (c := (A = g ↔ B = g)) (by simp [h1, h2])]; omega
section MV
variable {I : Ii} {J : Jj} {σ : Nat → Int} {nm : Nat → Int64} {k : Nat}
theorem c_place (hk : sK k) {x p : Int} {s : Nat} (hx : x = (s : Int)) (hs : s < 16384) : wp_X8_place k x p I J (fun I' _ => ∀ v, v < 14 → I' (k + 1) v = if s.testBit v = true then p else I (k + 1) v) := by
  subst hx
  refine ⟨hk, 15, loopN (L := fun n (a : Ii) v => L_X8_place_2 k (s : Int) p _ n v a J) (fun v a => ∀ u, u < 14 → a (k + 1) u = if u < v ∧ s.testBit u = true then p else I (k + 1) u) (N := 14) (fun n v a hv ha kk => ?_) 15 0 I (by omega) (by omega) (fun u hu => by rw [if_neg (by omega)])⟩
  refine ls_X8_place_2 ?_
  unfold Lb_X8_place_2
  refine ⟨rgK (by omega), fun c u hu => ?_, fun c => isIn_of (s := s) (k := v) rfl rfl (by omega) (by omega) (fun d => ⟨fun z => absurd z (by decide), fun _ => ?_⟩) (fun d => ⟨fun _ => kk (by omega) a (fun u hu => ?_), fun z => absurd rfl z⟩)⟩
  · show a (k + 1) u = _
    rw [ha u hu]
    by_cases q : s.testBit u = true
    · rw [if_pos ⟨by omega, q⟩, if_pos q]
    · rw [if_neg (fun z => q z.2), if_neg q]
  · refine put_of (srX8_1 hk) rfl (by omega) (fun I3 e3 => kk (by omega) I3 (fun u hu => ?_))
    rw [e3, up2_row]
    by_cases q : u = v
    · subst q; rw [updr_self, if_pos ⟨by omega, d⟩]
    · rw [updr_ne q, ha u hu]
      by_cases q2 : u < v ∧ s.testBit u = true
      · rw [if_pos q2, if_pos ⟨by omega, q2.2⟩]
      · rw [if_neg q2, if_neg (fun z => q2 ⟨by omega, z.2⟩)]
  · rw [ha u hu]
    by_cases q2 : u < v ∧ s.testBit u = true
    · rw [if_pos q2, if_pos ⟨by omega, q2.2⟩]
    · rw [if_neg q2, if_neg (fun z => q2 ⟨by
        by_cases q : u = v
        · subst q; rw [d] at z; exact absurd z.2 (by decide)
        · omega, z.2⟩)]
theorem c_note (hk : sK k) {g b p c : Int} (h2 : 0 ≤ I k 2 ∧ I k 2 ≤ 30) : wp_X8_note k g b p c I J (fun I' _ => I' k 2 = (if I k 2 < 30 then I k 2 + 1 else 30) ∧
    I' (k + 4) 0 = g ∧ I' (k + 4) 1 = b ∧ I' (k + 4) 2 = p ∧ I' (k + 4) 3 = c ∧ ∀ i w, i < 29 → w < 4 → I' (k + 4) (4 * (i + 1) + w) = I (k + 4) (4 * i + w)) := by
  refine ⟨hk, by omega, fun I2 e2 => put_of (srX8_4 hk) (i := 0) rfl (by omega) (fun I3 e3 => put_of (srX8_4 hk) (i := 1) rfl (by omega) (fun I4 e4 => put_of (srX8_4 hk) (i := 2) rfl (by omega) (fun I5 e5 => put_of (srX8_4 hk) (i := 3) rfl (by omega) (fun I6 e6 => ?_))))⟩
  have r6 : I6 (k + 4) = updr (updr (updr (updr (va_cpy (I (k + 4)) (I (k + 4)) 0 4 116) 0 g) 1 b) 2 p) 3 c := by
    rw [e6, up2_row, e5, up2_row, e4, up2_row, e3, up2_row, e2, upr_self]; rfl
  have r2 : I6 k = I k := by rw [e6, up2_key (by omega), e5, up2_key (by omega), e4, up2_key (by omega), e3, up2_key (by omega), e2, upr_ne (by omega)]
  have fin : ∀ (x : Int) (I8 : Ii), x = (if I k 2 < 30 then I k 2 + 1 else 30) → I8 = up2 I6 k 2 x → (I8 k 2 = (if I k 2 < 30 then I k 2 + 1 else 30) ∧
    I8 (k + 4) 0 = g ∧ I8 (k + 4) 1 = b ∧ I8 (k + 4) 2 = p ∧ I8 (k + 4) 3 = c ∧ ∀ i w, i < 29 → w < 4 → I8 (k + 4) (4 * (i + 1) + w) = I (k + 4) (4 * i + w)) := by
    intro x I8 hx e8
    rw [e8, up2_self, up2_key (by omega), r6]
    refine ⟨hx, ?_, ?_, ?_, ?_, fun i w hi hw => ?_⟩
    · rw [updr_ne (by decide), updr_ne (by decide), updr_ne (by decide), updr_self]
    · rw [updr_ne (by decide), updr_ne (by decide), updr_self]
    · rw [updr_ne (by decide), updr_self]
    · rw [updr_self]
    · rw [updr_ne (by omega), updr_ne (by omega), updr_ne (by omega), updr_ne (by omega)]
      unfold va_cpy
      rw [if_pos (by omega), show 0 + (4 * (i + 1) + w - 4) = 4 * i + w by omega]
  rw [r2]
  exact min_of (rgK (by omega)) (rgK (by omega)) (fun d I8 e8 => fin _ I8 (by rw [if_neg (by omega)]) e8) (fun d I8 e8 => by
    refine fin _ I8 ?_ e8
    by_cases q : I k 2 < 30
    · rw [if_pos q]
    · omega)
theorem c_transfer (hk : sK k) (hV : VS σ) (hE : ME σ I) (hS : RS k I σ) {x y : Int} {g p : Nat} (hx : x = (g : Int)) (hg : (g : Int) < grs σ) (hy : y = (p : Int)) (hp : (p : Int) < σ 2) (hne : gPt σ g ≠ p) : wp_X11_transfer k x y I J (fun I' _ => RS k I' (comesZ σ g p)) := by
  have hM := hV.M
  have gr := grs_b hM
  have b0 := ms_0 hM
  have b2 := ms_2 hM
  have b5 := ms_5 hM
  have b6 := ms_6 hM
  have kg := sK_ge hk
  have kb := kev_b hM
  have he := hS.e
  obtain ⟨e0, e1, e2, e3, e4, e5, e6, e7, e8⟩ := id hE
  subst hx hy
  refine ⟨hk, at_of (n := 14) rfl rfl (by omega) (gainOf_of hV hE rfl hg rfl hp ?_)⟩
  rw [(e6 g hg).2.2, e5, ← cutZ_move hV hne]
  refine fr_X8_note (c_note hk (by omega)) (fun I3 J3 h3 s3 => ?_)
  have t3 : ∀ q, q ≠ k → q ≠ k + 4 → I3 q = I q := fun q h1 h2 => s3.rI (W_X8_note_n (by simp [wlk, Ne.symm h1, Ne.symm h2]))
  refine at_of (n := 14) rfl rfl (by omega) ?_
  rw [t3 114 (by omega) (by omega), (e6 g hg).1]
  refine fr_X8_place (c_place hk rfl (memG_b hM _)) (fun I5 J5 h5 s5 => ?_)
  have t5 : ∀ q, q ≠ k + 1 → I5 q = I3 q := fun q h1 => s5.rI (W_X8_place_n (by simp [wlk, Ne.symm h1]))
  have u3 : ∀ i, i ≠ 2 → I3 k i = I k i := fun i hi => (s3 k i (by unfold W_X8_note WL; simp [wl, Ne.symm hi])).1
  have o : ∀ i, i < 6 ∨ (6 < i ∧ i < 21) ∨ (35 ≤ i ∧ i < 230) → comesZ σ g p i = σ i := fun i hi => comesZ_o (by omega) (by omega)
  have c6 : comesZ σ g p 6 = σ 6 + 1 := by rw [comesZ_6 hM, if_neg hne]
  have hkev : kev (comesZ σ g p) = if kev σ < 30 then kev σ + 1 else 30 := by
    unfold kev
    rw [c6]
    (repeat' split) <;> omega
  refine ⟨?_, ?_, ?_, fun v hv => ?_, fun l hl => ?_, fun l v hl hv => ?_, fun i w hi hw => ?_⟩
  · rw [t5 k (by omega), u3 0 (by decide), hS.l, o 5 (by omega)]
  · rw [t5 k (by omega), u3 1 (by decide), hS.c, o 4 (by omega)]
  · rw [t5 k (by omega), h3.1, he, hkev]
  · rw [o 0 (by omega)] at hv
    rw [h5 v (by omega), t3 _ (by omega) (by omega), hS.p hv, comesZ_p hM hv hV.un]
    unfold memG
    rw [bset_bit]
    have hd : decide (v < (σ 0).toNat) = true := by simp; omega
    by_cases q : gAt σ v = g
    · rw [if_pos (by simp [q]; omega), if_pos q]
    · rw [if_neg (by simp [q]), if_neg q]
  · rw [o 5 (by omega)] at hl
    rw [t5 _ (by omega), t3 _ (by omega) (by omega), hS.n hl, o _ (by omega)]
  · rw [o 5 (by omega)] at hl
    rw [o 0 (by omega)] at hv
    rw [t5 _ (by omega), t3 _ (by omega) (by omega), hS.g hl hv]
    exact (gL_congr (fun i h1 h2 => o i (by omega)) (by omega) (by omega)).symm
  · rw [hkev] at hi
    rw [t5 _ (by omega), c6]
    have hcz : ∀ j, 230 ≤ j → comesZ σ g p j = evR (mvR σ g p (σ 0).toNat) g (gPt σ g) p j := fun j _ => by unfold comesZ; rw [if_neg hne]
    have hm6 : mvR σ g p (σ 0).toNat 6 = σ 6 := mvR_o (by omega)
    have hK : evK (mvR σ g p (σ 0).toNat) = 230 + 4 * (σ 6 % 30).toNat := by unfold evK; rw [hm6]
    rw [hcz _ (by omega)]
    unfold evR
    rw [hK]
    cases i with
    | zero =>
      rw [show (σ 6 + 1 - 1 - ((0 : Nat) : Int)) % 30 = σ 6 % 30 by omega]
      have hw : w = 0 ∨ w = 1 ∨ w = 2 ∨ w = 3 := by omega
      rcases hw with rfl | rfl | rfl | rfl
      · rw [updr_ne (by omega), updr_ne (by omega), updr_ne (by omega), updr_ne (by omega), show 230 + 4 * (σ 6 % 30).toNat + 0 = 230 + 4 * (σ 6 % 30).toNat from rfl, updr_self]; exact h3.2.1
      · rw [updr_ne (by omega), updr_ne (by omega), updr_ne (by omega), updr_self]; exact h3.2.2.1
      · rw [updr_ne (by omega), updr_ne (by omega), updr_self]; exact h3.2.2.2.1
      · rw [updr_ne (by omega), updr_self]; exact h3.2.2.2.2.1
    | succ i =>
      have hi2 : i < (kev σ).toNat ∧ i < 29 := by
        split at hi <;> omega
      rw [h3.2.2.2.2.2 i w hi2.2 hw, hS.ev hi2.1 hw, show (σ 6 + 1 - 1 - (((i + 1 : Nat)) : Int)) = σ 6 - 1 - (i : Int) by omega]
      rw [updr_ne (by omega), updr_ne (by omega), updr_ne (by omega), updr_ne (by omega), updr_ne (by omega), mvR_o (by omega)]
end MV

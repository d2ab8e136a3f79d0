/-! ===== copies, what is kept, steps ===== -/
theorem cpP_lt {α : Type} {f g : Nat → α} {v i : Nat} (h : i < v) : cpP f g v i = f i := if_pos h
/-- what can be undone: the rows pf 0 .. pf (u - 1), the latest at the ring's place nw -/
def HR (I : Ii) (u nw : Nat) (pf : Nat → Nat → Int) : Prop := I 111 2 = (u : Int) ∧ I 111 1 = (nw : Int) ∧ u ≤ 6 ∧ nw < 6 ∧ ∀ j, j < u → RS (330 + 10 * ((nw + 6 - j) % 6)) I (pf (u - 1 - j))
/-- a move that is chosen is one to another part -/
theorem bmR_ne {σ : Nat → Int} (lw : Bool) (g : Nat) : ∀ {p : Nat} {a : Int × Int × Int}, p ≤ 10 → (a.1 = -1 ∨ gPt σ (a.1 / 10) ≠ a.1 % 10) → ((bmR σ lw g p a).1 = -1 ∨ gPt σ ((bmR σ lw g p a).1 / 10) ≠ (bmR σ lw g p a).1 % 10)
  | 0, a, _, h => h
  | p + 1, a, hp, h => by
    have ih := bmR_ne (σ := σ) lw g (p := p) (a := a) (by omega) h
    rw [show bmR σ lw g (p + 1) a = bmS σ lw g p (bmR σ lw g p a) from rfl]
    unfold bmS
    split
    · exact ih
    · rename_i h0
      split
      · exact ih
      · right
        show gPt σ ((10 * (g : Int) + (p : Int)) / 10) ≠ (10 * (g : Int) + (p : Int)) % 10
        rw [show (10 * (g : Int) + (p : Int)) / 10 = (g : Int) by omega, show (10 * (g : Int) + (p : Int)) % 10 = (p : Int) by omega]
        intro e
        apply h0
        left
        unfold wmZ
        rw [if_pos e]; omega
theorem bmZ_ne {σ : Nat → Int} (hM : MS σ) (lw : Bool) : ∀ (g : Nat), (bmZ σ lw g).1 = -1 ∨ gPt σ ((bmZ σ lw g).1 / 10) ≠ (bmZ σ lw g).1 % 10
  | 0 => Or.inl rfl
  | g + 1 => bmR_ne lw g (by have := ms_2 hM; omega) (bmZ_ne hM lw g)
theorem nxZ_ne {σ : Nat → Int} (hM : MS σ) (h : nxZ σ ≠ -1) : gPt σ (nxZ σ / 10) ≠ nxZ σ % 10 := by
  have key : nxZ σ = -1 ∨ gPt σ (nxZ σ / 10) ≠ nxZ σ % 10 := by
    unfold nxZ
    split
    · split
      · exact bmZ_ne hM false _
      · exact bmZ_ne hM true _
    · exact bmZ_ne hM false _
  exact key.resolve_left h
theorem VS_stp : ∀ (k : Nat) {σ : Nat → Int}, VS σ → σ 6 + (k : Int) ≤ 1000000000 → VS (stpZ k σ).2 ∧ GE σ (stpZ k σ).2
  | 0, σ, hV, _ => ⟨hV, GE.refl σ⟩
  | k + 1, σ, hV, h6 => by
    unfold stpZ
    split
    · exact ⟨hV, GE.refl σ⟩
    · rename_i h
      have hin := nxZ_in hV.M h
      have sk := step_keeps hV.M hV.GV (by omega) h
      have h1 := VS_stp k (VS_comes hV hin.1 hin.2 (by omega)) (by omega)
      exact ⟨h1.1, (comesZ_GE hV.M).trans h1.2⟩
section KP
variable {I : Ii} {J : Jj} {σ : Nat → Int} {nm : Nat → Int64} {k k0 k1 : Nat}
theorem c_copyS (hk0 : sK k0) (hk1 : sK k1) (hd : k1 < k0 ∨ k0 < k1) (hd2 : k1 + 10 ≤ k0 ∨ k0 + 10 ≤ k1) (hV : VS σ) (hS : RS k1 I σ) : wp_X8_copyFrom k0 k1 I J (fun I' _ => RS k0 I' σ) := by
  have b0 := ms_0 hV.M
  have b5 := ms_5 hV.M
  have kb := kev_b hV.M
  refine ⟨hk0, hk1, fun I1 e1 I2 e2 I3 e3 => copy_of (srX8_1 hk1) (srX8_1 hk0) (fun I4 e4 => copy_of (srX8_2 hk1) (srX8_2 hk0) (fun I5 e5 => copy_of (srX8_3 hk1) (srX8_3 hk0) (fun I6 e6 => copy_of (srX8_4 hk1) (srX8_4 hk0) (fun I7 e7 => ?_))))⟩
  have o3 : ∀ q, q ≠ k0 → I3 q = I q := fun q hq => by rw [e3, up2_key hq, e2, up2_key hq, e1, up2_key hq]
  have a0 : I7 k0 = I3 k0 := by rw [e7, upr_ne (by omega), e6, upr_ne (by omega), e5, upr_ne (by omega), e4, upr_ne (by omega)]
  have a1 : I7 (k0 + 1) = cpP (I (k1 + 1)) (I (k0 + 1)) 14 := by rw [e7, upr_ne (by omega), e6, upr_ne (by omega), e5, upr_ne (by omega), e4, upr_self, o3 _ (by omega), o3 _ (by omega)]
  have a2 : I7 (k0 + 2) = cpP (I (k1 + 2)) (I (k0 + 2)) 5 := by rw [e7, upr_ne (by omega), e6, upr_ne (by omega), e5, upr_self, e4, upr_ne (by omega), upr_ne (by omega), o3 _ (by omega), o3 _ (by omega)]
  have a3 : I7 (k0 + 3) = cpP (I (k1 + 3)) (I (k0 + 3)) 70 := by rw [e7, upr_ne (by omega), e6, upr_self, e5, upr_ne (by omega), upr_ne (by omega), e4, upr_ne (by omega), upr_ne (by omega), o3 _ (by omega), o3 _ (by omega)]
  have a4 : I7 (k0 + 4) = cpP (I (k1 + 4)) (I (k0 + 4)) 120 := by rw [e7, upr_self, e6, upr_ne (by omega), upr_ne (by omega), e5, upr_ne (by omega), upr_ne (by omega), e4, upr_ne (by omega), upr_ne (by omega), o3 _ (by omega), o3 _ (by omega)]
  refine ⟨?_, ?_, ?_, fun v hv => ?_, fun l hl => ?_, fun l v hl hv => ?_, fun i w hi hw => ?_⟩
  · rw [a0, e3, up2_ne (by omega), e2, up2_ne (by omega), e1, up2_self]; exact hS.l
  · rw [a0, e3, up2_ne (by omega), e2, up2_self, e1, up2_key (by omega)]; exact hS.c
  · rw [a0, e3, up2_self, e2, up2_key (by omega), e1, up2_key (by omega)]; exact hS.e
  · rw [a1, cpP_lt (by omega)]; exact hS.p hv
  · rw [a2, cpP_lt (by omega)]; exact hS.n hl
  · rw [a3, cpP_lt (by omega)]; exact hS.g hl hv
  · rw [a4, cpP_lt (by omega)]; exact hS.ev hi hw
theorem c_copyG (hk0 : gK k0) (hk1 : gK k1) (hd : k1 + 10 ≤ k0 ∨ k0 + 10 ≤ k1) (hV : MS σ) (hR : RG k1 I J σ nm) : wp_X2_copyFrom k0 k1 I J (fun I' J' => RG k0 I' J' σ nm ∧ I' k0 4 = I k1 4) := by
  have b0 := ms_0 hV
  have b1 := ms_1 hV
  refine ⟨hk0, hk1, fun I1 e1 I2 e2 I3 e3 I4 e4 I5 e5 I6 e6 I7 e7 => ⟨by omega, fun J9 e9 => copy_of (srX2_2 hk1) (srX2_2 hk0) (fun I10 e10 => copy_of (srX2_3 hk1) (srX2_3 hk0) (fun I11 e11 => copy_of (srX2_4 hk1) (srX2_4 hk0) (fun I12 e12 => copy_of (srX2_5 hk1) (srX2_5 hk0) (fun I13 e13 => ?_))))⟩⟩
  have o7 : ∀ q, q ≠ k0 → I7 q = I q := fun q hq => by rw [e7, up2_key hq, e6, up2_key hq, e5, up2_key hq, e4, up2_key hq, e3, up2_key hq, e2, up2_key hq, e1, up2_key hq]
  have a0 : I13 k0 = I7 k0 := by rw [e13, upr_ne (by omega), e12, upr_ne (by omega), e11, upr_ne (by omega), e10, upr_ne (by omega)]
  have a2 : I13 (k0 + 2) = cpP (I (k1 + 2)) (I (k0 + 2)) 14 := by rw [e13, upr_ne (by omega), e12, upr_ne (by omega), e11, upr_ne (by omega), e10, upr_self, o7 _ (by omega), o7 _ (by omega)]
  have a3 : I13 (k0 + 3) = cpP (I (k1 + 3)) (I (k0 + 3)) 40 := by rw [e13, upr_ne (by omega), e12, upr_ne (by omega), e11, upr_self, e10, upr_ne (by omega), upr_ne (by omega), o7 _ (by omega), o7 _ (by omega)]
  have a4 : I13 (k0 + 4) = cpP (I (k1 + 4)) (I (k0 + 4)) 40 := by rw [e13, upr_ne (by omega), e12, upr_self, e11, upr_ne (by omega), upr_ne (by omega), e10, upr_ne (by omega), upr_ne (by omega), o7 _ (by omega), o7 _ (by omega)]
  have a5 : I13 (k0 + 5) = cpP (I (k1 + 5)) (I (k0 + 5)) 40 := by rw [e13, upr_self, e12, upr_ne (by omega), upr_ne (by omega), e11, upr_ne (by omega), upr_ne (by omega), e10, upr_ne (by omega), upr_ne (by omega), o7 _ (by omega), o7 _ (by omega)]
  have b : I7 k0 0 = I k1 0 ∧ I7 k0 1 = I k1 1 ∧ I7 k0 2 = I k1 2 ∧ I7 k0 3 = I k1 3 ∧ I7 k0 4 = I k1 4 ∧ I7 k0 5 = I k1 5 ∧ I7 k0 6 = I k1 6 := by
    have n : k1 ≠ k0 := by omega
    refine ⟨?_, ?_, ?_, ?_, ?_, ?_, ?_⟩
    · rw [e7, up2_ne (by omega), e6, up2_ne (by omega), e5, up2_ne (by omega), e4, up2_ne (by omega), e3, up2_ne (by omega), e2, up2_ne (by omega), e1, up2_self]
    · rw [e7, up2_ne (by omega), e6, up2_ne (by omega), e5, up2_ne (by omega), e4, up2_ne (by omega), e3, up2_ne (by omega), e2, up2_self, e1, up2_key n]
    · rw [e7, up2_ne (by omega), e6, up2_ne (by omega), e5, up2_ne (by omega), e4, up2_ne (by omega), e3, up2_self, e2, up2_key n, e1, up2_key n]
    · rw [e7, up2_ne (by omega), e6, up2_ne (by omega), e5, up2_ne (by omega), e4, up2_self, e3, up2_key n, e2, up2_key n, e1, up2_key n]
    · rw [e7, up2_ne (by omega), e6, up2_ne (by omega), e5, up2_self, e4, up2_key n, e3, up2_key n, e2, up2_key n, e1, up2_key n]
    · rw [e7, up2_ne (by omega), e6, up2_self, e5, up2_key n, e4, up2_key n, e3, up2_key n, e2, up2_key n, e1, up2_key n]
    · rw [e7, up2_self, e6, up2_key n, e5, up2_key n, e4, up2_key n, e3, up2_key n, e2, up2_key n, e1, up2_key n]
  refine ⟨⟨by rw [a0, b.1]; exact hR.n, by rw [a0, b.2.1]; exact hR.m, by rw [a0, b.2.2.1]; exact hR.q, by rw [a0, b.2.2.2.1]; exact hR.s, by rw [a0, b.2.2.2.2.2.1]; exact hR.aw, by rw [a0, b.2.2.2.2.2.2]; exact hR.ae, fun v hv => ?_, fun v hv => ?_, fun e he => ?_, fun e he => ?_, fun e he => ?_⟩, by rw [a0, b.2.2.2.2.1]⟩
  · rw [a2, cpP_lt (by omega)]; exact hR.w hv
  · rw [e9, upr_self, va_cpy0, cpP_lt (by omega)]; exact hR.z hv
  · rw [a3, cpP_lt (by omega)]; exact hR.a he
  · rw [a4, cpP_lt (by omega)]; exact hR.b he
  · rw [a5, cpP_lt (by omega)]; exact hR.h he
theorem entry_of {x : Int} {i : Nat} (hx : x = (i : Int)) (hi : i < 6) {Q : Option Nat → Ii → Jj → Prop} (h : Q (some (330 + 10 * i)) I J) : wp_X3_entry x I J Q := by
  subst hx
  exact ⟨rgK (by omega), fun c => by omega, fun c => ⟨fun c2 => by omega, fun c2 => ⟨by omega, h⟩⟩⟩
theorem c_keep {u nw : Nat} {pf : Nat → Nat → Int} (hV : VS σ) (hS : RS 300 I σ) (hH : HR I u nw pf) : wp_X3_keep 300 I J (fun I' _ => ∃ nw', (u < 6 → ∀ pf', (∀ i, i < u → pf' i = pf i) → pf' u = σ → HR I' (u + 1) nw' pf') ∧ (u = 6 → ∀ pf', (∀ i, i < 5 → pf' i = pf (i + 1)) → pf' 5 = σ → HR I' 6 nw' pf')) := by
  obtain ⟨hu, hn, hu6, hn6, hr⟩ := hH
  refine ⟨sK300, by omega, fun I2 e2 => ?_⟩
  have w2 : I2 111 1 = (((nw + 1) % 6 : Nat) : Int) := by rw [e2, up2_self, hn]; omega
  have o2 : ∀ q, q ≠ 111 → I2 q = I q := fun q hq => by rw [e2, up2_key hq]
  have u2 : I2 111 2 = (u : Int) := by rw [e2, up2_ne (by decide), hu]
  refine entry_of w2 (by omega) ⟨(fun z => by cases z), fun k4 hk4 => ?_⟩
  have hk4 : k4 = 330 + 10 * ((nw + 1) % 6) := by
    cases hk4; rfl
  have hc : k4 = 330 ∨ k4 = 340 ∨ k4 = 350 ∨ k4 = 360 ∨ k4 = 370 ∨ k4 = 380 := by omega
  refine ⟨hc, ?_⟩
  have S2 : RS 300 I2 σ := hS.cong (o2 _ (by decide)) (o2 _ (by decide)) (o2 _ (by decide)) (o2 _ (by decide)) (o2 _ (by decide))
  refine fr_X8_copyFrom (c_copyS (sK_of hc) sK300 (by omega) (by omega) hV S2) (fun I5 J5 h5 s5 => ?_)
  have o5 : ∀ q, (q < k4 ∨ k4 + 4 < q) → I5 q = I2 q := fun q hq => s5.rI (W_X8_copyFrom_n (by
    have : q ≠ k4 ∧ q ≠ k4 + 1 ∧ q ≠ k4 + 2 ∧ q ≠ k4 + 3 ∧ q ≠ k4 + 4 := by omega
    simp [wlk, Ne.symm this.1, Ne.symm this.2.1, Ne.symm this.2.2.1, Ne.symm this.2.2.2.1, Ne.symm this.2.2.2.2]))
  have u5 : I5 111 2 = (u : Int) := by rw [o5 _ (by omega), u2]
  have fin : ∀ (I7 : Ii) (x : Int), I7 = up2 I5 111 2 x → x = (if u < 6 then (u : Int) + 1 else 6) → ∃ nw', (u < 6 → ∀ pf', (∀ i, i < u → pf' i = pf i) → pf' u = σ → HR I7 (u + 1) nw' pf') ∧ (u = 6 → ∀ pf', (∀ i, i < 5 → pf' i = pf (i + 1)) → pf' 5 = σ → HR I7 6 nw' pf') := by
    intro I7 x e7 hx
    have o7 : ∀ q, q ≠ 111 → I7 q = I5 q := fun q hq => by rw [e7, up2_key hq]
    have n7 : I7 111 1 = (((nw + 1) % 6 : Nat) : Int) := by rw [e7, up2_ne (by decide), o5 _ (by omega), w2]
    have new : RS k4 I7 σ := h5.cong (o7 _ (by omega)) (o7 _ (by omega)) (o7 _ (by omega)) (o7 _ (by omega)) (o7 _ (by omega))
    have old : ∀ j, j < u → j < 5 → RS (330 + 10 * ((nw + 6 - j) % 6)) I7 (pf (u - 1 - j)) := fun j hj hj5 => by
      have h := hr j hj
      have ne : 330 + 10 * ((nw + 6 - j) % 6) + 10 ≤ k4 ∨ k4 + 10 ≤ 330 + 10 * ((nw + 6 - j) % 6) := by omega
      have hK3 : 330 ≤ 330 + 10 * ((nw + 6 - j) % 6) := by omega
      generalize 330 + 10 * ((nw + 6 - j) % 6) = K at h ne hK3
      have hK : ∀ q, K ≤ q → q ≤ K + 4 → q ≠ 111 → I7 q = I q := fun q h1 h2 h3 => by rw [o7 q h3, o5 q (by omega), o2 q h3]
      exact h.cong (hK _ (by omega) (by omega) (by omega)) (hK _ (by omega) (by omega) (by omega)) (hK _ (by omega) (by omega) (by omega)) (hK _ (by omega) (by omega) (by omega)) (hK _ (by omega) (by omega) (by omega))
    refine ⟨(nw + 1) % 6, fun hu' pf' h1 h2 => ⟨by rw [e7, up2_self, hx, if_pos hu']; omega, n7, by omega, by omega, fun j hj => ?_⟩, fun hu' pf' h1 h2 => ⟨by rw [e7, up2_self, hx, if_neg (by omega)]; rfl, n7, by omega, by omega, fun j hj => ?_⟩⟩
    · cases j with
      | zero =>
        rw [show ((nw + 1) % 6 + 6 - 0) % 6 = (nw + 1) % 6 by omega, ← hk4, show u + 1 - 1 - 0 = u by omega, h2]
        exact new
      | succ j =>
        rw [show ((nw + 1) % 6 + 6 - (j + 1)) % 6 = (nw + 6 - j) % 6 by omega, show u + 1 - 1 - (j + 1) = u - 1 - j by omega, h1 _ (by omega)]
        exact old j (by omega) (by omega)
    · cases j with
      | zero =>
        rw [show ((nw + 1) % 6 + 6 - 0) % 6 = (nw + 1) % 6 by omega, ← hk4, h2]
        exact new
      | succ j =>
        rw [show ((nw + 1) % 6 + 6 - (j + 1)) % 6 = (nw + 6 - j) % 6 by omega, h1 _ (by omega), show 6 - 1 - (j + 1) + 1 = u - 1 - j by omega]
        exact old j (by omega) (by omega)
  rw [u5]
  exact min_of (rgK (by omega)) (rgK (by omega)) (fun d I7 e7 => fin I7 _ e7 (by rw [if_neg (by omega)])) (fun d I7 e7 => fin I7 _ e7 (by
    by_cases q : u < 6
    · rw [if_pos q]
    · omega))
theorem c_takeBack {u nw : Nat} {pf : Nat → Nat → Int} (hV : ∀ i, i < u → VS (pf i)) (hH : HR I u nw pf) : wp_X3_takeBack 300 I J (fun r I' _ => (u = 0 → r = 0 ∧ I' = I) ∧ (0 < u → r = 1 ∧ RS 300 I' (pf (u - 1)) ∧ ∃ nw', HR I' (u - 1) nw' pf)) := by
  obtain ⟨hu, hn, hu6, hn6, hr⟩ := hH
  refine ⟨sK300, entry_of hn hn6 ⟨rgK (by omega), fun d => ⟨fun _ => ⟨rfl, rfl⟩, fun z => by omega⟩, fun d => ⟨(fun z => by cases z), fun k3 hk3 => ?_⟩⟩⟩
  have hk3 : k3 = 330 + 10 * nw := by
    cases hk3; rfl
  have hc : k3 = 330 ∨ k3 = 340 ∨ k3 = 350 ∨ k3 = 360 ∨ k3 = 370 ∨ k3 = 380 := by omega
  have h0 := hr 0 (by omega)
  rw [show (nw + 6 - 0) % 6 = nw by omega, ← hk3, Nat.sub_zero] at h0
  refine ⟨hc, fr_X8_copyFrom (c_copyS sK300 (sK_of hc) (by omega) (by omega) (hV _ (by omega)) h0) (fun I4 J4 h4 s4 => ?_)⟩
  have o4 : ∀ q, (q < 300 ∨ 304 < q) → I4 q = I q := fun q hq => s4.rI (W_X8_copyFrom_n (by
    have : q ≠ 300 ∧ q ≠ 301 ∧ q ≠ 302 ∧ q ≠ 303 ∧ q ≠ 304 := by omega
    simp [wlk, Ne.symm this.1, Ne.symm this.2.1, Ne.symm this.2.2.1, Ne.symm this.2.2.2.1, Ne.symm this.2.2.2.2]))
  have n4 : I4 111 1 = (nw : Int) := by rw [o4 _ (by decide), hn]
  refine ⟨by omega, fun I6 e6 I7 e7 => ⟨fun z => by omega, fun _ => ⟨rfl, ?_, (nw + 5) % 6, ?_, ?_, by omega, by omega, fun j hj => ?_⟩⟩⟩
  · have o7 : ∀ q, q ≠ 111 → I7 q = I4 q := fun q hq => by rw [e7, up2_key hq, e6, up2_key hq]
    exact h4.cong (o7 _ (by decide)) (o7 _ (by decide)) (o7 _ (by decide)) (o7 _ (by decide)) (o7 _ (by decide))
  · rw [e7, up2_self, e6, up2_ne (by decide), o4 _ (by decide), hu]; omega
  · rw [e7, up2_ne (by decide), e6, up2_self, n4]; omega
  · have h := hr (j + 1) (by omega)
    rw [show ((nw + 5) % 6 + 6 - j) % 6 = (nw + 6 - (j + 1)) % 6 by omega, show u - 1 - 1 - j = u - 1 - (j + 1) by omega]
    have o7 : ∀ q, 304 < q → I7 q = I q := fun q hq => by rw [e7, up2_key (by omega), e6, up2_key (by omega), o4 q (by omega)]
    exact h.cong (o7 _ (by omega)) (o7 _ (by omega)) (o7 _ (by omega)) (o7 _ (by omega)) (o7 _ (by omega))
end KP
section MK
variable {I : Ii} {J : Jj} {σ : Nat → Int} {nm : Nat → Int64} {k : Nat}
theorem c_makeSteps (hk : k = 300 ∨ k = 310) {m : Nat} (hm : m ≤ 200) (hV : VS σ) (hR : RG 200 I J σ nm) (hS : RS k I σ) (h6 : σ 6 + (m : Int) ≤ 1000000000) : wp_X11_makeSteps k (m : Int) I J (fun r I' _ => r = ((stpZ m σ).1 : Int) ∧ RS k I' (stpZ m σ).2) := by
  have hsk : sK k := by rcases hk with rfl | rfl; exact sK300; exact sK310
  refine ⟨hsk, m + 1, ?_⟩
  have key : ∀ (n made left : Nat) (τ : Nat → Int) (a : Ii) (b : Jj), m = made + left → left + 1 ≤ n → VS τ → RG 200 a b τ nm → RS k a τ → τ 6 + (left : Int) ≤ 1000000000 → stpZ m σ = ((stpZ left τ).1 + made, (stpZ left τ).2) → L_X11_makeSteps_2 k (m : Int) (fun r I' _ => r = ((stpZ m σ).1 : Int) ∧ RS k I' (stpZ m σ).2) n (made : Int) a b := by
    intro n
    induction n with
    | zero => intro made left τ a b h1 h2; omega
    | succ n ih =>
      intro made left τ a b h1 h2 hV hR hS h6 he
      refine ls_X11_makeSteps_2 ?_
      unfold Lb_X11_makeSteps_2
      refine ⟨rgK (by omega), rgK (by omega), fun c => ?_, fun c => ?_⟩
      · have hl : left = 0 := by omega
        subst hl
        rw [he]
        exact ⟨by show (m : Int) = ((0 + made : Nat) : Int); omega, hS⟩
      · refine fr_X4_take (c_take hsk hV hR hS) (fun I3 J3 hE s3 => ?_)
        have R3 : RG 200 I3 J3 τ nm := hR.fr s3
        have S3 : RS k I3 τ := hS.fr s3 (by rcases hk with rfl | rfl <;> rfl)
        have bx := nxZ_b hV.M
        obtain ⟨l, rfl⟩ : ∃ l, left = l + 1 := ⟨left - 1, by omega⟩
        refine chosenStep_of hV hE ⟨rgK (by omega), fun d => ?_, fun d => ?_⟩
        · have hin := nxZ_in hV.M d
          have hne := nxZ_ne hV.M d
          have gr := grs_b hV.M
          have b2 := ms_2 hV.M
          refine ⟨by omega, by omega, ?_⟩
          have e1 : (((nxZ τ / 10).toNat : Nat) : Int) = nxZ τ / 10 := by omega
          have e2 : (((nxZ τ % 10).toNat : Nat) : Int) = nxZ τ % 10 := by omega
          have ht := c_transfer (J := J3) hsk hV hE S3 (g := (nxZ τ / 10).toNat) (p := (nxZ τ % 10).toNat) e1.symm (by omega) e2.symm (by omega) (by rw [e1, e2]; exact hne)
          refine fr_X11_transfer ht (fun I8 J8 h8 s8 => ?_)
          rw [e1, e2] at h8
          have R8 : RG 200 I8 J8 τ nm := R3.fr s8 (by rcases hk with rfl | rfl <;> rfl)
          have sk := step_keeps hV.M hV.GV (by omega) d
          have := ih (made + 1) l (comesZ τ (nxZ τ / 10) (nxZ τ % 10)) I8 J8 (by omega) (by omega) (VS_comes hV hin.1 hin.2 (by omega)) (R8.ge (comesZ_GE hV.M) hV.M) h8 (by omega) (by
            rw [he]
            conv => lhs; unfold stpZ
            rw [if_neg d]
            simp only [Prod.mk.injEq, and_true]
            omega)
          rwa [show (((made + 1 : Nat)) : Int) = (made : Int) + 1 by omega] at this
        · have e : stpZ (l + 1) τ = (0, τ) := by unfold stpZ; rw [if_pos d]
          rw [he, e]
          exact ⟨by show (made : Int) = ((0 + made : Nat) : Int); omega, S3⟩
  exact key (m + 1) 0 m σ I J (by omega) (by omega) hV hR hS h6 rfl
theorem c_takeTo {x y : Int} {g p : Nat} (hV : VS σ) (hR : RG 200 I J σ nm) (hS : RS 300 I σ) (hx : x = (g : Int)) (hg : (g : Int) < grs σ) (hy : y = (p : Int)) (hp : (p : Int) < σ 2) (hne : gPt σ g ≠ p) : wp_X11_takeTo x y I J (fun I' _ => RS 300 I' (comesZ σ g p)) := by
  refine fr_X4_take (c_take sK300 hV hR hS) (fun I3 J3 hE s3 => ?_)
  exact fr_X11_transfer (c_transfer sK300 hV hE (hS.fr s3) hx hg hy hp hne) (fun I8 J8 h8 s8 => h8)
end MK
/-! ===== mates ===== -/
/-- one group more is looked at as a mate of g -/
def mbS (σ : Nat → Int) (m : Nat → Int) (g h : Nat) (a : Int × Int) : Int × Int :=
  if m h ≠ -1 ∨ joinZ σ g h ≤ a.2 ∨ gPt σ h ≠ gPt σ g ∨ limZ σ < gW σ g + gW σ h then a else ((h : Int), joinZ σ g h)
def mbZ (σ : Nat → Int) (m : Nat → Int) (g : Nat) : Nat → Int × Int
  | 0 => (-1, 0)
  | d + 1 => mbS σ m g (g + 1 + d) (mbZ σ m g d)
def mtZ (σ : Nat → Int) (m : Nat → Int) (g : Nat) : Int := (mbZ σ m g ((grs σ).toNat - (g + 1))).1
/-- the mates of the groups below g, and how many pairs -/
def lmZ (σ : Nat → Int) : Nat → (Nat → Int) × Nat
  | 0 => (fun _ => -1, 0)
  | g + 1 => if (lmZ σ g).1 g = -1 ∧ mtZ σ (lmZ σ g).1 g ≠ -1 then (updr (updr (lmZ σ g).1 g (mtZ σ (lmZ σ g).1 g)) (mtZ σ (lmZ σ g).1 g).toNat (g : Int), (lmZ σ g).2 + 1) else lmZ σ g
theorem lmZ_succ (σ : Nat → Int) (g : Nat) : lmZ σ (g + 1) = if (lmZ σ g).1 g = -1 ∧ mtZ σ (lmZ σ g).1 g ≠ -1 then (updr (updr (lmZ σ g).1 g (mtZ σ (lmZ σ g).1 g)) (mtZ σ (lmZ σ g).1 g).toNat (g : Int), (lmZ σ g).2 + 1) else lmZ σ g := rfl
def mateZ (σ : Nat → Int) : Nat → Int := (lmZ σ (grs σ).toNat).1
def pairZ (σ : Nat → Int) : Nat := (lmZ σ (grs σ).toNat).2
theorem mbZ_b {σ : Nat → Int} (hM : MS σ) (m : Nat → Int) (g : Nat) : ∀ d, ((mbZ σ m g d).1 = -1 ∨ ((g : Int) < (mbZ σ m g d).1 ∧ (mbZ σ m g d).1 < ((g + 1 + d : Nat) : Int) ∧ m (mbZ σ m g d).1.toNat = -1 ∧ gPt σ (mbZ σ m g d).1 = gPt σ g)) ∧ 0 ≤ (mbZ σ m g d).2 ∧ (mbZ σ m g d).2 ≤ 3960
  | 0 => by
    show ((-1 : Int) = -1 ∨ _) ∧ (0 : Int) ≤ 0 ∧ (0 : Int) ≤ 3960
    exact ⟨Or.inl rfl, by omega, by omega⟩
  | d + 1 => by
    have ih := mbZ_b hM m g d
    have bj := joinZ_b hM (g : Int) ((g + 1 + d : Nat) : Int)
    have e : mbZ σ m g (d + 1) = mbS σ m g (g + 1 + d) (mbZ σ m g d) := rfl
    rw [e]
    unfold mbS
    split
    · refine ⟨?_, ih.2⟩
      rcases ih.1 with h | h
      · exact Or.inl h
      · exact Or.inr ⟨h.1, by omega, h.2.2⟩
    · rename_i c
      refine ⟨Or.inr ⟨?_, ?_, ?_, ?_⟩, by dsimp only; omega, by dsimp only; omega⟩
      · show (g : Int) < ((g + 1 + d : Nat) : Int); omega
      · show ((g + 1 + d : Nat) : Int) < ((g + 1 + (d + 1) : Nat) : Int); omega
      · show m (g + 1 + d) = -1
        exact Classical.byContradiction (fun z => c (Or.inl z))
      · show gPt σ ((g + 1 + d : Nat) : Int) = gPt σ g
        exact Classical.byContradiction (fun z => c (Or.inr (Or.inr (Or.inl z))))
theorem mtZ_b {σ : Nat → Int} (hM : MS σ) (m : Nat → Int) {g : Nat} (hg : (g : Int) < grs σ) : mtZ σ m g = -1 ∨ ((g : Int) < mtZ σ m g ∧ mtZ σ m g < grs σ ∧ m (mtZ σ m g).toNat = -1 ∧ gPt σ (mtZ σ m g) = gPt σ g) := by
  have gr := grs_b hM
  have h := (mbZ_b hM m g ((grs σ).toNat - (g + 1))).1
  rcases h with h | h
  · exact Or.inl h
  · refine Or.inr ⟨h.1, ?_, h.2.2.1, h.2.2.2⟩
    have := h.2.1
    unfold mtZ
    omega
/-- mates are mates of one another, and in one part -/
def Mok (σ : Nat → Int) (m : Nat → Int) : Prop := (∀ g : Nat, m g = -1 ∨ ((g : Int) < grs σ ∧ 0 ≤ m g ∧ m g < grs σ ∧ m g ≠ (g : Int) ∧ m (m g).toNat = (g : Int) ∧ gPt σ (m g) = gPt σ g))
theorem lmZ_ok {σ : Nat → Int} (hM : MS σ) : ∀ {g : Nat}, (g : Int) ≤ grs σ → Mok σ (lmZ σ g).1
  | 0, _ => fun g => Or.inl rfl
  | g + 1, hg => by
    have gr := grs_b hM
    have ih := lmZ_ok hM (g := g) (by omega)
    rw [lmZ_succ]
    split
    · rename_i c
      have hb := (mtZ_b hM (lmZ σ g).1 (g := g) (by omega)).resolve_left c.2
      generalize hT : mtZ σ (lmZ σ g).1 g = T at *
      generalize (lmZ σ g).1 = m at *
      intro x
      show updr (updr m g T) T.toNat (g : Int) x = -1 ∨ ((x : Int) < grs σ ∧ 0 ≤ updr (updr m g T) T.toNat (g : Int) x ∧ updr (updr m g T) T.toNat (g : Int) x < grs σ ∧ updr (updr m g T) T.toNat (g : Int) x ≠ (x : Int) ∧ updr (updr m g T) T.toNat (g : Int) (updr (updr m g T) T.toNat (g : Int) x).toNat = (x : Int) ∧ gPt σ (updr (updr m g T) T.toNat (g : Int) x) = gPt σ x)
      have eT : updr (updr m g T) T.toNat (g : Int) T.toNat = (g : Int) := updr_self _ _ _
      have eg : updr (updr m g T) T.toNat (g : Int) g = T := by rw [updr_ne (by omega), updr_self]
      by_cases q1 : x = T.toNat
      · subst q1
        rw [eT, show ((g : Int)).toNat = g by omega, eg]
        right
        have : ((T.toNat : Nat) : Int) = T := by omega
        rw [this]
        exact ⟨by omega, by omega, by omega, by omega, rfl, hb.2.2.2.symm⟩
      · by_cases q2 : x = g
        · subst q2
          rw [eg, eT]
          exact Or.inr ⟨by omega, by omega, by omega, by omega, rfl, hb.2.2.2⟩
        · have ex : updr (updr m g T) T.toNat (g : Int) x = m x := by rw [updr_ne q1, updr_ne q2]
          rw [ex]
          rcases ih x with h | h
          · exact Or.inl h
          · right
            refine ⟨h.1, h.2.1, h.2.2.1, h.2.2.2.1, ?_, h.2.2.2.2.2⟩
            have n1 : (m x).toNat ≠ T.toNat := fun z => by
              have := h.2.2.2.2.1
              rw [z, hb.2.2.1] at this; omega
            have n2 : (m x).toNat ≠ g := fun z => by
              have := h.2.2.2.2.1
              rw [z, c.1] at this; omega
            rw [updr_ne n1, updr_ne n2]
            exact h.2.2.2.2.1
    · exact ih
theorem Mok.b {σ : Nat → Int} {m : Nat → Int} (h : Mok σ m) (hM : MS σ) (g : Nat) : -1 ≤ m g ∧ m g ≤ 13 := by
  have gr := grs_b hM
  rcases h g with h | h <;> omega
theorem lmZ_n (σ : Nat → Int) : ∀ g, (lmZ σ g).2 ≤ g
  | 0 => Nat.le_refl 0
  | g + 1 => by
    have := lmZ_n σ g
    rw [lmZ_succ]
    split
    · dsimp only; omega
    · omega
/-! ===== the class's mates ===== -/
/-- the joins tell the row -/
def JN (σ : Nat → Int) (I : Ii) : Prop := ∀ g h : Nat, (g : Int) < grs σ → (h : Int) < grs σ → g ≠ h → I 121 (14 * g + h) = joinZ σ g h
section PR
variable {I : Ii} {J : Jj} {σ : Nat → Int} {nm : Nat → Int64} {k2 : Nat}
theorem c_join (hk : sK k2) (hV : VS σ) (hR : RG 200 I J σ nm) (hS : RS k2 I σ) : wp_X5_join 200 k2 I J (fun I' _ => JN σ I') := by
  have b0 := ms_0 hV.M
  have b1 := ms_1 hV.M
  have b5 := ms_5 hV.M
  have gr := grs_b hV.M
  have kg := sK_ge hk
  have hm := hR.m
  refine ⟨gK200, hk, fill_of (n := 196) rfl (fun I1 e1 => ⟨hk, ?_⟩)⟩
  have o1 : ∀ q, q ≠ 121 → I1 q = I q := fun q h1 => by rw [e1, upr_ne h1]
  rw [o1 _ (by omega), hS.l]
  refine ⟨41, loopN (L := fun n (a : Ii) v => L_X5_join_16 200 k2 _ n (σ 5 * 14) v a J) (fun v a => (∀ q, q ≠ 121 → a q = I q) ∧ (∀ g h : Nat, (g : Int) < grs σ → (h : Int) < grs σ → g ≠ h → a 121 (14 * g + h) = sm (fun e => if (gAt σ (σ (110 + e)).toNat = g ∧ gAt σ (σ (150 + e)).toNat = h) ∨ (gAt σ (σ (110 + e)).toNat = h ∧ gAt σ (σ (150 + e)).toNat = g) then σ (190 + e) else 0) v)) (N := (σ 1).toNat) (fun n e a he ha kk => ?_) 41 0 I1 (by omega) (by omega) ⟨o1, fun g h hg hh _ => ?_⟩⟩
  · obtain ⟨a0, a1⟩ := ha
    have h0 : a 200 1 = σ 1 := by rw [a0 _ (by decide)]; exact hm
    refine ls_X5_join_16 ?_
    unfold Lb_X5_join_16
    refine ⟨rgK (by omega), rgK (by omega), fun c => ?_, fun c => ?_⟩
    · have hvn : e = (σ 1).toNat := by omega
      subst hvn
      exact a1
    · have he' : e < (σ 1).toNat := by omega
      have ha := hV.a he'
      have hb := hV.b he'
      have hw := hV.w he'
      have r3 : a 203 e = σ (110 + e) := by rw [a0 _ (by decide)]; exact hR.a he'
      have r4 : a 204 e = σ (150 + e) := by rw [a0 _ (by decide)]; exact hR.b he'
      have r5 : a 205 e = σ (190 + e) := by rw [a0 _ (by decide)]; exact hR.h he'
      have ga := hV.g (v := (σ (110 + e)).toNat) (by omega)
      have gb := hV.g (v := (σ (150 + e)).toNat) (by omega)
      refine at_of (n := 40) rfl rfl (by omega) ?_
      rw [r3]
      refine at_of (srX8_3 hk) (i := 14 * (σ 5).toNat + (σ (110 + e)).toNat) (by omega) (by omega) ?_
      rw [a0 _ (by omega), hS.gA (by omega)]
      refine at_of (n := 40) rfl rfl (by omega) ?_
      rw [r4]
      refine at_of (srX8_3 hk) (i := 14 * (σ 5).toNat + (σ (150 + e)).toNat) (by omega) (by omega) ?_
      rw [a0 _ (by omega), hS.gA (by omega)]
      refine at_of (n := 40) rfl rfl (by omega) ?_
      rw [r5]
      have hnx : ∀ (g h : Nat), sm (fun e => if (gAt σ (σ (110 + e)).toNat = g ∧ gAt σ (σ (150 + e)).toNat = h) ∨ (gAt σ (σ (110 + e)).toNat = h ∧ gAt σ (σ (150 + e)).toNat = g) then σ (190 + e) else 0) (e + 1) = sm (fun e => if (gAt σ (σ (110 + e)).toNat = g ∧ gAt σ (σ (150 + e)).toNat = h) ∨ (gAt σ (σ (110 + e)).toNat = h ∧ gAt σ (σ (150 + e)).toNat = g) then σ (190 + e) else 0) e + (if (gAt σ (σ (110 + e)).toNat = g ∧ gAt σ (σ (150 + e)).toNat = h) ∨ (gAt σ (σ (110 + e)).toNat = h ∧ gAt σ (σ (150 + e)).toNat = g) then σ (190 + e) else 0) := fun g h => rfl
      generalize gAt σ (σ (110 + e)).toNat = A at *
      generalize gAt σ (σ (150 + e)).toNat = B at *
      refine add_of (n := 196) rfl (i := 14 * A.toNat + B.toNat) (by omega) (by omega) (fun I10 e10 => ?_)
      refine at_of (n := 40) rfl rfl (by omega) ?_
      have g10 : I10 205 = a 205 := by rw [e10, up2_key (by decide)]
      rw [g10, r5]
      refine add_of (n := 196) rfl (i := 14 * B.toNat + A.toNat) (by omega) (by omega) (fun I12 e12 => ?_)
      refine kk he' I12 ⟨fun q hq => by rw [e12, up2_key hq, e10, up2_key hq]; exact a0 q hq, fun g h hg hh hne => ?_⟩
      rw [hnx, ← a1 g h hg hh hne, e12, up2_row]
      have e10' : I10 121 = updr (a 121) (14 * A.toNat + B.toNat) (a 121 (14 * A.toNat + B.toNat) + σ (190 + e)) := by rw [e10, up2_row]
      by_cases q1 : 14 * g + h = 14 * B.toNat + A.toNat
      · rw [q1, updr_self, e10', updr_ne (by omega), if_pos (by omega)]
      · rw [updr_ne q1, e10']
        by_cases q2 : 14 * g + h = 14 * A.toNat + B.toNat
        · rw [q2, updr_self, if_pos (by omega)]
        · rw [updr_ne q2, if_neg (by omega)]; omega
  · rw [e1, upr_self, filR_lt (by omega)]; rfl
theorem c_mateBehind {x : Int} {g : Nat} {m : Nat → Int} (hV : VS σ) (hE : ME σ I) (hJ : JN σ I) (hx : x = (g : Int)) (hg : (g : Int) < grs σ) (hm : ∀ i, i < 14 → I 122 i = m i) (hmb : ∀ i, -1 ≤ m i ∧ m i ≤ 13) : wp_X5_mateBehind x I J (fun r _ _ => r = mtZ σ m g) := by
  have hM := hV.M
  have gr := grs_b hM
  have bl := limZ_b hM
  have b2 := ms_2 hM
  obtain ⟨e0, e1, e2, e3, e4, e5, e6, e7, e8⟩ := hE
  subst hx
  have q0 : (g : Int) + 1 = ((g + 1 : Nat) : Int) := by omega
  unfold wp_X5_mateBehind
  rw [q0]
  refine ⟨15, loopN (L := fun n (a : Int × Int) v => L_X5_mateBehind_10 (g : Int) _ n a.1 a.2 v I J) (fun v a => g + 1 ≤ v ∧ a = mbZ σ m g (v - (g + 1))) (N := (grs σ).toNat) (fun n v a hv ha k => ?_) 15 (g + 1) (-1, 0) (by omega) (by omega) ⟨by omega, by rw [Nat.sub_self]; rfl⟩⟩
  obtain ⟨hgv, ha⟩ := ha
  refine ls_X5_mateBehind_10 ?_
  generalize hr : L_X5_mateBehind_10 (g : Int) _ n = r at k ⊢
  unfold Lb_X5_mateBehind_10
  have ba := mbZ_b hM m g (v - (g + 1))
  rw [← ha] at ba
  refine ⟨rgK (by omega), rgK (by omega), fun c => ?_, fun c => ?_⟩
  · rw [ha, show v = (grs σ).toNat by omega]; rfl
  · have bj := joinZ_b hM (g : Int) (v : Int)
    have bm := hmb v
    have bw1 := gW_b hM (g : Int)
    have bw2 := gW_b hM (v : Int)
    have bp1 := hV.gpb (g := (v : Int)) (by omega) (by omega)
    have bp2 := hV.gpb (g := (g : Int)) (by omega) hg
    have nx : ∀ a' : Int × Int, a' = mbS σ m g v a → r a'.1 a'.2 ((v : Int) + 1) I J := fun a' e => k (by omega) a' ⟨by omega, by
      rw [e, ha, show v + 1 - (g + 1) = (v - (g + 1)) + 1 by omega]
      show _ = mbS σ m g (g + 1 + (v - (g + 1))) _
      rw [show g + 1 + (v - (g + 1)) = v by omega]⟩
    refine at_of (n := 14) rfl rfl (by omega) (at_of (n := 14) rfl rfl (by omega) (at_of (n := 14) rfl rfl (by omega) ?_))
    rw [(e6 g hg).2.1, (e6 v (by omega)).2.1, hm v (by omega)]
    refine ⟨rgK (by omega), fun d => nx a ?_, fun d => at_of (n := 14) rfl rfl (by omega) (at_of (n := 14) rfl rfl (by omega) ?_)⟩
    · unfold mbS; rw [if_pos (Or.inl d)]
    · rw [(e6 g hg).2.2, (e6 v (by omega)).2.2]
      refine ⟨rgK (by omega), rgK (by omega), fun d3 => nx a ?_, fun d3 => ⟨rgK (by omega), rgK (by omega), fun d4 => nx a ?_, fun d4 => at_of (n := 196) rfl (i := 14 * g + v) (by omega) (by omega) ?_⟩⟩
      · unfold mbS; rw [if_pos (Or.inr (Or.inr (Or.inl d3)))]
      · unfold mbS; rw [if_pos (Or.inr (Or.inr (Or.inr (by omega))))]
      · rw [hJ g v hg (by omega) (by omega)]
        refine ⟨rgK (by omega), rgK (by omega), fun d2 => nx a ?_, fun d2 => at_of (n := 196) rfl (i := 14 * g + v) (by omega) (by omega) ?_⟩
        · unfold mbS; rw [if_pos (Or.inr (Or.inl d2))]
        · rw [hJ g v hg (by omega) (by omega)]
          refine nx ((v : Int), joinZ σ g v) ?_
          unfold mbS; rw [if_neg (by omega)]
/-- the pairs tell the mates -/
def PA (σ : Nat → Int) (I : Ii) : Prop := I 120 4 = (if pairZ σ = 0 then 0 else 1) ∧ ∀ i, i < 14 → I 122 i = mateZ σ i
theorem c_findMates (hV : VS σ) (hE : ME σ I) (hJ : JN σ I) : wp_X5_findMates I J (fun I' _ => PA σ I') := by
  have hM := hV.M
  have gr := grs_b hM
  have e0 := hE.1
  refine fill_of (n := 14) rfl (fun I1 e1 I2 e2 => ?_)
  have o2 : ∀ q, q ≠ 122 → q ≠ 120 → I2 q = I q := fun q h1 h2 => by rw [e2, up2_key h2, e1, upr_ne h1]
  refine ⟨15, loopN (L := fun n2 (b : Ii) g => L_X5_findMates_15 _ n2 g b J) (fun g b => (∀ q, q ≠ 122 → q ≠ 120 → b q = I q) ∧ (∀ i, i < 14 → b 122 i = (lmZ σ g).1 i) ∧ b 120 4 = (if (lmZ σ g).2 = 0 then 0 else 1)) (N := (grs σ).toNat) (fun n2 g b hg hb k2 => ?_) 15 0 I2 (by omega) (by omega) ⟨o2, fun i hi => ?_, ?_⟩⟩
  · obtain ⟨b0, b1, b2⟩ := hb
    have ok := lmZ_ok hM (g := g) (by omega)
    have h0 : b 113 0 = grs σ := by rw [b0 _ (by decide) (by decide)]; exact e0
    refine ls_X5_findMates_15 ?_
    generalize hr : L_X5_findMates_15 _ n2 = r at k2 ⊢
    unfold Lb_X5_findMates_15
    refine ⟨rgK (by omega), rgK (by omega), fun c2 => ?_, fun c2 => ?_⟩
    · have hgn : g = (grs σ).toNat := by omega
      exact ⟨by rw [b2, hgn]; rfl, fun i hi => by rw [b1 i hi, hgn]; rfl⟩
    · have bm := ok.b hM g
      have go : ∀ t : Int, (t = -1 ∧ ¬ ((lmZ σ g).1 g = -1 ∧ mtZ σ (lmZ σ g).1 g ≠ -1)) ∨ (t = mtZ σ (lmZ σ g).1 g ∧ (lmZ σ g).1 g = -1) → B_X5_findMates_45 (fun I' _ => PA σ I') r (g : Int) t b J := by
        intro t ht
        have bt : t = -1 ∨ ((g : Int) < t ∧ t < grs σ) := by
          rcases ht with ht | ht
          · exact Or.inl ht.1
          · rcases mtZ_b hM (lmZ σ g).1 (g := g) (by omega) with h | h
            · exact Or.inl (by rw [ht.1]; exact h)
            · exact Or.inr (by rw [ht.1]; exact ⟨h.1, h.2.1⟩)
        unfold B_X5_findMates_45
        refine ⟨rgK (by omega), fun d => ?_, fun d => ?_⟩
        · have hc : ¬ ((lmZ σ g).1 g = -1 ∧ mtZ σ (lmZ σ g).1 g ≠ -1) := by
            rcases ht with ht | ht
            · exact ht.2
            · exact fun z => z.2 (by rw [← ht.1]; exact d)
          exact k2 (by omega) b ⟨b0, fun i hi => by rw [lmZ_succ, if_neg hc]; exact b1 i hi, by rw [lmZ_succ, if_neg hc]; exact b2⟩
        · have hc : (lmZ σ g).1 g = -1 ∧ mtZ σ (lmZ σ g).1 g ≠ -1 := by
            rcases ht with ht | ht
            · exact absurd ht.1 d
            · exact ⟨ht.2, by rw [← ht.1]; exact d⟩
          have ht : t = mtZ σ (lmZ σ g).1 g := by
            rcases ht with ht | ht
            · exact absurd ht.1 d
            · exact ht.1
          refine put_of (n := 14) rfl rfl (by omega) (fun I9 e9 => put_of (n := 14) rfl (i := t.toNat) (by omega) (by omega) (fun I10 e10 I11 e11 => ?_))
          refine k2 (by omega) I11 ⟨fun q h1 h2 => ?_, fun i hi => ?_, ?_⟩
          · rw [e11, up2_key h2, e10, up2_key h1, e9, up2_key h1]; exact b0 q h1 h2
          · rw [e11, up2_key (by decide), e10, up2_row, e9, up2_row, lmZ_succ, if_pos hc, ← ht]
            show updr (updr (b 122) g t) t.toNat (g : Int) i = updr (updr (lmZ σ g).1 g t) t.toNat (g : Int) i
            by_cases q : i = t.toNat
            · rw [q, updr_self, updr_self]
            · rw [updr_ne q, updr_ne q]
              by_cases q2 : i = g
              · rw [q2, updr_self, updr_self]
              · rw [updr_ne q2, updr_ne q2]; exact b1 i hi
          · rw [e11, up2_self, lmZ_succ, if_pos hc, if_neg (by omega)]
      refine at_of (n := 14) rfl rfl (by omega) ?_
      rw [b1 g (by omega)]
      refine ⟨rgK (by omega), fun d => go (-1) (Or.inl ⟨rfl, fun z => d z.1⟩), fun d => ?_⟩
      have hEb : ME σ b := by
        unfold ME
        rw [b0 _ (by decide) (by decide), b0 114 (by decide) (by decide), b0 115 (by decide) (by decide), b0 116 (by decide) (by decide), b0 117 (by decide) (by decide), b0 118 (by decide) (by decide), b0 119 (by decide) (by decide)]
        exact hE
      have hJb : JN σ b := by
        unfold JN
        rw [b0 _ (by decide) (by decide)]
        exact hJ
      exact fr_X5_mateBehind (c_mateBehind (m := (lmZ σ g).1) hV hEb hJb rfl (by omega) b1 (fun i => ok.b hM i)) (fun t ht => go t (Or.inr ⟨ht, d⟩))
  · rw [e2, up2_key (by decide), e1, upr_self, filR_lt hi]; rfl
  · rw [e2, up2_self]; rfl
theorem ME.fr {l : List (Nat × Nat)} {I' : Ii} {J' : Jj} (h : ME σ I) (hs : Same (WL l) I J I' J') (hn : ([113, 114, 115, 116, 117, 118, 119].all (fun q => !wlk l q)) = true := by rfl) : ME σ I' := by
  unfold ME
  rw [hs.k (all_not hn (q := 113) (by simp)), hs.k (all_not hn (q := 114) (by simp)), hs.k (all_not hn (q := 115) (by simp)), hs.k (all_not hn (q := 116) (by simp)), hs.k (all_not hn (q := 117) (by simp)), hs.k (all_not hn (q := 118) (by simp)), hs.k (all_not hn (q := 119) (by simp))]
  exact h
theorem c_findPairs (hV : VS σ) (hR : RG 200 I J σ nm) (hS : RS 300 I σ) : wp_X11_findPairs I J (fun I' _ => ME σ I' ∧ PA σ I') := by
  refine fr_X4_take (c_take sK300 hV hR hS) (fun I3 J3 hE s3 => ?_)
  refine fr_X5_join (c_join sK300 hV (hR.fr s3) (hS.fr s3)) (fun I4 J4 hJ s4 => ?_)
  have hE4 : ME σ I4 := hE.fr s4
  exact fr_X5_findMates (c_findMates hV hE4 hJ) (fun I5 J5 hP s5 => ⟨hE4.fr s5, hP⟩)
end PR
/-! ===== shrinking ===== -/
/-- the numbers of the merged groups of the groups below g, and how many there are -/
def nbZ (σ : Nat → Int) : Nat → (Nat → Int) × Nat
  | 0 => (fun _ => 0, 0)
  | g + 1 => if mateZ σ g ≠ -1 ∧ mateZ σ g < (g : Int) then (updr (nbZ σ g).1 g ((nbZ σ g).1 (mateZ σ g).toNat), (nbZ σ g).2) else (updr (nbZ σ g).1 g ((nbZ σ g).2 : Int), (nbZ σ g).2 + 1)
theorem nbZ_succ (σ : Nat → Int) (g : Nat) : nbZ σ (g + 1) = if mateZ σ g ≠ -1 ∧ mateZ σ g < (g : Int) then (updr (nbZ σ g).1 g ((nbZ σ g).1 (mateZ σ g).toNat), (nbZ σ g).2) else (updr (nbZ σ g).1 g ((nbZ σ g).2 : Int), (nbZ σ g).2 + 1) := rfl
def numZ (σ : Nat → Int) : Nat → Int := (nbZ σ (grs σ).toNat).1
def cntZ (σ : Nat → Int) : Nat := (nbZ σ (grs σ).toNat).2
/-- the row behind a shrinking -/
def shZ (σ : Nat → Int) : Nat → Int := fun i =>
  if i = 5 then σ 5 + 1 else if i = 105 + (σ 5).toNat + 1 then (cntZ σ : Int)
  else if 35 + 14 * ((σ 5).toNat + 1) ≤ i ∧ i < 35 + 14 * ((σ 5).toNat + 1) + (σ 0).toNat then numZ σ (gAt σ (i - (35 + 14 * ((σ 5).toNat + 1)))).toNat else σ i
theorem nbZ_stay (σ : Nat → Int) : ∀ {g h x : Nat}, x < g → g ≤ h → (nbZ σ h).1 x = (nbZ σ g).1 x
  | g, 0, x, h1, h2 => by omega
  | g, h + 1, x, h1, h2 => by
    by_cases c : g = h + 1
    · rw [c]
    · rw [nbZ_succ]
      have ih := nbZ_stay σ (g := g) (h := h) h1 (by omega)
      split
      · show updr _ h _ x = _
        rw [updr_ne (by omega)]; exact ih
      · show updr _ h _ x = _
        rw [updr_ne (by omega)]; exact ih
theorem nbZ_cnt (σ : Nat → Int) : ∀ g, (nbZ σ g).2 ≤ g
  | 0 => Nat.le_refl 0
  | g + 1 => by
    have := nbZ_cnt σ g
    rw [nbZ_succ]
    split <;> dsimp only <;> omega
theorem nbZ_mono (σ : Nat → Int) : ∀ {g h : Nat}, g ≤ h → (nbZ σ g).2 ≤ (nbZ σ h).2
  | g, 0, h1 => by rw [show g = 0 by omega]; exact Nat.le_refl _
  | g, h + 1, h1 => by
    by_cases c : g = h + 1
    · rw [c]; exact Nat.le_refl _
    · have ih := nbZ_mono σ (g := g) (h := h) (by omega)
      rw [nbZ_succ]
      split <;> dsimp only <;> omega
theorem mate_ok {σ : Nat → Int} (hM : MS σ) : Mok σ (mateZ σ) := lmZ_ok hM (by have := grs_b hM; omega)
/-- a group that begins a merged one -/
def heads (σ : Nat → Int) (g : Nat) : Prop := ¬ (mateZ σ g ≠ -1 ∧ mateZ σ g < (g : Int))
theorem numZ_head {σ : Nat → Int} {g : Nat} (hg : g < (grs σ).toNat) (h : heads σ g) : numZ σ g = ((nbZ σ g).2 : Int) := by
  unfold numZ
  rw [nbZ_stay σ (g := g + 1) (by omega) (by omega), nbZ_succ, if_neg h]
  exact updr_self _ _ _
theorem numZ_tail {σ : Nat → Int} {g : Nat} (hg : g < (grs σ).toNat) (h : ¬ heads σ g) : numZ σ g = numZ σ (mateZ σ g).toNat := by
  have h' : mateZ σ g ≠ -1 ∧ mateZ σ g < (g : Int) := Classical.byContradiction h
  have hM : (mateZ σ g).toNat < g ∨ g = 0 := by omega
  unfold numZ
  rw [nbZ_stay σ (g := g + 1) (by omega) (by omega), nbZ_succ, if_pos h']
  show updr _ g _ g = _
  rw [updr_self]
  by_cases q : g = 0
  · subst q
    have : (mateZ σ 0).toNat = 0 := by omega
    rw [this]
    have e := nbZ_stay σ (g := 1) (h := (grs σ).toNat) (x := 0) (by omega) (by omega)
    rw [e, nbZ_succ, if_pos h']
    show (nbZ σ 0).1 0 = updr (nbZ σ 0).1 0 ((nbZ σ 0).1 (mateZ σ 0).toNat) 0
    rw [updr_self, this]
  · exact (nbZ_stay σ (g := g) (by omega) (by omega)).symm
theorem mate_head {σ : Nat → Int} (hM : MS σ) {g : Nat} (h : ¬ heads σ g) : heads σ (mateZ σ g).toNat ∧ (mateZ σ g).toNat < g ∧ gPt σ ((mateZ σ g).toNat : Nat) = gPt σ g := by
  have h' : mateZ σ g ≠ -1 ∧ mateZ σ g < (g : Int) := Classical.byContradiction h
  have ok := (mate_ok hM g).resolve_left h'.1
  refine ⟨fun z => ?_, by omega, by rw [show (((mateZ σ g).toNat : Nat) : Int) = mateZ σ g by omega]; exact ok.2.2.2.2.2⟩
  have := ok.2.2.2.2.1
  rw [this] at z
  omega
theorem numZ_lt {σ : Nat → Int} (hM : MS σ) {g : Nat} (hg : g < (grs σ).toNat) : 0 ≤ numZ σ g ∧ numZ σ g < (cntZ σ : Int) := by
  have key : ∀ g, g < (grs σ).toNat → heads σ g → 0 ≤ numZ σ g ∧ numZ σ g < (cntZ σ : Int) := fun g hg h => by
    rw [numZ_head hg h]
    have := nbZ_mono σ (g := g + 1) (h := (grs σ).toNat) (by omega)
    rw [nbZ_succ, if_neg h] at this
    unfold cntZ
    dsimp only at this
    omega
  by_cases h : heads σ g
  · exact key g hg h
  · have hm := mate_head hM h
    rw [numZ_tail hg h]
    exact key _ (by omega) hm.1
theorem numZ_inj {σ : Nat → Int} {g h : Nat} (hg : g < (grs σ).toNat) (hh : h < (grs σ).toNat) (h1 : heads σ g) (h2 : heads σ h) (e : numZ σ g = numZ σ h) : g = h := by
  rw [numZ_head hg h1, numZ_head hh h2] at e
  have key : ∀ a b, heads σ a → a < b → (nbZ σ a).2 < (nbZ σ b).2 := fun a b ha hab => by
    have := nbZ_mono σ (g := a + 1) (h := b) (by omega)
    rw [nbZ_succ, if_neg ha] at this
    dsimp only at this
    omega
  rcases Nat.lt_trichotomy g h with q | q | q
  · have := key g h h1 q; omega
  · exact q
  · have := key h g h2 q; omega
theorem numZ_part {σ : Nat → Int} (hM : MS σ) {g h : Nat} (hg : g < (grs σ).toNat) (hh : h < (grs σ).toNat) (e : numZ σ g = numZ σ h) : gPt σ g = gPt σ h := by
  have key : ∀ g, g < (grs σ).toNat → ∃ g', g' < (grs σ).toNat ∧ heads σ g' ∧ numZ σ g = numZ σ g' ∧ gPt σ g = gPt σ g' := fun g hg => by
    by_cases c : heads σ g
    · exact ⟨g, hg, c, rfl, rfl⟩
    · have hm := mate_head hM c
      exact ⟨(mateZ σ g).toNat, by omega, hm.1, numZ_tail hg c, hm.2.2.symm⟩
  obtain ⟨g', a1, a2, a3, a4⟩ := key g hg
  obtain ⟨h', b1, b2, b3, b4⟩ := key h hh
  have := numZ_inj a1 b1 a2 b2 (by rw [← a3, e, b3])
  rw [a4, b4, this]
theorem numZ_onto {σ : Nat → Int} (hM : MS σ) {c : Int} (h0 : 0 ≤ c) (h1 : c < (cntZ σ : Int)) : ∃ g, g < (grs σ).toNat ∧ numZ σ g = c := by
  have key : ∀ n, n ≤ (grs σ).toNat → ∀ c : Nat, c < (nbZ σ n).2 → ∃ g, g < n ∧ heads σ g ∧ (nbZ σ g).2 = c := by
    intro n
    induction n with
    | zero => intro _ c hc; exact absurd hc (Nat.not_lt_zero _)
    | succ n ih =>
      intro hn c hc
      by_cases hd : heads σ n
      · rw [nbZ_succ, if_neg hd] at hc
        by_cases q : c < (nbZ σ n).2
        · obtain ⟨g, a1, a2, a3⟩ := ih (by omega) c q
          exact ⟨g, by omega, a2, a3⟩
        · dsimp only at hc
          exact ⟨n, by omega, hd, by omega⟩
      · rw [nbZ_succ, if_pos (Classical.byContradiction hd)] at hc
        obtain ⟨g, a1, a2, a3⟩ := ih (by omega) c hc
        exact ⟨g, by omega, a2, a3⟩
  obtain ⟨g, a1, a2, a3⟩ := key _ (Nat.le_refl _) c.toNat (by unfold cntZ at h1; omega)
  exact ⟨g, a1, by rw [numZ_head a1 a2, a3]; omega⟩
theorem shZ_o {σ : Nat → Int} {i : Nat} (hM : MS σ) (h5 : σ 5 < 4) (h : i < 5 ∨ (5 < i ∧ i < 35 + 14 * ((σ 5).toNat + 1)) ∨ (105 ≤ i ∧ i < 105 + (σ 5).toNat + 1) ∨ 105 + (σ 5).toNat + 1 < i) : shZ σ i = σ i := by
  have b0 := ms_0 hM
  have b5 := ms_5 hM
  unfold shZ
  rw [if_neg (by omega), if_neg (by omega), if_neg (by omega)]
theorem shZ_5 (σ : Nat → Int) : shZ σ 5 = σ 5 + 1 := if_pos rfl
theorem shZ_n {σ : Nat → Int} (hM : MS σ) : shZ σ (105 + (σ 5).toNat + 1) = (cntZ σ : Int) := by
  unfold shZ
  rw [if_neg (by omega), if_pos rfl]
theorem shZ_g {σ : Nat → Int} (hM : MS σ) (h5 : σ 5 < 4) {v : Nat} (hv : v < (σ 0).toNat) : shZ σ (35 + 14 * ((σ 5).toNat + 1) + v) = numZ σ (gAt σ v).toNat := by
  have b0 := ms_0 hM
  have b5 := ms_5 hM
  unfold shZ
  rw [if_neg (by omega), if_neg (by omega), if_pos (by omega), show 35 + 14 * ((σ 5).toNat + 1) + v - (35 + 14 * ((σ 5).toNat + 1)) = v by omega]
theorem shZ_GE {σ : Nat → Int} (hM : MS σ) (h5 : σ 5 < 4) : GE σ (shZ σ) := fun i hi => by
  have b5 := ms_5 hM
  exact shZ_o hM h5 (by omega)
theorem shZ_VS {σ : Nat → Int} (hV : VS σ) (h5 : σ 5 < 4) : VS (shZ σ) := by
  have hM := hV.M
  have b0 := ms_0 hM
  have b5 := ms_5 hM
  have gr := grs_b hM
  have cb : cntZ σ ≤ 14 := by have := nbZ_cnt σ (grs σ).toNat; unfold cntZ; omega
  have o : ∀ i, i < 5 ∨ (5 < i ∧ i < 35) ∨ 110 ≤ i → shZ σ i = σ i := fun i hi => shZ_o hM h5 (by omega)
  have e5 := shZ_5 σ
  have ol : ∀ l v, l ≤ (σ 5).toNat → v < 14 → gL (shZ σ) l v = gL σ l v := fun l v hl hv => shZ_o hM h5 (by omega)
  have on : ∀ l, l ≤ (σ 5).toNat → shZ σ (105 + l) = σ (105 + l) := fun l hl => shZ_o hM h5 (by omega)
  have nl : ∀ v, v < (σ 0).toNat → gL (shZ σ) ((σ 5).toNat + 1) v = numZ σ (gAt σ v).toNat := fun v hv => shZ_g hM h5 hv
  have nn : shZ σ (105 + ((σ 5).toNat + 1)) = (cntZ σ : Int) := shZ_n hM
  have t5 : (shZ σ 5).toNat = (σ 5).toNat + 1 := by rw [e5]; omega
  have nb : ∀ v, v < (σ 0).toNat → 0 ≤ numZ σ (gAt σ v).toNat ∧ numZ σ (gAt σ v).toNat < (cntZ σ : Int) := fun v hv => by
    have := hV.g hv
    exact numZ_lt hM (by omega)
  refine ⟨⟨?_, ?_, ?_, ?_, ?_, ?_, ?_, fun w hw => ?_, fun w hw => ?_, fun w hw => ?_, fun w hw => ?_, fun w hw => ?_, fun w hw => ?_, fun w hw => ?_, fun w hw => ?_⟩, ⟨fun e he => ?_, fun e f he hf => ?_⟩, fun v hv => ?_, fun v hv => ?_, ?_, fun l hl => ?_, fun l u v hl hu hv => ?_, fun u v hu hv => ?_⟩
  · rw [o 0 (by omega)]; exact ms_0 hM
  · rw [o 1 (by omega)]; exact ms_1 hM
  · rw [o 2 (by omega)]; exact ms_2 hM
  · rw [o 3 (by omega)]; exact ms_3 hM
  · rw [o 4 (by omega)]; exact ms_4 hM
  · rw [e5]; omega
  · rw [o 6 (by omega)]; exact ms_6 hM
  · rw [o _ (by omega)]; exact ms_w hM w hw
  · rw [o _ (by omega)]; exact ms_p hM w hw
  · by_cases c : 35 + 14 * ((σ 5).toNat + 1) ≤ 35 + w ∧ 35 + w < 35 + 14 * ((σ 5).toNat + 1) + (σ 0).toNat
    · have := nb (w - 14 * ((σ 5).toNat + 1)) (by omega)
      rw [← shZ_g hM h5 (by omega), show 35 + 14 * ((σ 5).toNat + 1) + (w - 14 * ((σ 5).toNat + 1)) = 35 + w by omega] at this
      omega
    · have : shZ σ (35 + w) = σ (35 + w) := by
        unfold shZ
        rw [if_neg (by omega), if_neg (by omega), if_neg c]
      rw [this]; exact ms_g hM w hw
  · by_cases c : w = (σ 5).toNat + 1
    · rw [c, nn]; omega
    · have : shZ σ (105 + w) = σ (105 + w) := shZ_o hM h5 (by omega)
      rw [this]; exact ms_n hM w hw
  · rw [o _ (by omega)]; exact ms_a hM w hw
  · rw [o _ (by omega)]; exact ms_b hM w hw
  · rw [o _ (by omega)]; exact ms_h hM w hw
  · rw [o _ (by omega)]; exact ms_e hM w hw
  · rw [o 1 (by omega)] at he
    rw [o 0 (by omega), o _ (by omega), o _ (by omega)]; exact hV.E.1 e he
  · rw [o 1 (by omega)] at he hf
    rw [o _ (by omega), o (110 + f) (by omega), o (150 + e) (by omega), o (150 + f) (by omega)]; exact hV.E.2 e f he hf
  · rw [o 0 (by omega)] at hv
    rw [o _ (by omega), o 2 (by omega)]; exact (hV.p hv).2
  · rw [o 0 (by omega)] at hv
    rw [ol 0 v (by omega) (by omega)]; exact hV.g0 hv
  · have := on 0 (by omega)
    rw [show 105 + 0 = 105 from rfl] at this
    rw [this, o 0 (by omega)]; exact hV.n0
  · rw [t5] at hl
    unfold VL
    rw [o 0 (by omega)]
    by_cases c : l = (σ 5).toNat + 1
    · subst c
      rw [nn]
      refine ⟨fun v hv => by rw [nl v hv]; exact (nb v hv).2, fun g h0 h1 => ?_⟩
      obtain ⟨x, hx, ex⟩ := numZ_onto hM h0 h1
      obtain ⟨v, hv, ev⟩ := hV.GV (x : Int) (by omega) (by omega)
      exact ⟨v, hv, by rw [nl v hv, ev]; exact ex⟩
    · rw [on l (by omega)]
      refine ⟨fun v hv => by rw [ol l v (by omega) (by omega)]; exact (hV.L (l := l) (by omega)).1 v hv, fun g h0 h1 => ?_⟩
      obtain ⟨v, hv, ev⟩ := (hV.L (l := l) (by omega)).2 g h0 h1
      exact ⟨v, hv, by rw [ol l v (by omega) (by omega)]; exact ev⟩
  · rw [t5] at hl
    rw [o 0 (by omega)] at hu hv
    rw [ol l u (by omega) (by omega), ol l v (by omega) (by omega)]
    intro e
    by_cases c : l = (σ 5).toNat
    · subst c
      rw [nl u hu, nl v hv, show gAt σ u = gAt σ v from e]
    · rw [ol (l + 1) u (by omega) (by omega), ol (l + 1) v (by omega) (by omega)]
      exact hV.nest (by omega) hu hv e
  · rw [o 0 (by omega)] at hu hv
    have e1 : gAt (shZ σ) u = numZ σ (gAt σ u).toNat := by rw [← nl u hu]; unfold gAt gL; rw [t5]
    have e2 : gAt (shZ σ) v = numZ σ (gAt σ v).toNat := by rw [← nl v hv]; unfold gAt gL; rw [t5]
    rw [e1, e2, o _ (by omega), o _ (by omega)]
    intro e
    have hu' := hV.g hu
    have hv' := hV.g hv
    have := numZ_part hM (by omega) (by omega) e
    rw [show (((gAt σ u).toNat : Nat) : Int) = gAt σ u by omega, show (((gAt σ v).toNat : Nat) : Int) = gAt σ v by omega, hV.gp hu, hV.gp hv] at this
    exact this
theorem shZ_Tl {σ : Nat → Int} (hM : MS σ) (h5 : σ 5 < 4) (h : Tl 350 σ) : Tl 350 (shZ σ) := fun i hi => by
  have b5 := ms_5 hM
  rw [shZ_o hM h5 (by omega)]; exact h i hi
section SH
variable {I : Ii} {J : Jj} {σ : Nat → Int} {nm : Nat → Int64}
theorem c_numberMerged (hV : VS σ) (hE : ME σ I) (hP : PA σ I) : wp_X5_numberMerged I J (fun I' _ => I' 120 3 = (cntZ σ : Int) ∧ ∀ g : Nat, g < (grs σ).toNat → I' 123 g = numZ σ g) := by
  have hM := hV.M
  have gr := grs_b hM
  have e0 := hE.1
  intro I1 e1
  refine ⟨15, loopN (L := fun n2 (b : Ii) g => L_X5_numberMerged_7 _ n2 g b J) (fun g b => (∀ q, q ≠ 120 → q ≠ 123 → b q = I q) ∧ b 120 3 = ((nbZ σ g).2 : Int) ∧ (∀ x, x < g → b 123 x = (nbZ σ g).1 x)) (N := (grs σ).toNat) (fun n2 g b hg hb k2 => ?_) 15 0 I1 (by omega) (by omega) ⟨fun q h1 h2 => by rw [e1, up2_key h1], by rw [e1, up2_self]; rfl, fun x hx => by omega⟩⟩
  obtain ⟨b0, b1, b2⟩ := hb
  have h0 : b 113 0 = grs σ := by rw [b0 _ (by decide) (by decide)]; exact e0
  have bm := (mate_ok hM).b hM g
  refine ls_X5_numberMerged_7 ?_
  generalize hr : L_X5_numberMerged_7 _ n2 = r at k2 ⊢
  unfold Lb_X5_numberMerged_7
  refine ⟨rgK (by omega), rgK (by omega), fun c2 => ?_, fun c2 => at_of (n := 14) rfl rfl (by omega) ?_⟩
  · have hgn : g = (grs σ).toNat := by omega
    subst hgn
    exact ⟨b1, fun x hx => b2 x hx⟩
  · rw [b0 122 (by decide) (by decide), hP.2 g (by omega)]
    have nc := nbZ_cnt σ g
    have new : ¬ (mateZ σ g ≠ -1 ∧ mateZ σ g < (g : Int)) → B_X5_numberMerged_53 (fun I' _ => I' 120 3 = (cntZ σ : Int) ∧ ∀ g : Nat, g < (grs σ).toNat → I' 123 g = numZ σ g) r (g : Int) b J := fun hc => by
      unfold B_X5_numberMerged_53
      refine put_of (n := 14) rfl rfl (by omega) (fun I9 e9 I10 e10 => k2 (by omega) I10 ⟨fun q h1 h2 => by rw [e10, up2_key h1, e9, up2_key h2]; exact b0 q h1 h2, ?_, fun x hx => ?_⟩)
      · rw [e10, up2_self, e9, up2_key (by decide), b1, nbZ_succ, if_neg hc]; rfl
      · rw [e10, up2_key (by decide), e9, up2_row, nbZ_succ, if_neg hc, b1]
        show updr (b 123) g _ x = updr (nbZ σ g).1 g _ x
        by_cases q : x = g
        · rw [q, updr_self, updr_self]
        · rw [updr_ne q, updr_ne q]; exact b2 x (by omega)
    refine ⟨rgK (by omega), fun d => new (fun z => z.1 d), fun d => ⟨rgK (by omega), fun d2 => new (fun z => by omega), fun d2 => ?_⟩⟩
    have hc : mateZ σ g ≠ -1 ∧ mateZ σ g < (g : Int) := ⟨d, by omega⟩
    refine at_of (n := 14) rfl (i := (mateZ σ g).toNat) (by omega) (by omega) (put_of (n := 14) rfl rfl (by omega) (fun I8 e8 => k2 (by omega) I8 ⟨fun q h1 h2 => by rw [e8, up2_key h2]; exact b0 q h1 h2, ?_, fun x hx => ?_⟩))
    · rw [e8, up2_key (by decide), b1, nbZ_succ, if_pos hc]
    · rw [e8, up2_row, nbZ_succ, if_pos hc, b2 (mateZ σ g).toNat (by omega)]
      show updr (b 123) g _ x = updr (nbZ σ g).1 g _ x
      by_cases q : x = g
      · rw [q, updr_self, updr_self]
      · rw [updr_ne q, updr_ne q]; exact b2 x (by omega)
theorem c_raiseLevel {x : Int} (hV : VS σ) (h5 : σ 5 < 4) (hS : RS 300 I σ) (hx : x = σ 0) (hc : I 120 3 = (cntZ σ : Int)) (hn : ∀ g : Nat, g < (grs σ).toNat → I 123 g = numZ σ g) : wp_X8_raiseLevel 300 x I J (fun I' _ => RS 300 I' (shZ σ)) := by
  have hM := hV.M
  have b0 := ms_0 hM
  have b5 := ms_5 hM
  have gr := grs_b hM
  subst hx
  refine ⟨sK300, sK300, ?_⟩
  rw [hS.l]
  refine ⟨15, loopN (L := fun n (a : Ii) v => L_X8_raiseLevel_8 300 (σ 0) _ n (σ 5 * 14) v a J) (fun v a => (∀ q, q ≠ 303 → a q = I q) ∧ (∀ i, (i < 14 * ((σ 5).toNat + 1) ∨ 14 * ((σ 5).toNat + 1) + v ≤ i) → a 303 i = I 303 i) ∧ (∀ u, u < v → a 303 (14 * ((σ 5).toNat + 1) + u) = numZ σ (gAt σ u).toNat)) (N := (σ 0).toNat) (fun n v a hv ha k => ?_) 15 0 I (by omega) (by omega) ⟨fun _ _ => rfl, fun _ _ => rfl, fun u hu => by omega⟩⟩
  obtain ⟨a0, a1, a2⟩ := ha
  refine ls_X8_raiseLevel_8 ?_
  unfold Lb_X8_raiseLevel_8
  refine ⟨rgK (by omega), rgK (by omega), fun c I4 e4 => ?_, fun c => ?_⟩
  · have hvn : v = (σ 0).toNat := by omega
    subst hvn
    have l4 : I4 300 0 = σ 5 + 1 := by rw [e4, up2_self, a0 _ (by decide), hS.l]
    have c4 : I4 120 3 = (cntZ σ : Int) := by rw [e4, up2_key (by decide), a0 _ (by decide), hc]
    refine put_of (n := 5) rfl (i := (σ 5).toNat + 1) (by omega) (by omega) (fun I5 e5 => ?_)
    have o5 : ∀ q, q ≠ 300 → q ≠ 302 → q ≠ 303 → I5 q = I q := fun q h1 h2 h3 => by rw [e5, up2_key h2, e4, up2_key h1, a0 q h3]
    have o : ∀ i, i < 5 ∨ (5 < i ∧ i < 35) ∨ 110 ≤ i → shZ σ i = σ i := fun i hi => shZ_o hM h5 (by omega)
    have hk : kev (shZ σ) = kev σ := by unfold kev; rw [o 6 (by omega)]
    have t5 : (shZ σ 5).toNat = (σ 5).toNat + 1 := by rw [shZ_5]; omega
    have kb := kev_b hM
    refine ⟨?_, ?_, ?_, fun v hv => ?_, fun l hl => ?_, fun l v hl hv => ?_, fun i w hi hw => ?_⟩
    · rw [e5, up2_key (by decide), l4, shZ_5]
    · rw [e5, up2_key (by decide), e4, up2_ne (by decide), a0 _ (by decide), hS.c, o 4 (by omega)]
    · rw [e5, up2_key (by decide), e4, up2_ne (by decide), a0 _ (by decide), hS.e, hk]
    · rw [o 0 (by omega)] at hv
      rw [o5 _ (by decide) (by decide) (by decide), hS.p hv, o _ (by omega)]
    · rw [t5] at hl
      rw [e5, up2_row, c4]
      by_cases q : l = (σ 5).toNat + 1
      · subst q
        rw [updr_self]; exact (shZ_n hM).symm
      · rw [updr_ne q, e4, up2_key (by decide), a0 _ (by decide), hS.n (by omega)]
        exact (shZ_o hM h5 (by omega)).symm
    · rw [t5] at hl
      rw [o 0 (by omega)] at hv
      rw [e5, up2_key (by decide), e4, up2_key (by decide)]
      by_cases q : l = (σ 5).toNat + 1
      · subst q
        rw [a2 v hv]; exact (shZ_g hM h5 hv).symm
      · rw [a1 _ (by omega), hS.g (by omega) hv]
        exact (shZ_o hM h5 (by omega)).symm
    · rw [hk] at hi
      rw [o5 _ (by decide) (by decide) (by decide), hS.ev hi hw, o 6 (by omega), o _ (by omega)]
  · have hv' : v < (σ 0).toNat := by omega
    have hg := hV.g hv'
    refine at_of (n := 70) rfl (i := 14 * (σ 5).toNat + v) (by omega) (by omega) ?_
    rw [a1 _ (by omega), show I 303 (14 * (σ 5).toNat + v) = gAt σ v from hS.gA hv']
    refine at_of (n := 14) rfl (i := (gAt σ v).toNat) (by omega) (by omega) ?_
    rw [a0 _ (by decide), hn _ (by omega)]
    refine put_of (n := 70) rfl (i := 14 * ((σ 5).toNat + 1) + v) (by omega) (by omega) (fun I8 e8 => k hv' I8 ⟨fun q hq => by rw [e8, up2_key hq]; exact a0 q hq, fun i hi => ?_, fun u hu => ?_⟩)
    · rw [e8, up2_row, updr_ne (by omega)]; exact a1 i (by omega)
    · rw [e8, up2_row]
      by_cases q : u = v
      · rw [q, updr_self]
      · rw [updr_ne (by omega)]; exact a2 u (by omega)
theorem c_mergeGroups (hV : VS σ) (h5 : σ 5 < 4) (hR : RG 200 I J σ nm) (hS : RS 300 I σ) : wp_X11_mergeGroups I J (fun I' _ => RS 300 I' (shZ σ)) := by
  refine fr_X11_findPairs (c_findPairs hV hR hS) (fun I1 J1 h1 s1 => ?_)
  have S1 : RS 300 I1 σ := hS.fr s1
  have R1 : RG 200 I1 J1 σ nm := hR.fr s1
  refine fr_X5_numberMerged (c_numberMerged hV h1.1 h1.2) (fun I2 J2 h2 s2 => ?_)
  have S2 : RS 300 I2 σ := S1.fr s2
  have R2 : RG 200 I2 J2 σ nm := R1.fr s2
  exact fr_X8_raiseLevel (c_raiseLevel hV h5 S2 R2.n h2.1 h2.2) (fun I3 J3 h3 s3 => h3)
theorem c_whyNotShrink (hV : VS σ) (hR : RG 200 I J σ nm) (hS : RS 300 I σ) : wp_X11_whyNotShrink I J (fun r _ _ => r = if σ 5 = 4 then 1 else if pairZ σ = 0 then 2 else 0) := by
  have b5 := ms_5 hV.M
  have hl := hS.l
  refine ⟨rgK (by omega), fun c => fr_X11_findPairs (c_findPairs hV hR hS) (fun I1 J1 h1 s1 => ?_), fun c => by rw [if_pos (by omega)]⟩
  have hp := h1.2.1
  rw [if_neg (by omega)]
  by_cases q : pairZ σ = 0
  · rw [if_pos q] at hp
    rw [hp, if_pos q]
    exact ⟨rgK (by omega), fun _ => rfl, fun z => absurd rfl z⟩
  · rw [if_neg q] at hp
    rw [hp, if_neg q]
    exact ⟨rgK (by omega), fun z => absurd z (by decide), fun _ => rfl⟩
end SH
/-! ===== shrinking, the reference ===== -/
/-- the first group of the merged one -/
def repN (σ : Nat → Int) (x : Nat) : Nat := if mateZ σ x ≠ -1 ∧ mateZ σ x < (x : Int) then (mateZ σ x).toNat else x
theorem repN_head {σ : Nat → Int} (hM : MS σ) (x : Nat) : heads σ (repN σ x) := by
  unfold repN
  split
  · rename_i h
    exact (mate_head hM (fun z => z h)).1
  · rename_i h
    exact h
theorem repN_num {σ : Nat → Int} {x : Nat} (hx : x < (grs σ).toNat) : numZ σ (repN σ x) = numZ σ x := by
  unfold repN
  split
  · rename_i h
    exact (numZ_tail hx (fun z => z h)).symm
  · rfl
theorem repN_le {σ : Nat → Int} (x : Nat) : repN σ x ≤ x := by
  unfold repN
  split <;> omega
theorem repN_iff {σ : Nat → Int} (hM : MS σ) {g x : Nat} (hg : heads σ g) : repN σ x = g ↔ (x = g ∨ (mateZ σ g ≠ -1 ∧ (x : Int) = mateZ σ g)) := by
  constructor
  · intro e
    unfold repN at e
    split at e
    · rename_i h
      right
      have ok := (mate_ok hM x).resolve_left h.1
      have hb := ok.2.2.2.2.1
      rw [e] at hb
      exact ⟨by omega, hb.symm⟩
    · exact Or.inl e
  · rintro (e | ⟨e1, e2⟩)
    · subst e
      unfold repN
      rw [if_neg hg]
    · have ok := (mate_ok hM g).resolve_left e1
      have hb := ok.2.2.2.2.1
      have hx : (mateZ σ g).toNat = x := by omega
      rw [hx] at hb
      have hlt : ¬ mateZ σ g < (g : Int) := fun z => hg ⟨e1, z⟩
      unfold repN
      rw [hb, if_pos (by omega)]
      omega
/-- the row while shrinking: the groups below g are numbered, of g the vertices below v -/
def shPr (σ : Nat → Int) (g v : Nat) : Nat → Int := fun i =>
  if (35 + 14 * ((σ 5).toNat + 1) ≤ i ∧ i < 35 + 14 * ((σ 5).toNat + 1) + (σ 0).toNat) ∧ (repN σ (gAt σ (i - (35 + 14 * ((σ 5).toNat + 1)))).toNat < g ∨ (repN σ (gAt σ (i - (35 + 14 * ((σ 5).toNat + 1)))).toNat = g ∧ i - (35 + 14 * ((σ 5).toNat + 1)) < v)) then numZ σ (gAt σ (i - (35 + 14 * ((σ 5).toNat + 1)))).toNat else σ i
theorem shPr_o {σ : Nat → Int} {g v i : Nat} (h : i < 35 + 14 * ((σ 5).toNat + 1) ∨ 35 + 14 * ((σ 5).toNat + 1) + (σ 0).toNat ≤ i) : shPr σ g v i = σ i := by unfold shPr; rw [if_neg (by omega)]
theorem shPr_zero (σ : Nat → Int) : shPr σ 0 0 = σ := by funext i; unfold shPr; rw [if_neg (by omega)]
theorem shPr_end (σ : Nat → Int) (g : Nat) : shPr σ g (σ 0).toNat = shPr σ (g + 1) 0 := by
  funext i
  unfold shPr
  split
  · rw [if_pos (by omega)]
  · rw [if_neg (by omega)]
theorem shPr_skip {σ : Nat → Int} (hM : MS σ) {g : Nat} (h : ¬ heads σ g) : shPr σ g 0 = shPr σ (g + 1) 0 := by
  funext i
  unfold shPr
  have hn : repN σ (gAt σ (i - (35 + 14 * ((σ 5).toNat + 1)))).toNat ≠ g := fun e => h (by rw [← e]; exact repN_head hM _)
  split
  · rw [if_pos (by omega)]
  · rw [if_neg (by omega)]
theorem shPr_succ {σ : Nat → Int} {g v : Nat} (hv : v < (σ 0).toNat) : shPr σ g (v + 1) = if repN σ (gAt σ v).toNat = g then updr (shPr σ g v) (35 + 14 * ((σ 5).toNat + 1) + v) (numZ σ (gAt σ v).toNat) else shPr σ g v := by
  funext i
  by_cases hi : i = 35 + 14 * ((σ 5).toNat + 1) + v
  · subst hi
    split
    · rename_i h
      rw [updr_self]
      unfold shPr
      rw [show 35 + 14 * ((σ 5).toNat + 1) + v - (35 + 14 * ((σ 5).toNat + 1)) = v by omega, if_pos (by omega)]
    · rename_i h
      unfold shPr
      rw [show 35 + 14 * ((σ 5).toNat + 1) + v - (35 + 14 * ((σ 5).toNat + 1)) = v by omega]
      split
      · rw [if_pos (by omega)]
      · rw [if_neg (by omega)]
  · have e : shPr σ g (v + 1) i = shPr σ g v i := by
      unfold shPr
      split
      · rw [if_pos (by omega)]
      · rw [if_neg (by omega)]
    rw [e]
    split
    · rw [updr_ne hi]
    · rfl
theorem shPr_MS {σ : Nat → Int} (hV : VS σ) (h5 : σ 5 < 4) (g v : Nat) : ∀ i, shPr σ g v i = σ i ∨ (35 ≤ i ∧ i < 105 ∧ 0 ≤ shPr σ g v i ∧ shPr σ g v i ≤ 13) := fun i => by
  have hM := hV.M
  have b0 := ms_0 hM
  have b5 := ms_5 hM
  have gr := grs_b hM
  have cb : cntZ σ ≤ 14 := by have := nbZ_cnt σ (grs σ).toNat; unfold cntZ; omega
  by_cases c : 35 + 14 * ((σ 5).toNat + 1) ≤ i ∧ i < 35 + 14 * ((σ 5).toNat + 1) + (σ 0).toNat
  · have hg := hV.g (v := i - (35 + 14 * ((σ 5).toNat + 1))) (by omega)
    have nl := numZ_lt hM (g := (gAt σ (i - (35 + 14 * ((σ 5).toNat + 1)))).toNat) (by omega)
    unfold shPr
    split
    · exact Or.inr ⟨by omega, by omega, by omega, by omega⟩
    · exact Or.inl rfl
  · exact Or.inl (shPr_o (by omega))
theorem shPr_fin {σ : Nat → Int} (hV : VS σ) (h5 : σ 5 < 4) : updr (updr (shPr σ (grs σ).toNat 0) 5 (σ 5 + 1)) (105 + (σ 5).toNat + 1) (cntZ σ : Int) = shZ σ := by
  have hM := hV.M
  have b0 := ms_0 hM
  have b5 := ms_5 hM
  have gr := grs_b hM
  funext i
  by_cases q1 : i = 105 + (σ 5).toNat + 1
  · rw [q1, updr_self, shZ_n hM]
  · rw [updr_ne q1]
    by_cases q2 : i = 5
    · rw [q2, updr_self, shZ_5]
    · rw [updr_ne q2]
      unfold shZ
      rw [if_neg q2, if_neg q1]
      by_cases c : 35 + 14 * ((σ 5).toNat + 1) ≤ i ∧ i < 35 + 14 * ((σ 5).toNat + 1) + (σ 0).toNat
      · rw [if_pos c]
        have hg := hV.g (v := i - (35 + 14 * ((σ 5).toNat + 1))) (by omega)
        have := repN_le (σ := σ) (gAt σ (i - (35 + 14 * ((σ 5).toNat + 1)))).toNat
        unfold shPr
        rw [if_pos ⟨c, Or.inl (by omega)⟩]
      · rw [if_neg c]
        exact shPr_o (by omega)
/-- growing keeps what holds -/
theorem growZ_VS {σ : Nat → Int} (hV : VS σ) (h5 : 0 < σ 5) : VS (updr σ 5 (σ 5 - 1)) := by
  have hM := hV.M
  have b0 := ms_0 hM
  have b5 := ms_5 hM
  have o : ∀ i, i ≠ 5 → updr σ 5 (σ 5 - 1) i = σ i := fun i hi => updr_ne hi
  have e5 : updr σ 5 (σ 5 - 1) 5 = σ 5 - 1 := updr_self _ _ _
  have ol : ∀ l v, gL (updr σ 5 (σ 5 - 1)) l v = gL σ l v := fun l v => o _ (by omega)
  refine ⟨⟨?_, ?_, ?_, ?_, ?_, ?_, ?_, fun w hw => ?_, fun w hw => ?_, fun w hw => ?_, fun w hw => ?_, fun w hw => ?_, fun w hw => ?_, fun w hw => ?_, fun w hw => ?_⟩, ⟨fun e he => ?_, fun e f he hf => ?_⟩, fun v hv => ?_, fun v hv => ?_, ?_, fun l hl => ⟨fun v hv => ?_, fun g h0 h1 => ?_⟩, fun l u v hl hu hv => ?_, fun u v hu hv => ?_⟩
  · rw [o 0 (by omega)]; exact ms_0 hM
  · rw [o 1 (by omega)]; exact ms_1 hM
  · rw [o 2 (by omega)]; exact ms_2 hM
  · rw [o 3 (by omega)]; exact ms_3 hM
  · rw [o 4 (by omega)]; exact ms_4 hM
  · rw [e5]; omega
  · rw [o 6 (by omega)]; exact ms_6 hM
  · rw [o _ (by omega)]; exact ms_w hM w hw
  · rw [o _ (by omega)]; exact ms_p hM w hw
  · rw [o _ (by omega)]; exact ms_g hM w hw
  · rw [o _ (by omega)]; exact ms_n hM w hw
  · rw [o _ (by omega)]; exact ms_a hM w hw
  · rw [o _ (by omega)]; exact ms_b hM w hw
  · rw [o _ (by omega)]; exact ms_h hM w hw
  · rw [o _ (by omega)]; exact ms_e hM w hw
  · rw [o 1 (by omega)] at he
    rw [o 0 (by omega), o _ (by omega), o _ (by omega)]; exact hV.E.1 e he
  · rw [o 1 (by omega)] at he hf
    rw [o _ (by omega), o (110 + f) (by omega), o (150 + e) (by omega), o (150 + f) (by omega)]; exact hV.E.2 e f he hf
  · rw [o 0 (by omega)] at hv
    rw [o _ (by omega), o 2 (by omega)]; exact (hV.p hv).2
  · rw [o 0 (by omega)] at hv
    rw [ol]; exact hV.g0 hv
  · rw [o _ (by omega), o 0 (by omega)]; exact hV.n0
  · rw [e5] at hl
    rw [o 0 (by omega)] at hv
    rw [ol, o _ (by omega)]; exact (hV.L (l := l) (by omega)).1 v hv
  · rw [e5] at hl
    rw [o _ (by omega)] at h1
    obtain ⟨v, hv, e⟩ := (hV.L (l := l) (by omega)).2 g h0 h1
    exact ⟨v, by rw [o 0 (by omega)]; exact hv, by rw [ol]; exact e⟩
  · rw [e5] at hl
    rw [o 0 (by omega)] at hu hv
    rw [ol, ol, ol, ol]; exact hV.nest (by omega) hu hv
  · rw [o 0 (by omega)] at hu hv
    have e1 : ∀ w, gAt (updr σ 5 (σ 5 - 1)) w = gL σ ((σ 5).toNat - 1) w := fun w => by
      show updr σ 5 (σ 5 - 1) (35 + 14 * (updr σ 5 (σ 5 - 1) 5).toNat + w) = _
      rw [e5, o _ (by omega), show (σ 5 - 1).toNat = (σ 5).toNat - 1 by omega]; rfl
    rw [e1, e1, o _ (by omega), o _ (by omega)]
    intro e
    have := hV.nest (l := (σ 5).toNat - 1) (by omega) hu hv e
    rw [show (σ 5).toNat - 1 + 1 = (σ 5).toNat by omega] at this
    exact hV.one hu hv this
theorem growZ_GE (σ : Nat → Int) : GE σ (updr σ 5 (σ 5 - 1)) := fun i hi => updr_ne (by omega)
theorem RS_grow {I I' : Ii} {σ : Nat → Int} (hM : MS σ) (h5 : 0 < σ 5) (hS : RS 300 I σ) (h0 : I' 300 = updr (I 300) 0 (σ 5 - 1)) (h1 : I' 301 = I 301) (h2 : I' 302 = I 302) (h3 : I' 303 = I 303) (h4 : I' 304 = I 304) : RS 300 I' (updr σ 5 (σ 5 - 1)) := by
  have b5 := ms_5 hM
  have o : ∀ i, i ≠ 5 → updr σ 5 (σ 5 - 1) i = σ i := fun i hi => updr_ne hi
  have e5 : updr σ 5 (σ 5 - 1) 5 = σ 5 - 1 := updr_self _ _ _
  have hk : kev (updr σ 5 (σ 5 - 1)) = kev σ := by unfold kev; rw [o 6 (by omega)]
  refine ⟨?_, ?_, ?_, fun v hv => ?_, fun l hl => ?_, fun l v hl hv => ?_, fun i w hi hw => ?_⟩
  · rw [h0, updr_self, e5]
  · rw [h0, updr_ne (by decide), o 4 (by omega)]; exact hS.c
  · rw [h0, updr_ne (by decide), hk]; exact hS.e
  · rw [o 0 (by omega)] at hv
    rw [h1, o _ (by omega)]; exact hS.p hv
  · rw [e5] at hl
    rw [h2, o _ (by omega)]; exact hS.n (by omega)
  · rw [e5] at hl
    rw [o 0 (by omega)] at hv
    rw [h3, hS.g (by omega) hv]; exact (o _ (by omega)).symm
  · rw [hk] at hi
    rw [h4, o 6 (by omega), o _ (by omega)]; exact hS.ev hi hw


/-! ===== copies, what is kept, steps ===== -/
theorem cpP_lt {α : Type} {f g : Nat → α} {v i : Nat} (h : i < v) : cpP f g v i = f i := if_pos h
/-- what can be undone: the rows pf 0 .. pf (u - 1), the latest at the ring's place nw -/
def HR (I : Ii) (u nw : Nat) (pf : Nat → Nat → Int) : Prop := I 111 2 = (u : Int) ∧ I 111 1 = (nw : Int) ∧ u ≤ 6 ∧ nw < 6 ∧ ∀ j, j < u → RS (330 + 10 * ((nw + 6 - j) % 6)) I (pf (u - 1 - j))
/-- a move that is chosen is one to another part -/
theorem bmR_ne {σ : Nat → Int} (lw : Bool) (g : Nat) : ∀ {p : Nat} {a : Int × Int × Int}, p ≤ 10 → (a.1 = -1 ∨ gPt σ (a.1 / 10) ≠ a.1 % 10) → ((bmR σ lw g p a).1 = -1 ∨ gPt σ ((bmR σ lw g p a).1 / 10) ≠ (bmR σ lw g p a).1 % 10)
  | 0, a, _, h => h
  | p + 1, a, hp, h => by
    have ih := bmR_ne (σ := σ) lw g (p := p) (a := a) (by omega) h
    rw [show bmR σ lw g (p + 1) a = bmS σ lw g p (bmR σ lw g p a) from rfl]
    unfold bmS
    split
    · exact ih
    · rename_i h0
      split
      · exact ih
      · right
        show gPt σ ((10 * (g : Int) + (p : Int)) / 10) ≠ (10 * (g : Int) + (p : Int)) % 10
        rw [show (10 * (g : Int) + (p : Int)) / 10 = (g : Int) by omega, show (10 * (g : Int) + (p : Int)) % 10 = (p : Int) by omega]
        intro e
        apply h0
        left
        unfold wmZ
        rw [if_pos e]; omega
theorem bmZ_ne {σ : Nat → Int} (hM : MS σ) (lw : Bool) : ∀ (g : Nat), (bmZ σ lw g).1 = -1 ∨ gPt σ ((bmZ σ lw g).1 / 10) ≠ (bmZ σ lw g).1 % 10
  | 0 => Or.inl rfl
  | g + 1 => bmR_ne lw g (by have := ms_2 hM; omega) (bmZ_ne hM lw g)
theorem nxZ_ne {σ : Nat → Int} (hM : MS σ) (h : nxZ σ ≠ -1) : gPt σ (nxZ σ / 10) ≠ nxZ σ % 10 := by
  have key : nxZ σ = -1 ∨ gPt σ (nxZ σ / 10) ≠ nxZ σ % 10 := by
    unfold nxZ
    split
    · split
      · exact bmZ_ne hM false _
      · exact bmZ_ne hM true _
    · exact bmZ_ne hM false _
  exact key.resolve_left h
theorem VS_stp : ∀ (k : Nat) {σ : Nat → Int}, VS σ → σ 6 + (k : Int) ≤ 1000000000 → VS (stpZ k σ).2 ∧ GE σ (stpZ k σ).2
  | 0, σ, hV, _ => ⟨hV, GE.refl σ⟩
  | k + 1, σ, hV, h6 => by
    unfold stpZ
    split
    · exact ⟨hV, GE.refl σ⟩
    · rename_i h
      have hin := nxZ_in hV.M h
      have sk := step_keeps hV.M hV.GV (by omega) h
      have h1 := VS_stp k (VS_comes hV hin.1 hin.2 (by omega)) (by omega)
      exact ⟨h1.1, (comesZ_GE hV.M).trans h1.2⟩
section KP
variable {I : Ii} {J : Jj} {σ : Nat → Int} {nm : Nat → Int64} {k k0 k1 : Nat}
theorem c_copyS (hk0 : sK k0) (hk1 : sK k1) (hd : k1 < k0 ∨ k0 < k1) (hd2 : k1 + 10 ≤ k0 ∨ k0 + 10 ≤ k1) (hV : VS σ) (hS : RS k1 I σ) : wp_X8_copyFrom k0 k1 I J (fun I' _ => RS k0 I' σ) := by
  have b0 := ms_0 hV.M
  have b5 := ms_5 hV.M
  have kb := kev_b hV.M
  refine ⟨hk0, hk1, fun I1 e1 I2 e2 I3 e3 => copy_of (srX8_1 hk1) (srX8_1 hk0) (fun I4 e4 => copy_of (srX8_2 hk1) (srX8_2 hk0) (fun I5 e5 => copy_of (srX8_3 hk1) (srX8_3 hk0) (fun I6 e6 => copy_of (srX8_4 hk1) (srX8_4 hk0) (fun I7 e7 => ?_))))⟩
  have o3 : ∀ q, q ≠ k0 → I3 q = I q := fun q hq => by rw [e3, up2_key hq, e2, up2_key hq, e1, up2_key hq]
  have a0 : I7 k0 = I3 k0 := by rw [e7, upr_ne (by omega), e6, upr_ne (by omega), e5, upr_ne (by omega), e4, upr_ne (by omega)]
  have a1 : I7 (k0 + 1) = cpP (I (k1 + 1)) (I (k0 + 1)) 14 := by rw [e7, upr_ne (by omega), e6, upr_ne (by omega), e5, upr_ne (by omega), e4, upr_self, o3 _ (by omega), o3 _ (by omega)]
  have a2 : I7 (k0 + 2) = cpP (I (k1 + 2)) (I (k0 + 2)) 5 := by rw [e7, upr_ne (by omega), e6, upr_ne (by omega), e5, upr_self, e4, upr_ne (by omega), upr_ne (by omega), o3 _ (by omega), o3 _ (by omega)]
  have a3 : I7 (k0 + 3) = cpP (I (k1 + 3)) (I (k0 + 3)) 70 := by rw [e7, upr_ne (by omega), e6, upr_self, e5, upr_ne (by omega), upr_ne (by omega), e4, upr_ne (by omega), upr_ne (by omega), o3 _ (by omega), o3 _ (by omega)]
  have a4 : I7 (k0 + 4) = cpP (I (k1 + 4)) (I (k0 + 4)) 120 := by rw [e7, upr_self, e6, upr_ne (by omega), upr_ne (by omega), e5, upr_ne (by omega), upr_ne (by omega), e4, upr_ne (by omega), upr_ne (by omega), o3 _ (by omega), o3 _ (by omega)]
  refine ⟨?_, ?_, ?_, fun v hv => ?_, fun l hl => ?_, fun l v hl hv => ?_, fun i w hi hw => ?_⟩
  · rw [a0, e3, up2_ne (by omega), e2, up2_ne (by omega), e1, up2_self]; exact hS.l
  · rw [a0, e3, up2_ne (by omega), e2, up2_self, e1, up2_key (by omega)]; exact hS.c
  · rw [a0, e3, up2_self, e2, up2_key (by omega), e1, up2_key (by omega)]; exact hS.e
  · rw [a1, cpP_lt (by omega)]; exact hS.p hv
  · rw [a2, cpP_lt (by omega)]; exact hS.n hl
  · rw [a3, cpP_lt (by omega)]; exact hS.g hl hv
  · rw [a4, cpP_lt (by omega)]; exact hS.ev hi hw
theorem c_copyG (hk0 : gK k0) (hk1 : gK k1) (hd : k1 + 10 ≤ k0 ∨ k0 + 10 ≤ k1) (hV : MS σ) (hR : RG k1 I J σ nm) : wp_X2_copyFrom k0 k1 I J (fun I' J' => RG k0 I' J' σ nm ∧ I' k0 4 = I k1 4) := by
  have b0 := ms_0 hV
  have b1 := ms_1 hV
  refine ⟨hk0, hk1, fun I1 e1 I2 e2 I3 e3 I4 e4 I5 e5 I6 e6 I7 e7 => ⟨by omega, fun J9 e9 => copy_of (srX2_2 hk1) (srX2_2 hk0) (fun I10 e10 => copy_of (srX2_3 hk1) (srX2_3 hk0) (fun I11 e11 => copy_of (srX2_4 hk1) (srX2_4 hk0) (fun I12 e12 => copy_of (srX2_5 hk1) (srX2_5 hk0) (fun I13 e13 => ?_))))⟩⟩
  have o7 : ∀ q, q ≠ k0 → I7 q = I q := fun q hq => by rw [e7, up2_key hq, e6, up2_key hq, e5, up2_key hq, e4, up2_key hq, e3, up2_key hq, e2, up2_key hq, e1, up2_key hq]
  have a0 : I13 k0 = I7 k0 := by rw [e13, upr_ne (by omega), e12, upr_ne (by omega), e11, upr_ne (by omega), e10, upr_ne (by omega)]
  have a2 : I13 (k0 + 2) = cpP (I (k1 + 2)) (I (k0 + 2)) 14 := by rw [e13, upr_ne (by omega), e12, upr_ne (by omega), e11, upr_ne (by omega), e10, upr_self, o7 _ (by omega), o7 _ (by omega)]
  have a3 : I13 (k0 + 3) = cpP (I (k1 + 3)) (I (k0 + 3)) 40 := by rw [e13, upr_ne (by omega), e12, upr_ne (by omega), e11, upr_self, e10, upr_ne (by omega), upr_ne (by omega), o7 _ (by omega), o7 _ (by omega)]
  have a4 : I13 (k0 + 4) = cpP (I (k1 + 4)) (I (k0 + 4)) 40 := by rw [e13, upr_ne (by omega), e12, upr_self, e11, upr_ne (by omega), upr_ne (by omega), e10, upr_ne (by omega), upr_ne (by omega), o7 _ (by omega), o7 _ (by omega)]
  have a5 : I13 (k0 + 5) = cpP (I (k1 + 5)) (I (k0 + 5)) 40 := by rw [e13, upr_self, e12, upr_ne (by omega), upr_ne (by omega), e11, upr_ne (by omega), upr_ne (by omega), e10, upr_ne (by omega), upr_ne (by omega), o7 _ (by omega), o7 _ (by omega)]
  have b : I7 k0 0 = I k1 0 ∧ I7 k0 1 = I k1 1 ∧ I7 k0 2 = I k1 2 ∧ I7 k0 3 = I k1 3 ∧ I7 k0 4 = I k1 4 ∧ I7 k0 5 = I k1 5 ∧ I7 k0 6 = I k1 6 := by
    have n : k1 ≠ k0 := by omega
    refine ⟨?_, ?_, ?_, ?_, ?_, ?_, ?_⟩
    · rw [e7, up2_ne (by omega), e6, up2_ne (by omega), e5, up2_ne (by omega), e4, up2_ne (by omega), e3, up2_ne (by omega), e2, up2_ne (by omega), e1, up2_self]
    · rw [e7, up2_ne (by omega), e6, up2_ne (by omega), e5, up2_ne (by omega), e4, up2_ne (by omega), e3, up2_ne (by omega), e2, up2_self, e1, up2_key n]
    · rw [e7, up2_ne (by omega), e6, up2_ne (by omega), e5, up2_ne (by omega), e4, up2_ne (by omega), e3, up2_self, e2, up2_key n, e1, up2_key n]
    · rw [e7, up2_ne (by omega), e6, up2_ne (by omega), e5, up2_ne (by omega), e4, up2_self, e3, up2_key n, e2, up2_key n, e1, up2_key n]
    · rw [e7, up2_ne (by omega), e6, up2_ne (by omega), e5, up2_self, e4, up2_key n, e3, up2_key n, e2, up2_key n, e1, up2_key n]
    · rw [e7, up2_ne (by omega), e6, up2_self, e5, up2_key n, e4, up2_key n, e3, up2_key n, e2, up2_key n, e1, up2_key n]
    · rw [e7, up2_self, e6, up2_key n, e5, up2_key n, e4, up2_key n, e3, up2_key n, e2, up2_key n, e1, up2_key n]
  refine ⟨⟨by rw [a0, b.1]; exact hR.n, by rw [a0, b.2.1]; exact hR.m, by rw [a0, b.2.2.1]; exact hR.q, by rw [a0, b.2.2.2.1]; exact hR.s, by rw [a0, b.2.2.2.2.2.1]; exact hR.aw, by rw [a0, b.2.2.2.2.2.2]; exact hR.ae, fun v hv => ?_, fun v hv => ?_, fun e he => ?_, fun e he => ?_, fun e he => ?_⟩, by rw [a0, b.2.2.2.2.1]⟩
  · rw [a2, cpP_lt (by omega)]; exact hR.w hv
  · rw [e9, upr_self, va_cpy0, cpP_lt (by omega)]; exact hR.z hv
  · rw [a3, cpP_lt (by omega)]; exact hR.a he
  · rw [a4, cpP_lt (by omega)]; exact hR.b he
  · rw [a5, cpP_lt (by omega)]; exact hR.h he
theorem entry_of {x : Int} {i : Nat} (hx : x = (i : Int)) (hi : i < 6) {Q : Option Nat → Ii → Jj → Prop} (h : Q (some (330 + 10 * i)) I J) : wp_X3_entry x I J Q := by
  subst hx
  exact ⟨rgK (by omega), fun c => by omega, fun c => ⟨fun c2 => by omega, fun c2 => ⟨by omega, h⟩⟩⟩
theorem c_keep {u nw : Nat} {pf : Nat → Nat → Int} (hV : VS σ) (hS : RS 300 I σ) (hH : HR I u nw pf) : wp_X3_keep 300 I J (fun I' _ => ∃ nw', (u < 6 → ∀ pf', (∀ i, i < u → pf' i = pf i) → pf' u = σ → HR I' (u + 1) nw' pf') ∧ (u = 6 → ∀ pf', (∀ i, i < 5 → pf' i = pf (i + 1)) → pf' 5 = σ → HR I' 6 nw' pf')) := by
  obtain ⟨hu, hn, hu6, hn6, hr⟩ := hH
  refine ⟨sK300, by omega, fun I2 e2 => ?_⟩
  have w2 : I2 111 1 = (((nw + 1) % 6 : Nat) : Int) := by rw [e2, up2_self, hn]; omega
  have o2 : ∀ q, q ≠ 111 → I2 q = I q := fun q hq => by rw [e2, up2_key hq]
  have u2 : I2 111 2 = (u : Int) := by rw [e2, up2_ne (by decide), hu]
  refine entry_of w2 (by omega) ⟨(fun z => by cases z), fun k4 hk4 => ?_⟩
  have hk4 : k4 = 330 + 10 * ((nw + 1) % 6) := by
    cases hk4; rfl
  have hc : k4 = 330 ∨ k4 = 340 ∨ k4 = 350 ∨ k4 = 360 ∨ k4 = 370 ∨ k4 = 380 := by omega
  refine ⟨hc, ?_⟩
  have S2 : RS 300 I2 σ := hS.cong (o2 _ (by decide)) (o2 _ (by decide)) (o2 _ (by decide)) (o2 _ (by decide)) (o2 _ (by decide))
  refine fr_X8_copyFrom (c_copyS (sK_of hc) sK300 (by omega) (by omega) hV S2) (fun I5 J5 h5 s5 => ?_)
  have o5 : ∀ q, (q < k4 ∨ k4 + 4 < q) → I5 q = I2 q := fun q hq => s5.rI (W_X8_copyFrom_n (by
    have : q ≠ k4 ∧ q ≠ k4 + 1 ∧ q ≠ k4 + 2 ∧ q ≠ k4 + 3 ∧ q ≠ k4 + 4 := by omega
    simp [wlk, Ne.symm this.1, Ne.symm this.2.1, Ne.symm this.2.2.1, Ne.symm this.2.2.2.1, Ne.symm this.2.2.2.2]))
  have u5 : I5 111 2 = (u : Int) := by rw [o5 _ (by omega), u2]
  have fin : ∀ (I7 : Ii) (x : Int), I7 = up2 I5 111 2 x → x = (if u < 6 then (u : Int) + 1 else 6) → ∃ nw', (u < 6 → ∀ pf', (∀ i, i < u → pf' i = pf i) → pf' u = σ → HR I7 (u + 1) nw' pf') ∧ (u = 6 → ∀ pf', (∀ i, i < 5 → pf' i = pf (i + 1)) → pf' 5 = σ → HR I7 6 nw' pf') := by
    intro I7 x e7 hx
    have o7 : ∀ q, q ≠ 111 → I7 q = I5 q := fun q hq => by rw [e7, up2_key hq]
    have n7 : I7 111 1 = (((nw + 1) % 6 : Nat) : Int) := by rw [e7, up2_ne (by decide), o5 _ (by omega), w2]
    have new : RS k4 I7 σ := h5.cong (o7 _ (by omega)) (o7 _ (by omega)) (o7 _ (by omega)) (o7 _ (by omega)) (o7 _ (by omega))
    have old : ∀ j, j < u → j < 5 → RS (330 + 10 * ((nw + 6 - j) % 6)) I7 (pf (u - 1 - j)) := fun j hj hj5 => by
      have h := hr j hj
      have ne : 330 + 10 * ((nw + 6 - j) % 6) + 10 ≤ k4 ∨ k4 + 10 ≤ 330 + 10 * ((nw + 6 - j) % 6) := by omega
      have hK3 : 330 ≤ 330 + 10 * ((nw + 6 - j) % 6) := by omega
      generalize 330 + 10 * ((nw + 6 - j) % 6) = K at h ne hK3
      have hK : ∀ q, K ≤ q → q ≤ K + 4 → q ≠ 111 → I7 q = I q := fun q h1 h2 h3 => by rw [o7 q h3, o5 q (by omega), o2 q h3]
      exact h.cong (hK _ (by omega) (by omega) (by omega)) (hK _ (by omega) (by omega) (by omega)) (hK _ (by omega) (by omega) (by omega)) (hK _ (by omega) (by omega) (by omega)) (hK _ (by omega) (by omega) (by omega))
    refine ⟨(nw + 1) % 6, fun hu' pf' h1 h2 => ⟨by rw [e7, up2_self, hx, if_pos hu']; omega, n7, by omega, by omega, fun j hj => ?_⟩, fun hu' pf' h1 h2 => ⟨by rw [e7, up2_self, hx, if_neg (by omega)]; rfl, n7, by omega, by omega, fun j hj => ?_⟩⟩
    · cases j with
      | zero =>
        rw [show ((nw + 1) % 6 + 6 - 0) % 6 = (nw + 1) % 6 by omega, ← hk4, show u + 1 - 1 - 0 = u by omega, h2]
        exact new
      | succ j =>
        rw [show ((nw + 1) % 6 + 6 - (j + 1)) % 6 = (nw + 6 - j) % 6 by omega, show u + 1 - 1 - (j + 1) = u - 1 - j by omega, h1 _ (by omega)]
        exact old j (by omega) (by omega)
    · cases j with
      | zero =>
        rw [show ((nw + 1) % 6 + 6 - 0) % 6 = (nw + 1) % 6 by omega, ← hk4, h2]
        exact new
      | succ j =>
        rw [show ((nw + 1) % 6 + 6 - (j + 1)) % 6 = (nw + 6 - j) % 6 by omega, h1 _ (by omega), show 6 - 1 - (j + 1) + 1 = u - 1 - j by omega]
        exact old j (by omega) (by omega)
  rw [u5]
  exact min_of (rgK (by omega)) (rgK (by omega)) (fun d I7 e7 => fin I7 _ e7 (by rw [if_neg (by omega)])) (fun d I7 e7 => fin I7 _ e7 (by
    by_cases q : u < 6
    · rw [if_pos q]
    · omega))
theorem c_takeBack {u nw : Nat} {pf : Nat → Nat → Int} (hV : ∀ i, i < u → VS (pf i)) (hH : HR I u nw pf) : wp_X3_takeBack 300 I J (fun r I' _ => (u = 0 → r = 0 ∧ I' = I) ∧ (0 < u → r = 1 ∧ RS 300 I' (pf (u - 1)) ∧ ∃ nw', HR I' (u - 1) nw' pf)) := by
  obtain ⟨hu, hn, hu6, hn6, hr⟩ := hH
  refine ⟨sK300, entry_of hn hn6 ⟨rgK (by omega), fun d => ⟨fun _ => ⟨rfl, rfl⟩, fun z => by omega⟩, fun d => ⟨(fun z => by cases z), fun k3 hk3 => ?_⟩⟩⟩
  have hk3 : k3 = 330 + 10 * nw := by
    cases hk3; rfl
  have hc : k3 = 330 ∨ k3 = 340 ∨ k3 = 350 ∨ k3 = 360 ∨ k3 = 370 ∨ k3 = 380 := by omega
  have h0 := hr 0 (by omega)
  rw [show (nw + 6 - 0) % 6 = nw by omega, ← hk3, Nat.sub_zero] at h0
  refine ⟨hc, fr_X8_copyFrom (c_copyS sK300 (sK_of hc) (by omega) (by omega) (hV _ (by omega)) h0) (fun I4 J4 h4 s4 => ?_)⟩
  have o4 : ∀ q, (q < 300 ∨ 304 < q) → I4 q = I q := fun q hq => s4.rI (W_X8_copyFrom_n (by
    have : q ≠ 300 ∧ q ≠ 301 ∧ q ≠ 302 ∧ q ≠ 303 ∧ q ≠ 304 := by omega
    simp [wlk, Ne.symm this.1, Ne.symm this.2.1, Ne.symm this.2.2.1, Ne.symm this.2.2.2.1, Ne.symm this.2.2.2.2]))
  have n4 : I4 111 1 = (nw : Int) := by rw [o4 _ (by decide), hn]
  refine ⟨by omega, fun I6 e6 I7 e7 => ⟨fun z => by omega, fun _ => ⟨rfl, ?_, (nw + 5) % 6, ?_, ?_, by omega, by omega, fun j hj => ?_⟩⟩⟩
  · have o7 : ∀ q, q ≠ 111 → I7 q = I4 q := fun q hq => by rw [e7, up2_key hq, e6, up2_key hq]
    exact h4.cong (o7 _ (by decide)) (o7 _ (by decide)) (o7 _ (by decide)) (o7 _ (by decide)) (o7 _ (by decide))
  · rw [e7, up2_self, e6, up2_ne (by decide), o4 _ (by decide), hu]; omega
  · rw [e7, up2_ne (by decide), e6, up2_self, n4]; omega
  · have h := hr (j + 1) (by omega)
    rw [show ((nw + 5) % 6 + 6 - j) % 6 = (nw + 6 - (j + 1)) % 6 by omega, show u - 1 - 1 - j = u - 1 - (j + 1) by omega]
    have o7 : ∀ q, 304 < q → I7 q = I q := fun q hq => by rw [e7, up2_key (by omega), e6, up2_key (by omega), o4 q (by omega)]
    exact h.cong (o7 _ (by omega)) (o7 _ (by omega)) (o7 _ (by omega)) (o7 _ (by omega)) (o7 _ (by omega))
end KP
section MK
variable {I : Ii} {J : Jj} {σ : Nat → Int} {nm : Nat → Int64} {k : Nat}
theorem c_makeSteps (hk : k = 300 ∨ k = 310) {m : Nat} (hm : m ≤ 200) (hV : VS σ) (hR : RG 200 I J σ nm) (hS : RS k I σ) (h6 : σ 6 + (m : Int) ≤ 1000000000) : wp_X11_makeSteps k (m : Int) I J (fun r I' _ => r = ((stpZ m σ).1 : Int) ∧ RS k I' (stpZ m σ).2) := by
  have hsk : sK k := by rcases hk with rfl | rfl; exact sK300; exact sK310
  refine ⟨hsk, m + 1, ?_⟩
  have key : ∀ (n made left : Nat) (τ : Nat → Int) (a : Ii) (b : Jj), m = made + left → left + 1 ≤ n → VS τ → RG 200 a b τ nm → RS k a τ → τ 6 + (left : Int) ≤ 1000000000 → stpZ m σ = ((stpZ left τ).1 + made, (stpZ left τ).2) → L_X11_makeSteps_2 k (m : Int) (fun r I' _ => r = ((stpZ m σ).1 : Int) ∧ RS k I' (stpZ m σ).2) n (made : Int) a b := by
    intro n
    induction n with
    | zero => intro made left τ a b h1 h2; omega
    | succ n ih =>
      intro made left τ a b h1 h2 hV hR hS h6 he
      refine ls_X11_makeSteps_2 ?_
      unfold Lb_X11_makeSteps_2
      refine ⟨rgK (by omega), rgK (by omega), fun c => ?_, fun c => ?_⟩
      · have hl : left = 0 := by omega
        subst hl
        rw [he]
        exact ⟨by show (m : Int) = ((0 + made : Nat) : Int); omega, hS⟩
      · refine fr_X4_take (c_take hsk hV hR hS) (fun I3 J3 hE s3 => ?_)
        have R3 : RG 200 I3 J3 τ nm := hR.fr s3
        have S3 : RS k I3 τ := hS.fr s3 (by rcases hk with rfl | rfl <;> rfl)
        have bx := nxZ_b hV.M
        obtain ⟨l, rfl⟩ : ∃ l, left = l + 1 := ⟨left - 1, by omega⟩
        refine chosenStep_of hV hE ⟨rgK (by omega), fun d => ?_, fun d => ?_⟩
        · have hin := nxZ_in hV.M d
          have hne := nxZ_ne hV.M d
          have gr := grs_b hV.M
          have b2 := ms_2 hV.M
          refine ⟨by omega, by omega, ?_⟩
          have e1 : (((nxZ τ / 10).toNat : Nat) : Int) = nxZ τ / 10 := by omega
          have e2 : (((nxZ τ % 10).toNat : Nat) : Int) = nxZ τ % 10 := by omega
          have ht := c_transfer (J := J3) hsk hV hE S3 (g := (nxZ τ / 10).toNat) (p := (nxZ τ % 10).toNat) e1.symm (by omega) e2.symm (by omega) (by rw [e1, e2]; exact hne)
          refine fr_X11_transfer ht (fun I8 J8 h8 s8 => ?_)
          rw [e1, e2] at h8
          have R8 : RG 200 I8 J8 τ nm := R3.fr s8 (by rcases hk with rfl | rfl <;> rfl)
          have sk := step_keeps hV.M hV.GV (by omega) d
          have := ih (made + 1) l (comesZ τ (nxZ τ / 10) (nxZ τ % 10)) I8 J8 (by omega) (by omega) (VS_comes hV hin.1 hin.2 (by omega)) (R8.ge (comesZ_GE hV.M) hV.M) h8 (by omega) (by
            rw [he]
            conv => lhs; unfold stpZ
            rw [if_neg d]
            simp only [Prod.mk.injEq, and_true]
            omega)
          rwa [show (((made + 1 : Nat)) : Int) = (made : Int) + 1 by omega] at this
        · have e : stpZ (l + 1) τ = (0, τ) := by unfold stpZ; rw [if_pos d]
          rw [he, e]
          exact ⟨by show (made : Int) = ((0 + made : Nat) : Int); omega, S3⟩
  exact key (m + 1) 0 m σ I J (by omega) (by omega) hV hR hS h6 rfl
theorem c_takeTo {x y : Int} {g p : Nat} (hV : VS σ) (hR : RG 200 I J σ nm) (hS : RS 300 I σ) (hx : x = (g : Int)) (hg : (g : Int) < grs σ) (hy : y = (p : Int)) (hp : (p : Int) < σ 2) (hne : gPt σ g ≠ p) : wp_X11_takeTo x y I J (fun I' _ => RS 300 I' (comesZ σ g p)) := by
  refine fr_X4_take (c_take sK300 hV hR hS) (fun I3 J3 hE s3 => ?_)
  exact fr_X11_transfer (c_transfer sK300 hV hE (hS.fr s3) hx hg hy hp hne) (fun I8 J8 h8 s8 => h8)
end MK

/-! ===== the class's graph and sharing, by the reference's row ===== -/
/-- the graph at key k tells what the row and the names tell -/
def RG (k : Nat) (I : Ii) (J : Jj) (σ : Nat → Int) (nm : Nat → Int64) : Prop :=
  I k 0 = σ 0 ∧ I k 1 = σ 1 ∧ I k 2 = σ 2 ∧ I k 3 = σ 3 ∧ I k 5 = allW σ ∧ I k 6 = allE σ ∧
  (∀ v, v < (σ 0).toNat → I (k + 2) v = σ (7 + v)) ∧ (∀ v, v < (σ 0).toNat → J (k + 1) v = nm v) ∧
  (∀ e, e < (σ 1).toNat → I (k + 3) e = σ (110 + e)) ∧ (∀ e, e < (σ 1).toNat → I (k + 4) e = σ (150 + e)) ∧ (∀ e, e < (σ 1).toNat → I (k + 5) e = σ (190 + e))
/-- the group of a vertex at a level -/
def gL (σ : Nat → Int) (l v : Nat) : Int := σ (35 + 14 * l + v)
/-- how many events are kept -/
def kev (σ : Nat → Int) : Int := if σ 6 < 30 then σ 6 else 30
/-- the sharing at key k tells what the row tells -/
def RS (k : Nat) (I : Ii) (σ : Nat → Int) : Prop :=
  I k 0 = σ 5 ∧ I k 1 = σ 4 ∧ I k 2 = kev σ ∧ (∀ v, v < (σ 0).toNat → I (k + 1) v = σ (21 + v)) ∧
  (∀ l, l ≤ (σ 5).toNat → I (k + 2) l = σ (105 + l)) ∧ (∀ l v, l ≤ (σ 5).toNat → v < (σ 0).toNat → I (k + 3) (14 * l + v) = gL σ l v) ∧
  (∀ i w, i < (kev σ).toNat → w < 4 → I (k + 4) (4 * i + w) = σ (230 + 4 * ((σ 6 - 1 - (i : Int)) % 30).toNat + w))
/-- what holds of a row besides its bounds -/
def VE (σ : Nat → Int) : Prop := (∀ e, e < (σ 1).toNat → σ (110 + e) < σ 0 ∧ σ (150 + e) < σ 0 ∧ σ (110 + e) ≠ σ (150 + e)) ∧
  (∀ e f, e < (σ 1).toNat → f < (σ 1).toNat → (σ (110 + e) = σ (110 + f) ∧ σ (150 + e) = σ (150 + f)) ∨ (σ (110 + e) = σ (150 + f) ∧ σ (150 + e) = σ (110 + f)) → e = f)
def VL (σ : Nat → Int) (l : Nat) : Prop := (∀ v, v < (σ 0).toNat → gL σ l v < σ (105 + l)) ∧ ∀ g : Int, 0 ≤ g → g < σ (105 + l) → ∃ v, v < (σ 0).toNat ∧ gL σ l v = g
def VS (σ : Nat → Int) : Prop := MS σ ∧ VE σ ∧ (∀ v, v < (σ 0).toNat → σ (21 + v) < σ 2) ∧ (∀ v, v < (σ 0).toNat → gL σ 0 v = (v : Int)) ∧ σ 105 = σ 0 ∧
  (∀ l, l ≤ (σ 5).toNat → VL σ l) ∧ (∀ l u v, l < (σ 5).toNat → u < (σ 0).toNat → v < (σ 0).toNat → gL σ l u = gL σ l v → gL σ (l + 1) u = gL σ (l + 1) v) ∧
  (∀ u v, u < (σ 0).toNat → v < (σ 0).toNat → gAt σ u = gAt σ v → σ (21 + u) = σ (21 + v))
section VSF
variable {σ : Nat → Int}
theorem VS.M (h : VS σ) : MS σ := h.1
theorem VS.E (h : VS σ) : VE σ := h.2.1
theorem VS.p (h : VS σ) {v : Nat} (hv : v < (σ 0).toNat) : 0 ≤ σ (21 + v) ∧ σ (21 + v) < σ 2 := ⟨(ms_p h.1 v (by have := ms_0 h.1; omega)).1, h.2.2.1 v hv⟩
theorem VS.g0 (h : VS σ) {v : Nat} (hv : v < (σ 0).toNat) : gL σ 0 v = (v : Int) := h.2.2.2.1 v hv
theorem VS.n0 (h : VS σ) : σ 105 = σ 0 := h.2.2.2.2.1
theorem VS.L (h : VS σ) {l : Nat} (hl : l ≤ (σ 5).toNat) : VL σ l := h.2.2.2.2.2.1 l hl
theorem VS.nest (h : VS σ) {l u v : Nat} (hl : l < (σ 5).toNat) (hu : u < (σ 0).toNat) (hv : v < (σ 0).toNat) (e : gL σ l u = gL σ l v) : gL σ (l + 1) u = gL σ (l + 1) v := h.2.2.2.2.2.2.1 l u v hl hu hv e
theorem VS.one (h : VS σ) {u v : Nat} (hu : u < (σ 0).toNat) (hv : v < (σ 0).toNat) (e : gAt σ u = gAt σ v) : σ (21 + u) = σ (21 + v) := h.2.2.2.2.2.2.2 u v hu hv e
theorem VS.a (h : VS σ) {e : Nat} (he : e < (σ 1).toNat) : 0 ≤ σ (110 + e) ∧ σ (110 + e) < σ 0 := ⟨(ms_a h.1 e (by have := ms_1 h.1; omega)).1, (h.2.1.1 e he).1⟩
theorem VS.b (h : VS σ) {e : Nat} (he : e < (σ 1).toNat) : 0 ≤ σ (150 + e) ∧ σ (150 + e) < σ 0 := ⟨(ms_b h.1 e (by have := ms_1 h.1; omega)).1, (h.2.1.1 e he).2.1⟩
theorem VS.ab (h : VS σ) {e : Nat} (he : e < (σ 1).toNat) : σ (110 + e) ≠ σ (150 + e) := (h.2.1.1 e he).2.2
theorem VS.w (h : VS σ) {e : Nat} (he : e < (σ 1).toNat) : 0 ≤ σ (190 + e) ∧ σ (190 + e) ≤ 99 := ms_h h.1 e (by have := ms_1 h.1; omega)
theorem VS.g (h : VS σ) {v : Nat} (hv : v < (σ 0).toNat) : 0 ≤ gAt σ v ∧ gAt σ v < grs σ := ⟨(gAt_b h.1 (by have := ms_0 h.1; omega)).1, (h.L (Nat.le_refl _)).1 v hv⟩
theorem VS.GV (h : VS σ) : GV σ := (h.L (Nat.le_refl _)).2
theorem VS.gl (h : VS σ) {l v : Nat} (hl : l ≤ (σ 5).toNat) (hv : v < (σ 0).toNat) : 0 ≤ gL σ l v ∧ gL σ l v < σ (105 + l) := by
  have b0 := ms_0 h.1
  have b5 := ms_5 h.1
  exact ⟨(ms_g2 h.1 (14 * l) v (by omega)).1, (h.L hl).1 v hv⟩
/-- a group's part is that of each of its vertices -/
theorem VS.gp (h : VS σ) {v : Nat} (hv : v < (σ 0).toNat) : gPt σ (gAt σ v) = σ (21 + v) := by
  have b0 := ms_0 h.1
  have hl : ¬ v < fv (fun u => decide (gAt σ u = gAt σ v)) 14 := fun z => by
    have := fv_min z
    simp at this
  have h1 := fv_lt (c := fun u => decide (gAt σ u = gAt σ v)) (n := 14) (by omega)
  unfold gPt
  exact h.one (by omega) hv (of_decide_eq_true h1)
theorem VS.gpb (h : VS σ) {g : Int} (h0 : 0 ≤ g) (h1 : g < grs σ) : 0 ≤ gPt σ g ∧ gPt σ g < σ 2 := by
  obtain ⟨v, hv, e⟩ := h.GV g h0 h1
  rw [← e, h.gp hv]
  exact h.p hv
end VSF
section RGF
variable {k : Nat} {I : Ii} {J : Jj} {σ : Nat → Int} {nm : Nat → Int64}
theorem RG.n (h : RG k I J σ nm) : I k 0 = σ 0 := h.1
theorem RG.m (h : RG k I J σ nm) : I k 1 = σ 1 := h.2.1
theorem RG.q (h : RG k I J σ nm) : I k 2 = σ 2 := h.2.2.1
theorem RG.s (h : RG k I J σ nm) : I k 3 = σ 3 := h.2.2.2.1
theorem RG.aw (h : RG k I J σ nm) : I k 5 = allW σ := h.2.2.2.2.1
theorem RG.ae (h : RG k I J σ nm) : I k 6 = allE σ := h.2.2.2.2.2.1
theorem RG.w (h : RG k I J σ nm) {v : Nat} (hv : v < (σ 0).toNat) : I (k + 2) v = σ (7 + v) := h.2.2.2.2.2.2.1 v hv
theorem RG.z (h : RG k I J σ nm) {v : Nat} (hv : v < (σ 0).toNat) : J (k + 1) v = nm v := h.2.2.2.2.2.2.2.1 v hv
theorem RG.a (h : RG k I J σ nm) {e : Nat} (he : e < (σ 1).toNat) : I (k + 3) e = σ (110 + e) := h.2.2.2.2.2.2.2.2.1 e he
theorem RG.b (h : RG k I J σ nm) {e : Nat} (he : e < (σ 1).toNat) : I (k + 4) e = σ (150 + e) := h.2.2.2.2.2.2.2.2.2.1 e he
theorem RG.h (h : RG k I J σ nm) {e : Nat} (he : e < (σ 1).toNat) : I (k + 5) e = σ (190 + e) := h.2.2.2.2.2.2.2.2.2.2 e he
theorem RG.cong {I' : Ii} {J' : Jj} (h : RG k I J σ nm) (e0 : I' k = I k) (e1 : J' (k + 1) = J (k + 1)) (e2 : I' (k + 2) = I (k + 2)) (e3 : I' (k + 3) = I (k + 3)) (e4 : I' (k + 4) = I (k + 4)) (e5 : I' (k + 5) = I (k + 5)) : RG k I' J' σ nm := by
  unfold RG
  rw [e0, e1, e2, e3, e4, e5]
  exact h
theorem RS.l (h : RS k I σ) : I k 0 = σ 5 := h.1
theorem RS.c (h : RS k I σ) : I k 1 = σ 4 := h.2.1
theorem RS.e (h : RS k I σ) : I k 2 = kev σ := h.2.2.1
theorem RS.p (h : RS k I σ) {v : Nat} (hv : v < (σ 0).toNat) : I (k + 1) v = σ (21 + v) := h.2.2.2.1 v hv
theorem RS.n (h : RS k I σ) {l : Nat} (hl : l ≤ (σ 5).toNat) : I (k + 2) l = σ (105 + l) := h.2.2.2.2.1 l hl
theorem RS.g (h : RS k I σ) {l v : Nat} (hl : l ≤ (σ 5).toNat) (hv : v < (σ 0).toNat) : I (k + 3) (14 * l + v) = gL σ l v := h.2.2.2.2.2.1 l v hl hv
theorem RS.gA (h : RS k I σ) {v : Nat} (hv : v < (σ 0).toNat) : I (k + 3) (14 * (σ 5).toNat + v) = gAt σ v := h.g (Nat.le_refl _) hv
theorem RS.ev (h : RS k I σ) {i w : Nat} (hi : i < (kev σ).toNat) (hw : w < 4) : I (k + 4) (4 * i + w) = σ (230 + 4 * ((σ 6 - 1 - (i : Int)) % 30).toNat + w) := h.2.2.2.2.2.2 i w hi hw
theorem RS.cong {I' : Ii} (h : RS k I σ) (e0 : I' k = I k) (e1 : I' (k + 1) = I (k + 1)) (e2 : I' (k + 2) = I (k + 2)) (e3 : I' (k + 3) = I (k + 3)) (e4 : I' (k + 4) = I (k + 4)) : RS k I' σ := by
  unfold RS
  rw [e0, e1, e2, e3, e4]
  exact h
end RGF
theorem kev_b {σ : Nat → Int} (h : MS σ) : 0 ≤ kev σ ∧ kev σ ≤ 30 := by
  have := ms_6 h
  unfold kev
  split <;> omega
/-- the number of a name below n; -1 without one -/
def nmZ (f : Nat → Int64) (w : Int64) : Nat → Int
  | 0 => -1
  | n + 1 => if f n = w then (n : Int) else nmZ f w n
theorem nmZ_b (f : Nat → Int64) (w : Int64) : ∀ n, -1 ≤ nmZ f w n ∧ nmZ f w n < n
  | 0 => by simp [nmZ]
  | n + 1 => by
    have := nmZ_b f w n
    unfold nmZ
    split <;> omega
theorem nmZ_none {f : Nat → Int64} {w : Int64} : ∀ {n : Nat}, (∀ u, u < n → f u ≠ w) → nmZ f w n = -1
  | 0, _ => rfl
  | n + 1, h => by unfold nmZ; rw [if_neg (h n (by omega))]; exact nmZ_none (fun u hu => h u (by omega))
theorem nmZ_eq {f : Nat → Int64} {w : Int64} {v : Nat} : ∀ {n : Nat}, v < n → f v = w → (∀ u, u < n → f u = w → u = v) → nmZ f w n = (v : Int)
  | 0, h, _, _ => by omega
  | n + 1, h, e, hd => by
    unfold nmZ
    by_cases c : f n = w
    · rw [if_pos c, hd n (by omega) c]
    · rw [if_neg c]
      exact nmZ_eq (by by_cases q : v = n; · subst q; exact absurd e c
                       · omega) e (fun u hu => hd u (by omega))
theorem nmZ_at {f : Nat → Int64} {w : Int64} : ∀ {n : Nat}, nmZ f w n ≠ -1 → f (nmZ f w n).toNat = w
  | 0, h => absurd rfl h
  | n + 1, h => by
    unfold nmZ at h ⊢
    by_cases c : f n = w
    · rw [if_pos c]; exact c
    · rw [if_neg c] at h ⊢; exact nmZ_at h
theorem nmZ_cong {f g : Nat → Int64} {w : Int64} : ∀ {n : Nat}, (∀ u, u < n → f u = g u) → nmZ f w n = nmZ g w n
  | 0, _ => rfl
  | n + 1, h => by unfold nmZ; rw [h n (by omega), nmZ_cong (fun u hu => h u (by omega))]
/-- names differ -/
def ND (nm : Nat → Int64) (n : Nat) : Prop := ∀ u v, u < n → v < n → nm u = nm v → u = v
theorem two_bits {a b c d : Nat} (h : 2 ^ a ||| 2 ^ b = 2 ^ c ||| 2 ^ d) (hab : a ≠ b) : (a = c ∧ b = d) ∨ (a = d ∧ b = c) := by
  have key : ∀ i, (i = a ∨ i = b) ↔ (i = c ∨ i = d) := fun i => by
    have := congrArg (fun x => x.testBit i) h
    simp only [Nat.testBit_or, Nat.testBit_two_pow] at this
    constructor
    · intro q
      have h1 : (decide (a = i) || decide (b = i)) = true := by rcases q with rfl | rfl <;> simp
      rw [h1] at this
      simp at this
      omega
    · intro q
      have h1 : (decide (c = i) || decide (d = i)) = true := by rcases q with rfl | rfl <;> simp
      rw [h1] at this
      simp at this
      omega
  have h1 := (key a).mp (Or.inl rfl)
  have h2 := (key b).mp (Or.inr rfl)
  omega
theorem edgeZ_none {σ : Nat → Int} {a b : Int} : ∀ {n : Nat}, (∀ e, e < n → ¬ ((σ (110 + e) = a ∧ σ (150 + e) = b) ∨ (σ (110 + e) = b ∧ σ (150 + e) = a))) → edgeZ σ a b n = -1
  | 0, _ => rfl
  | n + 1, h => by unfold edgeZ; rw [if_neg (h n (by omega))]; exact edgeZ_none (fun u hu => h u (by omega))
theorem edgeZ_eq {σ : Nat → Int} {a b : Int} {v : Nat} : ∀ {n : Nat}, v < n → ((σ (110 + v) = a ∧ σ (150 + v) = b) ∨ (σ (110 + v) = b ∧ σ (150 + v) = a)) → (∀ u, u < n → ((σ (110 + u) = a ∧ σ (150 + u) = b) ∨ (σ (110 + u) = b ∧ σ (150 + u) = a)) → u = v) → edgeZ σ a b n = (v : Int)
  | 0, h, _, _ => by omega
  | n + 1, h, e, hd => by
    unfold edgeZ
    by_cases c : (σ (110 + n) = a ∧ σ (150 + n) = b) ∨ (σ (110 + n) = b ∧ σ (150 + n) = a)
    · rw [if_pos c, hd n (by omega) c]
    · rw [if_neg c]
      exact edgeZ_eq (by by_cases q : v = n; · subst q; exact absurd e c
                         · omega) e (fun u hu => hd u (by omega))
theorem shlT1 {v : Nat} (hv : v < 14) : shlZ 1 (v : Int) = ((2 ^ v : Nat) : Int) := shl1Z (by omega)
theorem pow14 {v : Nat} (hv : v < 14) : 2 ^ v < 16384 := by
  have : 2 ^ v < 2 ^ 14 := Nat.pow_lt_pow_right (by decide) hv
  omega
theorem or14 {a b : Nat} (ha : a < 16384) (hb : b < 16384) : a ||| b < 16384 := Nat.or_lt_two_pow (n := 14) ha hb
section CG
variable {k : Nat} {I : Ii} {J : Jj} {σ : Nat → Int} {nm : Nat → Int64}
theorem nameOf_of (hk : gK k) {x : Int} {v : Nat} (hx : x = (v : Int)) (hv : v < 14) {Q : Int64 → Ii → Jj → Prop} (h : Q (J (k + 1) v) I J) : wp_X2_nameOf k x I J Q := by
  subst hx
  exact ⟨hk, rgK (by omega), fun c => by omega, fun c => ⟨fun c2 => by omega, fun c2 => ⟨by omega, h⟩⟩⟩
theorem c_vertexNamed (hk : gK k) {w : Int64} (hM : MS σ) (hR : RG k I J σ nm) (hd : ND nm (σ 0).toNat) : wp_X2_vertexNamed k w I J (fun r _ _ => r = nmZ nm w (σ 0).toNat) := by
  have b := ms_0 hM
  have hn := hR.n
  refine ⟨hk, 15, loopN (L := fun m (_ : Unit) v => L_X2_vertexNamed_2 k w _ m v I J) (fun v _ => ∀ u, u < v → nm u ≠ w) (N := (σ 0).toNat) (fun m v _ hv hi kk => ?_) 15 0 () (by omega) (by omega) (fun u hu => by omega)⟩
  refine ls_X2_vertexNamed_2 ?_
  unfold Lb_X2_vertexNamed_2
  refine ⟨rgK (by omega), rgK (by omega), fun c => ?_, fun c => ?_⟩
  · rw [nmZ_none (fun u hu => hi u (by omega))]
  · refine nameOf_of hk rfl (by omega) ⟨fun d => kk (by omega) () (fun u hu => ?_), fun d => ?_⟩
    · rw [cmpL_eq, hR.z (by omega)] at d
      by_cases q : u = v
      · rw [q]; exact d
      · exact hi u (by omega)
    · rw [cmpL_eq, hR.z (by omega)] at d
      rw [nmZ_eq (v := v) (by omega) d (fun u hu e => hd u v hu (by omega) (by rw [e, d]))]
theorem c_limit (hk : gK k) (hM : MS σ) (hR : RG k I J σ nm) : wp_X2_limit k I J (fun r _ _ => r = limZ σ) := by
  have b := ms_2 hM
  have b2 := allW_b hM
  have h2 := hR.q
  have h5 := hR.aw
  refine ⟨hk, rgK (by omega), fun c => ⟨by omega, ?_⟩, fun c => by omega⟩
  rw [h2, h5, hR.s]
  rfl
theorem endsOf_of (hk : gK k) (hV : VS σ) (hR : RG k I J σ nm) {x : Int} {e : Nat} (hx : x = (e : Int)) (he : e < (σ 1).toNat) {Q : Int → Ii → Jj → Prop} (h : Q ((2 ^ (σ (110 + e)).toNat ||| 2 ^ (σ (150 + e)).toNat : Nat) : Int) I J) : wp_X2_endsOf k x I J Q := by
  have b := ms_1 hV.M
  have b0 := ms_0 hV.M
  have ha := hV.a he
  have hb := hV.b he
  refine ⟨hk, at_of (srX2_3 hk) hx (by omega) (at_of (srX2_4 hk) hx (by omega) ?_)⟩
  rw [hR.a he, hR.b he]
  have e1 : shlZ 1 (σ (110 + e)) = ((2 ^ (σ (110 + e)).toNat : Nat) : Int) := by
    have := shlT1 (v := (σ (110 + e)).toNat) (by omega)
    rwa [Int.toNat_of_nonneg ha.1] at this
  have e2 : shlZ 1 (σ (150 + e)) = ((2 ^ (σ (150 + e)).toNat : Nat) : Int) := by
    have := shlT1 (v := (σ (150 + e)).toNat) (by omega)
    rwa [Int.toNat_of_nonneg hb.1] at this
  have p1 := pow14 (v := (σ (110 + e)).toNat) (by omega)
  have p2 := pow14 (v := (σ (150 + e)).toNat) (by omega)
  rw [e1, e2, orZ_nat (by omega) (by omega)]
  exact h
theorem c_edgeOf (hk : gK k) (hV : VS σ) (hR : RG k I J σ nm) {x y : Int} (hx : 0 ≤ x ∧ x < σ 0) (hy : 0 ≤ y ∧ y < σ 0) : wp_X2_edgeOf k x y I J (fun r _ _ => r = edgeZ σ x y (σ 1).toNat) := by
  have b := ms_1 hV.M
  have b0 := ms_0 hV.M
  have hm := hR.m
  refine ⟨hk, rgK (by omega), rgK (by omega), fun c => ?_, fun c => ?_⟩
  · have e1 : shlZ 1 x = ((2 ^ x.toNat : Nat) : Int) := by
      have := shlT1 (v := x.toNat) (by omega)
      rwa [Int.toNat_of_nonneg hx.1] at this
    have e2 : shlZ 1 y = ((2 ^ y.toNat : Nat) : Int) := by
      have := shlT1 (v := y.toNat) (by omega)
      rwa [Int.toNat_of_nonneg hy.1] at this
    have p1 := pow14 (v := x.toNat) (by omega)
    have p2 := pow14 (v := y.toNat) (by omega)
    have p3 := or14 p1 p2
    rw [e1, e2, orZ_nat (by omega) (by omega)]
    refine ⟨41, loopN (L := fun m (_ : Unit) v => L_X2_edgeOf_18 k x y _ m ((2 ^ x.toNat ||| 2 ^ y.toNat : Nat) : Int) v I J) (fun v _ => ∀ e, e < v → ¬ ((σ (110 + e) = x ∧ σ (150 + e) = y) ∨ (σ (110 + e) = y ∧ σ (150 + e) = x))) (N := (σ 1).toNat) (fun m v _ hv hi kk => ?_) 41 0 () (by omega) (by omega) (fun u hu => by omega)⟩
    refine ls_X2_edgeOf_18 ?_
    unfold Lb_X2_edgeOf_18
    refine ⟨rgK (by omega), rgK (by omega), fun c2 => ?_, fun c2 => ?_⟩
    · rw [edgeZ_none (fun e he => hi e (by omega))]
    · have hv' : v < (σ 1).toNat := by omega
      have ha := hV.a hv'
      have hb := hV.b hv'
      have q1 := pow14 (v := (σ (110 + v)).toNat) (by omega)
      have q2 := pow14 (v := (σ (150 + v)).toNat) (by omega)
      have q3 := or14 q1 q2
      have hiff : 2 ^ (σ (110 + v)).toNat ||| 2 ^ (σ (150 + v)).toNat = 2 ^ x.toNat ||| 2 ^ y.toNat ↔ ((σ (110 + v) = x ∧ σ (150 + v) = y) ∨ (σ (110 + v) = y ∧ σ (150 + v) = x)) := by
        constructor
        · intro z
          have := two_bits z (by have := hV.ab hv'; omega)
          omega
        · rintro (⟨z1, z2⟩ | ⟨z1, z2⟩)
          · rw [z1, z2]
          · rw [z1, z2, Nat.or_comm]
      refine endsOf_of hk hV hR rfl hv' ⟨rgK (by omega), rgK (by omega), fun d => kk (by omega) () (fun e he => ?_), fun d => ?_⟩
      · by_cases q : e = v
        · subst q
          exact fun z => d (by rw [hiff.mpr z])
        · exact hi e (by omega)
      · have hh := hiff.mp (by omega)
        rw [edgeZ_eq (v := v) hv' hh (fun u hu z => hV.E.2 u v hu hv' (by omega))]
  · rw [edgeZ_none (fun e he z => hV.ab he (by omega))]
end CG

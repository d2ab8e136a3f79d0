/-! ===== flows, as the world looks for them ===== -/
theorem mnR_x {k : Int} {I : Ii} : ∀ n : Nat, 1022 ≤ I 999 0 ∧ I 999 0 + n ≤ 900000 → Ex I (mnR k n I) ∧ ∀ j, j < n → dS (mnR k n I) ((I 999 0).toNat + j) = 1 ∧ dL (mnR k n I) ((I 999 0).toNat + j) = k
  | 0, _ => ⟨ExW.rf I, fun j hj => by omega⟩
  | n + 1, hN => by
    obtain ⟨x, hr⟩ := mnR_x (k := k) (I := I) n (by omega)
    have e9 := mnR_9 k I n
    have x2 : Ex (mnR k n I) (mnR k (n + 1) I) := ExW.nw (by omega)
    refine ⟨x.trans x2 (fun _ q => q) (fun _ _ _ q => q), fun j hj => ?_⟩
    by_cases c : j = n
    · have := nwI_s (I := mnR k n I) (t := 1) (z := k) (d := fun _ => 0)
      rw [show (mnR k n I 999 0).toNat = (I 999 0).toNat + j by omega] at this
      exact this
    · have hd := ExW.ds x2 (k := (I 999 0).toNat + j) (by omega) (by omega)
      rw [hd.1, hd.2]
      exact hr j (by omega)
/-- the rooms, as one row -/
def rmF (I : Ii) (N : Nat) : Nat → Int := fun k => I (N + 1 + k / 14) (k % 14)
theorem rmF_at {I : Ii} {N u v : Nat} (hv : v < 14) : rmF I N (14 * u + v) = I (N + 1 + u) v := by
  unfold rmF
  rw [show (14 * u + v) / 14 = u by omega, show (14 * u + v) % 14 = v by omega]
theorem rmF_up {I : Ii} {N u v : Nat} {x : Int} (hv : v < 14) : rmF (up2 I (N + 1 + u) v x) N = updr (rmF I N) (14 * u + v) x := by
  funext k
  by_cases c : k = 14 * u + v
  · rw [c, updr_self, rmF_at hv, up2_self]
  · rw [updr_ne c]
    unfold rmF
    rw [up2_ne (by omega)]
theorem rmF_cong {I I' : Ii} {N n : Nat} (hn : n ≤ 14) (h : ∀ u, u < n → I' (N + 1 + u) = I (N + 1 + u)) {u v : Nat} (hu : u < n) (hv : v < n) : rmF I' N (14 * u + v) = rmF I N (14 * u + v) := by
  rw [rmF_at (by omega), rmF_at (by omega), h u hu]
/-- a step of the way is used -/
def UW (n a b m : Nat) (w : Nat → Nat) (f0 f : Nat → Int) (k : Nat) (r : Int) : Prop := (∀ u v, u < n → v < n → 0 ≤ f (14 * u + v)) ∧ (∀ u v, u < n → v < n → f (14 * u + v) + f (14 * v + u) ≤ 8000) ∧ (∀ j, k ≤ j → j < m → r ≤ f (14 * w (j + 1) + w j)) ∧ ∀ S : Nat, crs n f S = crs n f0 S - (if S.testBit (w k) = true then r else 0) + (if S.testBit b = true then r else 0)
theorem UW_step {n a b m : Nat} {w : Nat → Nat} {f0 f : Nat → Int} {k : Nat} {r : Int} (hn : n ≤ 14) (r0 : 0 < r) (wn : ∀ k, k ≤ m → w k < n) (wi : ∀ j k, j ≤ m → k ≤ m → w j = w k → j = k) (h : UW n a b m w f0 f k r) (hkm : k < m) :
    UW n a b m w f0 (updr (updr f (14 * w (k + 1) + w k) (f (14 * w (k + 1) + w k) + -r)) (14 * w k + w (k + 1)) (updr f (14 * w (k + 1) + w k) (f (14 * w (k + 1) + w k) + -r) (14 * w k + w (k + 1)) + r)) (k + 1) r := by
  obtain ⟨t2, t3, t4, t5⟩ := h
  have hwk := wn k (by omega)
  have hwk1 := wn (k + 1) (by omega)
  have hne : w (k + 1) ≠ w k := fun e => by have := wi (k + 1) k (by omega) (by omega) e; omega
  generalize f12e : updr f (14 * w (k + 1) + w k) (f (14 * w (k + 1) + w k) + -r) = f12
  generalize f14e : updr f12 (14 * w k + w (k + 1)) (f12 (14 * w k + w (k + 1)) + r) = f14
  have val : ∀ u v, u < n → v < n → f14 (14 * u + v) = f (14 * u + v) + (if u = w k ∧ v = w (k + 1) then r else 0) - (if u = w (k + 1) ∧ v = w k then r else 0) := fun u v hu hv => by
    rw [← f14e]
    by_cases p1 : u = w k ∧ v = w (k + 1)
    · rw [if_pos p1, if_neg (by omega), p1.1, p1.2, updr_self, ← f12e, updr_ne (by omega)]; omega
    · rw [if_neg p1, updr_ne (by omega), ← f12e]
      by_cases p2 : u = w (k + 1) ∧ v = w k
      · rw [if_pos p2, p2.1, p2.2, updr_self]; omega
      · rw [if_neg p2, updr_ne (by omega)]; omega
  have rr := t4 k (Nat.le_refl _) hkm
  refine ⟨fun u v hu hv => ?_, fun u v hu hv => ?_, fun j hj hjm => ?_, fun S => ?_⟩
  · rw [val u v hu hv]
    have := t2 u v hu hv
    by_cases p2 : u = w (k + 1) ∧ v = w k
    · rw [if_pos p2, if_neg (by omega), p2.1, p2.2]; omega
    · rw [if_neg p2]; split <;> omega
  · rw [val u v hu hv, val v u hv hu]
    have := t3 u v hu hv
    by_cases p1 : u = w k ∧ v = w (k + 1)
    · rw [if_pos p1, if_neg (by omega), if_neg (c := v = w k ∧ u = w (k + 1)) (by omega), if_pos (by omega)]; omega
    · by_cases p2 : u = w (k + 1) ∧ v = w k
      · rw [if_neg p1, if_pos p2, if_pos (by omega), if_neg (by omega)]; omega
      · rw [if_neg p1, if_neg p2, if_neg (by omega), if_neg (by omega)]; omega
  · have h1 := wn j (by omega)
    have h2 := wn (j + 1) (by omega)
    rw [val _ _ h2 h1]
    have := t4 j (by omega) hjm
    have ne : ¬ (w (j + 1) = w (k + 1) ∧ w j = w k) := fun z => by have := wi j k (by omega) (by omega) z.2; omega
    rw [if_neg ne]; split <;> omega
  · rw [← f14e, crs_upd hn hwk hwk1, ← f12e, crs_upd hn hwk1 hwk, t5 S]
    cases S.testBit (w k) <;> cases S.testBit (w (k + 1)) <;> simp <;> omega
theorem bset_self {s n : Nat} (h : s < 2 ^ n) : bset (fun v => s.testBit v) n = s := by
  apply Nat.eq_of_testBit_eq
  intro i
  rw [bset_bit]
  by_cases c : i < n
  · simp [c]
  · have : s < 2 ^ i := Nat.lt_of_lt_of_le h (Nat.pow_le_pow_right (by decide) (by omega))
    rw [Nat.testBit_lt_two_pow this]
    simp
theorem TBz_b {σ : Nat → Int} (hV : VS σ) (a b : Nat) : 0 ≤ TBz σ a b ∧ TBz σ a b ≤ 3960 := by
  have h1 := ms_1 hV.M
  have := sm_bound (f := tbE σ a b) (c := 99) (n := (σ 1).toNat) (fun k hk => by
    have := hV.w hk
    unfold tbE
    split <;> omega)
  rw [TBz_eq]
  omega
/-- what leads out of a set, by the table -/
theorem crs_tb {σ : Nat → Int} (hV : VS σ) {f : Nat → Int} (hf : ∀ u v, u < (σ 0).toNat → v < (σ 0).toNat → f (14 * u + v) = TBz σ u v) (S : Nat) : crs (σ 0).toNat f S = outZ σ S := by
  have h := pr_eq hV (fun a b => S.testBit a = true ∧ S.testBit b = false)
  unfold crs outZ
  rw [sm_cong (g := fun u => sm (fun v => if S.testBit u = true ∧ S.testBit v = false then TBz σ u v else 0) (σ 0).toNat) (fun u hu => sm_cong (fun v hv => by rw [hf u v hu hv])), h]
  refine sm_cong (fun e he => ?_)
  rcases Bool.eq_false_or_eq_true (S.testBit (σ (110 + e)).toNat) with h1 | h1 <;> rcases Bool.eq_false_or_eq_true (S.testBit (σ (150 + e)).toNat) with h2 | h2 <;> simp [h1, h2]
/-- the rooms' rows -/
def FFr (σ : Nat → Int) (I0 : Ii) (N : Nat) (I : Ii) : Prop := Ex I0 I ∧ (dS I N = 4 ∧ dL I N = σ 0 ∧ ∀ u, u < (σ 0).toNat → I N u = ((N + 1 + u : Nat) : Int)) ∧ (∀ u, u < (σ 0).toNat → dS I (N + 1 + u) = 1 ∧ dL I (N + 1 + u) = σ 0) ∧ (N : Int) + 1 + σ 0 ≤ I 999 0
section WFL
variable {σ : Nat → Int} {I0 : Ii} {J : Jj} {N : Nat}
/-- only rows made since are written -/
theorem FFr.same {I I' : Ii} (hN : (N : Int) = I0 999 0 ∧ 1022 ≤ N) (hF : FFr σ I0 N I) (h9 : I' 999 0 = I 999 0) (hb : I 999 0 < 900000) (ho : ∀ k : Nat, (k : Int) < I 999 0 → k < 900000 → ¬ (N + 1 ≤ k) → I' k = I k) (hs : ∀ k : Nat, I' (1000000 + k) = I (1000000 + k)) (h90 : σ 0 ≤ 10) : FFr σ I0 N I' := by
  obtain ⟨f1, f2, f3, f4⟩ := hF
  have f5 := f1.1
  have s : ∀ k, dS I' k = dS I k ∧ dL I' k = dL I k := fun k => ⟨congrFun (hs k) 0, congrFun (hs k) 1⟩
  refine ⟨⟨by rw [h9]; exact f5, fun k k9 hk => ⟨fun _ => ?_, ?_⟩⟩, ⟨by rw [(s N).1]; exact f2.1, by rw [(s N).2]; exact f2.2.1, fun u hu => ?_⟩, fun u hu => by rw [(s _).1, (s _).2]; exact f3 u hu, by rw [h9]; exact f4⟩
  · rw [ho k (by omega) (by omega) (by omega)]; exact (f1.2 k k9 hk).1 (fun q => q)
  · rw [hs]; exact (f1.2 k k9 hk).2
  · rw [ho N (by omega) (by omega) (by omega)]; exact f2.2.2 u hu
end WFL
/-- the search's row -/
def SWr (n a M : Nat) (f : Nat → Int) (I1 I : Ii) (s c : Nat) (q : Nat → Int) : Prop := (∀ k, k ≠ M → I k = I1 k) ∧ (∀ v, v < n → (s.testBit v = true → 0 ≤ I M v ∧ I M v < (n : Int)) ∧ (s.testBit v = false → I M v = -1)) ∧ BF n a f s c q (I M)
def CLp (n : Nat) (f : Nat → Int) (s v w : Nat) : Prop := ∀ x y, x < n → y < n → s.testBit x = true → s.testBit y = false → (x < v ∨ (x = v ∧ y < w)) → f (14 * x + y) ≤ 0
/-- what is fast in a search -/
def SWf (n M N : Nat) (I1 : Ii) : Prop := I1 1000 0 = (n : Int) ∧ n ≤ 10 ∧ (dS I1 N = 4 ∧ dL I1 N = (n : Int) ∧ ∀ u, u < n → I1 N u = ((N + 1 + u : Nat) : Int)) ∧ (∀ u, u < n → dS I1 (N + 1 + u) = 1 ∧ dL I1 (N + 1 + u) = (n : Int)) ∧ (dS I1 M = 1 ∧ dL I1 M = (n : Int)) ∧ 1022 ≤ N ∧ N + 1 + n ≤ M ∧ M < 900000 ∧ ∀ u v, u < n → v < n → 0 ≤ rmF I1 N (14 * u + v) ∧ rmF I1 N (14 * u + v) ≤ 8000
section WSW
variable {n a b M N : Nat} {I1 : Ii} {J : Jj} {l4 : Int} {Q : Nat → Ii → Jj → Prop} {r54 : Nat → Int → Ii → Jj → Prop}
theorem SWr.ds {I : Ii} {s c : Nat} {q : Nat → Int} (hf : SWf n M N I1) (h : SWr n a M (rmF I1 N) I1 I s c q) (j : Nat) : dS I j = dS I1 j ∧ dL I j = dL I1 j := by
  obtain ⟨-, -, -, -, -, -, -, hM, -⟩ := hf
  have := h.1 (1000000 + j) (by omega)
  exact ⟨congrFun this 0, congrFun this 1⟩
theorem f_sweep (hf : SWf n M N I1) (ha : a < n) (hx : ∀ (r99 : Nat → Int → Nat → Int → Ii → Jj → Prop) (I : Ii) (s c : Nat) (q : Nat → Int), SWr n a M (rmF I1 N) I1 I s c q → CLS n (rmF I1 N) s → Lb_X12_flow_99 (a : Int) (b : Int) Q r54 r99 N l4 M 0 I J) :
    ∀ (e : Nat) (I : Ii) (s c : Nat) (q : Nat → Int), SWr n a M (rmF I1 N) I1 I s c q → n < c + e → L_X12_flow_99 (a : Int) (b : Int) Q r54 (e + 1) N l4 M 1 I J := by
  intro e
  induction e with
  | zero =>
    intro I s c q hS he
    have := hS.2.2.c
    omega
  | succ e ihe =>
    intro I s c q hS he
    show Lb_X12_flow_99 (a : Int) (b : Int) Q r54 (L_X12_flow_99 (a : Int) (b : Int) Q r54 (e + 1)) N l4 M 1 I J
    unfold Lb_X12_flow_99
    refine ⟨⟨by decide, by decide⟩, fun z => absurd z (by decide), fun _ => ?_⟩
    generalize hr99 : L_X12_flow_99 (a : Int) (b : Int) Q r54 (e + 1) = r99
    have hN0 : 0 < n := by omega
    -- the end of a sweep
    have fin : ∀ (fl : Int) (I2 : Ii) (s2 c2 : Nat) (q2 : Nat → Int), SWr n a M (rmF I1 N) I1 I2 s2 c2 q2 → c ≤ c2 → ((fl = 0 ∧ CLp n (rmF I1 N) s2 n 0) ∨ (fl = 1 ∧ c < c2)) → r99 N l4 M fl I2 J := by
      intro fl I2 s2 c2 q2 h2 hc2 hfl
      rcases hfl with ⟨z, hcl⟩ | ⟨z, hcl⟩
      · rw [z, ← hr99]
        show Lb_X12_flow_99 (a : Int) (b : Int) Q r54 (L_X12_flow_99 (a : Int) (b : Int) Q r54 e) N l4 M 0 I2 J
        exact hx _ I2 s2 c2 q2 h2 (fun u v hu hv p1 p2 => hcl u v hu hv p1 p2 (Or.inl hu))
      · rw [z, ← hr99]
        exact ihe I2 s2 c2 q2 h2 (by omega)
    obtain ⟨f0, f1, f2, f3, f4, f5, f6, f7, f8⟩ := id hf
    have rows : ∀ d v : Nat, v + d = n → ∀ (fl : Int) (I2 : Ii) (s2 c2 : Nat) (q2 : Nat → Int), SWr n a M (rmF I1 N) I1 I2 s2 c2 q2 → c ≤ c2 → ((fl = 0 ∧ CLp n (rmF I1 N) s2 v 0) ∨ (fl = 1 ∧ c < c2)) → L_X12_flow_110 (a : Int) (b : Int) Q r54 r99 (d + 1) N l4 M fl (v : Int) I2 J := by
      intro d
      induction d with
      | zero =>
        intro v hv fl I2 s2 c2 q2 h2 hc2 hfl
        show Lb_X12_flow_110 (a : Int) (b : Int) Q r54 r99 _ N l4 M fl (v : Int) I2 J
        unfold Lb_X12_flow_110
        rw [h2.1 1000 (by omega), f0]
        refine ⟨⟨by omega, by omega⟩, ⟨by omega, by omega⟩, fun _ => ?_, fun z => absurd (by omega) z⟩
        have hvn : v = n := by omega
        rw [hvn] at hfl
        exact fin fl I2 s2 c2 q2 h2 hc2 hfl
      | succ d ihd =>
        intro v hv fl I2 s2 c2 q2 h2 hc2 hfl
        show Lb_X12_flow_110 (a : Int) (b : Int) Q r54 r99 (L_X12_flow_110 (a : Int) (b : Int) Q r54 r99 (d + 1)) N l4 M fl (v : Int) I2 J
        unfold Lb_X12_flow_110
        rw [h2.1 1000 (by omega), f0]
        refine ⟨⟨by omega, by omega⟩, ⟨by omega, by omega⟩, fun z => by omega, fun _ => ?_⟩
        have nxt : ∀ (fl : Int) (I3 : Ii) (s3 c3 : Nat) (q3 : Nat → Int), SWr n a M (rmF I1 N) I1 I3 s3 c3 q3 → c ≤ c3 → ((fl = 0 ∧ CLp n (rmF I1 N) s3 (v + 1) 0) ∨ (fl = 1 ∧ c < c3)) → L_X12_flow_110 (a : Int) (b : Int) Q r54 r99 (d + 1) N l4 M fl ((v : Int) + 1) I3 J := fun fl I3 s3 c3 q3 h3 hc3 hfl3 => by
          rw [show ((v : Int) + 1) = ((v + 1 : Nat) : Int) by omega]
          exact ihd (v + 1) (by omega) fl I3 s3 c3 q3 h3 hc3 hfl3
        generalize L_X12_flow_110 (a : Int) (b : Int) Q r54 r99 (d + 1) = r110 at nxt ⊢
        have cells : ∀ g w : Nat, w + g = n → ∀ (fl : Int) (I3 : Ii) (s3 c3 : Nat) (q3 : Nat → Int), SWr n a M (rmF I1 N) I1 I3 s3 c3 q3 → c ≤ c3 → ((fl = 0 ∧ CLp n (rmF I1 N) s3 v w) ∨ (fl = 1 ∧ c < c3)) → L_X12_flow_122 (a : Int) (b : Int) Q r54 r99 r110 (g + 1) N l4 M fl (v : Int) (w : Int) I3 J := by
          intro g
          induction g with
          | zero =>
            intro w hw fl I3 s3 c3 q3 h3 hc3 hfl3
            show Lb_X12_flow_122 (a : Int) (b : Int) Q r54 r99 r110 _ N l4 M fl (v : Int) (w : Int) I3 J
            unfold Lb_X12_flow_122
            rw [h3.1 1000 (by omega), f0]
            refine ⟨⟨by omega, by omega⟩, ⟨by omega, by omega⟩, fun _ => nxt fl I3 s3 c3 q3 h3 hc3 (hfl3.imp (fun z => ⟨z.1, fun x y p1 p2 p3 p4 p5 => z.2 x y p1 p2 p3 p4 (by omega)⟩) id), fun z => absurd (by omega) z⟩
          | succ g ihg =>
            intro w hw fl I3 s3 c3 q3 h3 hc3 hfl3
            show Lb_X12_flow_122 (a : Int) (b : Int) Q r54 r99 r110 (L_X12_flow_122 (a : Int) (b : Int) Q r54 r99 r110 (g + 1)) N l4 M fl (v : Int) (w : Int) I3 J
            unfold Lb_X12_flow_122
            have d3 := h3.ds hf
            have iN : I3 N = I1 N := h3.1 N (by omega)
            have iR : I3 (N + 1 + v) = I1 (N + 1 + v) := h3.1 _ (by omega)
            have eR : (((N + 1 + v : Nat) : Int)).toNat = N + 1 + v := Int.toNat_natCast _
            rw [h3.1 1000 (by omega), f0, Int.toNat_natCast, Int.toNat_natCast, iN, f2.2.2 v (by omega), eR, iR, (d3 M).1, (d3 M).2, (d3 N).1, (d3 N).2, (d3 (N + 1 + v)).1, (d3 (N + 1 + v)).2, f4.1, f4.2, f2.1, f2.2.1, (f3 v (by omega)).1, (f3 v (by omega)).2]
            have b8 := f8 v w (by omega) (by omega)
            rw [rmF_at (by omega)] at b8
            have hv3 := h3.2.1 v (by omega)
            have hw3 := h3.2.1 w (by omega)
            have step : ∀ (fl : Int) (I4 : Ii) (s4 c4 : Nat) (q4 : Nat → Int), SWr n a M (rmF I1 N) I1 I4 s4 c4 q4 → c ≤ c4 → ((fl = 0 ∧ CLp n (rmF I1 N) s4 v (w + 1)) ∨ (fl = 1 ∧ c < c4)) → L_X12_flow_122 (a : Int) (b : Int) Q r54 r99 r110 (g + 1) N l4 M fl (v : Int) ((w : Int) + 1) I4 J := fun fl I4 s4 c4 q4 h4 hc4 hfl4 => by
              rw [show ((w : Int) + 1) = ((w + 1 : Nat) : Int) by omega]
              exact ihg (w + 1) (by omega) fl I4 s4 c4 q4 h4 hc4 hfl4
            refine ⟨⟨by omega, by omega⟩, ⟨by omega, by omega⟩, fun z => by omega, fun _ => ⟨⟨rfl, by omega, by omega⟩, ?_, fun z => ?_, fun z => ⟨⟨rfl, by omega, by omega⟩, ?_, fun z2 => ?_, fun z2 => ⟨⟨rfl, ⟨by omega, by omega⟩, by omega⟩, ⟨rfl, by omega, by omega⟩, ⟨by omega, by omega⟩, fun z3 => ?_, fun z3 => ⟨⟨rfl, by omega, by omega⟩, fun I66 e66 => ?_⟩⟩⟩⟩⟩
            · cases hb : s3.testBit v
              · rw [hv3.2 hb]; exact ⟨by decide, by decide⟩
              · have := hv3.1 hb; exact ⟨by omega, by omega⟩
            · refine nxt fl I3 s3 c3 q3 h3 hc3 (hfl3.imp (fun z4 => ⟨z4.1, fun x y p1 p2 p3 p4 p5 => ?_⟩) id)
              by_cases hxv : x = v
              · have := hv3.1 (by rw [← hxv]; exact p3)
                omega
              · exact z4.2 x y p1 p2 p3 p4 (by omega)
            · cases hb : s3.testBit w
              · rw [hw3.2 hb]; exact ⟨by decide, by decide⟩
              · have := hw3.1 hb; exact ⟨by omega, by omega⟩
            · refine step fl I3 s3 c3 q3 h3 hc3 (hfl3.imp (fun z4 => ⟨z4.1, fun x y p1 p2 p3 p4 p5 => ?_⟩) id)
              by_cases hxv : x = v ∧ y = w
              · have := hw3.2 (by rw [← hxv.2]; exact p4)
                omega
              · exact z4.2 x y p1 p2 p3 p4 (by omega)
            · refine step fl I3 s3 c3 q3 h3 hc3 (hfl3.imp (fun z4 => ⟨z4.1, fun x y p1 p2 p3 p4 p5 => ?_⟩) id)
              by_cases hxv : x = v ∧ y = w
              · rw [hxv.1, hxv.2, rmF_at (by omega)]; exact z3
              · exact z4.2 x y p1 p2 p3 p4 (by omega)
            · have hbv : s3.testBit v = true := by
                cases hb : s3.testBit v
                · have := hv3.2 hb; omega
                · rfl
              have hbw : s3.testBit w = false := by
                cases hb : s3.testBit w
                · rfl
                · have := hw3.1 hb; omega
              obtain ⟨j, hj, ej⟩ := h3.2.2.2.2.2.2.2.1 v hbv
              have hB := BF_ins h3.2.2 hj (v := w) (by omega) hbw (by rw [ej, Int.toNat_natCast, rmF_at (by omega)]; omega)
              rw [ej] at hB
              have eM : I66 M = updr (I3 M) w (v : Int) := by rw [e66, up2_row]
              refine step 1 I66 (s3 ||| 2 ^ w) (c3 + 1) (updr q3 c3 (w : Int)) ⟨fun k hk => by rw [e66, up2_key hk]; exact h3.1 k hk, fun x hx2 => ?_, by rw [eM]; exact hB⟩ (by omega) (Or.inr ⟨rfl, by omega⟩)
              rw [eM, Nat.testBit_or, Nat.testBit_two_pow]
              by_cases hxw : x = w
              · rw [hxw, updr_self]
                simp
                omega
              · rw [updr_ne hxw]
                have : ¬ w = x := fun q => hxw q.symm
                simp only [this, decide_false, Bool.or_false]
                exact h3.2.1 x hx2
        exact ⟨_, cells n 0 (by omega) fl I2 s2 c2 q2 h2 hc2 hfl⟩
    exact ⟨_, rows n 0 (by omega) 0 I s c q hS (Nat.le_refl _) (Or.inl ⟨rfl, fun x y p1 p2 p3 p4 p5 => by omega⟩)⟩
end WSW

/-! ===== sums ===== -/
theorem sm_add (f g : Nat → Int) : ∀ n, sm (fun k => f k + g k) n = sm f n + sm g n
  | 0 => rfl
  | n + 1 => by rw [sm_succ, sm_succ, sm_succ, sm_add f g n]; omega
theorem sm_sub (f g : Nat → Int) : ∀ n, sm (fun k => f k - g k) n = sm f n - sm g n
  | 0 => rfl
  | n + 1 => by rw [sm_succ, sm_succ, sm_succ, sm_sub f g n]; omega
theorem sm_zero : ∀ n, sm (fun _ => 0) n = 0
  | 0 => rfl
  | n + 1 => by rw [sm_succ, sm_zero n]; rfl
theorem sm_except {f h : Nat → Int} {a : Nat} : ∀ {n : Nat}, a < n → (∀ k, k < n → k ≠ a → f k = h k) → sm f n = sm h n + (f a - h a)
  | 0, ha, _ => by omega
  | n + 1, ha, hk => by
    rw [sm_succ, sm_succ]
    by_cases c : a = n
    · subst c
      rw [sm_cong (fun k hk2 => hk k (by omega) (by omega))]; omega
    · rw [sm_except (a := a) (by omega) (fun k hk2 hne => hk k (by omega) hne), hk n (by omega) (by omega)]; omega
/-! ===== gains and debts ===== -/
theorem debtZ_pos (σ : Nat → Int) (p : Int) : debtZ σ p = pos (wOf σ p - limZ σ) := rfl
theorem gainE_pull {σ : Nat → Int} {g p : Int} (hp : gPt σ g ≠ p) (e : Nat) : gainE σ g p e = pullE σ g p e - pullE σ g (gPt σ g) e := by
  unfold gainE pullE
  generalize gAt σ (σ (110 + e)).toNat = A
  generalize gAt σ (σ (150 + e)).toNat = B
  generalize σ (21 + (σ (110 + e)).toNat) = PA
  generalize σ (21 + (σ (150 + e)).toNat) = PB
  generalize σ (190 + e) = w
  by_cases h1 : A = g
  · by_cases h2 : B = g
    · rw [if_pos (by simp [h1, h2]), if_pos (by rw [h1, h2]), if_pos (by rw [h1, h2])]; rfl
    · have n1 : ¬ A = B := by omega
      rw [if_neg (by simp [h1, h2]), if_pos h1, if_neg n1, if_neg n1, if_neg (c := B = g ∧ PA = p) (fun z => h2 z.1), if_neg (c := B = g ∧ PA = gPt σ g) (fun z => h2 z.1)]
      by_cases q : PB = p
      · rw [if_pos q, if_pos ⟨h1, q⟩, if_neg (fun z => hp (by rw [← z.2, q]))]; omega
      · rw [if_neg q, if_neg (c := A = g ∧ PB = p) (fun z => q z.2)]
        by_cases q2 : PB = gPt σ g
        · rw [if_pos q2, if_pos ⟨h1, q2⟩]; omega
        · rw [if_neg q2, if_neg (fun z => q2 z.2)]; omega
  · by_cases h2 : B = g
    · have n1 : ¬ A = B := by omega
      rw [if_neg (by simp [h1, h2]), if_neg h1, if_neg n1, if_neg n1, if_neg (c := A = g ∧ PB = p) (fun z => h1 z.1), if_neg (c := A = g ∧ PB = gPt σ g) (fun z => h1 z.1)]
      by_cases q : PA = p
      · rw [if_pos q, if_pos ⟨h2, q⟩, if_neg (fun z => hp (by rw [← z.2, q]))]; omega
      · rw [if_neg q, if_neg (c := B = g ∧ PA = p) (fun z => q z.2)]
        by_cases q2 : PA = gPt σ g
        · rw [if_pos q2, if_pos ⟨h2, q2⟩]; omega
        · rw [if_neg q2, if_neg (fun z => q2 z.2)]; omega
    · rw [if_pos (by simp [h1, h2]), if_neg (c := A = g ∧ PB = p) (fun z => h1 z.1), if_neg (c := A = g ∧ PB = gPt σ g) (fun z => h1 z.1), if_neg (c := B = g ∧ PA = p) (fun z => h2 z.1), if_neg (c := B = g ∧ PA = gPt σ g) (fun z => h2 z.1)]
      split <;> rfl
theorem gainZ_pull (σ : Nat → Int) (g p : Int) : gainZ σ g p = pullZ σ g p - pullZ σ g (gPt σ g) := by
  unfold gainZ
  by_cases c : gPt σ g = p
  · rw [if_pos c, c]; omega
  · rw [if_neg c]
    unfold pullZ
    rw [← sm_sub]
    exact sm_cong (fun e _ => gainE_pull c e)
theorem dwZ_own {σ : Nat → Int} {g p : Int} (h : gPt σ g = p) : dwZ σ g p = debtsZ σ := by
  unfold dwZ debtsZ
  refine sm_cong (fun q _ => ?_)
  unfold dwQ
  rw [h, debtZ_pos]
  congr 1
  omega
theorem dwZ_move {σ : Nat → Int} (hV : VS σ) {g p : Int} (hg : 0 ≤ g ∧ g < grs σ) (hp : 0 ≤ p ∧ p < σ 2) (h : gPt σ g ≠ p) :
    dwZ σ g p = debtsZ σ - debtZ σ (gPt σ g) - debtZ σ p + pos (wOf σ (gPt σ g) - gW σ g - limZ σ) + pos (wOf σ p + gW σ g - limZ σ) := by
  have b := hV.gpb hg.1 hg.2
  have e1 := sm_except (f := dwQ σ g p) (h := fun q => if (q : Int) = gPt σ g then debtZ σ (q : Int) else dwQ σ g p q) (a := (gPt σ g).toNat) (n := (σ 2).toNat) (by omega) (fun k _ hne => by rw [if_neg (by omega)])
  have e2 := sm_except (f := fun q : Nat => if (q : Int) = gPt σ g then debtZ σ (q : Int) else dwQ σ g p q) (h := fun q => debtZ σ (q : Int)) (a := p.toNat) (n := (σ 2).toNat) (by omega) (fun k _ hne => by
    split
    · rfl
    · rename_i z
      unfold dwQ
      rw [if_neg z, if_neg (by omega), debtZ_pos]
      congr 1
      omega)
  unfold dwZ debtsZ
  have c1 : (((gPt σ g).toNat : Nat) : Int) = gPt σ g := by omega
  have c2 : ((p.toNat : Nat) : Int) = p := by omega
  rw [c1, if_pos rfl] at e1
  rw [c2, if_neg (fun z => h z.symm)] at e2
  rw [e1, e2]
  have f1 : dwQ σ g p (gPt σ g).toNat = pos (wOf σ (gPt σ g) - gW σ g - limZ σ) := by
    unfold dwQ
    rw [show (((gPt σ g).toNat : Nat) : Int) = gPt σ g by omega, if_pos rfl, if_neg h]
    congr 1
    omega
  have f2 : dwQ σ g p p.toNat = pos (wOf σ p + gW σ g - limZ σ) := by
    unfold dwQ
    rw [show ((p.toNat : Nat) : Int) = p by omega, if_neg (fun z => h z.symm), if_pos rfl]
    congr 1
    omega
  rw [f1, f2]
  omega
section MG
variable {I : Ii} {J : Jj} {σ : Nat → Int} {nm : Nat → Int64} {k2 : Nat}
theorem groupCount_of (hk : sK k2) (hV : VS σ) (hS : RS k2 I σ) {Q : Int → Ii → Jj → Prop} (h : Q (grs σ) I J) : wp_X8_groupCount k2 I J Q := by
  have b5 := ms_5 hV.M
  have hl := hS.l
  refine ⟨hk, at_of (srX8_2 hk) (i := (σ 5).toNat) (by omega) (by omega) ?_⟩
  rw [hS.n (Nat.le_refl _)]
  exact h
theorem c_take (hk : sK k2) (hV : VS σ) (hR : RG 200 I J σ nm) (hS : RS k2 I σ) : wp_X4_take 200 k2 I J (fun I' _ => ME σ I') := by
  have b2 := ms_2 hV.M
  have kg := sK_ge hk
  refine ⟨gK200, hk, groupCount_of hk hV hS (fun I2 e2 I3 e3 => ?_)⟩
  have o3 : ∀ q, q ≠ 113 → I3 q = I q := fun q hq => by rw [e3, up2_key hq, e2, up2_key hq]
  have R3 : RG 200 I3 J σ nm := hR.cong (o3 _ (by decide)) rfl (o3 _ (by decide)) (o3 _ (by decide)) (o3 _ (by decide)) (o3 _ (by decide))
  refine fr_X2_limit (c_limit gK200 hV.M R3) (fun v hv I5 e5 I6 e6 => ?_)
  subst hv
  have o6 : ∀ q, q ≠ 113 → I6 q = I q := fun q hq => by rw [e6, up2_key hq, e5, up2_key hq]; exact o3 q hq
  have R6 : RG 200 I6 J σ nm := hR.cong (o6 _ (by decide)) rfl (o6 _ (by decide)) (o6 _ (by decide)) (o6 _ (by decide)) (o6 _ (by decide))
  have S6 : RS k2 I6 σ := hS.cong (o6 _ (by omega)) (o6 _ (by omega)) (o6 _ (by omega)) (o6 _ (by omega)) (o6 _ (by omega))
  refine fr_X4_takeVertices (c_takeVertices hk hV R6 S6) (fun I7 J7 h7 s7 => ?_)
  have R7 : RG 200 I7 J7 σ nm := R6.fr s7
  have w7 : ∀ q, q < 114 ∨ 118 < q → I7 q = I6 q := fun q hq => s7.rI (W_X4_takeVertices_n (by
    have : q ≠ 114 ∧ q ≠ 115 ∧ q ≠ 116 ∧ q ≠ 117 ∧ q ≠ 118 := by omega
    simp [wlk, Ne.symm this.1, Ne.symm this.2.1, Ne.symm this.2.2.1, Ne.symm this.2.2.2.1, Ne.symm this.2.2.2.2]))
  have S7 : RS k2 I7 σ := S6.cong (w7 _ (by omega)) (w7 _ (by omega)) (w7 _ (by omega)) (w7 _ (by omega)) (w7 _ (by omega))
  refine fr_X4_takeEdges (c_takeEdges hk hV R7 S7 h7.2.1) (fun I8 J8 h8 s8 I9 e9 => ?_)
  have q0 : I8 113 0 = grs σ := by rw [s8.i, w7 _ (by decide), e6, up2_ne (by decide), e5, up2_ne (by decide), e3, up2_ne (by decide), e2, up2_self]
  have q1 : I8 113 1 = σ 2 := by rw [s8.i, w7 _ (by decide), e6, up2_ne (by decide), e5, up2_ne (by decide), e3, up2_self, e2, up2_key (by decide), hR.q]
  have q2 : I8 113 2 = limZ σ := by rw [s8.i, w7 _ (by decide), e6, up2_ne (by decide), e5, up2_self]
  have q3 : I8 113 3 = σ 4 := by rw [s8.i, w7 _ (by decide), e6, up2_self, e5, up2_key (by omega), o3 _ (by omega), hS.c]
  have t8 : ∀ q, q < 119 ∧ q ≠ 113 → I8 q = I7 q := fun q hq => s8.rI (W_X4_takeEdges_n (by
    have : q ≠ 113 ∧ q ≠ 119 := by omega
    simp [wlk, Ne.symm this.1, Ne.symm this.2]))
  have o9 : ∀ q, q ≠ 113 → I9 q = I8 q := fun q hq => by rw [e9, up2_key hq]
  have p9 : ∀ i, i ≠ 4 → I9 113 i = I8 113 i := fun i hi => by rw [e9, up2_ne (by omega)]
  refine ⟨5, loopN (L := fun n (a : Ii) v => L_X4_take_51 200 k2 _ n v a J8) (fun v a => (∀ q, q ≠ 113 → a q = I8 q) ∧ (∀ i, i ≠ 4 → a 113 i = I8 113 i) ∧ a 113 4 = sm (fun p => debtZ σ (p : Int)) v) (N := (σ 2).toNat) (fun n v a hv ha kk => ?_) 5 0 I9 (by omega) (by omega) ⟨o9, p9, by rw [e9, up2_self]; rfl⟩⟩
  obtain ⟨a0, a1, a2⟩ := ha
  have r1 : a 113 1 = σ 2 := by rw [a1 _ (by decide), q1]
  refine ls_X4_take_51 ?_
  unfold Lb_X4_take_51
  refine ⟨rgK (by omega), rgK (by omega), fun c => ?_, fun c => ?_⟩
  · have hvn : v = (σ 2).toNat := by omega
    subst hvn
    have gr := grs_b hV.M
    refine ⟨by rw [a1 _ (by decide), q0], r1, by rw [a1 _ (by decide), q2], by rw [a1 _ (by decide), q3], a2, by rw [a1 _ (by decide), h8.1], fun g hg => ?_, fun p hp => ?_, fun g p hg hp => ?_⟩
    · rw [a0 _ (by decide), a0 _ (by decide), a0 _ (by decide), t8 _ (by decide), t8 _ (by decide), t8 _ (by decide)]
      exact ⟨(h7.1 g (by omega)).1, (h7.1 g (by omega)).2, h7.2.1 g hg⟩
    · rw [a0 _ (by decide), a0 _ (by decide), t8 _ (by decide), t8 _ (by decide)]
      exact h7.2.2 p (by omega)
    · rw [a0 _ (by decide)]
      exact h8.2 g p hg (by omega)
  · refine at_of (n := 4) rfl rfl (by omega) ?_
    have hw : a 118 v = wOf σ (v : Int) := by rw [a0 _ (by decide), t8 _ (by decide), (h7.2.2 v (by omega)).2]
    have bw := wOf_b hV.M (v : Int)
    rw [hw]
    refine debtAt_of hV (by rw [a1 _ (by decide), q2]) (by omega) (fun I14 e14 => kk (by omega) I14 ⟨fun q hq => ?_, fun i hi => ?_, ?_⟩)
    · rw [e14, up2_key hq]; exact a0 q hq
    · rw [e14, up2_ne (by omega)]; exact a1 i hi
    · rw [e14, up2_self, a2, sm_succ, debtZ_pos]
theorem gainOf_of (hV : VS σ) (hE : ME σ I) {x y : Int} {g p : Nat} (hx : x = (g : Int)) (hg : (g : Int) < grs σ) (hy : y = (p : Int)) (hp : (p : Int) < σ 2) {Q : Int → Ii → Jj → Prop} (h : Q (gainZ σ g p) I J) : wp_X4_gainOf x y I J Q := by
  have gr := grs_b hV.M
  have b2 := ms_2 hV.M
  have bg := hV.gpb (g := (g : Int)) (by omega) hg
  obtain ⟨e0, e1, e2, e3, e4, e5, e6, e7, e8⟩ := hE
  subst hx hy
  refine at_of (n := 56) rfl (i := 4 * g + p) (by omega) (by omega) ?_
  rw [e8 g p hg hp]
  refine at_of (n := 14) rfl rfl (by omega) ?_
  rw [(e6 g hg).2.2]
  refine at_of (n := 56) rfl (i := 4 * g + (gPt σ g).toNat) (by omega) (by omega) ?_
  rw [e8 g _ hg (by omega), show (((gPt σ (g : Int)).toNat : Nat) : Int) = gPt σ g by omega, ← gainZ_pull]
  exact h
theorem debtsWith_of (hV : VS σ) (hE : ME σ I) {x y : Int} {g p : Nat} (hx : x = (g : Int)) (hg : (g : Int) < grs σ) (hy : y = (p : Int)) (hp : (p : Int) < σ 2) {Q : Int → Ii → Jj → Prop} (h : Q (dwZ σ g p) I J) : wp_X4_debtsWith x y I J Q := by
  have gr := grs_b hV.M
  have b2 := ms_2 hV.M
  have bg := hV.gpb (g := (g : Int)) (by omega) hg
  obtain ⟨e0, e1, e2, e3, e4, e5, e6, e7, e8⟩ := hE
  have w1 := wOf_b hV.M (gPt σ g)
  have w2 := wOf_b hV.M (p : Int)
  have w3 := gW_b hV.M (g : Int)
  have bl := limZ_b hV.M
  subst hx hy
  refine at_of (n := 14) rfl rfl (by omega) ?_
  rw [(e6 g hg).2.2]
  refine ⟨rgK (by omega), rgK (by omega), fun d => ?_, fun d => ?_⟩
  · refine at_of (n := 14) rfl rfl (by omega) ?_
    rw [(e6 g hg).2.1]
    refine at_of (n := 4) rfl (i := (gPt σ g).toNat) (by omega) (by omega) ?_
    rw [(e7 _ (by omega)).2, show (((gPt σ (g : Int)).toNat : Nat) : Int) = gPt σ g by omega]
    refine at_of (n := 4) rfl (i := p) rfl (by omega) ?_
    rw [(e7 _ hp).2]
    refine debtAt_of hV e2 (by omega) (debtAt_of hV e2 (by omega) (debtAt_of hV e2 (by omega) (debtAt_of hV e2 (by omega) ?_)))
    rw [e4, ← debtZ_pos, ← debtZ_pos, ← dwZ_move hV ⟨by omega, hg⟩ ⟨by omega, hp⟩ d]
    exact h
  · rw [e4, ← dwZ_own d]
    exact h
theorem isTooMuch_of (hV : VS σ) (hE : ME σ I) {x : Int} (hx : 0 ≤ x ∧ x ≤ 20000) {Q : Int → Ii → Jj → Prop} (h1 : σ 4 < x ∧ debtsZ σ < x → Q 1 I J) (h0 : ¬ (σ 4 < x ∧ debtsZ σ < x) → Q 0 I J) : wp_X4_isTooMuch x I J Q := by
  have b4 := ms_4 hV.M
  have bd := debtsZ_b hV.M
  obtain ⟨e0, e1, e2, e3, e4, -⟩ := hE
  exact ⟨rgK (by omega), rgK (by omega), fun c => h0 (by omega), fun c => ⟨rgK (by omega), fun c2 => h0 (by omega), fun c2 => h1 (by omega)⟩⟩
theorem reasonAgainst_of (hV : VS σ) (hE : ME σ I) {x y : Int} {g p : Nat} (hx : x = (g : Int)) (hg : (g : Int) < grs σ) (hy : y = (p : Int)) (hp : (p : Int) < σ 2) {Q : Int → Ii → Jj → Prop} (h : Q (wmZ σ g p) I J) : wp_X4_reasonAgainst x y I J Q := by
  have gr := grs_b hV.M
  have b2 := ms_2 hV.M
  have bg := hV.gpb (g := (g : Int)) (by omega) hg
  have bd := dwZ_b hV.M g p
  have e6 := hE.2.2.2.2.2.2.1
  subst hx
  refine at_of (n := 14) rfl rfl (by omega) ?_
  rw [(e6 g hg).2.2]
  unfold wmZ at h
  refine ⟨rgK (by omega), rgK (by omega), fun d => ?_, fun d => ?_⟩
  · rw [if_neg (by omega)] at h
    refine debtsWith_of hV hE rfl hg hy hp (isTooMuch_of hV hE (by omega) (fun c => ⟨fun z => absurd z (by decide), fun _ => ?_⟩) (fun c => ⟨fun _ => ?_, fun z => absurd rfl z⟩))
    · rw [if_pos c] at h; exact h
    · rw [if_neg c] at h; exact h
  · rw [if_pos (by omega)] at h; exact h
theorem heaviestPart_of (hV : VS σ) (hE : ME σ I) {Q : Int → Ii → Jj → Prop} (h : Q ((hvZ σ ((σ 2).toNat - 1) : Nat) : Int) I J) : wp_X4_heaviestPart I J Q := by
  have b2 := ms_2 hV.M
  obtain ⟨e0, e1, e2, e3, e4, e5, e6, e7, e8⟩ := hE
  refine ⟨5, loopN (L := fun n t v => L_X4_heaviestPart_4 Q n t v I J) (fun v t => 1 ≤ v ∧ t = ((hvZ σ (v - 1) : Nat) : Int)) (N := (σ 2).toNat) (fun n v t hv ht k => ?_) 5 1 0 (by omega) (by omega) ⟨by omega, rfl⟩⟩
  obtain ⟨hv1, ht⟩ := ht
  refine ls_X4_heaviestPart_4 ?_
  unfold Lb_X4_heaviestPart_4
  refine ⟨rgK (by omega), rgK (by omega), fun c => ?_, fun c => ?_⟩
  · rw [ht, show v = (σ 2).toNat by omega]; exact h
  · have hl := hvZ_le σ (v - 1)
    obtain ⟨u, rfl⟩ : ∃ u, v = u + 1 := ⟨v - 1, by omega⟩
    rw [Nat.add_sub_cancel] at ht hl
    refine at_of (n := 4) rfl rfl (by omega) (at_of (n := 4) rfl ht (by omega) ?_)
    rw [(e7 _ (by omega)).2, (e7 _ (by omega)).2]
    have w1 := wOf_b hV.M ((u + 1 : Nat) : Int)
    have w2 := wOf_b hV.M ((hvZ σ u : Nat) : Int)
    refine ⟨rgK (by omega), rgK (by omega), fun d => k (by omega) _ ⟨by omega, ?_⟩, fun d => k (by omega) _ ⟨by omega, ?_⟩⟩
    · show t = ((hvZ σ (u + 1) : Nat) : Int)
      conv => rhs; unfold hvZ
      rw [if_neg (by omega)]
      exact ht
    · show ((u + 1 : Nat) : Int) = ((hvZ σ (u + 1) : Nat) : Int)
      conv => rhs; unfold hvZ
      rw [if_pos (by omega)]
theorem pullOfAll_of (hV : VS σ) (hE : ME σ I) {x : Int} {g : Nat} (hx : x = (g : Int)) (hg : (g : Int) < grs σ) {Q : Int → Ii → Jj → Prop} (h : Q (sm (fun p => pullZ σ g (p : Int)) (σ 2).toNat) I J) : wp_X4_pullOfAll x I J Q := by
  have b2 := ms_2 hV.M
  have gr := grs_b hV.M
  obtain ⟨e0, e1, e2, e3, e4, e5, e6, e7, e8⟩ := hE
  subst hx
  refine ⟨5, loopN (L := fun n t v => L_X4_pullOfAll_4 _ Q n t v I J) (fun v t => t = sm (fun p => pullZ σ g (p : Int)) v) (N := (σ 2).toNat) (fun n v t hv ht k => ?_) 5 0 0 (by omega) (by omega) rfl⟩
  refine ls_X4_pullOfAll_4 ?_
  unfold Lb_X4_pullOfAll_4
  refine ⟨rgK (by omega), rgK (by omega), fun c => ?_, fun c => ?_⟩
  · have hvn : v = (σ 2).toNat := by omega
    rw [ht, hvn]; exact h
  · refine at_of (n := 56) rfl (i := 4 * g + v) (by omega) (by omega) (k (by omega) _ ?_)
    rw [e8 g v hg (by omega), ht, sm_succ]
end MG

/-! ===== the world has grown ===== -/
/-- what the law goes on with: the world tells the row, its text says it -/
def FG (I0 : Ii) (σ : Nat → Int) (nm : Nat → Int64) (L : List Int) (N : Int) (I : Ii) : Prop := WO σ I ∧ (σ 5 = 0 ∧ σ 6 = 0) ∧ (∃ t tb : Nat, I 1000 12 = (t : Int) ∧ TXr I t tb L.length ∧ (1022 ≤ t ∧ (t : Int) < I 999 0) ∧ (1022 ≤ tb ∧ (tb : Int) < I 999 0) ∧ ∀ j, j < L.length → I tb j = gB L j) ∧ (∀ j, j < L.length → 0 ≤ gB L j ∧ gB L j < 128) ∧ L.length ≤ 660 ∧ (∃ T p, txt (gB L) L.length (L.length + 1) (zrR, nm0, 0, 0) = .ok (σ, nm, T, p)) ∧ XG I0 I ∧ (1022 ≤ I 999 0 ∧ I 999 0 ≤ N) ∧ ∀ a b, 0 ≤ TBz σ a b ∧ TBz σ a b ≤ 9
theorem mset_0 {σ : Nat → Int} (hV : VS σ) {g : Nat} (hg : g < (σ 0).toNat) : mset σ 0 g = 2 ^ g := by
  apply Nat.eq_of_testBit_eq
  intro i
  unfold mset
  rw [bset_bit, Nat.testBit_two_pow]
  by_cases hi : i < (σ 0).toNat
  · rw [hV.2.2.2.1 i hi]
    rw [decide_eq_true hi, Bool.true_and]
    exact decide_eq_decide.mpr (by omega)
  · rw [decide_eq_false hi, Bool.false_and]
    exact (decide_eq_false (by omega)).symm
/-- the row of sets, while it is filled -/
def RI (I51 : Ii) (v52 j : Nat) (I' : Ii) : Prop := ExW (fun q => q = v52) I51 I' ∧ I' 999 0 = I51 999 0 ∧ ∀ g, g < j → I' v52 g = ((2 ^ g : Nat) : Int)
section GRF
variable {I0 I : Ii} {J : Jj} {n : Int} {k : Nat} {sL : Nat} {xs : Nat → Int}
theorem g_end {Q : Nat → Ii → Jj → Prop} (hn : 2 ≤ n ∧ n ≤ 10) (h : EI I0 n k I) (hq : ∀ (I' : Ii) (σ : Nat → Int) (nm : Nat → Int64) (L : List Int), FG I0 σ nm L 5000 I' → Q 1000 I' J) : (((0 : Int) ≤ n ∧ n ≤ ((14 : Nat) : Int)) ∧ I 999 0 < 900000) ∧ ∀ I51 : Ii, I51 = nwI I 1 n (fun _ => 0) → ∀ v52 : Nat, v52 = (I 999 0).toNat → ∃ m : Nat, L_X12_grown8_435 sL xs Q m k v52 0 I51 J := by
  obtain ⟨b, σ, nm, T, p, c, L, h, hs, s0, hc⟩ := h
  have hL := hs.2.2.2.1
  have b30 := hs.2.2.2.2.1.2
  have hlen : L.length ≤ 660 := by omega
  obtain ⟨hl0, hX, hG, hB, hN1, hN2⟩ := h
  have hk := hB.2.2.2.2.1
  have hb := hB.2.2.2.2.2.1
  refine ⟨⟨⟨by omega, by omega⟩, by omega⟩, fun I51 e51 v52 ev => ⟨15, ?_⟩⟩
  have x51 : Ex I I51 := by rw [e51]; exact ExW.nw ⟨by omega, by omega⟩
  have n51 : I51 999 0 = I 999 0 + 1 := by rw [e51]; exact nwI_9 _ _ _ _
  have s51 : dS I51 (I 999 0).toNat = 1 ∧ dL I51 (I 999 0).toNat = n := by rw [e51]; exact nwI_s
  rw [← ev] at s51
  clear e51
  have hv : (v52 : Int) = I 999 0 := by omega
  -- the row of sets is filled
  refine loopN (L := fun m (t : Ii) v => L_X12_grown8_435 sL xs Q m k v52 v t J) (RI I51 v52) (N := n.toNat) (fun m j I' hj hi kk => ?_) 15 0 I51 (by omega) (by omega) ⟨ExW.rf I51, rfl, fun g hg => absurd hg (Nat.not_lt_zero _)⟩
  obtain ⟨xI, nI, hrow⟩ := hi
  have x1 : Ex I I' := x51.trans xI (fun _ q => q) (fun q _ hq2 z => by omega)
  have d52 := ExW.ds xI (k := v52) (by omega) (by omega)
  show Lb_X12_grown8_435 sL xs Q (L_X12_grown8_435 sL xs Q m) k v52 (j : Int) I' J
  generalize L_X12_grown8_435 sL xs Q m = r at kk ⊢
  unfold Lb_X12_grown8_435
  have low : ∀ q, q < 1022 → q ≠ 999 → I' q = I q := fun q q1 q2 => (x1.2 q q2 (by omega)).1 (fun z => z)
  have hw0 : I' 1000 0 = n := by rw [low 1000 (by omega) (by omega)]; exact hG.1
  rw [hw0]
  refine ⟨⟨by omega, by omega⟩, ⟨by omega, by omega⟩, fun d => ?_, fun d => ⟨⟨by rw [d52.1]; exact s51.1, by omega, by rw [d52.2, s51.2]; omega⟩, fun I103 e103 => ?_⟩⟩
  rotate_left
  · rw [Int.toNat_natCast] at e103
    rw [shl1Z (by omega)] at e103
    refine kk (by omega) I103 ⟨xI.trans (W' := fun q => q = v52) ?_ (fun _ q => q) (fun _ _ _ q => q), ?_, fun g hg => ?_⟩
    · rw [e103]; exact ExW.up (by omega) (by omega) (by omega) rfl
    · rw [e103, up2_9 (by omega)]; exact nI
    · by_cases cg : g = j
      · rw [e103, cg, up2_self]
      · rw [e103, up2_ne (by omega)]; exact hrow g (by omega)
  -- the row is the first level
  have hN' : NX I' := ⟨by omega, by omega⟩
  have lI : LTP I' := (hX.ex x1 hN1 (fun _ _ z => z)).ltp hl0
  obtain ⟨t1, t2, -, -⟩ := lI 930 (by omega) (by omega)
  have e930 : dS I' 930 = 3 ∧ dL I' 930 = 0 := ⟨t1, t2⟩
  have g20 : I' 1020 = I 1020 := low 1020 (by omega) (by omega)
  have g21 : I' 1021 = I 1021 := low 1021 (by omega) (by omega)
  have g0 := hG.1
  obtain ⟨-, ⟨w1, w2, w3, w4⟩, ww, wp, wt, ⟨a20, b20⟩, a21, b21⟩ := hG
  have al : ∀ K, isAK K → I' K 2 = 0 → I' K 1 = 930 → ALr I' K 0 (fun _ => 0) := fun K _ z2 z1 => by
    have zt : (I' K 1).toNat = 930 := by rw [z1]; rfl
    refine ⟨z2, by omega, Or.inl ⟨zt, rfl, e930.2⟩, by rw [zt]; exact e930.1, by rw [zt, e930.2]; exact ⟨by decide, by decide⟩, fun j hj => absurd hj (Nat.not_lt_zero _), fun j _ hj => ?_⟩
    rw [zt, e930.2] at hj
    omega
  have A20 := al 1020 (Or.inl rfl) (by rw [g20]; exact a20) (by rw [g20]; exact b20)
  have A21 := al 1021 (Or.inr rfl) (by rw [g21]; exact a21) (by rw [g21]; exact b21)
  have d1 : dS I' v52 = 1 := by rw [d52.1]; exact s51.1
  have l1 : dL I' v52 = n := by rw [d52.2]; exact s51.2
  refine AL_add (Or.inl rfl) hN' A20 (by omega) (v := v52) ⟨d1, by omega, by omega⟩ (fun I98 A98 x98 n98 _ => ?_)
  have z20 : (I' 1020 1).toNat = 930 := by rw [g20, b20]; rfl
  have x98' : ExW (fun q => q = 1020) I' I98 := x98.weaken (fun q z => by
    rcases z with z | ⟨z1, z2⟩
    · exact z
    · omega)
  have m98 := x98.1
  -- the builder stands
  have ek := x1.2 k (by omega) (by omega)
  have eb := x1.2 b (by omega) (by omega)
  have ek2 := x98'.2 k (by omega) (by omega)
  have eb2 := x98'.2 b (by omega) (by omega)
  have ik : I98 k = I k := (ek2.1 (by omega)).trans (ek.1 (fun q => q))
  have ib : I98 b = I b := (eb2.1 (by omega)).trans (eb.1 (fun q => q))
  have dk : dS I98 k = dS I k := congrFun (ek2.2.trans ek.2) 0
  have db : dS I98 b = dS I b ∧ dL I98 b = dL I b := ⟨congrFun (eb2.2.trans eb.2) 0, congrFun (eb2.2.trans eb.2) 1⟩
  have S98 : SBl I98 k b L := by
    obtain ⟨g1, g2, g3, g4, g5, g6, g7, g8, g9, g10, g11⟩ := hB
    refine ⟨by rw [dk]; exact g1, by rw [ik]; exact g2, by rw [ik]; exact g3, by rw [ik]; exact g4, by omega, by omega, g7, by rw [db.1]; exact g8, by rw [db.2]; exact g9, fun j hj => ?_, fun j hj => ?_⟩
    · rw [db.2] at hj; rw [ib]; exact g10 j hj
    · rw [ib]; exact g11 j hj
  have byt : ∀ j, j < L.length → 0 ≤ gB L j ∧ gB L j < 128 := fun j hj => by
    obtain ⟨-, -, -, -, -, -, -, -, g9, g10, g11⟩ := hB
    rw [← g11 j hj]
    exact g10 j (by omega)
  refine ⟨S98.1, SB_str S98 ⟨by omega, by omega⟩ (by omega) (fun I99 t99 y99 x99 n99 => ?_)⟩
  intro I101 e101
  have hK : (((I98 999 0).toNat : Nat) : Int) = I98 999 0 := by omega
  have x101 : ExW (fun q => q = 1000) I99 I101 := by rw [e101]; exact ExW.up (by omega) (by omega) (by omega) rfl
  have n101 : I101 999 0 = I99 999 0 := by rw [e101, up2_9 (by omega)]
  have xx : ExW (fun q => q = 1000) I98 I101 := x99.trans x101 (fun _ q => q.elim) (fun _ _ _ q => q)
  have xw : ExW (fun q => q = 1000 ∨ q = 1020) I' I101 := x98'.trans xx (fun _ q => Or.inr q) (fun _ _ _ q => Or.inl q)
  have xa : ExW (fun q => q = 1000 ∨ q = 1020) I I101 := x1.trans xw (fun _ q => q.elim) (fun _ _ _ q => q)
  have low2 : ∀ q, q < 1022 → q ≠ 999 → q ≠ 1000 → q ≠ 1020 → I101 q = I q := fun q q1 q2 q3 q4 => (xa.2 q q2 (by omega)).1 (by omega)
  have w1000 : ∀ i, i ≠ 12 → I101 1000 i = I 1000 i := fun i hi => by
    rw [e101, up2_ne (by omega), (x99.2 1000 (by omega) (by omega)).1 (fun q => q), (x98'.2 1000 (by omega) (by omega)).1 (by omega), low 1000 (by omega) (by omega)]
  have hV := hs.2.1.vs
  obtain ⟨-, -, p5, p6, p105, pp, -⟩ := hs.2.1
  have A20' : ALr I101 1020 1 (fun j => if j = 0 then v52 else (fun _ => 0) j) := AL_keep (by omega) A98 xx (Or.inl rfl) (by omega) (fun z => by
    have := A98.2.2.1
    omega)
  have A21' : ALr I101 1021 0 (fun _ => 0) := AL_keep hN'.1 A21 xw (Or.inr rfl) (by omega) (fun z => by
    rw [g21, b21] at z
    have z : (930 : Int).toNat = 1000 ∨ (930 : Int).toNat = 1020 := z
    revert z
    decide)
  have q20 : I101 1021 1 = 930 := by rw [low2 1021 (by omega) (by omega) (by omega) (by omega)]; exact b21
  have q21 : 1022 ≤ (I101 1020 1).toNat := by
    rcases A20'.2.2.1 with z | z
    · omega
    · exact z.1
  have hWs : WNs σ I101 := by
    refine ⟨⟨by rw [w1000 0 (by decide), s0]; exact g0, by rw [w1000 1 (by decide)]; exact w1, by rw [w1000 2 (by decide)]; exact w2, by rw [w1000 3 (by decide)]; exact w3⟩, fun v hv2 => ?_, fun v hv2 => ?_, fun a b ha hb2 => ?_⟩
    · rw [low2 1001 (by omega) (by omega) (by omega) (by omega)]; exact ww v hv2
    · rw [low2 1002 (by omega) (by omega) (by omega) (by omega), wp v (by omega)]; exact (pp v (by omega)).symm
    · rw [low2 (1006 + a) (by omega) (by omega) (by omega) (by omega)]; exact wt a b (by omega) (by omega)
  have e52 := xw.2 v52 (by omega) (by omega)
  have hWl : WNl σ I101 (fun j => if j = 0 then v52 else (fun _ => 0) j) := by
    rw [WNl, p5]
    refine ⟨A20', fun l hl => ?_⟩
    have : l = 0 := by
      have hl : l ≤ (0 : Int).toNat := hl
      have : (0 : Int).toNat = 0 := rfl
      omega
    subst this
    rw [if_pos rfl]
    refine ⟨?_, fun g hg => ?_⟩
    · show dL I101 v52 = σ 105
      rw [(ExW.ds xw (by omega) (by omega)).2, l1, p105, s0]
    · have hg : (g : Int) < σ 105 := hg
      rw [p105] at hg
      rw [mset_0 hV (by omega), e52.1 (by omega)]
      exact hrow g (by omega)
  have ht := t99.ex x101 ⟨by omega, by omega⟩ ⟨by omega, by omega⟩ (by omega) (by omega)
  refine hq I101 σ nm L ⟨⟨⟨hV, by omega, by omega⟩, hWs, ⟨_, hWl⟩, ⟨_, by rw [p6]; exact A21'⟩, by rw [q20]; omega⟩, ⟨p5, p6⟩, ⟨_, _, by rw [e101, up2_self], ht.1, ⟨by omega, by omega⟩, ⟨by omega, by omega⟩, fun j hj => by rw [ht.2]; exact y99 j hj⟩, byt, hlen, ⟨T, p, hs.1.done⟩, hX.ex xa hN1 (fun q q1 z => by omega), ⟨by omega, by omega⟩, fun a b => ⟨(TBz_b9 hs).1, (TBz_b9 hs).2.1⟩⟩
theorem g_verts {Q : Nat → Ii → Jj → Prop} {σ : Nat → Int} {nm : Nat → Int64} {T p c : Nat} {b : Nat} {L : List Int} (h : GM I0 0 σ I k b L (2000 + 30 * (c : Int))) (hs : GS σ nm T p c L) (h0 : σ 0 = 0) (h1 : σ 1 = 0) (hc : c ≤ 3) (hq : ∀ (I' : Ii) (σ : Nat → Int) (nm : Nat → Int64) (L : List Int), FG I0 σ nm L 5000 I' → Q 1000 I' J) : B_X12_grown8_126 sL xs Q k I J := by
  unfold B_X12_grown8_126
  refine c_pick ⟨by omega, by omega⟩ (by omega) (fun v35 _ v0b => ?_)
  intro I36 e36
  refine ⟨12, Nat.le_refl _, ?_⟩
  have hg : GW (2 + v35) σ (up2 I 1000 0 (2 + v35)) := by
    obtain ⟨g0, ⟨g1, g2, g3, g4⟩, gw, -⟩ := h.2.2.1
    refine GW_up h.2.2.1 (Or.inl ⟨rfl, by omega⟩) (up2_self _ _ _ _) ⟨?_, ?_, ?_⟩ (fun _ _ => rfl) (fun v hv => ?_)
    · rw [up2_ne (by omega)]; exact g1
    · rw [up2_ne (by omega)]; exact g2
    · rw [up2_ne (by omega)]; exact g3
    · rw [h0] at hv; exact absurd hv (Nat.not_lt_zero _)
  have h36 := h.put (K := 1000) (i := 0) (x := 2 + v35) ⟨by omega, by omega⟩ hg
  rw [← e36] at h36
  have hn : 2 ≤ 2 + v35 ∧ 2 + v35 ≤ 10 := by omega
  generalize 2 + v35 = n at *
  refine g_vtxs hn (fun I' hI' => ⟨32, Nat.le_refl _, ?_⟩) 12 0 I36 (Nat.zero_le _) (by omega) ⟨b, σ, nm, T, p, c, L, h36, hs, h0, h1, by omega⟩
  obtain ⟨b', σ', nm', T', p', c', L', g1, g2, g3, g4, g5⟩ := hI'
  exact g_edges hn (fun I2 h2 => g_end hn h2 hq) 32 0 I' (Nat.zero_le _) (by omega) ⟨b', σ', nm', T', p', c', L', g1, g2, by omega, by omega⟩
theorem g_cred {Q : Nat → Ii → Jj → Prop} {σ : Nat → Int} {nm : Nat → Int64} {T p c : Nat} {b : Nat} {L : List Int} (h : GM I0 0 σ I k b L (2000 + 30 * (c : Int))) (hs : GS σ nm T p c L) (h0 : σ 0 = 0) (h1 : σ 1 = 0) (hc : c ≤ 2) (hT : T.testBit 2 = false) (hq : ∀ (I' : Ii) (σ : Nat → Int) (nm : Nat → Int64) (L : List Int), FG I0 σ nm L 5000 I' → Q 1000 I' J) : B_X12_grown8_89 sL xs Q k I J := by
  unfold B_X12_grown8_89
  refine c_pick ⟨by omega, by omega⟩ (by omega) (fun v _ v0b => ⟨⟨by omega, by omega⟩, fun _ => g_verts h hs h0 h1 (by omega) hq, fun _ => ?_⟩)
  refine g_one (f := fun v => v) (i := 3) (Or.inr (Or.inr ⟨rfl, rfl, rfl, rfl⟩)) rfl h hs h0 hT (by omega) (by omega) ⟨by omega, by omega⟩ ⟨by decide, by decide⟩ (fun v v0 v1 => ⟨⟨by omega, by omega⟩, by omega, by omega⟩) (fun I' b' L' x p' h' hs' => ?_)
  exact g_verts (h'.wk (by omega)) hs' ((updr_ne (by decide)).trans h0) ((updr_ne (by decide)).trans h1) (by omega) hq
theorem g_slack {Q : Nat → Ii → Jj → Prop} {σ : Nat → Int} {nm : Nat → Int64} {T p c : Nat} {b : Nat} {L : List Int} (h : GM I0 0 σ I k b L (2000 + 30 * (c : Int))) (hs : GS σ nm T p c L) (h0 : σ 0 = 0) (h1 : σ 1 = 0) (hc : c ≤ 1) (hT : T.testBit 1 = false ∧ T.testBit 2 = false ∧ (T ||| 2 ^ 1).testBit 2 = false) (hq : ∀ (I' : Ii) (σ : Nat → Int) (nm : Nat → Int64) (L : List Int), FG I0 σ nm L 5000 I' → Q 1000 I' J) : B_X12_grown8_53 sL xs Q k I J := by
  unfold B_X12_grown8_53
  refine c_pick ⟨by omega, by omega⟩ (by omega) (fun v _ v0b => ⟨⟨by omega, by omega⟩, fun _ => g_cred h hs h0 h1 (by omega) hT.2.1 hq, fun _ => ?_⟩)
  refine g_one (f := fun v => v) (i := 2) (Or.inr (Or.inl ⟨rfl, rfl, rfl, rfl⟩)) rfl h hs h0 hT.1 (by omega) (by omega) ⟨by omega, by omega⟩ ⟨by decide, by decide⟩ (fun v v0 v1 => ⟨⟨by omega, by omega⟩, by omega, by omega⟩) (fun I' b' L' x p' h' hs' => ?_)
  exact g_cred (h'.wk (by omega)) hs' ((updr_ne (by decide)).trans h0) ((updr_ne (by decide)).trans h1) (by omega) hT.2.2 hq
theorem g_grown {Q : Nat → Ii → Jj → Prop} (hl : LTP I0) (hg : GW 0 zrR I0) (hN : 1022 ≤ I0 999 0 ∧ I0 999 0 ≤ 1500) (hq : ∀ (I' : Ii) (σ : Nat → Int) (nm : Nat → Int64) (L : List Int), FG I0 σ nm L 5000 I' → Q 1000 I' J) : wp_X12_grown8 sL xs I0 J Q := by
  unfold wp_X12_grown8
  refine SB_mk (T := gB []) (Q := fun v3 I4 J4 => wp_L_pick sL xs 1 2 I4 J4 (fun v5 I5 J5 => rg v5 ∧ (¬ v5 = 0 → B_X12_grown8_53 sL xs Q v3 I5 J5) ∧ (v5 = 0 → (dS I5 v3 = 6) ∧ wp_J4_append_15ec4 v3 900 I5 J5 (fun v7 I7 J7 => wp_L_pick sL xs 2 3 I7 J7 (fun v9 I9 J9 => ∀ I10 : Ii, I10 = up2 I9 1000 1 ((2 : Int) + v9) → (dS I10 v7 = 6) ∧ wp_J4_append_bf812 v7 ((2 : Int) + v9) I10 J9 (fun v11 I11 J11 => (dS I11 v11 = 6) ∧ wp_J4_append_15ec4 v11 902 I11 J11 (fun v13 I13 J13 => B_X12_grown8_53 sL xs Q v3 I13 J13))))))) ⟨by omega, by omega⟩ (fun I4 h4 x4 n4 => ?_)
  generalize (I0 999 0).toNat = K at *
  have h : GM I0 0 zrR I4 K (K + 1) [] (2000 + 30 * ((0 : Nat) : Int)) := ⟨hl, (XG.rf I0).ex x4 hN.1 (fun _ _ z => z), hg.keep (fun q q1 q2 => (x4.2 q (by omega) (by omega)).1 (fun z => z)), h4, by omega, by omega⟩
  refine c_pick ⟨by omega, by omega⟩ (by omega) (fun v _ v0b => ⟨⟨by omega, by omega⟩, fun _ => g_slack h GS.nil rfl rfl (by omega) ⟨by decide, by decide, by decide⟩ hq, fun _ => ?_⟩)
  refine g_one (f := fun v => 2 + v) (i := 0) (Or.inl ⟨rfl, rfl, rfl, rfl⟩) rfl h GS.nil rfl (by decide) (by omega) (by omega) ⟨by omega, by omega⟩ ⟨by decide, by decide⟩ (fun v v0 v1 => ⟨⟨by omega, by omega⟩, by omega, by omega⟩) (fun I' b' L' x p' h' hs' => ?_)
  exact g_slack (h'.wk (by omega)) hs' (updr_ne (by decide)) (updr_ne (by decide)) (by omega) ⟨by decide, by decide, by decide⟩ hq
end GRF

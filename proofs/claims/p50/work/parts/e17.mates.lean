/-! ===== mates ===== -/
section WOM
variable {σ : Nat → Int} {I : Ii} {J : Jj}
/-- the mates found so far stand in a row -/
def MTr (I : Ii) (K : Nat) (G : Nat) (m : Nat → Int) : Prop := dS I K = 1 ∧ dL I K = (G : Int) ∧ ∀ g, g < G → I K g = m g
/-- the best mate of g from behind -/
def BMt (σ : Nat → Int) (m : Nat → Int) (g a : Nat) (r : Int) : Prop := (r = -1 ∧ ∀ h : Nat, a ≤ h → (h : Int) < grs σ → (m h ≠ -1 ∨ joinZ σ g h = 0 ∨ gPt σ h ≠ gPt σ g ∨ limZ σ < gW σ g + gW σ h)) ∨
  ∃ h : Nat, a ≤ h ∧ (h : Int) < grs σ ∧ r = (h : Int) ∧ ¬ (m h ≠ -1 ∨ joinZ σ g h = 0 ∨ gPt σ h ≠ gPt σ g ∨ limZ σ < gW σ g + gW σ h) ∧ ∀ h' : Nat, a ≤ h' → (h' : Int) < grs σ → ¬ (m h' ≠ -1 ∨ joinZ σ g h' = 0 ∨ gPt σ h' ≠ gPt σ g ∨ limZ σ < gW σ g + gW σ h') → joinZ σ g h' < joinZ σ g h ∨ (joinZ σ g h' = joinZ σ g h ∧ h ≤ h')
theorem mbZ_best {σ : Nat → Int} (hM : MS σ) (m : Nat → Int) (g : Nat) : ∀ d, ((mbZ σ m g d) = (-1, 0) ∧ ∀ h : Nat, g + 1 ≤ h → h < g + 1 + d → (m h ≠ -1 ∨ joinZ σ g h = 0 ∨ gPt σ h ≠ gPt σ g ∨ limZ σ < gW σ g + gW σ h)) ∨
    ∃ h : Nat, g + 1 ≤ h ∧ h < g + 1 + d ∧ mbZ σ m g d = ((h : Int), joinZ σ g h) ∧ ¬ (m h ≠ -1 ∨ joinZ σ g h = 0 ∨ gPt σ h ≠ gPt σ g ∨ limZ σ < gW σ g + gW σ h) ∧ ∀ h' : Nat, g + 1 ≤ h' → h' < g + 1 + d → ¬ (m h' ≠ -1 ∨ joinZ σ g h' = 0 ∨ gPt σ h' ≠ gPt σ g ∨ limZ σ < gW σ g + gW σ h') → joinZ σ g h' < joinZ σ g h ∨ (joinZ σ g h' = joinZ σ g h ∧ h ≤ h')
  | 0 => Or.inl ⟨rfl, fun h h1 h2 => by omega⟩
  | d + 1 => by
    have ih := mbZ_best hM m g d
    have e : mbZ σ m g (d + 1) = mbS σ m g (g + 1 + d) (mbZ σ m g d) := rfl
    have bj := joinZ_b hM (g : Int) ((g + 1 + d : Nat) : Int)
    rw [e]
    unfold mbS
    rcases ih with ⟨q1, q2⟩ | ⟨h0, q1, q2, q3, q4, q5⟩
    · rw [q1]
      by_cases c : m (g + 1 + d) ≠ -1 ∨ joinZ σ g ((g + 1 + d : Nat) : Int) ≤ 0 ∨ gPt σ ((g + 1 + d : Nat) : Int) ≠ gPt σ g ∨ limZ σ < gW σ g + gW σ ((g + 1 + d : Nat) : Int)
      · rw [if_pos c]
        refine Or.inl ⟨rfl, fun h h1 h2 => ?_⟩
        by_cases z : h = g + 1 + d
        · subst z
          rcases c with c | c | c | c
          · exact Or.inl c
          · exact Or.inr (Or.inl (by omega))
          · exact Or.inr (Or.inr (Or.inl c))
          · exact Or.inr (Or.inr (Or.inr c))
        · exact q2 h h1 (by omega)
      · rw [if_neg c]
        refine Or.inr ⟨g + 1 + d, by omega, by omega, rfl, fun z => c ?_, fun h' h1 h2 h3 => ?_⟩
        · rcases z with z | z | z | z
          · exact Or.inl z
          · exact Or.inr (Or.inl (by omega))
          · exact Or.inr (Or.inr (Or.inl z))
          · exact Or.inr (Or.inr (Or.inr z))
        · by_cases z : h' = g + 1 + d
          · subst z; exact Or.inr ⟨rfl, Nat.le_refl _⟩
          · exact absurd (q2 h' h1 (by omega)) h3
    · rw [q3]
      by_cases c : m (g + 1 + d) ≠ -1 ∨ joinZ σ g ((g + 1 + d : Nat) : Int) ≤ joinZ σ g h0 ∨ gPt σ ((g + 1 + d : Nat) : Int) ≠ gPt σ g ∨ limZ σ < gW σ g + gW σ ((g + 1 + d : Nat) : Int)
      · rw [if_pos c]
        refine Or.inr ⟨h0, q1, by omega, rfl, q4, fun h' h1 h2 h3 => ?_⟩
        by_cases z : h' = g + 1 + d
        · subst z
          rcases c with c | c | c | c
          · exact absurd (Or.inl c) h3
          · rcases Int.lt_or_eq_of_le c with w | w
            · exact Or.inl w
            · exact Or.inr ⟨w, by omega⟩
          · exact absurd (Or.inr (Or.inr (Or.inl c))) h3
          · exact absurd (Or.inr (Or.inr (Or.inr c))) h3
        · exact q5 h' h1 (by omega) h3
      · rw [if_neg c]
        have c2 : ¬ joinZ σ g ((g + 1 + d : Nat) : Int) ≤ joinZ σ g h0 := fun z => c (Or.inr (Or.inl z))
        have bj0 := joinZ_b hM (g : Int) (h0 : Int)
        refine Or.inr ⟨g + 1 + d, by omega, by omega, rfl, fun z => c ?_, fun h' h1 h2 h3 => ?_⟩
        · rcases z with z | z | z | z
          · exact Or.inl z
          · omega
          · exact Or.inr (Or.inr (Or.inl z))
          · exact Or.inr (Or.inr (Or.inr z))
        · by_cases z : h' = g + 1 + d
          · subst z; exact Or.inr ⟨rfl, Nat.le_refl _⟩
          · left
            rcases q5 h' h1 (by omega) h3 with w | w <;> omega
theorem BMt.one {m : Nat → Int} (hM : MS σ) {g : Nat} (hg : (g : Int) < grs σ) {r : Int} (h : BMt σ m g (g + 1) r) : r = mtZ σ m g := by
  have gr := grs_b hM
  unfold mtZ
  rcases mbZ_best hM m g ((grs σ).toNat - (g + 1)) with ⟨q1, q2⟩ | ⟨h0, q1, q2, q3, q4, q5⟩
  · rw [q1]
    rcases h with ⟨a1, -⟩ | ⟨h1, a1, a2, a3, a4, a5⟩
    · exact a1
    · exact absurd (q2 h1 a1 (by omega)) a4
  · rw [q3]
    rcases h with ⟨a1, a2⟩ | ⟨h1, a1, a2, a3, a4, a5⟩
    · exact absurd (a2 h0 q1 (by omega)) q4
    · have k1 := a5 h0 q1 (by omega) q4
      have k2 := q5 h1 a1 (by omega) a4
      show r = (h0 : Int)
      omega
/-- a pair's weight -/
theorem swZ_or2 (h : WO σ I) {g k : Int} (hgk : g ≠ k) : swZ σ (memG σ g ||| memG σ k) = gW σ g + gW σ k := by
  unfold swZ gW
  rw [← sm_add]
  refine sm_cong (fun v hv => ?_)
  rw [Nat.testBit_or]
  have bb : ∀ a b : Bool, ((a || b) = true) ↔ (a = true ∨ b = true) := by decide
  simp only [bb, wmem_bit]
  by_cases c1 : gAt σ v = g
  · rw [if_pos (Or.inl ⟨hv, c1⟩), if_pos c1, if_neg (fun z => hgk (by rw [← c1, z]))]; omega
  · rw [if_neg c1]
    by_cases c2 : gAt σ v = k
    · rw [if_pos (Or.inr ⟨hv, c2⟩), if_pos c2]; omega
    · rw [if_neg (fun z => z.elim (fun q => c1 q.2) (fun q => c2 q.2)), if_neg c2]; rfl
theorem w_mates {Q : Nat → Ii → Jj → Prop} (h : WO σ I) (hN : 1022 ≤ I 999 0 ∧ I 999 0 ≤ 600000)
    (hq : ∀ (I' : Ii) (K : Nat), WO σ I' → Ex I I' → I' 999 0 = I 999 0 + 1 → (K : Int) = I 999 0 → MTr I' K (grs σ).toNat (mateZ σ) → Q K I' J) : wp_X12_mates I J Q := by
  have hM := h.1.1.M
  have hb := h.1.2
  have gr := grs_b hM
  have hlim := limZ_b hM
  generalize hG : (grs σ).toNat = Gn at *
  have gG : (Gn : Int) = grs σ := by omega
  unfold wp_X12_mates
  refine w_groups h ⟨⟨⟨by omega, by omega⟩, by omega⟩, fun I3 e3 v4 ev => ?_⟩
  subst ev
  generalize hNe : (I 999 0).toNat = N
  have hNi : (N : Int) = I 999 0 := by omega
  have s3 : dS I3 N = 1 ∧ dL I3 N = grs σ := by rw [e3, ← hNe]; exact nwI_s
  have x3 : Ex I I3 := by rw [e3]; exact ExW.nw ⟨by omega, by omega⟩
  have e93 : I3 999 0 = I 999 0 + 1 := by rw [e3]; exact nwI_9 _ _ _ _
  -- a store that differs at N alone
  have keepW : ∀ I1 : Ii, (∀ k, k ≠ N → I1 k = I3 k) → WO σ I1 ∧ Ex I I1 ∧ I1 999 0 = I 999 0 + 1 ∧ dS I1 N = 1 ∧ dL I1 N = grs σ := by
    intro I1 o1
    have x1 : Ex I I1 := by
      refine ⟨by rw [o1 999 (by omega), e93]; omega, fun k h9 hk => ?_⟩
      have := x3.2 k h9 hk
      refine ⟨fun q => by rw [o1 k (by omega)]; exact this.1 q, ?_⟩
      rw [o1 _ (by omega)]
      exact this.2
    refine ⟨?_, x1, by rw [o1 999 (by omega), e93], ?_, ?_⟩
    · obtain ⟨hV, hNs, ⟨L, hL⟩, ⟨L2, hE⟩, hDn⟩ := h
      refine ⟨hV, WNs_keep hN.1 (by omega) hNs x1 (fun _ _ _ q => q), ⟨L, WNl_keep hN.1 hL x1 (fun q => q) (fun q => q) (fun _ _ q => q)⟩, ⟨L2, AL_keep hN.1 hE x1 (Or.inr rfl) (fun q => q) (fun q => q)⟩, ?_⟩
      rw [(x1.2 1020 (by decide) (by omega)).1 (fun q => q), (x1.2 1021 (by decide) (by omega)).1 (fun q => q)]
      exact hDn
    · show I1 (1000000 + N) 0 = 1
      rw [o1 _ (by omega)]; exact s3.1
    · show I1 (1000000 + N) 1 = grs σ
      rw [o1 _ (by omega)]; exact s3.2
  -- the pairs, group by group
  have key27 : ∀ d g : Nat, g + d = Gn → ∀ I1 : Ii, (∀ k, k ≠ N → I1 k = I3 k) → (∀ k, k < Gn → I1 N k = (lmZ σ g).1 k) → L_X12_mates_27 Q (d + 1) N (g : Int) I1 J := by
    intro d
    induction d with
    | zero =>
      intro g hg I1 o1 m1
      show Lb_X12_mates_27 Q _ N (g : Int) I1 J
      unfold Lb_X12_mates_27
      obtain ⟨w1, w2, w3, w4, w5⟩ := keepW I1 o1
      rw [w5, ← gG]
      refine ⟨w4, ⟨by omega, by omega⟩, ⟨by omega, by omega⟩, fun _ => hq I1 N w1 w2 w3 hNi ⟨w4, by rw [w5, gG], fun g9 hg9 => ?_⟩, fun c => absurd (by omega) c⟩
      rw [m1 g9 hg9]
      unfold mateZ
      rw [hG, show g = Gn by omega]
    | succ d ih =>
      intro g hg I1 o1 m1
      show Lb_X12_mates_27 Q _ N (g : Int) I1 J
      unfold Lb_X12_mates_27
      obtain ⟨w1, w2, w3, w4, w5⟩ := keepW I1 o1
      generalize hr : L_X12_mates_27 Q (d + 1) = r27 at ih ⊢
      have hgs : (g : Int) < grs σ := by omega
      have hok := lmZ_ok hM (g := g) (by omega)
      have mb : ∀ k : Nat, -1 ≤ (lmZ σ g).1 k ∧ (lmZ σ g).1 k ≤ 13 := fun k => by
        rcases hok k with z | z <;> omega
      have mbg := mb g
      rw [w5, ← gG, Int.toNat_natCast, m1 g (by omega)]
      refine ⟨w4, ⟨by omega, by omega⟩, ⟨by omega, by omega⟩, fun c => by omega, fun _ => ⟨⟨w4, by omega, by omega⟩, ⟨by omega, by omega⟩, fun c => ⟨w4, ?_⟩, fun c => ?_⟩⟩
      · have hm1 : (lmZ σ g).1 g = -1 := by omega
        -- the best mate, from behind
        have key50 : ∀ d2 h2 : Nat, h2 = g + 1 + d2 → h2 ≤ Gn → ∀ l3 : Int, BMt σ (lmZ σ g).1 g h2 l3 → L_X12_mates_50 Q r27 (d2 + 1) N (g : Int) l3 ((h2 : Int) - 1) I1 J := by
          intro d2
          induction d2 with
          | zero =>
            intro h2 hh2 hle l3 hB
            subst hh2
            show Lb_X12_mates_50 Q r27 _ N (g : Int) l3 _ I1 J
            unfold Lb_X12_mates_50
            have e := BMt.one hM hgs hB
            have hmb := mtZ_b hM (lmZ σ g).1 hgs
            rw [← e] at hmb
            refine ⟨⟨by omega, by omega⟩, ⟨by omega, by omega⟩, fun _ => ⟨⟨by omega, by omega⟩, fun c3 => ?_, fun c3 => ?_⟩, fun c3 => absurd (by omega) c3⟩
            · have hr3 : (g : Int) < l3 ∧ l3 < grs σ := by omega
              refine ⟨⟨w4, by omega, by rw [w5]; omega⟩, fun I20 e20 => ⟨⟨by rw [e20, up2_dS (by omega)]; exact w4, by omega, by rw [e20, up2_dL (by omega), w5]; omega⟩, fun I22 e22 => ?_⟩⟩
              have o22 : ∀ k, k ≠ N → I22 k = I3 k := fun k hk => by rw [e22, up2_key hk, e20, up2_key hk]; exact o1 k hk
              rw [show ((g : Int) + 1) = ((g + 1 : Nat) : Int) by omega]
              refine ih (g + 1) (by omega) I22 o22 (fun k hk => ?_)
              rw [lmZ_succ, if_pos ⟨hm1, by rw [← e]; omega⟩, ← e]
              show I22 N k = updr (updr (lmZ σ g).1 g l3) l3.toNat (g : Int) k
              by_cases z1 : k = l3.toNat
              · rw [z1, updr_self, e22, up2_self]
              · rw [updr_ne z1, e22, up2_ne (fun q => z1 q.2)]
                by_cases z2 : k = g
                · rw [z2, updr_self, e20, Int.toNat_natCast, up2_self]
                · rw [updr_ne z2, e20, Int.toNat_natCast, up2_ne (fun q => z2 q.2)]
                  exact m1 k hk
            · rw [show ((g : Int) + 1) = ((g + 1 : Nat) : Int) by omega]
              refine ih (g + 1) (by omega) I1 o1 (fun k hk => ?_)
              rw [lmZ_succ, if_neg (fun z => z.2 (by rw [← e]; omega))]
              exact m1 k hk
          | succ d2 ih2 =>
            intro h2 hh2 hle l3 hB
            show Lb_X12_mates_50 Q r27 _ N (g : Int) l3 _ I1 J
            unfold Lb_X12_mates_50
            generalize hr5 : L_X12_mates_50 Q r27 (d2 + 1) = r50 at ih2 ⊢
            obtain ⟨k, rfl⟩ : ∃ k, h2 = k + 1 := ⟨h2 - 1, by omega⟩
            rw [show (((k + 1 : Nat) : Int) - 1) = (k : Int) by omega]
            have nx : ∀ l3 : Int, BMt σ (lmZ σ g).1 g k l3 → r50 N (g : Int) l3 ((k : Int) + -1) I1 J := fun l3 hl => by
              rw [show ((k : Int) + -1) = (k : Int) - 1 by omega]
              exact ih2 k (by omega) (by omega) l3 hl
            have hks : (k : Int) < grs σ := by omega
            have hgk : (g : Int) ≠ (k : Int) := by omega
            have mgl := memG_lt w1 (g : Int)
            have mkl := memG_lt w1 (k : Int)
            have bj := joinZ_b hM (g : Int) (k : Int)
            have mk := mb k
            have no : (((lmZ σ g).1 k ≠ -1 ∨ joinZ σ g k = 0 ∨ gPt σ k ≠ gPt σ g ∨ limZ σ < gW σ g + gW σ k)) → BMt σ (lmZ σ g).1 g k l3 := fun z => by
              rcases hB with ⟨a1, a2⟩ | ⟨h1, a1, a2, a3, a4, a5⟩
              · refine Or.inl ⟨a1, fun h' b1 b2 => ?_⟩
                by_cases w : h' = k
                · rw [w]; exact z
                · exact a2 h' (by omega) b2
              · refine Or.inr ⟨h1, by omega, a2, a3, a4, fun h' b1 b2 b3 => ?_⟩
                by_cases w : h' = k
                · rw [w] at b3; exact absurd z b3
                · exact a5 h' (by omega) b2 b3
            have hgp1 := h.1.1.gpb (g := (g : Int)) (by omega) hgs
            have hgp2 := h.1.1.gpb (g := (k : Int)) (by omega) hks
            have h22 := ms_2 hM
            have hw1 := gW_b hM (g : Int)
            have hw2 := gW_b hM (k : Int)
            have hl3 : -1 ≤ l3 ∧ l3 ≤ 13 := by
              rcases hB with z | ⟨h1, a1, a2, a3, -⟩ <;> omega
            refine ⟨⟨by omega, by omega⟩, ⟨by omega, by omega⟩, fun c3 => by omega, fun _ => ?_⟩
            refine w_sets w1 (fun K1 b1 b2 b3 b4 => ⟨⟨b1, by omega, by omega⟩, w_sets w1 (fun K2 b1' b2' b3' b4' => ⟨⟨b1', by omega, by omega⟩, ?_⟩)⟩)
            have eg := b4 g hgs
            have ek := b4' k hks
            rw [Int.toNat_natCast, Int.toNat_natCast]
            refine w_links w1 eg (by omega) ek (by omega) ⟨⟨w4, by omega, by rw [w5]; omega⟩, ?_⟩
            rw [m1 k (by omega), lk_join w1 hgk]
            refine ⟨⟨by omega, by omega⟩, fun c3 => nx l3 (no (Or.inl (by omega))), fun c3 => w_partOf w1 (by omega) hks (w_partOf w1 (by omega) hgs ⟨⟨by omega, by omega⟩, ⟨by omega, by omega⟩, fun c4 => nx l3 (no (Or.inr (Or.inr (Or.inl c4)))), fun c4 => ⟨⟨by omega, by omega⟩, fun c5 => nx l3 (no (Or.inr (Or.inl c5))), fun c5 => ?_⟩⟩)⟩
            refine w_sets w1 (fun K3 d1 d2' d3 d4 => ⟨⟨d1, by omega, by omega⟩, w_sets w1 (fun K4 d1' d2'' d3' d4' => ⟨⟨d1', by omega, by omega⟩, ?_⟩)⟩)
            have eg3 := d4 g hgs
            have ek3 := d4' k hks
            have hor : memG σ g ||| memG σ k < 2 ^ 10 := Nat.or_lt_two_pow (by omega) (by omega)
            refine w_weightOf w1 (S := memG σ g ||| memG σ k) (by rw [eg3, ek3]; exact orZ_nat (by omega) (by omega)) (by omega) (w_limit w1 ?_)
            rw [swZ_or2 w1 hgk]
            refine ⟨⟨by omega, by omega⟩, ⟨by omega, by omega⟩, fun c6 => ⟨⟨by omega, by omega⟩, fun c7 => ?_, fun c7 => ?_⟩, fun c6 => nx l3 (no (Or.inr (Or.inr (Or.inr (by omega)))))⟩
            · -- the first one
              have hk' : ¬ ((lmZ σ g).1 k ≠ -1 ∨ joinZ σ g k = 0 ∨ gPt σ k ≠ gPt σ g ∨ limZ σ < gW σ g + gW σ k) := fun z => by
                rcases z with z | z | z | z
                · omega
                · exact c5 z
                · exact z c4
                · omega
              refine nx (k : Int) (Or.inr ⟨k, Nat.le_refl _, hks, rfl, hk', fun h' b1 b2 b3 => ?_⟩)
              by_cases w : h' = k
              · rw [w]; exact Or.inr ⟨rfl, Nat.le_refl _⟩
              · rcases hB with ⟨a1, a2⟩ | ⟨h1, a1, a2, a3, a4, a5⟩
                · exact absurd (a2 h' (by omega) b2) b3
                · omega
            · -- against the best
              rcases hB with ⟨a1, -⟩ | ⟨h1, a1, a2, a3, a4, a5⟩
              · omega
              · have hk' : ¬ ((lmZ σ g).1 k ≠ -1 ∨ joinZ σ g k = 0 ∨ gPt σ k ≠ gPt σ g ∨ limZ σ < gW σ g + gW σ k) := fun z => by
                  rcases z with z | z | z | z
                  · omega
                  · exact c5 z
                  · exact z c4
                  · omega
                have bj1 := joinZ_b hM (g : Int) (h1 : Int)
                have hg1 : (g : Int) ≠ (h1 : Int) := by omega
                have m1l := memG_lt w1 (h1 : Int)
                refine w_sets w1 (fun K5 f1 f2 f3 f4 => ⟨⟨f1, by omega, by omega⟩, w_sets w1 (fun K6 f1' f2' f3' f4' => ⟨⟨f1', by omega, by omega⟩, ?_⟩)⟩)
                have eg5 := f4 g hgs
                have eh5 : I1 K6 l3.toNat = ((memG σ (h1 : Int) : Nat) : Int) := by
                  rw [a3, Int.toNat_natCast]; exact f4' h1 a2
                refine w_links w1 eg5 (by omega) eh5 (by omega) ?_
                rw [lk_join w1 hg1]
                refine ⟨⟨by omega, by omega⟩, ⟨by omega, by omega⟩, fun c8 => nx l3 (Or.inr ⟨h1, by omega, a2, a3, a4, fun h' b1 b2 b3 => ?_⟩), fun c8 => nx (k : Int) (Or.inr ⟨k, Nat.le_refl _, hks, rfl, hk', fun h' b1 b2 b3 => ?_⟩)⟩
                · by_cases w : h' = k
                  · rw [w]; exact Or.inl c8
                  · exact a5 h' (by omega) b2 b3
                · by_cases w : h' = k
                  · rw [w]; exact Or.inr ⟨rfl, Nat.le_refl _⟩
                  · rcases a5 h' (by omega) b2 b3 with q | q <;> omega
        exact ⟨Gn - (g + 1) + 1, key50 (Gn - (g + 1)) Gn (by omega) (Nat.le_refl _) (-1) (Or.inl ⟨rfl, fun h' b1 b2 => by omega⟩)⟩
      · rw [show ((g : Int) + 1) = ((g + 1 : Nat) : Int) by omega]
        refine ih (g + 1) (by omega) I1 o1 (fun k hk => ?_)
        rw [lmZ_succ, if_neg (fun z => c (by omega))]
        exact m1 k hk
  -- nothing yet
  have key9 : ∀ d g : Nat, g + d = Gn → ∀ I1 : Ii, (∀ k, k ≠ N → I1 k = I3 k) → (∀ k, k < g → I1 N k = -1) → L_X12_mates_9 Q (d + 1) N (g : Int) I1 J := by
    intro d
    induction d with
    | zero =>
      intro g hg I1 o1 m1
      show Lb_X12_mates_9 Q _ N (g : Int) I1 J
      unfold Lb_X12_mates_9
      obtain ⟨w1, w2, w3, w4, w5⟩ := keepW I1 o1
      rw [w5, ← gG]
      refine ⟨w4, ⟨by omega, by omega⟩, ⟨by omega, by omega⟩, fun _ => ⟨Gn + 1, key27 Gn 0 (by omega) I1 o1 (fun k hk => ?_)⟩, fun c => absurd (by omega) c⟩
      rw [m1 k (by omega)]
      rfl
    | succ d ih =>
      intro g hg I1 o1 m1
      show Lb_X12_mates_9 Q _ N (g : Int) I1 J
      unfold Lb_X12_mates_9
      obtain ⟨w1, w2, w3, w4, w5⟩ := keepW I1 o1
      rw [w5, ← gG]
      refine ⟨w4, ⟨by omega, by omega⟩, ⟨by omega, by omega⟩, fun c => by omega, fun _ => ⟨⟨w4, by omega, by omega⟩, fun I9 e9 => ?_⟩⟩
      rw [show ((g : Int) + 1) = ((g + 1 : Nat) : Int) by omega]
      refine ih (g + 1) (by omega) I9 (fun k hk => by rw [e9, up2_key hk]; exact o1 k hk) (fun k hk => ?_)
      rw [e9, Int.toNat_natCast]
      by_cases z : k = g
      · rw [z, up2_self]
      · rw [up2_ne (fun q => z q.2)]; exact m1 k (by omega)
  exact ⟨Gn + 1, key9 Gn 0 (by omega) I3 (fun _ _ => rfl) (fun k hk => by omega)⟩
end WOM

/-! ===== tokens: the reference ===== -/
/-- the reference's sort of a token -/
def soK (k : Int) : Int := if k = 0 then 0 else if k = 1 then 1 else if k = 2 then 2 else if k = 6 then 4 else 3
/-- the token behind p has been looked at -/
def LK (B : Nat → Int) (E p : Nat) (I : Ii) (J : Jj) : Prop := I 0 5 = (tS B E p : Int) ∧ I 0 4 = (tE B E p : Int) ∧ I 0 6 = soK (tK B E p) ∧ (tK B E p = 1 → J 0 14 = tW B E p) ∧ (tK B E p = 2 → I 0 7 = tN B E p) ∧ (tK B E p = 3 → I 0 7 = 59) ∧ (tK B E p = 4 → I 0 7 = 40) ∧ (tK B E p = 5 → I 0 7 = 41)
section RLX
variable {I : Ii} {J : Jj} {B : Nat → Int} {E : Nat}
theorem here_of {p j : Nat} {x : Int} (hx : x = (j : Int)) (h3 : I 0 3 = (E : Int)) (h4 : I 0 4 = (p : Int)) (hp : p + j ≤ 2000) (hE : E ≤ 800) (hB : I 1 = B) {Q : Int → Ii → Jj → Prop} (h0 : E ≤ p + j → Q (-1) I J) (h1 : p + j < E → Q (B (p + j)) I J) : wp_X12_here x I J Q := by
  subst hx
  have e : ((I 0 4) + (j : Int)).toNat = p + j := by omega
  refine ⟨rgK (by omega), rgK (by omega), fun c => h0 (by omega), fun c => ⟨by omega, ?_⟩⟩
  rw [e, hB]
  exact h1 (by omega)
theorem isLe_ofX {x : Int} (hx : -1 ≤ x ∧ x ≤ 255) {Q : Int → Ii → Jj → Prop} (h1 : isLe x → Q 1 I J) (h0 : ¬ isLe x → Q 0 I J) : wp_X12_isLetter x I J Q :=
  ⟨rgK (by omega), fun c => h0 (by omega), fun c => ⟨fun d => h0 (by omega), fun d => h1 (by omega)⟩⟩
theorem isDi_ofX {x : Int} (hx : -1 ≤ x ∧ x ≤ 255) {Q : Int → Ii → Jj → Prop} (h1 : isDi x → Q 1 I J) (h0 : ¬ isDi x → Q 0 I J) : wp_X12_isDigit x I J Q :=
  ⟨rgK (by omega), fun c => h0 (by omega), fun c => ⟨fun d => h0 (by omega), fun d => h1 (by omega)⟩⟩
theorem s_goOn76 {s : Nat} {Q : Ii → Jj → Prop} (h3 : I 0 3 = (E : Int)) (h4 : I 0 4 = (s : Int)) (hs : s ≤ E) (hE : E ≤ 800) (hB : I 1 = B) (hb : ∀ i, i < E → 0 ≤ B i ∧ B i ≤ 255) (hw : J 0 14 = lZ 0)
    (hq : ∀ (I' : Ii) (J' : Jj), I' 0 4 = (ru isLe B (E - s) s : Int) → I' 0 6 = (if ru isLe B (E - s) s - s ≤ 8 then 1 else 4) → I' 0 5 = I 0 5 → (ru isLe B (E - s) s - s ≤ 8 → J' 0 14 = wv B s (ru isLe B (E - s) s - s)) → Q I' J') : ∃ n : Nat, L_X12_goOn_76 Q n 0 I J := by
  refine ⟨E - s + 1, loopN (L := fun m (t : Jj) v => L_X12_goOn_76 _ m v I t) (fun n t => (∀ i, s ≤ i → i < s + n → isLe (B i)) ∧ (n ≤ 8 → t 0 14 = wv B s n)) (N := E - s) (fun m n t hv ht kk => ?_) (E - s + 1) 0 J (by omega) (by omega) ⟨fun i a b => by omega, fun _ => hw⟩⟩
  obtain ⟨t1, t2⟩ := ht
  show L_X12_goOn_76 _ (m + 1) (n : Int) I t
  refine ls_X12_goOn_76 ?_
  generalize hr : L_X12_goOn_76 _ m = r at kk ⊢
  unfold Lb_X12_goOn_76
  have fin : (s + n < E → ¬ isLe (B (s + n))) → rg (n : Int) ∧ ((n : Int) ≤ 8 → ∀ I35 : Ii, I35 = up2 I 0 6 1 → B_X12_goOn_239 Q (n : Int) I35 t) ∧ (¬ (n : Int) ≤ 8 → ∀ I36 : Ii, I36 = up2 I 0 6 4 → B_X12_goOn_239 Q (n : Int) I36 t) := by
    intro hn
    have e : ru isLe B (E - s) s = s + n := ru_eq (by omega) (by omega) t1 (fun c => hn (by omega))
    have en : s + n - s = n := by omega
    refine ⟨rgK (by omega), fun d I5 e5 I6 e6 => hq I6 t ?_ ?_ ?_ ?_, fun d I5 e5 I6 e6 => hq I6 t ?_ ?_ ?_ ?_⟩
    · rw [e, e6, up2_self, e5, up2_ne (by omega), h4]; omega
    · rw [e, en, if_pos (by omega), e6, up2_ne (by omega), e5, up2_self]
    · rw [e6, up2_ne (by omega), e5, up2_ne (by omega)]
    · rw [e, en]; exact t2
    · rw [e, e6, up2_self, e5, up2_ne (by omega), h4]; omega
    · rw [e, en, if_neg (by omega), e6, up2_ne (by omega), e5, up2_self]
    · rw [e6, up2_ne (by omega), e5, up2_ne (by omega)]
    · rw [e, en]; intro c; omega
  refine here_of rfl h3 h4 (by omega) hE hB (fun c => isLe_ofX (by omega) (fun d => by omega) (fun _ => ⟨fun _ => fin (fun c2 => by omega), fun z => absurd rfl z⟩)) (fun c => ?_)
  have hbv := hb (s + n) c
  refine isLe_ofX (by omega) (fun d => ⟨fun z => absurd z (by decide), fun _ => ?_⟩) (fun d => ⟨fun _ => fin (fun _ => d), fun z => absurd rfl z⟩)
  have t1' : ∀ i, s ≤ i → i < s + (n + 1) → isLe (B i) := fun i c1 c2 => by
    by_cases c3 : i = s + n
    · rw [c3]; exact d
    · exact t1 i c1 (by omega)
  refine ⟨rgK (by omega), fun d2 => kk (by omega) t ⟨t1', fun z => by omega⟩, fun d2 => ?_⟩
  refine here_of rfl h3 h4 (by omega) hE hB (fun c2 => by omega) (fun c2 => ?_)
  intro J39 e39
  refine kk (by omega) J39 ⟨t1', fun _ => ?_⟩
  show J39 0 14 = _
  rw [e39, up2_self, t2 (by omega), show B (s + n) - 97 + 1 = B (s + n) - 96 by omega]
  rfl
theorem s_goOn146 {s : Nat} {Q : Ii → Jj → Prop} (h3 : I 0 3 = (E : Int)) (h4 : I 0 4 = (s : Int)) (hs : s ≤ E) (hE : E ≤ 800) (hB : I 1 = B) (hb : ∀ i, i < E → 0 ≤ B i ∧ B i ≤ 255) (hw : I 0 7 = 0)
    (hq : ∀ (I' : Ii) (J' : Jj), I' 0 4 = (ru isDi B (E - s) s : Int) → I' 0 6 = (if ru isDi B (E - s) s - s ≤ 3 then 2 else 4) → I' 0 5 = I 0 5 → (ru isDi B (E - s) s - s ≤ 3 → I' 0 7 = nv B s (ru isDi B (E - s) s - s)) → Q I' J') : ∃ n : Nat, L_X12_goOn_146 Q n 0 I J := by
  refine ⟨E - s + 1, loopN (L := fun m (t : Ii) v => L_X12_goOn_146 _ m v t J) (fun n t => t 0 3 = (E : Int) ∧ t 0 4 = (s : Int) ∧ t 0 5 = I 0 5 ∧ t 1 = B ∧ (∀ i, s ≤ i → i < s + n → isDi (B i)) ∧ (n ≤ 3 → t 0 7 = nv B s n)) (N := E - s) (fun m n t hv ht kk => ?_) (E - s + 1) 0 I (by omega) (by omega) ⟨h3, h4, rfl, hB, fun i a b => by omega, fun _ => hw⟩⟩
  obtain ⟨t3, t4, t5, tB, t1, t2⟩ := ht
  show L_X12_goOn_146 _ (m + 1) (n : Int) t J
  refine ls_X12_goOn_146 ?_
  generalize hr : L_X12_goOn_146 _ m = r at kk ⊢
  unfold Lb_X12_goOn_146
  have fin : (s + n < E → ¬ isDi (B (s + n))) → rg (n : Int) ∧ ((n : Int) ≤ 3 → ∀ I27 : Ii, I27 = up2 t 0 6 2 → B_X12_goOn_239 Q (n : Int) I27 J) ∧ (¬ (n : Int) ≤ 3 → ∀ I28 : Ii, I28 = up2 t 0 6 4 → B_X12_goOn_239 Q (n : Int) I28 J) := by
    intro hn
    have e : ru isDi B (E - s) s = s + n := ru_eq (by omega) (by omega) t1 (fun c => hn (by omega))
    have en : s + n - s = n := by omega
    refine ⟨rgK (by omega), fun d I5 e5 I6 e6 => hq I6 J ?_ ?_ ?_ ?_, fun d I5 e5 I6 e6 => hq I6 J ?_ ?_ ?_ ?_⟩
    · rw [e, e6, up2_self, e5, up2_ne (by omega), t4]; omega
    · rw [e, en, if_pos (by omega), e6, up2_ne (by omega), e5, up2_self]
    · rw [e6, up2_ne (by omega), e5, up2_ne (by omega)]; exact t5
    · rw [e, en, e6, up2_ne (by omega), e5, up2_ne (by omega)]; exact t2
    · rw [e, e6, up2_self, e5, up2_ne (by omega), t4]; omega
    · rw [e, en, if_neg (by omega), e6, up2_ne (by omega), e5, up2_self]
    · rw [e6, up2_ne (by omega), e5, up2_ne (by omega)]; exact t5
    · rw [e, en]; intro c; omega
  refine here_of rfl t3 t4 (by omega) hE tB (fun c => isDi_ofX (by omega) (fun d => by omega) (fun _ => ⟨fun _ => fin (fun c2 => by omega), fun z => absurd rfl z⟩)) (fun c => ?_)
  have hbv := hb (s + n) c
  refine isDi_ofX (by omega) (fun d => ⟨fun z => absurd z (by decide), fun _ => ?_⟩) (fun d => ⟨fun _ => fin (fun _ => d), fun z => absurd rfl z⟩)
  have t1' : ∀ i, s ≤ i → i < s + (n + 1) → isDi (B i) := fun i c1 c2 => by
    by_cases c3 : i = s + n
    · rw [c3]; exact d
    · exact t1 i c1 (by omega)
  refine ⟨rgK (by omega), fun d2 => kk (by omega) t ⟨t3, t4, t5, tB, t1', fun z => by omega⟩, fun d2 => ?_⟩
  refine here_of rfl t3 t4 (by omega) hE tB (fun c2 => by omega) (fun c2 => ?_)
  intro I31 e31
  refine kk (by omega) I31 ⟨?_, ?_, ?_, ?_, t1', fun _ => ?_⟩
  · show I31 0 3 = _
    rw [e31, up2_ne (by omega)]; exact t3
  · show I31 0 4 = _
    rw [e31, up2_ne (by omega)]; exact t4
  · show I31 0 5 = _
    rw [e31, up2_ne (by omega)]; exact t5
  · show I31 1 = _
    rw [e31, up2_key (by omega)]; exact tB
  · show I31 0 7 = _
    rw [e31, up2_self, t2 (by omega)]
    show _ = nv B s n * 10 + B (s + n) - 48
    omega
theorem s_goOn {p : Nat} (h3 : I 0 3 = (E : Int)) (h4 : I 0 4 = (p : Int)) (hp : p ≤ E) (hE : E ≤ 800) (hB : I 1 = B) (hb : ∀ i, i < E → 0 ≤ B i ∧ B i ≤ 255) : wp_X12_goOn I J (fun I' J' => LK B E p I' J') := by
  refine ⟨E + 1, loopN (L := fun m (t : Ii × Jj) _ => L_X12_goOn_0 _ m t.1 t.2) (fun v t => p ≤ v ∧ t.1 0 3 = (E : Int) ∧ t.1 0 4 = (v : Int) ∧ t.1 1 = B ∧ (∀ i, p ≤ i → i < v → isBl (B i))) (N := E) (fun m v t hv ht kk => ?_) (E + 1) p (I, J) hp (by omega) ⟨Nat.le_refl _, h3, h4, hB, fun i a b => by omega⟩⟩
  obtain ⟨a, aJ⟩ := t
  obtain ⟨t1, t3, t4, tB, t6⟩ := ht
  dsimp only at t3 t4 tB kk ⊢
  refine ls_X12_goOn_0 ?_
  generalize hr : L_X12_goOn_0 _ m = r at kk ⊢
  unfold Lb_X12_goOn_0
  have on : v < E → isBl (B v) → B_X12_goOn_20 (fun I' J' => LK B E p I' J') r a aJ := by
    intro hv' d2
    intro I5 e5
    refine kk hv' (I5, aJ) ⟨by omega, ?_, ?_, ?_, fun i c1 c2 => ?_⟩
    · show I5 0 3 = _
      rw [e5, up2_ne (by omega)]; exact t3
    · show I5 0 4 = _
      rw [e5, up2_self, t4]; omega
    · show I5 1 = _
      rw [e5, up2_key (by omega)]; exact tB
    · by_cases c : i = v
      · rw [c]; exact d2
      · exact t6 i c1 (by omega)
  have fin : (v < E → ¬ isBl (B v)) → ∀ I5 : Ii, I5 = up2 a 0 5 (a 0 4) → ∀ J6 : Jj, J6 = up2 aJ 0 14 (lZ 0) → ∀ I7 : Ii, I7 = up2 I5 0 7 0 → wp_X12_here 0 I7 J6 (fun v8 I8 J8 => rg v8 ∧ (0 ≤ v8 → wp_X12_isLetter v8 I8 J8 (fun v10 I10 J10 => (v10 = 0 → wp_X12_isDigit v8 I10 J10 (fun v11 I11 J11 => (v11 = 0 → rg v8 ∧ (v8 = 59 → ∀ I13 : Ii, I13 = up2 I11 0 6 3 → ∀ I14 : Ii, I14 = up2 I13 0 7 v8 → B_X12_goOn_239 (fun I' J' => LK B E p I' J') 1 I14 J11) ∧ (¬ v8 = 59 → (v8 = 40 → ∀ I15 : Ii, I15 = up2 I11 0 6 3 → ∀ I16 : Ii, I16 = up2 I15 0 7 v8 → B_X12_goOn_239 (fun I' J' => LK B E p I' J') 1 I16 J11) ∧ (¬ v8 = 40 → (¬ v8 = 41 → ∀ I17 : Ii, I17 = up2 I11 0 6 4 → ∀ I18 : Ii, I18 = up2 I17 0 7 v8 → B_X12_goOn_239 (fun I' J' => LK B E p I' J') 1 I18 J11) ∧ (v8 = 41 → ∀ I19 : Ii, I19 = up2 I11 0 6 3 → ∀ I20 : Ii, I20 = up2 I19 0 7 v8 → B_X12_goOn_239 (fun I' J' => LK B E p I' J') 1 I20 J11)))) ∧ (¬ v11 = 0 → ∃ n : Nat, L_X12_goOn_146 (fun I' J' => LK B E p I' J') n 0 I11 J11))) ∧ (¬ v10 = 0 → ∃ n : Nat, L_X12_goOn_76 (fun I' J' => LK B E p I' J') n 0 I10 J10))) ∧ (¬ 0 ≤ v8 → ∀ I21 : Ii, I21 = up2 I8 0 6 0 → LK B E p I21 J8)) := by
    intro hn I5 e5 J6 e6 I7 e7
    have e : tS B E p = v := ru_eq t1 (by omega) t6 (fun c => hn (by omega))
    have q3 : I7 0 3 = (E : Int) := by rw [e7, up2_ne (by omega), e5, up2_ne (by omega)]; exact t3
    have q4 : I7 0 4 = (v : Int) := by rw [e7, up2_ne (by omega), e5, up2_ne (by omega)]; exact t4
    have q5 : I7 0 5 = (v : Int) := by rw [e7, up2_ne (by omega), e5, up2_self]; exact t4
    have q7 : I7 0 7 = 0 := by rw [e7, up2_self]
    have qB : I7 1 = B := by rw [e7, up2_key (by omega), e5, up2_key (by omega)]; exact tB
    have qJ : J6 0 14 = lZ 0 := by rw [e6, up2_self]
    unfold LK tE tK tW tN tE
    rw [e]
    refine here_of (j := 0) rfl q3 q4 (by omega) hE qB (fun c => ⟨rgK (by omega), fun d => by omega, fun _ I21 e21 => ?_⟩) (fun c => ?_)
    · have ee : eS B E v = v := by unfold eS; rw [if_pos (by omega)]
      have ek : kS B E v = 0 := by unfold kS; rw [if_pos (by omega)]
      rw [ek, ee]
      refine ⟨?_, ?_, ?_, fun c => absurd c (by decide), fun c => absurd c (by decide), fun c => absurd c (by decide), fun c => absurd c (by decide), fun c => absurd c (by decide)⟩
      · rw [e21, up2_ne (by omega)]; exact q5
      · rw [e21, up2_ne (by omega)]; exact q4
      · rw [e21, up2_self]; rfl
    · rw [show v + 0 = v by omega] at c ⊢
      have hbv := hb v c
      refine ⟨rgK (by omega), fun _ => ?_, fun d => by omega⟩
      refine isLe_ofX (by omega) (fun d2 => ⟨fun z => absurd z (by decide), fun _ => ?_⟩) (fun d2 => ⟨fun _ => ?_, fun z => absurd rfl z⟩)
      · have ee : eS B E v = ru isLe B (E - v) v := by unfold eS; rw [if_neg (by omega), if_pos d2]
        have ek : kS B E v = if eS B E v - v ≤ 8 then 1 else 6 := by unfold kS; rw [if_neg (by omega), if_pos d2]
        refine s_goOn76 q3 q4 hv hE qB hb qJ (fun I8 J8 a1 a2 a3 a4 => ?_)
        rw [ek, ee]
        by_cases c8 : ru isLe B (E - v) v - v ≤ 8
        · rw [if_pos c8] at a2 ⊢
          exact ⟨a3.trans q5, a1, a2, fun _ => a4 c8, fun z => absurd z (by decide), fun z => absurd z (by decide), fun z => absurd z (by decide), fun z => absurd z (by decide)⟩
        · rw [if_neg c8] at a2 ⊢
          exact ⟨a3.trans q5, a1, a2, fun z => absurd z (by decide), fun z => absurd z (by decide), fun z => absurd z (by decide), fun z => absurd z (by decide), fun z => absurd z (by decide)⟩
      · refine isDi_ofX (by omega) (fun d3 => ⟨fun z => absurd z (by decide), fun _ => ?_⟩) (fun d3 => ⟨fun _ => ?_, fun z => absurd rfl z⟩)
        · have ee : eS B E v = ru isDi B (E - v) v := by unfold eS; rw [if_neg (by omega), if_neg d2, if_pos d3]
          have ek : kS B E v = if eS B E v - v ≤ 3 then 2 else 6 := by unfold kS; rw [if_neg (by omega), if_neg d2, if_pos d3]
          refine s_goOn146 q3 q4 hv hE qB hb q7 (fun I8 J8 a1 a2 a3 a4 => ?_)
          rw [ek, ee]
          by_cases c8 : ru isDi B (E - v) v - v ≤ 3
          · rw [if_pos c8] at a2 ⊢
            exact ⟨a3.trans q5, a1, a2, fun z => absurd z (by decide), fun _ => a4 c8, fun z => absurd z (by decide), fun z => absurd z (by decide), fun z => absurd z (by decide)⟩
          · rw [if_neg c8] at a2 ⊢
            exact ⟨a3.trans q5, a1, a2, fun z => absurd z (by decide), fun z => absurd z (by decide), fun z => absurd z (by decide), fun z => absurd z (by decide), fun z => absurd z (by decide)⟩
        · have ee : eS B E v = v + 1 := by unfold eS; rw [if_neg (by omega), if_neg d2, if_neg d3]
          have ek : kS B E v = if B v = 59 then 3 else if B v = 40 then 4 else if B v = 41 then 5 else 6 := by unfold kS; rw [if_neg (by omega), if_neg d2, if_neg d3]
          have go : ∀ k : Int, k = kS B E v → k ≠ 1 → k ≠ 2 → (k = 3 → B v = 59) → (k = 4 → B v = 40) → (k = 5 → B v = 41) → ∀ I13 : Ii, I13 = up2 I7 0 6 (soK k) → ∀ I14 : Ii, I14 = up2 I13 0 7 (B v) → B_X12_goOn_239 (fun I' J' => I' 0 5 = (v : Int) ∧ I' 0 4 = (eS B E v : Int) ∧ I' 0 6 = soK (kS B E v) ∧ (kS B E v = 1 → J' 0 14 = wv B v (eS B E v - v)) ∧ (kS B E v = 2 → I' 0 7 = nv B v (eS B E v - v)) ∧ (kS B E v = 3 → I' 0 7 = 59) ∧ (kS B E v = 4 → I' 0 7 = 40) ∧ (kS B E v = 5 → I' 0 7 = 41)) 1 I14 J6 := by
            intro k hk k1 k2 k3 k4 k5 I13 e13 I14 e14 I23 e23
            rw [← hk, ee]
            have r7 : I23 0 7 = B v := by rw [e23, up2_ne (by omega), e14, up2_self]
            refine ⟨?_, ?_, ?_, fun c => absurd c k1, fun c => absurd c k2, fun c => r7.trans (k3 c), fun c => r7.trans (k4 c), fun c => r7.trans (k5 c)⟩
            · rw [e23, up2_ne (by omega), e14, up2_ne (by omega), e13, up2_ne (by omega)]; exact q5
            · rw [e23, up2_self, e14, up2_ne (by omega), e13, up2_ne (by omega), q4]; omega
            · rw [e23, up2_ne (by omega), e14, up2_ne (by omega), e13, up2_self]
          refine ⟨rgK (by omega), fun c1 => go 3 ?_ (by decide) (by decide) ?_ ?_ ?_, fun c1 => ⟨fun c2 => go 4 ?_ (by decide) (by decide) ?_ ?_ ?_, fun c2 => ⟨fun c3 => go 6 ?_ (by decide) (by decide) ?_ ?_ ?_, fun c3 => go 5 ?_ (by decide) (by decide) ?_ ?_ ?_⟩⟩⟩
          all_goals first
            | exact fun _ => (by assumption)
            | exact fun z => absurd z (by decide)
            | skip
          · rw [ek, if_pos (by omega)]
          · rw [ek, if_neg (by omega), if_pos (by omega)]
          · rw [ek, if_neg (by omega), if_neg (by omega), if_neg (by omega)]
          · rw [ek, if_neg (by omega), if_neg (by omega), if_pos (by omega)]
  refine here_of (j := 0) rfl t3 t4 (by omega) hE tB (fun c => ⟨rgK (by omega), fun d => absurd d (by decide), fun _ => here_of (j := 0) rfl t3 t4 (by omega) hE tB (fun c2 => ⟨rgK (by omega), fun _ => fin (fun c3 => by omega), fun d => absurd d (by decide)⟩) (fun c2 => by omega)⟩) (fun c => ?_)
  rw [show v + 0 = v by omega] at c ⊢
  have hbv := hb v c
  refine ⟨rgK (by omega), fun d => on c (Or.inl d), fun d => here_of (j := 0) rfl t3 t4 (by omega) hE tB (fun c2 => by omega) (fun c2 => ?_)⟩
  rw [show v + 0 = v by omega]
  exact ⟨rgK (by omega), fun d2 => fin (fun _ d3 => by omega), fun d2 => on c (Or.inr d2)⟩
end RLX

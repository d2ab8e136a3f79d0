/-! ===== rows that are copied ===== -/
/-- nothing stands behind a row's end -/
def Tl (n : Nat) (f : Nat → Int) : Prop := ∀ i, n ≤ i → f i = 0
def TlJ (n : Nat) (f : Nat → Int64) : Prop := ∀ i, n ≤ i → f i = 0
/-- the first v of f over g -/
def cpP {α : Type} (f g : Nat → α) (v : Nat) : Nat → α := fun i => if i < v then f i else g i
theorem cpP_succ {α : Type} (f g : Nat → α) (v : Nat) : cpP f g (v + 1) = updr (cpP f g v) v (f v) := by
  funext i
  show (if i < v + 1 then f i else g i) = if i = v then f v else (if i < v then f i else g i)
  by_cases h : i = v
  · subst h; rw [if_pos (by omega), if_pos rfl]
  · rw [if_neg h]
    by_cases h2 : i < v
    · rw [if_pos (by omega), if_pos h2]
    · rw [if_neg (by omega), if_neg h2]
theorem cpP_zero {α : Type} (f g : Nat → α) : cpP f g 0 = g := by funext i; unfold cpP; rw [if_neg (by omega)]
theorem cpP_all {f g : Nat → Int} {n : Nat} (hf : Tl n f) (hg : Tl n g) : cpP f g n = f := by
  funext i
  unfold cpP
  by_cases h : i < n
  · rw [if_pos h]
  · rw [if_neg h, hf i (by omega), hg i (by omega)]
theorem cpP_allJ {f g : Nat → Int64} {n : Nat} (hf : TlJ n f) (hg : TlJ n g) : cpP f g n = f := by
  funext i
  unfold cpP
  by_cases h : i < n
  · rw [if_pos h]
  · rw [if_neg h, hf i (by omega), hg i (by omega)]
/-- row i of the rows that lie one behind the other -/
def seg (f : Nat → Int) (i : Nat) : Nat → Int := fun j => if j < 350 then f (350 * i + j) else 0
theorem seg_Tl (f : Nat → Int) (i : Nat) : Tl 350 (seg f i) := fun j h => by unfold seg; rw [if_neg (by omega)]
section RV4
variable {I : Ii} {J : Jj}
theorem s_clears : wp_X12_clears I J (fun I' _ => I' 2 = updr (cpP (fun _ => 0) (I 2) 350) 2 2) := by
  refine ⟨351, loopN (L := fun n (a : Ii) v => L_X12_clears_2 _ n v a J) (fun v a => a 2 = cpP (fun _ => 0) (I 2) v) (N := 350) (fun n v a hv ha k => ?_) 351 0 I (by omega) (by omega) (by rw [cpP_zero])⟩
  refine ls_X12_clears_2 ?_
  unfold Lb_X12_clears_2
  refine ⟨rgK (by omega), fun c I1 e => ?_, fun c => ⟨by omega, fun I1 e => k (by omega) _ ?_⟩⟩
  · show I1 2 = _
    rw [e, up2_row, ha, show v = 350 by omega]
  · rw [e, up2_row, ha, cpP_succ, show (v : Int).toNat = v by omega]
theorem s_laysAside (h2 : Tl 350 (I 2)) (h5 : Tl 350 (I 5)) : wp_X12_laysAside I J (fun I' _ => I' 5 = I 2) := by
  refine ⟨351, loopN (L := fun n (a : Ii) v => L_X12_laysAside_2 _ n v a J) (fun v a => a 5 = cpP (I 2) (I 5) v ∧ a 2 = I 2) (N := 350) (fun n v a hv ha k => ?_) 351 0 I (by omega) (by omega) ⟨by rw [cpP_zero], rfl⟩⟩
  refine ls_X12_laysAside_2 ?_
  unfold Lb_X12_laysAside_2
  refine ⟨rgK (by omega), fun c => ?_, fun c => ⟨by omega, by omega, fun I1 e => k (by omega) _ ⟨?_, ?_⟩⟩⟩
  · show a 5 = _
    rw [ha.1, show v = 350 by omega, cpP_all h2 h5]
  · rw [e, up2_row, ha.1, ha.2, cpP_succ, show (v : Int).toNat = v by omega]
  · rw [e, up2_key (by decide), ha.2]
theorem s_thinks (h2 : Tl 350 (I 2)) (h6 : Tl 350 (I 6)) : wp_X12_thinks I J (fun I' _ => I' 6 = I 2) := by
  refine ⟨351, loopN (L := fun n (a : Ii) v => L_X12_thinks_2 _ n v a J) (fun v a => a 6 = cpP (I 2) (I 6) v ∧ a 2 = I 2) (N := 350) (fun n v a hv ha k => ?_) 351 0 I (by omega) (by omega) ⟨by rw [cpP_zero], rfl⟩⟩
  refine ls_X12_thinks_2 ?_
  unfold Lb_X12_thinks_2
  refine ⟨rgK (by omega), fun c => ?_, fun c => ⟨by omega, by omega, fun I1 e => k (by omega) _ ⟨?_, ?_⟩⟩⟩
  · show a 6 = _
    rw [ha.1, show v = 350 by omega, cpP_all h2 h6]
  · rw [e, up2_row, ha.1, ha.2, cpP_succ, show (v : Int).toNat = v by omega]
  · rw [e, up2_key (by decide), ha.2]
theorem s_thinksNoMore (h2 : Tl 350 (I 2)) (h6 : Tl 350 (I 6)) : wp_X12_thinksNoMore I J (fun I' _ => I' 2 = I 6) := by
  refine ⟨351, loopN (L := fun n (a : Ii) v => L_X12_thinksNoMore_2 _ n v a J) (fun v a => a 2 = cpP (I 6) (I 2) v ∧ a 6 = I 6) (N := 350) (fun n v a hv ha k => ?_) 351 0 I (by omega) (by omega) ⟨by rw [cpP_zero], rfl⟩⟩
  refine ls_X12_thinksNoMore_2 ?_
  unfold Lb_X12_thinksNoMore_2
  refine ⟨rgK (by omega), fun c => ?_, fun c => ⟨by omega, by omega, fun I1 e => k (by omega) _ ⟨?_, ?_⟩⟩⟩
  · show a 2 = _
    rw [ha.1, show v = 350 by omega, cpP_all h6 h2]
  · rw [e, up2_row, ha.1, ha.2, cpP_succ, show (v : Int).toNat = v by omega]
  · rw [e, up2_key (by decide), ha.2]
/-- the kept rows behind one more -/
theorem s_keeps {u : Nat} (hu : I 0 23 = (u : Int)) (hu6 : u ≤ 6) (h5 : Tl 350 (I 5)) : wp_X12_keeps I J (fun I' _ => (u < 6 → I' 0 23 = (u : Int) + 1 ∧ seg (I' 4) u = I 5 ∧ ∀ i, i < u → seg (I' 4) i = seg (I 4) i) ∧ (u = 6 → I' 0 23 = 6 ∧ seg (I' 4) 5 = I 5 ∧ ∀ i, i < 5 → seg (I' 4) i = seg (I 4) (i + 1))) := by
  -- the last loop
  have last : ∀ (I1 : Ii) (w : Nat) (Q : Ii → Jj → Prop), w < 6 → I1 0 23 = (w : Int) → I1 5 = I 5 → (∀ I' : Ii, I' 0 23 = (w : Int) + 1 → seg (I' 4) w = I 5 → (∀ i, i < w → seg (I' 4) i = seg (I1 4) i) → Q I' J) → ∃ n : Nat, L_X12_keeps_57 Q n 0 I1 J := by
    intro I1 w Q hw h23 h5' hQ
    refine ⟨351, loopN (L := fun n (a : Ii) v => L_X12_keeps_57 _ n v a J) (fun v a => a 0 23 = (w : Int) ∧ a 5 = I 5 ∧ a 4 = fun j => if 350 * w ≤ j ∧ j < 350 * w + v then I 5 (j - 350 * w) else I1 4 j) (N := 350) (fun n v a hv ha k => ?_) 351 0 I1 (by omega) (by omega) ⟨h23, h5', ?_⟩⟩
    · obtain ⟨a23, a5, a4⟩ := ha
      refine ls_X12_keeps_57 ?_
      unfold Lb_X12_keeps_57
      refine ⟨rgK (by omega), fun c I2 e => hQ _ ?_ ?_ ?_, fun c => ⟨by omega, by rw [a23]; omega, fun I2 e => k (by omega) _ ⟨?_, ?_, ?_⟩⟩⟩
      · rw [e, up2_self, a23]
      · funext j
        rw [e, up2_key (by decide), a4]
        unfold seg
        dsimp only
        by_cases hj : j < 350
        · rw [if_pos hj, if_pos (by omega), show 350 * w + j - 350 * w = j by omega]
        · rw [if_neg hj, h5 j (by omega)]
      · intro i hi
        funext j
        rw [e, up2_key (by decide), a4]
        unfold seg
        dsimp only
        by_cases hj : j < 350
        · rw [if_pos hj, if_pos hj, if_neg (by omega)]
        · rw [if_neg hj, if_neg hj]
      · rw [e, up2_key (by decide), a23]
      · rw [e, up2_key (by decide), a5]
      · rw [e, up2_row, a4, a5, a23, show (350 * (w : Int) + (v : Int)).toNat = 350 * w + v by omega, show (v : Int).toNat = v by omega]
        funext j
        unfold updr
        dsimp only
        by_cases hj : j = 350 * w + v
        · subst hj; rw [if_pos rfl, if_pos (by omega), show 350 * w + v - 350 * w = v by omega]
        · rw [if_neg hj]
          by_cases h1 : 350 * w ≤ j ∧ j < 350 * w + v
          · rw [if_pos h1, if_pos (by omega)]
          · rw [if_neg h1, if_neg (by omega)]
    · funext j; rw [if_neg (by omega)]
  unfold wp_X12_keeps
  refine ⟨rgK (by omega), fun c => last I u _ (by omega) hu rfl (fun I' e1 e2 e3 => ⟨fun _ => ⟨e1, e2, e3⟩, fun z => by omega⟩), fun c I2 e2 => ?_⟩
  have e23 : I2 0 23 = 5 := by rw [e2, up2_self]; omega
  have e5 : I2 5 = I 5 := by rw [e2, up2_key (by decide)]
  have e4 : I2 4 = I 4 := by rw [e2, up2_key (by decide)]
  refine ⟨1751, loopN (L := fun n (a : Ii) v => L_X12_keeps_21 _ n v a J) (fun v a => a 0 23 = 5 ∧ a 5 = I 5 ∧ a 4 = fun j => if j < v then I 4 (j + 350) else I 4 j) (N := 1750) (fun n v a hv ha k => ?_) 1751 0 I2 (by omega) (by omega) ⟨e23, e5, by rw [e4]; funext j; rw [if_neg (by omega)]⟩⟩
  obtain ⟨a23, a5, a4⟩ := ha
  refine ls_X12_keeps_21 ?_
  unfold Lb_X12_keeps_21
  refine ⟨rgK (by omega), rgK (by rw [a23]; omega), fun c => ?_, fun c => ?_⟩
  · rw [a23] at c
    refine last a 5 _ (by omega) a23 a5 (fun I' f1 f2 f3 => ⟨fun z => by omega, fun _ => ⟨by rw [f1]; rfl, f2, fun i hi => ?_⟩⟩)
    rw [f3 i hi, a4]
    funext j
    unfold seg
    dsimp only
    by_cases hj : j < 350
    · rw [if_pos hj, if_pos hj, if_pos (by omega), show 350 * i + j + 350 = 350 * (i + 1) + j by omega]
    · rw [if_neg hj, if_neg hj]
  · rw [a23] at c
    refine ⟨by omega, by omega, fun I3 e => k (by omega) _ ⟨?_, ?_, ?_⟩⟩
    · rw [e, up2_key (by decide), a23]
    · rw [e, up2_key (by decide), a5]
    · rw [e, up2_row, a4, show (v : Int).toNat = v by omega, show ((v : Int) + 350).toNat = v + 350 by omega]
      funext j
      unfold updr
      dsimp only
      by_cases hj : j = v
      · subst hj; rw [if_pos rfl, if_neg (by omega), if_pos (by omega)]
      · rw [if_neg hj]
        by_cases h1 : j < v
        · rw [if_pos h1, if_pos (by omega)]
        · rw [if_neg h1, if_neg (by omega)]
theorem s_undo {u : Nat} (hu : I 0 23 = (u : Int)) (hu6 : u ≤ 6) (h2 : Tl 350 (I 2)) : wp_X12_undo I J (fun r I' _ => I' 0 0 = 0 ∧ (u = 0 → r = -1 ∧ I' 2 = I 2 ∧ I' 0 23 = 0) ∧ (0 < u → r = (u : Int) - 1 ∧ I' 0 23 = (u : Int) - 1 ∧ I' 2 = seg (I 4) (u - 1))) := by
  unfold wp_X12_undo
  intro I1 e1
  have e23 : I1 0 23 = (u : Int) := by rw [e1, up2_ne (by decide)]; exact hu
  refine ⟨rgK (by omega), fun c I3 e3 => ?_, fun c => ⟨by rw [e1, up2_self], fun _ => ⟨rfl, by rw [e1, up2_key (by decide)], c⟩, fun z => by omega⟩⟩
  have f23 : I3 0 23 = (u : Int) - 1 := by rw [e3, up2_self, e23]
  have f0 : I3 0 0 = 0 := by rw [e3, up2_ne (by decide), e1, up2_self]
  have f2 : I3 2 = I 2 := by rw [e3, up2_key (by decide), e1, up2_key (by decide)]
  have f4 : I3 4 = I 4 := by rw [e3, up2_key (by decide), e1, up2_key (by decide)]
  refine ⟨351, loopN (L := fun n (a : Ii) v => L_X12_undo_26 _ n v a J) (fun v a => a 0 23 = (u : Int) - 1 ∧ a 0 0 = 0 ∧ a 4 = I 4 ∧ a 2 = cpP (seg (I 4) (u - 1)) (I 2) v) (N := 350) (fun n v a hv ha k => ?_) 351 0 I3 (by omega) (by omega) ⟨f23, f0, f4, by rw [f2, cpP_zero]⟩⟩
  obtain ⟨a23, a0, a4, a2⟩ := ha
  refine ls_X12_undo_26 ?_
  unfold Lb_X12_undo_26
  refine ⟨rgK (by omega), fun c => ⟨a0, fun z => by omega, fun _ => ⟨a23, a23, by rw [a2, show v = 350 by omega, cpP_all (seg_Tl _ _) h2]⟩⟩, fun c => ⟨by rw [a23]; omega, by omega, fun I4 e => k (by omega) _ ⟨?_, ?_, ?_, ?_⟩⟩⟩
  · rw [e, up2_key (by decide), a23]
  · rw [e, up2_key (by decide), a0]
  · rw [e, up2_key (by decide), a4]
  · rw [e, up2_row, a2, a4, a23, cpP_succ, show (v : Int).toNat = v by omega, show (350 * ((u : Int) - 1) + (v : Int)).toNat = 350 * (u - 1) + v by omega]
    congr 1
    unfold seg
    rw [if_pos (by omega)]
theorem s_save (hM : MS (I 2)) (h2 : Tl 350 (I 2)) (h3 : Tl 350 (I 3)) (h7 : TlJ 14 (J 7)) (h8 : TlJ 14 (J 8)) : wp_X12_save I J (fun r I' J' => r = cutZ (I 2) ∧ I' 0 0 = 0 ∧ I' 0 24 = 1 ∧ I' 3 = I 2 ∧ J' 8 = J 7) := by
  unfold wp_X12_save
  intro I1 e1
  refine ⟨351, loopN (L := fun n (a : Ii) v => L_X12_save_7 _ n v a J) (fun v a => a 0 0 = 0 ∧ a 2 = I 2 ∧ a 3 = cpP (I 2) (I 3) v) (N := 350) (fun n v a hv ha k => ?_) 351 0 I1 (by omega) (by omega) ⟨by rw [e1, up2_self], by rw [e1, up2_key (by decide)], by rw [e1, up2_key (by decide), cpP_zero]⟩⟩
  obtain ⟨a0, a2, a3⟩ := ha
  refine ls_X12_save_7 ?_
  unfold Lb_X12_save_7
  refine ⟨rgK (by omega), fun c => ?_, fun c => ⟨by omega, by omega, fun I2 e => k (by omega) _ ⟨?_, ?_, ?_⟩⟩⟩
  · refine ⟨15, loopN (L := fun n (b : Jj) v => L_X12_save_34 _ n v a b) (fun v b => b 7 = J 7 ∧ b 8 = cpP (J 7) (J 8) v) (N := 14) (fun n w b hw hb k2 => ?_) 15 0 J (by omega) (by omega) ⟨rfl, by rw [cpP_zero]⟩⟩
    obtain ⟨b7, b8⟩ := hb
    refine ls_X12_save_34 ?_
    unfold Lb_X12_save_34
    refine ⟨rgK (by omega), fun c2 I2 e2 => ?_, fun c2 => ⟨by omega, by omega, fun J2 e => k2 (by omega) _ ⟨?_, ?_⟩⟩⟩
    · have q2 : I2 2 = I 2 := by rw [e2, up2_key (by decide), a2]
      refine fr_X12_cutNow (s_cutNow (by rw [q2]; exact hM)) (fun r hr => ⟨by rw [hr, q2], ?_, ?_, ?_, ?_⟩)
      · rw [e2, up2_ne (by decide), a0]
      · rw [e2, up2_self]
      · rw [e2, up2_key (by decide), a3, show v = 350 by omega, cpP_all h2 h3]
      · rw [b8, show w = 14 by omega, cpP_allJ h7 h8]
    · rw [e, up2_key (by decide), b7]
    · rw [e, up2_row, b7, b8, cpP_succ, show (w : Int).toNat = w by omega]
  · rw [e, up2_key (by decide), a0]
  · rw [e, up2_key (by decide), a2]
  · rw [e, up2_row, a2, a3, cpP_succ, show (v : Int).toNat = v by omega]
theorem s_restore (hk : I 0 24 = 0 ∨ I 0 24 = 1) (hM : I 0 24 = 1 → MS (I 3)) (h2 : Tl 350 (I 2)) (h3 : Tl 350 (I 3)) (h7 : TlJ 14 (J 7)) (h8 : TlJ 14 (J 8)) : wp_X12_restore I J (fun r I' J' => I' 0 24 = I 0 24 ∧ (I 0 24 = 0 → I' 0 0 = 1 ∧ I' 0 23 = I 0 23 ∧ I' 2 = I 2 ∧ J' 7 = J 7) ∧ (I 0 24 = 1 → r = cutZ (I 3) ∧ I' 0 0 = 0 ∧ I' 0 23 = 0 ∧ I' 2 = I 3 ∧ J' 7 = J 8)) := by
  unfold wp_X12_restore
  refine fr_X12_goes (s_goes hk) (fun r I1 J1 h hs => ?_)
  obtain ⟨h1, e1, eJ⟩ := h
  subst eJ
  have q24 : I1 0 24 = I 0 24 := by rw [e1, up2_ne (by decide)]
  refine ⟨fun c => ?_, fun c => ⟨q24, fun _ => ⟨by rw [e1, up2_self]; omega, by rw [e1, up2_ne (by decide)], by rw [e1, up2_key (by decide)], rfl⟩, fun z => by omega⟩⟩
  have hM := hM (by omega)
  refine ⟨351, loopN (L := fun n (a : Ii) v => L_X12_restore_15 _ n v a J1) (fun v a => a 0 0 = 0 ∧ a 0 24 = I 0 24 ∧ a 3 = I 3 ∧ a 2 = cpP (I 3) (I 2) v) (N := 350) (fun n v a hv ha k => ?_) 351 0 I1 (by omega) (by omega) ⟨by rw [e1, up2_self]; omega, q24, by rw [e1, up2_key (by decide)], by rw [e1, up2_key (by decide), cpP_zero]⟩⟩
  obtain ⟨a0, a24, a3, a2⟩ := ha
  refine ls_X12_restore_15 ?_
  unfold Lb_X12_restore_15
  refine ⟨rgK (by omega), fun c => ?_, fun c => ⟨by omega, by omega, fun I2 e => k (by omega) _ ⟨?_, ?_, ?_, ?_⟩⟩⟩
  · refine ⟨15, loopN (L := fun n (b : Jj) v => L_X12_restore_42 _ n v a b) (fun v b => b 8 = J1 8 ∧ b 7 = cpP (J1 8) (J1 7) v) (N := 14) (fun n w b hw hb k2 => ?_) 15 0 J1 (by omega) (by omega) ⟨rfl, by rw [cpP_zero]⟩⟩
    obtain ⟨b8, b7⟩ := hb
    refine ls_X12_restore_42 ?_
    unfold Lb_X12_restore_42
    refine ⟨rgK (by omega), fun c2 I2 e2 => ?_, fun c2 => ⟨by omega, by omega, fun J2 e => k2 (by omega) _ ⟨?_, ?_⟩⟩⟩
    · have q2 : I2 2 = I 3 := by rw [e2, up2_key (by decide), a2, show v = 350 by omega, cpP_all h3 h2]
      refine fr_X12_cutNow (s_cutNow (by rw [q2]; exact hM)) (fun r hr => ⟨?_, fun z => by omega, fun _ => ⟨by rw [hr, q2], ?_, ?_, q2, ?_⟩⟩)
      · rw [e2, up2_ne (by decide), a24]
      · rw [e2, up2_ne (by decide), a0]
      · rw [e2, up2_self]
      · rw [b7, show w = 14 by omega, cpP_allJ h8 h7]
    · rw [e, up2_key (by decide), b8]
    · rw [e, up2_row, b7, b8, cpP_succ, show (w : Int).toNat = w by omega]
  · rw [e, up2_key (by decide), a0]
  · rw [e, up2_key (by decide), a24]
  · rw [e, up2_key (by decide), a3]
  · rw [e, up2_row, a2, a3, cpP_succ, show (v : Int).toNat = v by omega]
end RV4

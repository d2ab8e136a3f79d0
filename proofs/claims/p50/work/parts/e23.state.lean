/-! ===== class and world beside one another ===== -/
theorem wlk_hi : ∀ {l : List (Nat × Nat)}, (l.all (fun p => decide (p.1 < 390))) = true → ∀ k, 390 ≤ k → wlk l k = false
  | [], _, _, _ => rfl
  | q :: t, h, k, hk => by
    rw [List.all_cons, Bool.and_eq_true] at h
    have h1 := of_decide_eq_true h.1
    unfold wlk
    rw [wlk_hi h.2 k hk, Bool.or_false]
    have : ¬ q.1 = k := by omega
    simp [this]
/-- the world stays where the class' cells change -/
theorem WO.cls {σ : Nat → Int} {I I' : Ii} (w : WO σ I) (hN : 1022 ≤ I 999 0) (h : ∀ k, 390 ≤ k → I' k = I k) : WO σ I' := by
  obtain ⟨hV, hNs, ⟨L, hL⟩, ⟨L2, hE⟩, hDn⟩ := w
  have x : ExW (fun k => k < 390) I I' := ⟨by rw [h 999 (by omega)]; exact Int.le_refl _, fun k _ _ => ⟨fun q => h k (by omega), h _ (by omega)⟩⟩
  refine ⟨hV, WNs_keep hN (by omega) hNs x (fun k h1 h2 q => by omega), ⟨L, WNl_keep hN hL x (by omega) (fun q => ?_) (fun l hl q => ?_)⟩, ⟨L2, AL_keep hN hE x (Or.inr rfl) (by omega) (fun q => ?_)⟩, by rw [h 1020 (by omega), h 1021 (by omega)]; exact hDn⟩
  · have := hL.1.2.2.1; omega
  · obtain ⟨b1, b2, b3⟩ := hL.1.2.2.2.2.2.1 l (by omega); omega
  · have := hE.2.2.1; omega
/-- the class' cells stay where the world changes -/
theorem WF.cls {I I' : Ii} (h : WF I I') (hN : 1022 ≤ I 999 0) (hd : ∀ k, k < 390 → dS I k ≠ 3) : (∀ k, k < 390 → I' k = I k) ∧ ∀ k, k < 390 → dS I' k ≠ 3 := by
  refine ⟨fun k hk => (h.2 k (by omega) (by omega)).1 (fun q => ?_), fun k hk => ?_⟩
  · rcases q with q | q
    · omega
    · exact hd k hk q
  · rw [(ExW.ds h (k := k) (by omega) (by omega)).1]; exact hd k hk
theorem Ex.WF {I I' : Ii} (h : Ex I I') : WF I I' := h.weaken (fun _ q => q.elim)
def LWS (σ : Nat → Int) (nm : Nat → Int64) (u nw : Nat) (pf : Nat → Nat → Int) (I : Ii) (J : Jj) : Prop := RG 200 I J σ nm ∧ RS 300 I σ ∧ WO σ I ∧ (HR I u nw pf ∧ ∀ i, i < u → VS (pf i)) ∧ 1022 ≤ I 999 0 ∧ ∀ k, k < 390 → dS I k ≠ 3
abbrev keepsL : List Nat := [200, 201, 202, 203, 204, 205, 300, 301, 302, 303, 304, 111, 330, 331, 332, 333, 334, 340, 341, 342, 343, 344, 350, 351, 352, 353, 354, 360, 361, 362, 363, 364, 370, 371, 372, 373, 374, 380, 381, 382, 383, 384]
section LSQ
variable {σ : Nat → Int} {nm : Nat → Int64} {u nw : Nat} {pf : Nat → Nat → Int} {I I' : Ii} {J J' : Jj}
theorem Same.hi {l : List (Nat × Nat)} (hs : Same (WL l) I J I' J') (hn : (l.all (fun p => decide (p.1 < 390))) = true := by rfl) : ∀ k, 390 ≤ k → I' k = I k := fun k hk => hs.k (wlk_hi hn k hk)
/-- a call of the class that only asks -/
theorem LWS.q {l : List (Nat × Nat)} (h : LWS σ nm u nw pf I J) (hs : Same (WL l) I J I' J') (hn : ((keepsL.all (fun q => !wlk l q)) && l.all (fun p => decide (p.1 < 390))) = true := by rfl) : LWS σ nm u nw pf I' J' := by
  rw [Bool.and_eq_true] at hn
  obtain ⟨h1, h2, h3, h4, h5, h6⟩ := h
  have hk := hs.hi hn.2
  have e9 : I' 999 0 = I 999 0 := by rw [hk 999 (by omega)]
  refine ⟨h1.cong (hs.k (all_not hn.1 (by simp))) (hs.kJ (all_not hn.1 (by simp))) (hs.k (all_not hn.1 (by simp))) (hs.k (all_not hn.1 (by simp))) (hs.k (all_not hn.1 (by simp))) (hs.k (all_not hn.1 (by simp))), h2.cong (hs.k (all_not hn.1 (by simp))) (hs.k (all_not hn.1 (by simp))) (hs.k (all_not hn.1 (by simp))) (hs.k (all_not hn.1 (by simp))) (hs.k (all_not hn.1 (by simp))), h3.cls h5 hk, ⟨HR_same h4.1 (hs.k (all_not hn.1 (by simp))) (fun m hm => ?_), h4.2⟩, by rw [e9]; exact h5, fun k hk2 => ?_⟩
  · have : m = 0 ∨ m = 1 ∨ m = 2 ∨ m = 3 ∨ m = 4 ∨ m = 5 := by omega
    rcases this with rfl | rfl | rfl | rfl | rfl | rfl <;> exact ⟨hs.k (all_not hn.1 (by simp)), hs.k (all_not hn.1 (by simp)), hs.k (all_not hn.1 (by simp)), hs.k (all_not hn.1 (by simp)), hs.k (all_not hn.1 (by simp))⟩
  · show I' (1000000 + k) 0 ≠ 3
    rw [hk _ (by omega)]; exact h6 k hk2
/-- the class' part, where the world changed -/
theorem LWS.w {σ' : Nat → Int} (h1 : RG 200 I J σ nm) (h2 : RS 300 I σ) (h4 : HR I u nw pf ∧ ∀ i, i < u → VS (pf i)) (hN : 1022 ≤ I 999 0) (h6 : ∀ k, k < 390 → dS I k ≠ 3) (hF : WF I I') : (RG 200 I' J σ nm ∧ RS 300 I' σ ∧ HR I' u nw pf) ∧ 1022 ≤ I' 999 0 ∧ ∀ k, k < 390 → dS I' k ≠ 3 := by
  obtain ⟨hk, hd⟩ := hF.cls hN h6
  have := hF.1
  refine ⟨⟨h1.cong (hk _ (by omega)) rfl (hk _ (by omega)) (hk _ (by omega)) (hk _ (by omega)) (hk _ (by omega)), h2.cong (hk _ (by omega)) (hk _ (by omega)) (hk _ (by omega)) (hk _ (by omega)) (hk _ (by omega)), HR_same h4.1 (hk _ (by omega)) (fun m hm => ⟨hk _ (by omega), hk _ (by omega), hk _ (by omega), hk _ (by omega), hk _ (by omega)⟩)⟩, by omega, hd⟩
/-- what stays by now, for the next change -/
theorem HN_push {u : Nat} {pf : Nat → Nat → Int} (hn : HN I u pf σ) (hu : u ≤ 6) (hV : VS σ) (hp : ∀ i, i < u → VS (pf i)) : ∃ u' nw' pf', HR I u' nw' pf' ∧ (∀ i, i < u' → VS (pf' i)) ∧ 0 < u' ∧ pf' (u' - 1) = σ ∧ (0 < u → 1 < u' ∧ pf' (u' - 2) = pf (u - 1)) := by
  obtain ⟨nw', g1, g2⟩ := hn
  by_cases c : u < 6
  · refine ⟨u + 1, nw', fun i => if i = u then σ else pf i, g1 c _ (fun i hi => if_neg (by omega)) (if_pos rfl), fun i hi => ?_, by omega, if_pos (by omega), fun h0 => ⟨by omega, ?_⟩⟩
    · dsimp only
      by_cases z : i = u
      · rw [if_pos z]; exact hV
      · rw [if_neg z]; exact hp i (by omega)
    · show (if u + 1 - 2 = u then σ else pf (u + 1 - 2)) = _
      rw [if_neg (by omega)]
      rfl
  · refine ⟨6, nw', fun i => if i = 5 then σ else pf (i + 1), g2 (by omega) _ (fun i hi => if_neg (by omega)) (if_pos rfl), fun i hi => ?_, by omega, if_pos rfl, fun h0 => ⟨by omega, ?_⟩⟩
    · dsimp only
      by_cases z : i = 5
      · rw [if_pos z]; exact hV
      · rw [if_neg z]; exact hp (i + 1) (by omega)
    · show (if 6 - 2 = 5 then σ else pf (6 - 2 + 1)) = _
      rw [if_neg (by omega), show u = 6 by omega]
end LSQ

/-! ===== the text that grows: its statements, beside the row ===== -/
def GS (σ : Nat → Int) (nm : Nat → Int64) (T p c : Nat) (L : List Int) : Prop := RdT L (σ, nm, T, p) c ∧ PS σ ∧ (∀ u, u < (σ 0).toNat → nm u = nmW u) ∧ L.length ≤ 15 * c ∧ (σ 0 ≤ 10 ∧ σ 1 ≤ 30) ∧ ∀ e, e < (σ 1).toNat → 1 ≤ σ (190 + e) ∧ σ (190 + e) ≤ 9
theorem TBz_cong {σ τ : Nat → Int} (h : ∀ i, (i = 1 ∨ 110 ≤ i) → τ i = σ i) (a b : Nat) : TBz τ a b = TBz σ a b := by
  unfold TBz
  rw [h 1 (Or.inl rfl)]
  exact sm_cong (fun e _ => by rw [h (110 + e) (Or.inr (by omega)), h (150 + e) (Or.inr (by omega)), h (190 + e) (Or.inr (by omega))])
/-- other numbers of the world and of the row, the same edges -/
theorem GW_up {n n' : Int} {σ τ : Nat → Int} {I : Ii} {K i : Nat} {x : Int} (h : GW n σ I) (hK : (K = 1000 ∧ i < 4) ∨ K = 1001) (e0 : up2 I K i x 1000 0 = n') (e2 : up2 I K i x 1000 1 = τ 2 ∧ up2 I K i x 1000 2 = τ 3 ∧ up2 I K i x 1000 3 = τ 4) (e1 : ∀ i, (i = 1 ∨ 110 ≤ i) → τ i = σ i) (ew : ∀ v, v < (τ 0).toNat → up2 I K i x 1001 v = τ (7 + v)) : GW n' τ (up2 I K i x) := by
  obtain ⟨-, h1, h2, h3, h4, h5⟩ := h
  unfold GW
  rw [up2_key (k' := 1002) (by omega), up2_key (k' := 1020) (by omega), up2_key (k' := 1021) (by omega)]
  refine ⟨e0, ⟨e2.1, e2.2.1, e2.2.2, ?_⟩, ew, h3, fun a b ha hb => ?_, h5⟩
  · rw [up2_ne (by omega), e1 1 (Or.inl rfl)]; exact h1.2.2.2
  · rw [up2_key (by omega), h4 a b ha hb, TBz_cong e1 a b]
theorem GS.nil : GS zrR nm0 0 0 0 [] := ⟨RdT.nil, zrR_Z.PS, fun u hu => absurd hu (Nat.not_lt_zero _), Nat.le_refl _, ⟨by decide, by decide⟩, fun e he => absurd he (Nat.not_lt_zero _)⟩
section GSS
variable {σ : Nat → Int} {nm : Nat → Int64} {T p c : Nat} {L : List Int}
theorem dgL_l (x : Int) : (dgL x).length ≤ 2 := by rw [dgL_len]; split <;> omega
theorem GS.one {W : List Int} {w : Nat} {lo hi x : Int} (h : GS σ nm T p c L) (ho : isOne W w lo hi) (hx : (lo ≤ x ∧ x ≤ hi) ∧ 0 ≤ x ∧ x < 100) (hT : T.testBit w = false) : ∃ p', GS (updr σ (w + 2) x) nm (T ||| 2 ^ w) p' (c + 1) (((L ++ (W ++ [32])) ++ dgL x) ++ [59]) := by
  obtain ⟨h1, h2, h3, h4, h5, h6⟩ := h
  have hw : w = 0 ∨ w = 1 ∨ w = 2 := by rcases ho with ⟨-, z, -⟩ | ⟨-, z, -⟩ | ⟨-, z, -⟩ <;> omega
  have el : ((L ++ (W ++ [32])) ++ dgL x) ++ [59] = L ++ (W ++ ([32] ++ (dgL x ++ [59]))) := by simp only [List.append_assoc]
  have ll : (W ++ ([32] ++ (dgL x ++ [59]))).length = W.length + (1 + ((dgL x).length + 1)) := by
    simp only [List.length_append]
    rfl
  have l2 := dgL_l x
  have lW : W.length ≤ 6 := by rcases ho with ⟨rfl, -⟩ | ⟨rfl, -⟩ | ⟨rfl, -⟩ <;> decide
  have o : ∀ i, i < 2 ∨ 4 < i → updr σ (w + 2) x i = σ i := fun i hi => updr_ne (by omega)
  rw [el]
  refine ⟨L.length + (W ++ ([32] ++ (dgL x ++ [59]))).length, h1.step (by rw [ll]; omega) (Nat.le_of_eq (List.length_append (as := L)).symm) (fun i a b => ?_) (fun B E hB hE hb => ?_), setW_PS h2 ?_, fun u hu => ?_, ?_, ?_, fun e he => ?_⟩
  · dsimp only at a
    rw [List.length_append] at b
    omega
  · exact st_one ho hB hx hT hE h1.2.1 hb
  · rcases ho with ⟨-, z1, z2, z3⟩ | ⟨-, z1, z2, z3⟩ | ⟨-, z1, z2, z3⟩
    · exact Or.inl ⟨z1, by omega, by omega⟩
    · exact Or.inr ⟨Or.inl z1, by omega, by omega⟩
    · exact Or.inr ⟨Or.inr z1, by omega, by omega⟩
  · rw [o 0 (by omega)] at hu
    exact h3 u hu
  · rw [List.length_append, ll]
    omega
  · rw [o 0 (by omega), o 1 (by omega)]; exact h5
  · rw [o 1 (by omega)] at he
    rw [o (190 + e) (by omega)]; exact h6 e he
theorem GS.vtx {v k : Nat} {tl : List Int} {x : Int} (h : GS σ nm T p c L) (htl : isTl tl k) (hx : 1 ≤ x ∧ x ≤ 99) (hv : σ 0 = (v : Int)) (hv10 : v < 10) : ∃ p', GS (addV σ x) (updr nm v (nmW v)) T p' (c + 1) (((((L ++ [118, 101, 114, 116, 101, 120, 32]) ++ nmL v) ++ [32]) ++ dgL x) ++ tl) := by
  obtain ⟨h1, h2, h3, h4, h5, h6⟩ := h
  have el : ((((L ++ [118, 101, 114, 116, 101, 120, 32]) ++ nmL v) ++ [32]) ++ dgL x) ++ tl = L ++ ([118, 101, 114, 116, 101, 120] ++ ([32] ++ (nmL v ++ ([32] ++ (dgL x ++ tl))))) := by
    simp only [List.append_assoc]
    rfl
  have ll : ([118, 101, 114, 116, 101, 120] ++ ([32] ++ (nmL v ++ ([32] ++ (dgL x ++ tl))))).length = 10 + (dgL x).length + tl.length := by
    simp only [List.length_append]
    show 6 + (1 + (2 + (1 + ((dgL x).length + tl.length)))) = _
    omega
  have l2 := dgL_l x
  have lt : tl.length ≤ 3 ∧ k ≤ tl.length ∧ 0 < tl.length := by rcases htl with ⟨rfl, rfl⟩ | ⟨rfl, rfl⟩ <;> exact ⟨by decide, by decide, by decide⟩
  have e0 : addV σ x 0 = σ 0 + 1 := by unfold addV; rw [updr_ne (by decide), updr_self]
  have o : ∀ i, i ≠ 0 → i ≠ 105 → i ≠ 7 + (σ 0).toNat → i ≠ 35 + (σ 0).toNat → addV σ x i = σ i := fun i a b c d => by
    unfold addV; rw [updr_ne b, updr_ne a, updr_ne d, updr_ne c]
  rw [el]
  refine ⟨L.length + (10 + (dgL x).length + k), h1.step (by rw [ll]; omega) ?_ (fun i a b => ?_) (fun B E hB hE hb => ?_), addV_PS h2 (by omega) (by omega), fun u hu => ?_, ?_, ?_, fun e he => ?_⟩
  · show L.length + (10 + (dgL x).length + k) ≤ (L ++ _).length
    rw [List.length_append, ll]; omega
  · obtain ⟨-, -, r3⟩ := st_vtx (σ := σ) (nm := nm) (T := T) (p := L.length) (E := L.length + (10 + (dgL x).length + tl.length)) htl (by have := atL_of L ([118, 101, 114, 116, 101, 120] ++ ([32] ++ (nmL v ++ ([32] ++ (dgL x ++ tl))))) []; rw [List.append_nil] at this; exact this) hx hv (by omega) (fun u hu => h3 u (by omega)) (by rw [ll]; exact Nat.le_refl _) (Nat.le_refl _) (fun i a b => by omega)
    rw [List.length_append, ll] at b
    exact r3 i a b
  · obtain ⟨r1, r2, -⟩ := st_vtx (σ := σ) (nm := nm) (T := T) htl hB hx hv (by omega) (fun u hu => h3 u (by omega)) hE h1.2.1 hb
    exact ⟨r1, r2⟩
  · rw [e0] at hu
    by_cases cu : u = v
    · rw [cu, updr_self]
    · rw [updr_ne cu]; exact h3 u (by omega)
  · rw [List.length_append, ll]
    omega
  · rw [e0, o 1 (by omega) (by omega) (by omega) (by omega)]
    omega
  · rw [o 1 (by omega) (by omega) (by omega) (by omega)] at he
    rw [o (190 + e) (by omega) (by omega) (by omega) (by omega)]; exact h6 e he
theorem GS.edg {a b : Nat} {x : Int} (h : GS σ nm T p c L) (hx : 1 ≤ x ∧ x ≤ 9) (h30 : σ 1 < 30) (ha : (a : Int) < σ 0) (hbn : (b : Int) < σ 0) (hab : a ≠ b) (hno : edgeZ σ (a : Int) (b : Int) (σ 1).toNat = -1) : ∃ p', GS (addE σ (a : Int) (b : Int) x) nm T p' (c + 1) (((((((L ++ [101, 100, 103, 101, 32]) ++ nmL a) ++ [32]) ++ nmL b) ++ [32]) ++ dgL x) ++ [59]) := by
  obtain ⟨h1, h2, h3, h4, h5, h6⟩ := h
  have b1 := ms_1 h2.1
  have b0 := ms_0 h2.1
  have el : ((((((L ++ [101, 100, 103, 101, 32]) ++ nmL a) ++ [32]) ++ nmL b) ++ [32]) ++ dgL x) ++ [59] = L ++ ([101, 100, 103, 101] ++ ([32] ++ (nmL a ++ ([32] ++ (nmL b ++ ([32] ++ (dgL x ++ [59]))))))) := by
    simp only [List.append_assoc]
    rfl
  have ll : ([101, 100, 103, 101] ++ ([32] ++ (nmL a ++ ([32] ++ (nmL b ++ ([32] ++ (dgL x ++ [59]))))))).length = 11 + (dgL x).length + 1 := by
    simp only [List.length_append]
    show 4 + (1 + (2 + (1 + (2 + (1 + ((dgL x).length + 1)))))) = _
    omega
  have l2 := dgL_l x
  have e1 : addE σ (a : Int) (b : Int) x 1 = σ 1 + 1 := by unfold addE; rw [updr_self]
  have o : ∀ i, i ≠ 1 → i ≠ 110 + (σ 1).toNat → i ≠ 150 + (σ 1).toNat → i ≠ 190 + (σ 1).toNat → addE σ (a : Int) (b : Int) x i = σ i := fun i a b c d => by
    unfold addE; rw [updr_ne a, updr_ne d, updr_ne c, updr_ne b]
  have ex : addE σ (a : Int) (b : Int) x (190 + (σ 1).toNat) = x := by unfold addE; rw [updr_ne (by omega), updr_self]
  rw [el]
  refine ⟨L.length + (11 + (dgL x).length + 1), h1.step (by rw [ll]; omega) ?_ (fun i a b => ?_) (fun B E hB hE hb => ?_), addE_PS h2 (by omega) ⟨by omega, ha⟩ ⟨by omega, hbn⟩ (by omega) hno (by omega), fun u hu => ?_, ?_, ?_, fun e he => ?_⟩
  · show L.length + (11 + (dgL x).length + 1) ≤ (L ++ _).length
    rw [List.length_append, ll]; exact Nat.le_refl _
  · dsimp only at a
    rw [List.length_append, ll] at b
    omega
  · exact st_edg hB (by omega) ⟨b0.1, b0.2⟩ (by omega) ha hbn hab hno h3 hE h1.2.1 hb
  · rw [o 0 (by omega) (by omega) (by omega) (by omega)] at hu
    exact h3 u hu
  · rw [List.length_append, ll]
    have lx : (dgL x).length = 1 := by rw [dgL_len, if_pos (by omega)]
    omega
  · rw [e1, o 0 (by omega) (by omega) (by omega) (by omega)]
    omega
  · rw [e1] at he
    by_cases ce : e = (σ 1).toNat
    · rw [ce, ex]; exact hx
    · rw [o (190 + e) (by omega) (by omega) (by omega) (by omega)]; exact h6 e (by omega)
/-- an edge that isn't there weighs nothing; one that is there, its weight -/
theorem TBz_no {a b : Nat} (h : edgeZ σ (a : Int) (b : Int) (σ 1).toNat = -1) : TBz σ a b = 0 := by
  rw [TBz_eq]
  exact sm_none (fun e he => if_neg (edgeZ_m1 h e he))
theorem TBz_is {a b : Nat} (hE : VE σ) (h : edgeZ σ (a : Int) (b : Int) (σ 1).toNat ≠ -1) : ∃ e, e < (σ 1).toNat ∧ TBz σ a b = σ (190 + e) := by
  obtain ⟨e, h1, -, h3⟩ := edgeZ_is h
  refine ⟨e, h1, ?_⟩
  rw [TBz_eq, sm_pick h1 (fun k hk hne => if_neg (fun z => hne (hE.2 k e hk h1 ?_)))]
  · exact if_pos h3
  · omega
theorem TBz_b9 {a b : Nat} (h : GS σ nm T p c L) : 0 ≤ TBz σ a b ∧ TBz σ a b ≤ 9 ∧ (¬ 0 < TBz σ a b → edgeZ σ (a : Int) (b : Int) (σ 1).toNat = -1) := by
  by_cases ce : edgeZ σ (a : Int) (b : Int) (σ 1).toNat = -1
  · rw [TBz_no ce]
    exact ⟨by decide, by decide, fun _ => ce⟩
  · obtain ⟨e, h1, h2⟩ := TBz_is h.2.1.2.1 ce
    have := h.2.2.2.2.2 e h1
    rw [h2]
    exact ⟨by omega, by omega, fun z => by omega⟩
theorem TBz_addE {a b : Nat} {x : Int} (h : GS σ nm T p c L) (hno : edgeZ σ (a : Int) (b : Int) (σ 1).toNat = -1) (u v : Nat) : TBz (addE σ (a : Int) (b : Int) x) u v = if (u = a ∧ v = b) ∨ (u = b ∧ v = a) then x else TBz σ u v := by
  have b1 := ms_1 h.2.1.1
  have e1 : addE σ (a : Int) (b : Int) x 1 = σ 1 + 1 := by unfold addE; rw [updr_self]
  have o : ∀ i, i ≠ 1 → i ≠ 110 + (σ 1).toNat → i ≠ 150 + (σ 1).toNat → i ≠ 190 + (σ 1).toNat → addE σ (a : Int) (b : Int) x i = σ i := fun i a b c d => by
    unfold addE; rw [updr_ne a, updr_ne d, updr_ne c, updr_ne b]
  have ea : addE σ (a : Int) (b : Int) x (110 + (σ 1).toNat) = (a : Int) := by unfold addE; rw [updr_ne (by omega), updr_ne (by omega), updr_ne (by omega), updr_self]
  have eb : addE σ (a : Int) (b : Int) x (150 + (σ 1).toNat) = (b : Int) := by unfold addE; rw [updr_ne (by omega), updr_ne (by omega), updr_self]
  have ex : addE σ (a : Int) (b : Int) x (190 + (σ 1).toNat) = x := by unfold addE; rw [updr_ne (by omega), updr_self]
  have hn1 : (addE σ (a : Int) (b : Int) x 1).toNat = (σ 1).toNat + 1 := by rw [e1]; omega
  have h30 := h.2.2.2.2.1.2
  rw [TBz_eq, hn1]
  show sm (tbE (addE σ (a : Int) (b : Int) x) u v) (σ 1).toNat + tbE (addE σ (a : Int) (b : Int) x) u v (σ 1).toNat = _
  have low : sm (tbE (addE σ (a : Int) (b : Int) x) u v) (σ 1).toNat = TBz σ u v := by
    rw [TBz_eq]
    refine sm_cong (fun e he => ?_)
    unfold tbE
    rw [o (110 + e) (by omega) (by omega) (by omega) (by omega), o (150 + e) (by omega) (by omega) (by omega) (by omega), o (190 + e) (by omega) (by omega) (by omega) (by omega)]
  rw [low]
  unfold tbE
  rw [ea, eb, ex]
  by_cases cc : (u = a ∧ v = b) ∨ (u = b ∧ v = a)
  · rw [if_pos cc, if_pos (by omega)]
    have : TBz σ u v = 0 := by
      rcases cc with ⟨rfl, rfl⟩ | ⟨rfl, rfl⟩
      · exact TBz_no hno
      · refine TBz_no (edgeZ_none (fun e he z => edgeZ_m1 hno e he (by omega)))
    rw [this]
    omega
  · rw [if_neg cc, if_neg (by omega)]
    omega
end GSS

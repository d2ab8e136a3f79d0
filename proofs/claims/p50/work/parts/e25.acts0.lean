/-! ===== acts: the groundwork ===== -/
theorem credZ_VS {σ : Nat → Int} {a : Int} (hV : VS σ) (ha : 0 ≤ a ∧ a ≤ 99) : VS (updr σ 4 a) := by
  have hM := hV.M
  have o : ∀ i, i ≠ 4 → updr σ 4 a i = σ i := fun i hi => updr_ne hi
  have ol : ∀ l v, gL (updr σ 4 a) l v = gL σ l v := fun l v => o _ (by omega)
  have o5 := o 5 (by omega)
  have og : ∀ v, gAt (updr σ 4 a) v = gAt σ v := fun v => by
    unfold gAt
    rw [o5, o _ (by omega)]
  refine ⟨⟨?_, ?_, ?_, ?_, ?_, ?_, ?_, fun w hw => ?_, fun w hw => ?_, fun w hw => ?_, fun w hw => ?_, fun w hw => ?_, fun w hw => ?_, fun w hw => ?_, fun w hw => ?_⟩, ⟨fun e he => ?_, fun e f he hf => ?_⟩, fun v hv => ?_, fun v hv => ?_, ?_, fun l hl => ⟨fun v hv => ?_, fun g h0 h1 => ?_⟩, fun l u v hl hu hv => ?_, fun u v hu hv => ?_⟩
  · rw [o 0 (by omega)]; exact ms_0 hM
  · rw [o 1 (by omega)]; exact ms_1 hM
  · rw [o 2 (by omega)]; exact ms_2 hM
  · rw [o 3 (by omega)]; exact ms_3 hM
  · rw [updr_self]; exact ha
  · rw [o5]; exact ms_5 hM
  · rw [o 6 (by omega)]; exact ms_6 hM
  · rw [o _ (by omega)]; exact ms_w hM w hw
  · rw [o _ (by omega)]; exact ms_p hM w hw
  · rw [o _ (by omega)]; exact ms_g hM w hw
  · rw [o _ (by omega)]; exact ms_n hM w hw
  · rw [o _ (by omega)]; exact ms_a hM w hw
  · rw [o _ (by omega)]; exact ms_b hM w hw
  · rw [o _ (by omega)]; exact ms_h hM w hw
  · rw [o _ (by omega)]; exact ms_e hM w hw
  · rw [o 1 (by omega)] at he
    rw [o 0 (by omega), o _ (by omega), o _ (by omega)]; exact hV.E.1 e he
  · rw [o 1 (by omega)] at he hf
    rw [o _ (by omega), o (110 + f) (by omega), o (150 + e) (by omega), o (150 + f) (by omega)]; exact hV.E.2 e f he hf
  · rw [o 0 (by omega)] at hv
    rw [o _ (by omega), o 2 (by omega)]; exact (hV.p hv).2
  · rw [o 0 (by omega)] at hv
    rw [ol]; exact hV.g0 hv
  · rw [o _ (by omega), o 0 (by omega)]; exact hV.n0
  · rw [o5] at hl
    rw [o 0 (by omega)] at hv
    rw [ol, o _ (by omega)]; exact (hV.L hl).1 v hv
  · rw [o5] at hl
    rw [o _ (by omega)] at h1
    obtain ⟨v, hv, e⟩ := (hV.L hl).2 g h0 h1
    exact ⟨v, by rw [o 0 (by omega)]; exact hv, by rw [ol]; exact e⟩
  · rw [o5] at hl
    rw [o 0 (by omega)] at hu hv
    rw [ol, ol, ol, ol]; exact hV.nest hl hu hv
  · rw [o 0 (by omega)] at hu hv
    rw [og, og, o _ (by omega), o _ (by omega)]; exact hV.one hu hv
theorem credZ_GE (σ : Nat → Int) (a : Int) : GE σ (updr σ 4 a) := fun i hi => updr_ne (by omega)
/-- the class' side -/
def CSd (σ : Nat → Int) (nm : Nat → Int64) (u nw : Nat) (pf : Nat → Nat → Int) (I : Ii) (J : Jj) : Prop := RG 200 I J σ nm ∧ RS 300 I σ ∧ (HR I u nw pf ∧ ∀ i, i < u → VS (pf i)) ∧ 1022 ≤ I 999 0 ∧ ∀ k, k < 390 → dS I k ≠ 3
/-- the class' side behind a change -/
def HFs (σ τ : Nat → Int) (nm : Nat → Int64) (u : Nat) (pf : Nat → Nat → Int) (I : Ii) (J : Jj) : Prop := RG 200 I J σ nm ∧ RS 300 I τ ∧ (HN I u pf σ ∧ u ≤ 6 ∧ ∀ i, i < u → VS (pf i)) ∧ 1022 ≤ I 999 0 ∧ ∀ k, k < 390 → dS I k ≠ 3
section ACT
variable {σ τ : Nat → Int} {nm : Nat → Int64} {u nw : Nat} {pf : Nat → Nat → Int} {I I' : Ii} {J J' : Jj}
theorem LWS.cs (h : LWS σ nm u nw pf I J) : CSd σ nm u nw pf I J := ⟨h.1, h.2.1, h.2.2.2.1, h.2.2.2.2⟩
theorem CSd.ls (h : CSd σ nm u nw pf I J) (w : WO σ I) : LWS σ nm u nw pf I J := ⟨h.1, h.2.1, w, h.2.2.1, h.2.2.2⟩
theorem CSd.w (h : CSd σ nm u nw pf I J) (hF : WF I I') : CSd σ nm u nw pf I' J := by
  obtain ⟨h1, h2, h4, h5, h6⟩ := h
  have := LWS.w (σ' := σ) h1 h2 h4 h5 h6 hF
  exact ⟨this.1.1, this.1.2.1, ⟨this.1.2.2, h4.2⟩, this.2.1, this.2.2⟩
/-- a change of the class -/
theorem CSd.hf {l : List (Nat × Nat)} (h : CSd σ nm u nw pf I J) (hs : Same (WL l) I J I' J') (hS : RS 300 I' τ) (hN : HN I' u pf σ) (hn : (([200, 201, 202, 203, 204, 205].all (fun q => !wlk l q)) && l.all (fun p => decide (p.1 < 390))) = true := by rfl) : HFs σ τ nm u pf I' J' ∧ ∀ k, 390 ≤ k → I' k = I k := by
  rw [Bool.and_eq_true] at hn
  obtain ⟨h1, h2, h4, h5, h6⟩ := h
  have hk := hs.hi hn.2
  refine ⟨⟨h1.fr hs hn.1, hS, ⟨hN, h4.1.2.2.1, h4.2⟩, by rw [hk 999 (by omega)]; exact h5, fun k hk2 => ?_⟩, hk⟩
  show I' (1000000 + k) 0 ≠ 3
  rw [hk _ (by omega)]; exact h6 k hk2
theorem HFs.w (h : HFs σ τ nm u pf I J) (hF : WF I I') : HFs σ τ nm u pf I' J := by
  obtain ⟨h1, h2, h4, h5, h6⟩ := h
  obtain ⟨hk, hd⟩ := hF.cls h5 h6
  have := hF.1
  exact ⟨h1.cong (hk _ (by omega)) rfl (hk _ (by omega)) (hk _ (by omega)) (hk _ (by omega)) (hk _ (by omega)), h2.cong (hk _ (by omega)) (hk _ (by omega)) (hk _ (by omega)) (hk _ (by omega)) (hk _ (by omega)), ⟨HN_same h4.1 (hk _ (by omega)) (fun m hm => ⟨hk _ (by omega), hk _ (by omega), hk _ (by omega), hk _ (by omega), hk _ (by omega)⟩), h4.2⟩, by omega, hd⟩
theorem HFs.ls (h : HFs σ τ nm u pf I J) (hV : VS σ) (hg : GE σ τ) (w : WO τ I) : ∃ u' nw' pf', LWS τ nm u' nw' pf' I J ∧ 0 < u' ∧ pf' (u' - 1) = σ ∧ (0 < u → 1 < u' ∧ pf' (u' - 2) = pf (u - 1)) := by
  obtain ⟨h1, h2, h4, h5, h6⟩ := h
  obtain ⟨u', nw', pf', a1, a2, a3, a4, a5⟩ := HN_push h4.1 h4.2.1 hV h4.2.2
  exact ⟨u', nw', pf', ⟨h1.ge hg hV.M, h2, w, ⟨a1, a2⟩, h5, h6⟩, a3, a4, a5⟩
/-- the world's credit -/
theorem WO_cred {a : Int} (w : WO σ I) (hN : 1022 ≤ I 999 0) (ha : 0 ≤ a ∧ a ≤ 99) (e : I' = up2 I 1000 3 a) : WO (updr σ 4 a) I' ∧ WF I I' ∧ I' 999 0 = I 999 0 := by
  have hb := w.1.2
  have hM := w.1.1.M
  have b5 := ms_5 hM
  have o : ∀ i, i ≠ 4 → updr σ 4 a i = σ i := fun i hi => updr_ne hi
  have ok : ∀ k, k ≠ 1000 → I' k = I k := fun k hk => by rw [e, up2_key hk]
  have x : ExW (fun k => k = 1000) I I' := ⟨by rw [ok 999 (by omega)]; exact Int.le_refl _, fun k _ _ => ⟨fun q => ok k q, ok _ (by omega)⟩⟩
  obtain ⟨hV, hNs, ⟨L, hL⟩, ⟨L2, hE⟩, hDn⟩ := w
  refine ⟨⟨⟨credZ_VS hV.1 ha, by rw [o 0 (by omega)]; exact hb⟩, ?_, ⟨L, ?_, fun l hl => ?_⟩, ⟨L2, ?_⟩, by rw [ok 1020 (by omega), ok 1021 (by omega)]; exact hDn⟩, x.weaken (fun k q => Or.inl (by omega)), by rw [ok 999 (by omega)]⟩
  · unfold WNs
    rw [o 0 (by omega), o 2 (by omega), o 3 (by omega), ok 1001 (by omega), ok 1002 (by omega)]
    refine ⟨⟨by rw [e, up2_ne (by omega)]; exact hNs.1.1, by rw [e, up2_ne (by omega)]; exact hNs.1.2.1, by rw [e, up2_ne (by omega)]; exact hNs.1.2.2.1, by rw [e, up2_self, updr_self]⟩, fun v hv => by rw [o _ (by omega)]; exact hNs.2.1 v hv, fun v hv => by rw [o _ (by omega)]; exact hNs.2.2.1 v hv, fun a' b' ha' hb' => ?_⟩
    rw [ok _ (by omega), TBz_congr (o 1 (by omega)) (fun i h1 h2 => o i (by omega)) hM]
    exact hNs.2.2.2 a' b' ha' hb'
  · rw [o 5 (by omega)]
    exact AL_keep hN hL.1 x (Or.inl rfl) (by omega) (fun q => by have := hL.1.2.2.1; omega)
  · rw [o 5 (by omega)] at hl
    have hL2 : WNl σ I' L := WNl_keep hN hL x (by omega) (fun q => by have := hL.1.2.2.1; omega) (fun l hl q => by have := hL.1.2.2.2.2.2.1 l (by omega); omega)
    rw [o _ (by omega)]
    refine ⟨(hL2.2 l hl).1, fun g hg => ?_⟩
    rw [(hL2.2 l hl).2 g hg]
    rw [mset_congr (o 0 (by omega)) (fun l v _ _ => o _ (by omega)) hM (by omega)]
  · rw [o 6 (by omega)]
    exact AL_keep hN hE x (Or.inr rfl) (by omega) (fun q => by have := hE.2.2.1; omega)
theorem outZ_GE {σ τ : Nat → Int} (h : GE σ τ) (hM : MS σ) (S : Nat) : outZ τ S = outZ σ S := by
  have b1 := ms_1 hM
  have h1 : τ 1 = σ 1 := h 1 (by omega)
  unfold outZ
  rw [h1]
  exact sm_cong (fun e he => by rw [h (110 + e) (by omega), h (150 + e) (by omega), h (190 + e) (by omega)])
/-- a number that is picked -/
theorem c_pick {sL : Nat} {xs : Nat → Int} {k n : Int} {Q : Int → Ii → Jj → Prop} (hk : 0 ≤ k ∧ k < 1000) (hn : 1 ≤ n ∧ n < 2147483648) (hq : ∀ v, v = andZ (clZ sL xs k) 2147483647 % n → 0 ≤ v ∧ v < n → Q v I J) : wp_L_pick sL xs k n I J Q := by
  have hb : 0 ≤ andZ (clZ sL xs k) 2147483647 ∧ andZ (clZ sL xs k) 2147483647 < 2147483648 := by
    unfold andZ
    generalize iZ (clZ sL xs k) = x
    have e : (x &&& iZ 2147483647).toInt = ((x.toBitVec &&& 2147483647#32).toNat : Int) := by
      have h1 : (x &&& iZ 2147483647).toInt = (x.toBitVec &&& 2147483647#32).toInt := rfl
      have e2 : (2147483647#32).toNat = 2147483647 := rfl
      rw [h1, BitVec.toInt_eq_toNat_of_lt]
      rw [BitVec.toNat_and]
      have : x.toBitVec.toNat &&& (2147483647#32).toNat ≤ (2147483647#32).toNat := Nat.and_le_right
      omega
    rw [e, BitVec.toNat_and]
    have : x.toBitVec.toNat &&& (2147483647#32).toNat ≤ (2147483647#32).toNat := Nat.and_le_right
    have e2 : (2147483647#32).toNat = 2147483647 := rfl
    omega
  exact ⟨hk, ⟨hb, hn⟩, hq _ rfl ⟨Int.emod_nonneg _ (by omega), Int.emod_lt_of_pos _ (by omega)⟩⟩
end ACT

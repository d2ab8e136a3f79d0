/-! ===== reports of both ===== -/
theorem len_row {σ : Nat → Int} {nm : Nat → Int64} {s p v : Nat} (hV : VS σ) (hp : p < (σ 2).toNat) (hv : v < (σ 0).toNat) (hq : σ (21 + v) = (p : Int)) : (repL σ nm s p ++ [48 + (p : Int)] ++ [58] ++ rowL σ nm s p v).length + 11 ≤ 152 := by
  have b2 := ms_2 hV.M
  have h1 := repL_len σ nm s p
  have h2 := rowL_len σ nm s p v
  have h3 := room_p hV hp
  have h4 := cP_mono σ (p : Int) (m := v + 1) (n := (σ 0).toNat) (by omega)
  have h5 : cP σ (p : Int) (v + 1) = cP σ (p : Int) v + (if σ (21 + v) = (p : Int) then 1 else 0) := rfl
  rw [if_pos hq] at h5
  rw [List.length_append, List.length_append, List.length_append, List.length_singleton, List.length_singleton]
  omega
theorem len_end {σ : Nat → Int} {nm : Nat → Int64} {s p : Nat} (hV : VS σ) (hp : p < (σ 2).toNat) : (repL σ nm s p ++ [48 + (p : Int)] ++ [58] ++ rowL σ nm s p (σ 0).toNat).length < 152 ∧ (repL σ nm s p).length + 2 < 152 := by
  have b2 := ms_2 hV.M
  have h1 := repL_len σ nm s p
  have h2 := rowL_len σ nm s p (σ 0).toNat
  have h3 := room_p hV hp
  have h4 := cP_b σ (p : Int) (σ 0).toNat
  rw [List.length_append, List.length_append, List.length_append, List.length_singleton, List.length_singleton]
  omega
theorem rowL_succ (σ : Nat → Int) (nm : Nat → Int64) (s p v : Nat) : rowL σ nm s p (v + 1) = rowL σ nm s p v ++ (if σ (21 + v) = (p : Int) then verL (nm v) (s.testBit v) else []) := rfl
theorem repL_succ (σ : Nat → Int) (nm : Nat → Int64) (s p : Nat) : repL σ nm s (p + 1) = repL σ nm s p ++ [48 + (p : Int)] ++ [58] ++ rowL σ nm s p (σ 0).toNat ++ [10] := rfl
/-- the report of a row -/
def repZ (σ : Nat → Int) (nm : Nat → Int64) : List Int := repL σ nm (bordZ σ (σ 1).toNat) (σ 2).toNat
section RPT
variable {I : Ii} {J : Jj} {σ : Nat → Int} {nm : Nat → Int64}
theorem c_report (hV : VS σ) (hR : RG 200 I J σ nm) (hS : RS 300 I σ) (hN : GNs nm (σ 0).toNat) : wp_X11_report I J (fun r I' _ => r = ((repZ σ nm).length : Int) ∧ hlC I' (repZ σ nm)) := by
  have b0 := ms_0 hV.M
  have b1 := ms_1 hV.M
  have b2 := ms_2 hV.M
  have bs := bordZ_lt hV.M (σ 1).toNat (by omega)
  unfold repZ
  refine fr_X11_border (c_border hV hR hS) (fun v hv => ?_)
  subst hv
  generalize bordZ σ (σ 1).toNat = s at bs ⊢
  intro I2 e2
  refine ⟨5, loopN (L := fun n (a : Ii) v => L_X11_report_12 _ n (s : Int) v a J) (fun p a => hlC a (repL σ nm s p) ∧ ∀ q, q ≠ 100 → q ≠ 132 → a q = I q) (N := (σ 2).toNat) (fun n p a hp ha k => ?_) 5 0 I2 (by omega) (by omega) ⟨⟨by rw [e2, up2_self]; rfl, fun j hj => absurd hj (Nat.not_lt_zero j)⟩, fun q h1 _ => by rw [e2, up2_key h1]⟩⟩
  obtain ⟨a1, a2⟩ := ha
  refine ls_X11_report_12 ?_
  generalize hr : L_X11_report_12 _ n = r at k ⊢
  unfold Lb_X11_report_12
  have q2 : a 200 2 = σ 2 := by rw [a2 _ (by omega) (by omega)]; exact hR.q
  refine ⟨rgK (by omega), rgK (by omega), fun c => ?_, fun c => ?_⟩
  · have hpn : p = (σ 2).toNat := by omega
    subst hpn
    exact ⟨a1.1, a1⟩
  · have hp' : p < (σ 2).toNat := by omega
    have le := len_end (nm := nm) (s := s) hV hp'
    refine write_of a1 (by omega) (fun I5 h5 o5 => write_of h5 (by rw [List.length_append, List.length_singleton]; omega) (fun I6 h6 o6 => ?_))
    refine ⟨15, loopN (L := fun n2 (b : Ii) v => L_X11_report_39 _ r n2 (s : Int) (p : Int) v b J) (fun v b => hlC b (repL σ nm s p ++ [48 + (p : Int)] ++ [58] ++ rowL σ nm s p v) ∧ ∀ q, q ≠ 100 → q ≠ 132 → b q = I q) (N := (σ 0).toNat) (fun n2 v b hv hb k2 => ?_) 15 0 I6 (by omega) (by omega) ⟨by show hlC I6 (_ ++ []); rw [List.append_nil]; exact h6, fun q h1 h2 => ((o6 q h1 h2).trans (o5 q h1 h2)).trans (a2 q h1 h2)⟩⟩
    obtain ⟨b1', b2'⟩ := hb
    refine ls_X11_report_39 ?_
    generalize hr2 : L_X11_report_39 _ r n2 = r2 at k2 ⊢
    unfold Lb_X11_report_39
    have q0 : b 200 0 = σ 0 := by rw [b2' _ (by omega) (by omega)]; exact hR.n
    refine ⟨rgK (by omega), rgK (by omega), fun c2 => ?_, fun c2 => ?_⟩
    · have hvn : v = (σ 0).toNat := by omega
      subst hvn
      exact write_of b1' le.1 (fun I9 h9 o9 => k hp' I9 ⟨by rw [repL_succ]; exact h9, fun q h1 h2 => (o9 q h1 h2).trans (b2' q h1 h2)⟩)
    · have hv' : v < (σ 0).toNat := by omega
      have pv := hV.p hv'
      refine at_of (n := 14) (i := v) rfl rfl (by omega) ?_
      have e1 : b 301 v = σ (21 + v) := by rw [b2' _ (by omega) (by omega)]; exact hS.p hv'
      rw [e1]
      refine ⟨rgK (by omega), rgK (by omega), fun d => k2 hv' b ⟨by rw [rowL_succ, if_neg d, List.append_nil]; exact b1', b2'⟩, fun d => ?_⟩
      have lr := len_row (nm := nm) (s := s) hV hp' hv' d
      have hz : J 201 v = nm v := hR.z hv'
      have hw : GN (J 201 v) := by rw [hz]; exact hN v hv'
      have go : ∀ (I' : Ii) (t : Bool), t = s.testBit v → hlC I' (repL σ nm s p ++ [48 + (p : Int)] ++ [58] ++ rowL σ nm s p v ++ verL (J 201 v) t) → (∀ q, q ≠ 100 → q ≠ 132 → I' q = b q) → r2 (s : Int) (p : Int) ((v : Int) + 1) I' J := fun I' t ht h' o' => k2 hv' I' ⟨by rw [rowL_succ, if_pos d, ← List.append_assoc, ← ht, ← hz]; exact h', fun q h1 h2 => (o' q h1 h2).trans (b2' q h1 h2)⟩
      exact isIn_of (s := s) (k := v) rfl rfl (by omega) (by omega) (fun y => writeVertex_of (b := true) hw rfl (by omega) rfl b1' (by omega) (fun I' h' o' => go I' true y.symm h' o')) (fun y => writeVertex_of (b := false) hw rfl (by omega) rfl b1' (by omega) (fun I' h' o' => go I' false y.symm h' o'))
theorem s_report (hV : VS (I 2)) (hN : GNs (J 7) (I 2 0).toNat) : wp_X12_report I J (fun r I' _ => r = ((repZ (I 2) (J 7)).length : Int) ∧ hlS I' (repZ (I 2) (J 7)) ∧ I' 0 0 = 0 ∧ I' 0 47 = 1) := by
  have b0 := ms_0 hV.M
  have b1 := ms_1 hV.M
  have b2 := ms_2 hV.M
  have bs := bordZ_lt hV.M (I 2 1).toNat (by omega)
  unfold repZ
  intro I1 e1 I2 e2 I3 e3
  have z2 : I3 2 = I 2 := by rw [e3, up2_key (by omega), e2, up2_key (by omega), e1, up2_key (by omega)]
  refine fr_X12_borderNow (s_borderNow (by rw [z2]; exact hV.M)) (fun v hv => ?_)
  rw [z2] at hv
  subst hv
  generalize bordZ (I 2) (I 2 1).toNat = s at bs ⊢
  refine ⟨5, loopN (L := fun n (a : Ii) v => L_X12_report_22 _ n (s : Int) v a J) (fun p a => hlS a (repL (I 2) (J 7) s p) ∧ a 2 = I 2 ∧ a 0 0 = 0 ∧ a 0 47 = 1) (N := (I 2 2).toNat) (fun n p a hp ha k => ?_) 5 0 I3 (by omega) (by omega) ⟨⟨by rw [e3, up2_ne (by omega), e2, up2_self]; rfl, fun j hj => absurd hj (Nat.not_lt_zero j)⟩, z2, by rw [e3, up2_ne (by omega), e2, up2_ne (by omega), e1, up2_self], by rw [e3, up2_self]⟩⟩
  obtain ⟨a1, a2, a3, a4⟩ := ha
  refine ls_X12_report_22 ?_
  generalize hr : L_X12_report_22 _ n = r at k ⊢
  unfold Lb_X12_report_22
  have q2 : a 2 2 = I 2 2 := by rw [a2]
  refine ⟨rgK (by omega), rgK (by omega), fun c => ?_, fun c => ?_⟩
  · have hpn : p = (I 2 2).toNat := by omega
    subst hpn
    exact ⟨a1.1, a1, a3, a4⟩
  · have hp' : p < (I 2 2).toNat := by omega
    have le := len_end (nm := J 7) (s := s) hV hp'
    refine tell_of a1 (by omega) (fun I5 h5 o5 z5 => tell_of h5 (by rw [List.length_append, List.length_singleton]; omega) (fun I6 h6 o6 z6 => ?_))
    refine ⟨15, loopN (L := fun n2 (b : Ii) v => L_X12_report_48 _ r n2 (s : Int) (p : Int) v b J) (fun v b => hlS b (repL (I 2) (J 7) s p ++ [48 + (p : Int)] ++ [58] ++ rowL (I 2) (J 7) s p v) ∧ b 2 = I 2 ∧ b 0 0 = 0 ∧ b 0 47 = 1) (N := (I 2 0).toNat) (fun n2 v b hv hb k2 => ?_) 15 0 I6 (by omega) (by omega) ⟨by show hlS I6 (_ ++ []); rw [List.append_nil]; exact h6, by rw [o6 _ (by omega) (by omega), o5 _ (by omega) (by omega), a2], by rw [z6 _ (by omega), z5 _ (by omega), a3], by rw [z6 _ (by omega), z5 _ (by omega), a4]⟩⟩
    obtain ⟨b1', b2', b3', b4'⟩ := hb
    refine ls_X12_report_48 ?_
    generalize hr2 : L_X12_report_48 _ r n2 = r2 at k2 ⊢
    unfold Lb_X12_report_48
    have q0 : b 2 0 = I 2 0 := by rw [b2']
    refine ⟨rgK (by omega), rgK (by omega), fun c2 => ?_, fun c2 => ?_⟩
    · have hvn : v = (I 2 0).toNat := by omega
      subst hvn
      exact tell_of b1' (by omega) (fun I9 h9 o9 z9 => k hp' I9 ⟨by rw [repL_succ]; exact h9, by rw [o9 _ (by omega) (by omega), b2'], by rw [z9 _ (by omega), b3'], by rw [z9 _ (by omega), b4']⟩)
    · have hv' : v < (I 2 0).toNat := by omega
      have pv := hV.p hv'
      have hw : GN (J 7 v) := hN v hv'
      rw [show (21 + (v : Int)).toNat = 21 + v by omega, b2', Int.toNat_natCast]
      refine ⟨by omega, rgK (by omega), rgK (by omega), fun d => ?_, fun d => k2 hv' b ⟨by rw [rowL_succ, if_neg d, List.append_nil]; exact b1', b2', b3', b4'⟩⟩
      have lr := len_row (nm := J 7) (s := s) hV hp' hv' d
      refine tell_of b1' (by omega) (fun I7 h7 o7 z7 => ⟨by omega, tellName_of hw h7 (by rw [List.length_append, List.length_singleton]; omega) (fun I8 h8 o8 z8 => ?_)⟩)
      have ln := nmL_len (J 7 v) 8
      have m2 : I8 2 = I 2 := by rw [o8 _ (by omega) (by omega), o7 _ (by omega) (by omega), b2']
      have m3 : I8 0 0 = 0 := by rw [z8 _ (by omega), z7 _ (by omega), b3']
      have m4 : I8 0 47 = 1 := by rw [z8 _ (by omega), z7 _ (by omega), b4']
      refine fr_X12_hasBit (s_hasBit (s := s) (k := v) rfl rfl (by omega) (by omega)) (fun w hw' => bo0 hw' (fun y => ?_) (fun y => ?_))
      · refine k2 hv' I8 ⟨?_, m2, m3, m4⟩
        rw [rowL_succ, if_pos d, ← List.append_assoc]
        unfold verL
        rw [if_neg y, List.append_nil, ← List.append_assoc]
        exact h8
      · refine tell_of h8 (by rw [List.length_append, List.length_append, List.length_singleton]; omega) (fun I9 h9 o9 z9 => k2 hv' I9 ⟨?_, by rw [o9 _ (by omega) (by omega), m2], by rw [z9 _ (by omega), m3], by rw [z9 _ (by omega), m4]⟩)
        rw [rowL_succ, if_pos d, ← List.append_assoc]
        unfold verL
        rw [if_pos y, ← List.append_assoc, ← List.append_assoc]
        exact h9
theorem repZ_len {σ : Nat → Int} (nm : Nat → Int64) (hV : VS σ) : (repZ σ nm).length ≤ 152 := by
  have b0 := ms_0 hV.M
  have b2 := ms_2 hV.M
  have h := repL_len σ nm (bordZ σ (σ 1).toNat) (σ 2).toNat
  rw [cB_le hV] at h
  unfold repZ
  omega
theorem c_reportByte {x : Int} {R : List Int} (h : hlC I R) (hl : R.length ≤ 152) (hx : 0 ≤ x ∧ x < (R.length : Int)) : wp_X11_reportByte x I J (fun r _ _ => r = R.getD x.toNat 0) := by
  have h1 := h.1
  refine ⟨rgK (by omega), fun z => by omega, fun _ => ⟨rgK (by omega), fun _ => at_of (n := 152) (i := x.toNat) rfl (by omega) (by omega) (h.2 _ (by omega)), fun z => by omega⟩⟩
theorem s_reportByte {x : Int} {R : List Int} (hx : rg x) (h7 : I 0 47 = 1 ∧ hlS I R ∧ R.length ≤ 152 ∨ I 0 47 = 0 ∧ R = []) : wp_X12_reportByte x I J (fun r I' _ => AN (0 ≤ x ∧ x < (R.length : Int)) (R.getD x.toNat 0) r I I') := by
  have b29 : ∀ t : Int, Bo t (0 ≤ x ∧ x < (R.length : Int)) → (0 ≤ x ∧ x < (R.length : Int) → hlS I R ∧ R.length ≤ 152) → B_X12_reportByte_29 x (fun r I' _ => AN (0 ≤ x ∧ x < (R.length : Int)) (R.getD x.toNat 0) r I I') t I J := by
    intro t ht hs
    unfold B_X12_reportByte_29
    refine goes_of ht (fun hP I' e => ⟨fun z => absurd z (by decide), fun _ => ?_⟩) (fun hP I' e => ⟨fun _ => Or.inr ⟨hP, rfl, e⟩, fun z => absurd rfl z⟩)
    obtain ⟨g1, g2⟩ := hs hP
    refine ⟨by omega, Or.inl ⟨hP, ?_, e⟩⟩
    rw [e, up2_key (by omega)]
    exact g1.2 _ (by omega)
  rcases h7 with ⟨h47, hS, hl⟩ | ⟨h47, hR⟩
  · have h1 := hS.1
    refine ⟨rgK (by omega), fun z => by omega, fun _ => fr_X12_isIn (s_isInA hx (rgK (by omega)) (rgK (by omega))) (fun v hv => ?_)⟩
    have hv : Bo v (0 ≤ x ∧ x < (R.length : Int)) := hv.iff ⟨fun q => by omega, fun q => by omega⟩
    refine ⟨fun c => ?_, fun c => ?_⟩
    · refine b29 0 ?_ (fun _ => ⟨hS, hl⟩)
      rcases hv with ⟨y, z⟩ | ⟨y, z⟩
      · omega
      · exact Bo.zero z
    · refine b29 1 ?_ (fun _ => ⟨hS, hl⟩)
      rcases hv with ⟨y, z⟩ | ⟨y, z⟩
      · exact Bo.one z
      · exact absurd y c
  · subst hR
    refine ⟨rgK (by omega), fun _ => b29 0 (Bo.zero (fun z => ?_)) (fun z => ?_), fun z => absurd h47 z⟩
    · have := z.2; rw [List.length_nil] at this; omega
    · have := z.2; rw [List.length_nil] at this; omega
end RPT

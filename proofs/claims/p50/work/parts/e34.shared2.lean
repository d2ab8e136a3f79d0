section SHS
variable {σ : Nat → Int} {nm : Nat → Int64} {u nw : Nat} {pf : Nat → Nat → Int} {I0 : Ii} {sL : Nat} {xs : Nat → Int} {Q : Int → Ii → Jj → Prop}
theorem sh_groups (hq : ∀ (I' : Ii) (J' : Jj), LWK σ nm u nw pf I0 I' J' → Q 1 I' J') : ∀ (d g : Nat), g + d = (grs σ).toNat → ∀ (I : Ii) (J : Jj), LWK σ nm u nw pf I0 I J → L_L_shared_136 sL xs Q (d + 1) (((2 ^ (σ 0).toNat - 1 : Nat)) : Int) ((lowG σ g : Nat) : Int) (g : Int) I J := by
  intro d
  induction d with
  | zero =>
    intro g hg I J k0
    have hV := k0.1.2.2.1.1.1
    have gr := grs_b hV.M
    have b10 := k0.1.2.2.1.1.2
    have p10 : 2 ^ (σ 0).toNat ≤ 2 ^ 10 := Nat.pow_le_pow_right (by decide) (by omega)
    show Lb_L_shared_136 sL xs Q _ _ _ (g : Int) I J
    unfold Lb_L_shared_136
    refine fr_X11_setting (c_setting hV k0.1.1 k0.1.2.1 k0.1.2.2.2.1.1 (by omega)) (fun v19 e19 => ?_)
    have e19 : v19 = grs σ := e19
    have eg : g = (grs σ).toNat := by omega
    have el : lowG σ g = 2 ^ (σ 0).toNat - 1 := by rw [eg]; exact lowG_e hV
    rw [el]
    exact ⟨⟨by omega, by omega⟩, by rw [e19]; exact ⟨by omega, by omega⟩, fun _ => ⟨⟨by omega, by omega⟩, ⟨by omega, by omega⟩, fun z => absurd rfl z, fun _ => sh_end k0.1 k0.2 hq⟩, fun z => by omega⟩
  | succ d ih =>
    intro g hg I J k0
    have hV := k0.1.2.2.1.1.1
    have hM := hV.M
    have gr := grs_b hM
    have b10 := k0.1.2.2.1.1.2
    have b2 := ms_2 hM
    have w0 := k0.1.2.2.1
    have hgb := hV.gpb (g := (g : Int)) (by omega) (by omega)
    have m10 := memG_lt w0 (g : Int)
    have l10 : lowG σ g < 1024 := bset_lt10 w0 _
    have i10 := inP_lt w0 (gPt σ (g : Int))
    have hmk := (mate_ok hM) g
    have hml := lmZ_lim hM (g := (grs σ).toNat) (by omega) g
    have hml : mateZ σ g = -1 ∨ gW σ (g : Int) + gW σ (mateZ σ g) ≤ limZ σ := hml
    have ls := lowG_s (σ := σ) g
    have bl := limZ_b hM
    show Lb_L_shared_136 sL xs Q (L_L_shared_136 sL xs Q (d + 1)) _ _ (g : Int) I J
    unfold Lb_L_shared_136
    have nxt : ∀ (I2 : Ii) (J2 : Jj) (v : Int), v = ((memG σ (g : Int) : Nat) : Int) → LWK σ nm u nw pf I0 I2 J2 → L_L_shared_136 sL xs Q (d + 1) (((2 ^ (σ 0).toNat - 1 : Nat)) : Int) (orZ ((lowG σ g : Nat) : Int) v) ((g : Int) + 1) I2 J2 := fun I2 J2 v ev k2 => by
      rw [ev, orZ_nat (by omega) (by omega), ls.1, show ((g : Int) + 1) = ((g + 1 : Nat) : Int) by omega]
      exact ih (g + 1) (by omega) I2 J2 k2
    generalize L_L_shared_136 sL xs Q (d + 1) = r136 at nxt ⊢
    have ggr : (0 : Int) ≤ (g : Int) ∧ (g : Int) < grs σ := by omega
    refine fr_X11_setting (c_setting hV k0.1.1 k0.1.2.1 k0.1.2.2.2.1.1 (by omega)) (fun v19 e19 => ?_)
    have e19 : v19 = grs σ := e19
    refine ⟨⟨by omega, by omega⟩, by rw [e19]; exact ⟨by omega, by omega⟩, fun z => by omega, fun _ => ?_⟩
    refine fr_X11_group (c_group hV k0.1.1 k0.1.2.1 ggr (y := 0) (by omega)) (fun v42 I42 J42 e42 s42 => ?_)
    have k42 := k0.q s42
    have e42 : v42 = ((memG σ (g : Int) : Nat) : Int) := e42
    rw [e42, andZ_nat (by omega), ls.2]
    refine ⟨fun z => absurd rfl z, fun _ => ?_⟩
    refine fr_X11_group (c_group hV k42.1.1 k42.1.2.1 ggr (y := 2) (by omega)) (fun v43 I43 J43 e43 s43 => ?_)
    have k43 := k42.q s43
    have e43 : v43 = gPt σ (g : Int) := e43
    rw [e43]
    refine fr_X11_part (c_part hV k43.1.1 k43.1.2.1 (x := gPt σ (g : Int)) (y := 2) (by omega) (by omega)) (fun v44 I44 J44 e44 s44 => ?_)
    have k44 := k43.q s44
    have e44 : v44 = ((inP σ (gPt σ (g : Int)) : Nat) : Int) := e44
    refine fr_X11_group (c_group hV k44.1.1 k44.1.2.1 ggr (y := 0) (by omega)) (fun v45 I45 J45 e45 s45 => ?_)
    have k45 := k44.q s45
    have e45 : v45 = ((memG σ (g : Int) : Nat) : Int) := e45
    refine fr_X11_group (c_group hV k45.1.1 k45.1.2.1 ggr (y := 0) (by omega)) (fun v46 I46 J46 e46 s46 => ?_)
    have k46 := k45.q s46
    have e46 : v46 = ((memG σ (g : Int) : Nat) : Int) := e46
    rw [e44, e45, andZ_nat (by omega), mem_in hV, e46]
    refine ⟨⟨by omega, by omega⟩, fun _ => ?_, fun z => absurd rfl z⟩
    refine fr_X11_group (c_group hV k46.1.1 k46.1.2.1 ggr (y := 0) (by omega)) (fun v48 I48 J48 e48 s48 => ?_)
    have k48 := k46.q s48
    have e48 : v48 = ((memG σ (g : Int) : Nat) : Int) := e48
    refine fr_X11_mate (c_mate hV k48.1.1 k48.1.2.1 ggr) (fun v49 I49 J49 e49 s49 => ?_)
    have k49 := k48.q s49
    rw [Int.toNat_natCast] at e49
    rw [← e49] at hmk hml
    have b49 : -1 ≤ v49 ∧ v49 ≤ 14 := by rcases hmk with z | z <;> omega
    refine ⟨⟨by omega, by omega⟩, fun _ => nxt _ _ _ e48 k49, fun z => ?_⟩
    have hmk := hmk.resolve_left (by omega)
    have hml := hml.resolve_left (by omega)
    refine fr_X11_mate (c_mate hV k49.1.1 k49.1.2.1 (x := v49) (by omega)) (fun v51 I51 J51 e51 s51 => ?_)
    have k51 := k49.q s51
    have e51' : v51 = (g : Int) := by rw [e51]; exact hmk.2.2.2.2.1
    refine ⟨⟨by omega, by omega⟩, ⟨by omega, by omega⟩, fun z2 => absurd e51' z2, fun _ => ?_⟩
    refine fr_X11_group (c_group hV k51.1.1 k51.1.2.1 ggr (y := 1) (by omega)) (fun v54 I54 J54 e54 s54 => ?_)
    have k54 := k51.q s54
    have e54 : v54 = gW σ (g : Int) := e54
    refine fr_X11_group (c_group hV k54.1.1 k54.1.2.1 (x := v49) (y := 1) (by omega) (by omega)) (fun v55 I55 J55 e55 s55 => ?_)
    have k55 := k54.q s55
    have e55 : v55 = gW σ v49 := e55
    refine fr_X11_setting (c_setting hV k55.1.1 k55.1.2.1 k55.1.2.2.2.1.1 (by omega)) (fun v56 e56 => ?_)
    have e56 : v56 = limZ σ := e56
    have bw1 := gW_b hM (g : Int)
    have bw2 := gW_b hM v49
    refine ⟨⟨by omega, by omega⟩, ⟨by omega, by omega⟩, fun z2 => by omega, fun _ => ?_⟩
    refine fr_X11_group (c_group hV k55.1.1 k55.1.2.1 ggr (y := 2) (by omega)) (fun v59 I59 J59 e59 s59 => ?_)
    have k59 := k55.q s59
    have e59 : v59 = gPt σ (g : Int) := e59
    refine fr_X11_group (c_group hV k59.1.1 k59.1.2.1 (x := v49) (y := 2) (by omega) (by omega)) (fun v60 I60 J60 e60 s60 => ?_)
    have k60 := k59.q s60
    have e60 : v60 = gPt σ v49 := e60
    have hp2 := hmk.2.2.2.2.2
    refine ⟨by rw [e59]; exact ⟨by omega, by omega⟩, by rw [e60, hp2]; exact ⟨by omega, by omega⟩, fun _ => nxt _ _ _ e48 k60, fun z2 => absurd (by rw [e59, e60, hp2]) z2⟩
theorem c_shared {I : Ii} {J : Jj} (h : LWS σ nm u nw pf I J) (hq : ∀ (I' : Ii) (J' : Jj), LWK σ nm u nw pf I I' J' → Q 1 I' J') : wp_L_shared sL xs I J Q := by
  have hV := h.2.2.1.1.1
  have hM := hV.M
  have b10 := h.2.2.1.1.2
  have b2 := ms_2 hM
  have gr := grs_b hM
  have p10 : 2 ^ (σ 0).toNat ≤ 2 ^ 10 := Nat.pow_le_pow_right (by decide) (by omega)
  have p0 := Nat.two_pow_pos (σ 0).toNat
  have baw := allW_b hM
  have bd := debtsZ_b hM
  have bc := cutZ_b hM
  have key : ∀ d p : Nat, p + d = (σ 2).toNat → ∀ (I1 : Ii) (J1 : Jj), LWK σ nm u nw pf I I1 J1 → L_L_shared_13 sL xs Q (d + 1) ((lowP σ p : Nat) : Int) (sm (fun q => wOf σ (q : Int)) p) (sm (fun q => outZ σ (inP σ (q : Int))) p) (sm (fun q => debtZ σ (q : Int)) p) (p : Int) I1 J1 := by
    intro d
    induction d with
    | zero =>
      intro p hp I1 J1 k1
      have ep : p = (σ 2).toNat := by omega
      show Lb_L_shared_13 sL xs Q _ _ _ _ _ (p : Int) I1 J1
      unfold Lb_L_shared_13
      rw [k1.1.2.2.1.p, k1.1.2.2.1.n, shl1Z (by omega), ep, lowP_e hV, sm_wOf hV, sm_out hV]
      rw [show sm (fun q => debtZ σ (q : Int)) (σ 2).toNat = debtsZ σ from rfl]
      refine ⟨⟨by omega, by omega⟩, ⟨by omega, by omega⟩, fun _ => ⟨⟨by omega, by omega⟩, ⟨by omega, by omega⟩, fun z => absurd (by omega) z, fun _ => ?_⟩, fun z => absurd (by omega) z⟩
      refine fr_X11_setting (c_setting hV k1.1.1 k1.1.2.1 k1.1.2.2.2.1.1 (by omega)) (fun v5 e5 => ?_)
      have e5 : v5 = allW σ := e5
      refine ⟨⟨by omega, by omega⟩, ⟨by omega, by omega⟩, fun z => absurd e5.symm z, fun _ => ?_⟩
      refine fr_X11_debts (c_debts hV k1.1.1 k1.1.2.1) (fun v8 I8 J8 e8 s8 => ?_)
      have k8 := k1.q s8
      refine ⟨⟨by omega, by omega⟩, by rw [e8]; exact ⟨by omega, by omega⟩, fun z => absurd e8.symm z, fun _ => ?_⟩
      refine fr_X11_cut (c_cut hV k8.1.1 k8.1.2.1) (fun v11 I11 J11 e11 s11 => ?_)
      have k11 := k8.q s11
      refine ⟨⟨by omega, by omega⟩, by rw [e11]; exact ⟨by omega, by omega⟩, fun _ => ⟨(grs σ).toNat + 1, ?_⟩, fun z => absurd (by rw [e11]) z⟩
      have := sh_groups (sL := sL) (xs := xs) hq (grs σ).toNat 0 (by omega) I11 J11 k11
      rw [lowG_0 hV] at this
      exact this
    | succ d ih =>
      intro p hp I1 J1 k1
      show Lb_L_shared_13 sL xs Q (L_L_shared_13 sL xs Q (d + 1)) _ _ _ _ (p : Int) I1 J1
      unfold Lb_L_shared_13
      have ls := lowP_s (σ := σ) p
      have w1 := k1.1.2.2.1
      have l10 : lowP σ p < 1024 := bset_lt10 w1 _
      have i10 := inP_lt w1 (p : Int)
      have pr : (0 : Int) ≤ (p : Int) ∧ (p : Int) < σ 2 := by omega
      rw [w1.p]
      refine ⟨⟨by omega, by omega⟩, ⟨by omega, by omega⟩, fun z => by omega, fun _ => ?_⟩
      refine fr_X11_part (c_part hV k1.1.1 k1.1.2.1 pr (y := 2) (by omega)) (fun v14 I14 J14 e14 s14 => ?_)
      have k14 := k1.q s14
      have e14 : v14 = ((inP σ (p : Int) : Nat) : Int) := e14
      rw [e14, andZ_nat (by omega), ls.2]
      refine ⟨fun _ => ?_, fun z => absurd rfl z⟩
      refine fr_X11_part (c_part hV k14.1.1 k14.1.2.1 pr (y := 2) (by omega)) (fun v15 I15 J15 e15 s15 => ?_)
      have k15 := k14.q s15
      have e15 : v15 = ((inP σ (p : Int) : Nat) : Int) := e15
      refine fr_X11_part (c_part hV k15.1.1 k15.1.2.1 pr (y := 0) (by omega)) (fun v16 I16 J16 e16 s16 => ?_)
      have k16 := k15.q s16
      have e16 : v16 = wOf σ (p : Int) := e16
      refine fr_X11_part (c_part hV k16.1.1 k16.1.2.1 pr (y := 1) (by omega)) (fun v17 I17 J17 e17 s17 => ?_)
      have k17 := k16.q s17
      have e17 : v17 = debtZ σ (p : Int) := e17
      refine fr_X11_part (c_part hV k17.1.1 k17.1.2.1 pr (y := 4) (by omega)) (fun v18 I18 J18 e18 s18 => ?_)
      have k18 := k17.q s18
      have e18 : v18 = outZ σ (inP σ (p : Int)) := e18
      have nx := ih (p + 1) (by omega) I18 J18 k18
      rw [sm_succ, sm_succ, sm_succ] at nx
      rw [e15, orZ_nat (by omega) (by omega), ls.1, e16, e17, e18, show ((p : Int) + 1) = ((p + 1 : Nat) : Int) by omega]
      exact nx
  refine ⟨(σ 2).toNat + 1, ?_⟩
  have := key (σ 2).toNat 0 (by omega) I J ⟨h, fun _ _ => rfl⟩
  rw [lowP_0 hV] at this
  exact this
end SHS

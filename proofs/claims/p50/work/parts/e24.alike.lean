/-! ===== the law's alike ===== -/
section ALK
variable {σ : Nat → Int} {nm : Nat → Int64} {u nw : Nat} {pf : Nat → Nat → Int} {I : Ii} {J : Jj} {sL : Nat} {xs : Nat → Int}
theorem c_undo (hS : RS 300 I σ) (hV : ∀ i, i < u → VS (pf i)) (hH : HR I u nw pf) : wp_X11_undo I J (fun r I' _ => (u = 0 → r = -1 ∧ RS 300 I' σ ∧ HR I' u nw pf) ∧ (0 < u → r = (u : Int) - 1 ∧ RS 300 I' (pf (u - 1)) ∧ ∃ nw', HR I' (u - 1) nw' pf)) := by
  refine fr_X3_takeBack (c_takeBack hV hH) (fun v I1 J1 h1 s1 => ?_)
  obtain ⟨a, b⟩ := h1
  by_cases c : u = 0
  · obtain ⟨rfl, rfl⟩ := a c
    exact ⟨fun _ => ⟨fun _ => ⟨rfl, hS, hH⟩, fun z => by omega⟩, fun z => absurd rfl z⟩
  · obtain ⟨rfl, b1, nw', b2⟩ := b (by omega)
    have h2 := b2.1
    exact ⟨fun z => absurd z (by decide), fun _ => ⟨fun z => absurd z c, fun _ => ⟨by omega, b1, nw', b2⟩⟩⟩
/-- as it was, but for what the class writes to answer -/
def LWK (σ : Nat → Int) (nm : Nat → Int64) (u nw : Nat) (pf : Nat → Nat → Int) (I0 I : Ii) (J : Jj) : Prop := LWS σ nm u nw pf I J ∧ ∀ k, 390 ≤ k → I k = I0 k
theorem LWK.q {I1 I2 : Ii} {J1 J2 : Jj} {l : List (Nat × Nat)} (h : LWK σ nm u nw pf I I1 J1) (hs : Same (WL l) I1 J1 I2 J2) (hn : ((keepsL.all (fun q => !wlk l q)) && l.all (fun p => decide (p.1 < 390))) = true := by rfl) : LWK σ nm u nw pf I I2 J2 :=
  ⟨h.1.q hs hn, fun k hk => by rw [Bool.and_eq_true] at hn; rw [hs.hi hn.2 k hk]; exact h.2 k hk⟩
theorem c_alike {Q : Int → Ii → Jj → Prop} (h : LWS σ nm u nw pf I J) (hq : ∀ (I' : Ii) (J' : Jj), LWK σ nm u nw pf I I' J' → Q 1 I' J') : wp_L_alike sL xs I J Q := by
  have hV := h.2.2.1.1.1
  have hM := hV.M
  have b4 := ms_4 hM
  have bl := limZ_b hM
  have b5 := ms_5 hM
  have b6 := ms_6 hM
  have b2 := ms_2 hM
  have gr := grs_b hM
  have bd := debtsZ_b hM
  have bc := cutZ_b hM
  have b10 := h.2.2.1.1.2
  have k0 : LWK σ nm u nw pf I I J := ⟨h, fun _ _ => rfl⟩
  unfold wp_L_alike
  refine fr_X11_setting (c_setting hV h.1 h.2.1 h.2.2.2.1.1 (by omega)) (fun v1 e1 => ?_)
  have k1 := k0
  have ev1 : v1 = σ 4 := e1
  have f1 := k1.1.2.2.1.2.1.1.2.2.2
  rw [f1]
  refine ⟨by rw [ev1]; exact ⟨by omega, by omega⟩, ⟨by omega, by omega⟩, fun z => absurd ev1 z, fun _ => ?_⟩
  refine fr_X11_setting (c_setting hV k1.1.1 k1.1.2.1 k1.1.2.2.2.1.1 (by omega)) (fun v4 e4 => ?_)
  have k4 := k1
  have ev4 : v4 = limZ σ := e4
  refine w_limit k4.1.2.2.1 ⟨by rw [ev4]; exact ⟨by omega, by omega⟩, ⟨by omega, by omega⟩, fun z => absurd ev4 z, fun _ => ?_⟩
  refine fr_X11_setting (c_setting hV k4.1.1 k4.1.2.1 k4.1.2.2.2.1.1 (by omega)) (fun v8 e8 => ?_)
  have k8 := k4
  have ev8 : v8 = σ 5 := e8
  obtain ⟨L, hL⟩ := k8.1.2.2.1.2.2.1
  refine AL_size hL.1 ⟨by rw [ev8]; exact ⟨by omega, by omega⟩, ⟨by omega, by omega⟩, fun z => absurd (by omega) z, fun _ => ?_⟩
  refine fr_X11_setting (c_setting hV k8.1.1 k8.1.2.1 k8.1.2.2.2.1.1 (by omega)) (fun v12 e12 => ?_)
  have k12 := k8
  have ev12 : v12 = grs σ := e12
  refine w_groups k12.1.2.2.1 ⟨by rw [ev12]; exact ⟨by omega, by omega⟩, ⟨by omega, by omega⟩, fun z => absurd ev12 z, fun _ => ?_⟩
  refine fr_X11_cut (c_cut hV k12.1.1 k12.1.2.1) (fun v16 I16 J16 e16 s16 => ?_)
  have k16 := k12.q s16
  refine w_cut k16.1.2.2.1 ⟨by rw [e16]; exact ⟨by omega, by omega⟩, ⟨by omega, by omega⟩, fun z => absurd e16 z, fun _ => ?_⟩
  refine fr_X11_debts (c_debts hV k16.1.1 k16.1.2.1) (fun v20 I20 J20 e20 s20 => ?_)
  have k20 := k16.q s20
  refine w_debts k20.1.2.2.1 ⟨by rw [e20]; exact ⟨by omega, by omega⟩, ⟨by omega, by omega⟩, fun z => absurd e20 z, fun _ => ?_⟩
  refine fr_X11_events (c_events k20.1.2.1) (fun v24 e24 => ?_)
  have k24 := k20
  obtain ⟨L2, hE⟩ := k24.1.2.2.1.2.2.2.1
  have ek : kev σ = if ((σ 6).toNat : Int) < 30 then ((σ 6).toNat : Int) else 30 := by unfold kev; rw [show (((σ 6).toNat : Nat) : Int) = σ 6 by omega]
  have tail : ∃ n : Nat, L_L_alike_104 sL xs Q n 0 I20 J20 := by
    have key : ∀ d v : Nat, v + d = (σ 0).toNat → ∀ (I2 : Ii) (J2 : Jj), LWK σ nm u nw pf I I2 J2 → L_L_alike_104 sL xs Q (d + 1) (v : Int) I2 J2 := by
      intro d
      induction d with
      | zero =>
        intro v hv I2 J2 k2
        show Lb_L_alike_104 sL xs Q _ (v : Int) I2 J2
        unfold Lb_L_alike_104
        rw [k2.1.2.2.1.n]
        exact ⟨⟨by omega, by omega⟩, ⟨by omega, by omega⟩, fun _ => hq I2 J2 k2, fun z => absurd (by omega) z⟩
      | succ d ih =>
        intro v hv I2 J2 k2
        show Lb_L_alike_104 sL xs Q _ (v : Int) I2 J2
        unfold Lb_L_alike_104
        rw [k2.1.2.2.1.n]
        refine ⟨⟨by omega, by omega⟩, ⟨by omega, by omega⟩, fun z => by omega, fun _ => ?_⟩
        refine fr_X11_partOf (c_partOf hV k2.1.1 k2.1.2.1 (by omega)) (fun v31 e31 => ?_)
        have k31 := k2
        have hp := hV.p (v := v) (by omega)
        rw [Int.toNat_natCast] at e31 ⊢
        rw [k31.1.2.2.1.2.1.2.2.1 v (by omega)]
        refine ⟨⟨by omega, by omega⟩, by rw [e31]; exact ⟨by omega, by omega⟩, ⟨by omega, by omega⟩, fun z => absurd e31 z, fun _ => ?_⟩
        refine fr_X11_groupOf (c_groupOf hV k31.1.1 k31.1.2.1 (by omega)) (fun v35 e35 => ?_)
        have k35 := k31
        rw [Int.toNat_natCast] at e35
        have hg := hV.g (v := v) (by omega)
        refine w_groupOf k35.1.2.2.1 (by omega) ⟨by rw [e35]; exact ⟨by omega, by omega⟩, ⟨by omega, by omega⟩, fun _ => ?_, fun z => absurd e35 z⟩
        rw [show ((v : Int) + 1) = ((v + 1 : Nat) : Int) by omega]
        exact ih (v + 1) (by omega) I2 J2 k35
    exact ⟨_, key (σ 0).toNat 0 (by omega) I20 J20 k24⟩
  refine AL_size hE (min_of ⟨by decide, by decide⟩ ⟨by omega, by omega⟩ (fun z => ?_) (fun z => ?_))
  · rw [if_pos z] at ek
    refine ⟨by rw [e24, ek]; exact ⟨by omega, by omega⟩, ⟨by omega, by omega⟩, fun _ => tail, fun z2 => absurd (e24.trans ek) z2⟩
  · rw [if_neg z] at ek
    refine ⟨by rw [e24, ek]; exact ⟨by decide, by decide⟩, ⟨by decide, by decide⟩, fun _ => tail, fun z2 => absurd (e24.trans ek) z2⟩
end ALK

/-! ===== flows, as the world looks for them: all ===== -/
section WSX
variable {σ : Nat → Int} {I0 : Ii} {J : Jj} {N a b : Nat} {Q : Nat → Ii → Jj → Prop}
theorem f_turns (w : WO σ I0) (hN : (N : Int) = I0 999 0 ∧ 1022 ≤ N ∧ N ≤ 600000) (ha : a < (σ 0).toNat) (hb : b < (σ 0).toNat) (hab : a ≠ b) (hT : outZ σ (2 ^ a) ≤ 110) (hq : FQ σ a b I0 J Q) :
    ∀ (d : Nat) (I : Ii) (T : Int), FFr σ I0 N I → RO σ a b (rmF I N) T → I 999 0 ≤ I0 999 0 + 11 + T → 110 < T + d → L_X12_flow_54 (a : Int) (b : Int) Q d N T I J := by
  have hn := w.1.2
  have hM := w.1.1.M
  have tT : ∀ (f : Nat → Int) (T : Int), RO σ a b f T → 0 ≤ T ∧ T ≤ 110 := fun f T h => by
    have h1 := h.2.2.2 (2 ^ a) (by rw [Nat.testBit_two_pow]; simp) (by rw [Nat.testBit_two_pow]; simp [hab])
    have h2 := crs_nn h.1 (2 ^ a)
    have := h.2.2.1
    omega
  intro d
  induction d with
  | zero =>
    intro I T hF hR h9 hd
    have := tT _ _ hR
    omega
  | succ d ih =>
    intro I T hF hR h9 hd
    have bT := tT _ _ hR
    have x0 := hF.1.1
    have f4 := hF.2.2.2
    have wI := w.ex (by omega) hF.1
    show Lb_X12_flow_54 (a : Int) (b : Int) Q (L_X12_flow_54 (a : Int) (b : Int) Q d) N T I J
    unfold Lb_X12_flow_54
    rw [wI.n]
    refine ⟨⟨⟨by omega, by omega⟩, by omega⟩, fun I11 e11 M eM => ?_⟩
    subst eM
    generalize hMe : (I 999 0).toNat = M
    have hMi : (M : Int) = I 999 0 := by omega
    generalize hr54 : L_X12_flow_54 (a : Int) (b : Int) Q d = r54
    have s11 : dS I11 M = 1 ∧ dL I11 M = (((σ 0).toNat : Nat) : Int) := by rw [e11, ← hMe]; exact nwI_s
    have x11 : Ex I I11 := by rw [e11]; exact ExW.nw ⟨by omega, by omega⟩
    have n11 : I11 999 0 = I 999 0 + 1 := by rw [e11]; exact nwI_9 _ _ _ _
    have F11 := hF.ex (by omega) x11 (by omega)
    have w11 := w.ex (by omega) F11.1
    have room11 : ∀ u, u < (σ 0).toNat → I11 (N + 1 + u) = I (N + 1 + u) := fun u hu => (x11.2 _ (by omega) (by omega)).1 (fun q => q)
    have R11 : RO σ a b (rmF I11 N) T := RO_cong (fun u v hu hv => rmF_cong (by omega) room11 hu hv) hR
    -- the row is filled
    have fill : ∀ e v : Nat, v + e = (σ 0).toNat → ∀ I1 : Ii, (∀ k, k ≠ M → I1 k = I11 k) → (∀ u, u < v → I1 M u = if u = a then (a : Int) else -1) → L_X12_flow_65 (a : Int) (b : Int) Q r54 (e + 1) N T M (v : Int) I1 J := by
      intro e
      induction e with
      | zero =>
        intro v hv I1 o1 m1
        have hvn : v = (σ 0).toNat := by omega
        have ds1 : ∀ j, dS I1 j = dS I11 j ∧ dL I1 j = dL I11 j := fun j => by
          have := o1 (1000000 + j) (by omega)
          exact ⟨congrFun this 0, congrFun this 1⟩
        have R1 : RO σ a b (rmF I1 N) T := RO_cong (fun u v hu hv => rmF_cong (n := (σ 0).toNat) (by omega) (fun u hu => o1 _ (by omega)) hu hv) R11
        have hf : SWf (σ 0).toNat M N I1 := by
          refine ⟨by rw [o1 1000 (by omega)]; exact w11.n, by omega, ⟨by rw [(ds1 N).1]; exact F11.2.1.1, by rw [(ds1 N).2, F11.2.1.2.1]; omega, fun u hu => by rw [o1 N (by omega)]; exact F11.2.1.2.2 u hu⟩, fun u hu => ⟨by rw [(ds1 _).1]; exact (F11.2.2.1 u hu).1, by rw [(ds1 _).2, (F11.2.2.1 u hu).2]; omega⟩, ⟨by rw [(ds1 M).1]; exact s11.1, by rw [(ds1 M).2]; exact s11.2⟩, by omega, by omega, by omega, fun u v hu hv => ?_⟩
          have r1 := R1.1 u v hu hv
          have r2 := R1.1 v u hv hu
          have r3 := R1.2.1 u v hu hv
          omega
        have S0 : SWr (σ 0).toNat a M (rmF I1 N) I1 I1 (2 ^ a) 1 (fun _ => (a : Int)) := by
          refine ⟨fun _ _ => rfl, fun u hu => ?_, BF_one ha _ rfl⟩
          rw [m1 u (by omega), Nat.testBit_two_pow]
          by_cases c : u = a
          · rw [if_pos c, c]
            simp
            omega
          · rw [if_neg c]
            have : ¬ a = u := fun q => c q.symm
            simp [this]
        show Lb_X12_flow_65 (a : Int) (b : Int) Q r54 _ N T M (v : Int) I1 J
        unfold Lb_X12_flow_65
        rw [o1 1000 (by omega), w11.n]
        refine ⟨⟨by omega, by omega⟩, ⟨by omega, by omega⟩, fun _ => ⟨_, f_sweep (Q := Q) (r54 := r54) (l4 := T) (b := b) (J := J) hf ha (fun r99 I2 s c q h2 hC => ?_) ((σ 0).toNat) I1 (2 ^ a) 1 _ S0 (by omega)⟩, fun z => absurd (by omega) z⟩
        -- a search's end
        have d2 := h2.ds hf
        have o2 : ∀ k, k ≠ M → I2 k = I11 k := fun k hk => by rw [h2.1 k hk]; exact o1 k hk
        have hsb := h2.2.1 b hb
        unfold Lb_X12_flow_99
        refine ⟨⟨by decide, by decide⟩, fun _ => ⟨⟨by rw [(d2 M).1]; exact hf.2.2.2.2.1.1, by omega, by rw [(d2 M).2, hf.2.2.2.2.1.2]; omega⟩, ?_, fun z => ?_, fun z => ?_⟩, fun z => absurd rfl z⟩
        · rw [Int.toNat_natCast]
          cases hb2 : s.testBit b
          · rw [hsb.2 hb2]; exact ⟨by decide, by decide⟩
          · have := hsb.1 hb2; exact ⟨by omega, by omega⟩
        · rw [Int.toNat_natCast] at z
          have hb2 : s.testBit b = true := by
            cases hb2 : s.testBit b
            · have := hsb.2 hb2; omega
            · rfl
          obtain ⟨m, wy, hW⟩ := BF_way (by omega) h2.2.2 hb2
          refine f_min hf h2 hW (fun r r0 r1 hr => f_use hf h2 hW r0 ⟨R1.1, R1.2.1, fun j _ hj => hr j hj, fun S => ?_⟩ (fun I3 o3 hU => ?_))
          · rw [hW.2.1]; omega
          · rw [← hr54]
            have o3' : ∀ k, ¬ (N + 1 ≤ k ∧ k < N + 1 + (σ 0).toNat) → k ≠ M → I3 k = I11 k := fun k h1 hk => by rw [o3 k h1]; exact o2 k hk
            have n3 : I3 999 0 = I11 999 0 := by rw [o3' 999 (by omega) (by omega)]
            have F3 : FFr σ I0 N I3 := F11.same ⟨hN.1, hN.2.1⟩ n3 (by omega) (fun k h1 h2 h3 => o3' k (by omega) (by omega)) (fun k => o3' _ (by omega) (by omega)) (by omega)
            have R3 : RO σ a b (rmF I3 N) (T + r) := by
              refine ⟨hU.1, hU.2.1, by omega, fun S q1 q2 => ?_⟩
              rw [hU.2.2.2 S, hW.2.2.1, R1.2.2.2 S q1 q2, if_pos q1, if_neg (by rw [q2]; decide)]
              omega
            exact ih I3 (T + r) F3 R3 (by omega) (by omega)
        · rw [Int.toNat_natCast] at z
          have hb2 : s.testBit b = false := by
            cases hb2 : s.testBit b
            · rfl
            · have := hsb.1 hb2; omega
          have hFL := FLW_of R1 h2.2.2 hC hb2
          have x2 : Ex I0 I2 := F11.1.trans (W' := fun j => j = M) ⟨by rw [o2 999 (by omega)]; exact Int.le_refl _, fun k _ _ => ⟨fun q => o2 k q, o2 _ (by omega)⟩⟩ (fun _ q => q) (fun k h9 hk q => by omega)
          have n2 : I2 999 0 = I11 999 0 := by rw [o2 999 (by omega)]
          refine f_end w ⟨by omega, by omega⟩ x2 (by omega) ⟨by rw [(d2 M).1]; exact hf.2.2.2.2.1.1, by rw [(d2 M).2, hf.2.2.2.2.1.2]; omega⟩ (fun v hv => ?_) hFL hq
          have := h2.2.1 v hv
          refine ⟨fun z2 => ?_, this.2⟩
          have := this.1 z2
          omega
      | succ e ih2 =>
        intro v hv I1 o1 m1
        have ds1 : dS I1 M = 1 ∧ dL I1 M = (((σ 0).toNat : Nat) : Int) := by
          have := o1 (1000000 + M) (by omega)
          exact ⟨(congrFun this 0).trans s11.1, (congrFun this 1).trans s11.2⟩
        show Lb_X12_flow_65 (a : Int) (b : Int) Q r54 _ N T M (v : Int) I1 J
        unfold Lb_X12_flow_65
        rw [o1 1000 (by omega), w11.n, show ((v : Int) + 1) = ((v + 1 : Nat) : Int) by omega, Int.toNat_natCast]
        refine ⟨⟨by omega, by omega⟩, ⟨by omega, by omega⟩, fun z => by omega, fun _ => ⟨⟨by omega, by omega⟩, fun z => ⟨⟨ds1.1, by omega, by rw [ds1.2]; omega⟩, fun I17 e17 => ?_⟩, fun z => ⟨⟨ds1.1, by omega, by rw [ds1.2]; omega⟩, fun I19 e19 => ?_⟩⟩⟩
        · refine ih2 (v + 1) (by omega) I17 (fun k hk => by rw [e17, up2_key hk]; exact o1 k hk) (fun u hu => ?_)
          by_cases c : u = v
          · rw [c, e17, up2_self, if_neg (by omega)]
          · rw [e17, up2_ne (fun q => c q.2)]; exact m1 u (by omega)
        · refine ih2 (v + 1) (by omega) I19 (fun k hk => by rw [e19, up2_key hk]; exact o1 k hk) (fun u hu => ?_)
          by_cases c : u = v
          · rw [c, e19, up2_self, if_pos (by omega)]
          · rw [e19, up2_ne (fun q => c q.2)]; exact m1 u (by omega)
    exact ⟨_, fill (σ 0).toNat 0 (by omega) I11 (fun _ _ => rfl) (fun u hu => by omega)⟩
theorem w_flow {I : Ii} {x y : Int} (w : WO σ I) (hN : 1022 ≤ I 999 0 ∧ I 999 0 ≤ 600000) (hx : x = (a : Int)) (hy : y = (b : Int)) (ha : a < (σ 0).toNat) (hb : b < (σ 0).toNat) (hab : a ≠ b) (hT : outZ σ (2 ^ a) ≤ 110) (hq : FQ σ a b I J Q) : wp_X12_flow x y I J Q := by
  subst hx hy
  have hn := w.1.2
  have hV := w.1.1
  unfold wp_X12_flow
  rw [w.n]
  refine ⟨⟨⟨⟨by omega, by omega⟩, by omega, by omega⟩, by omega⟩, fun I2 e2 N eN => ?_⟩
  subst eN
  generalize hNe : (I 999 0).toNat = N
  generalize hA : nwI I 4 (((σ 0).toNat : Nat) : Int) (fun i => if (i : Int) < (((σ 0).toNat : Nat) : Int) then I 999 0 + 1 + i else -1) = IA at e2
  have sA : dS IA N = 4 ∧ dL IA N = (((σ 0).toNat : Nat) : Int) := by rw [← hA, ← hNe]; exact nwI_s
  have kA : ∀ u, u < (σ 0).toNat → IA N u = ((N + 1 + u : Nat) : Int) := fun u hu => by
    rw [← hA, ← hNe, nwI_k hN.1, if_pos (by omega)]
    omega
  have xA : Ex I IA := by rw [← hA]; exact ExW.nw ⟨by omega, by omega⟩
  have nA : IA 999 0 = I 999 0 + 1 := by rw [← hA]; exact nwI_9 _ _ _ _
  rw [Int.toNat_natCast] at e2
  have hm := mnR_x (k := (((σ 0).toNat : Nat) : Int)) (I := IA) (σ 0).toNat ⟨by omega, by omega⟩
  have h9 := mnR_9 (((σ 0).toNat : Nat) : Int) IA (σ 0).toNat
  rw [← e2] at hm h9
  rw [show (IA 999 0).toNat = N + 1 by omega] at hm
  have sN := ExW.ds hm.1 (k := N) (by omega) (by omega)
  have F2 : FFr σ I N I2 := ⟨xA.trans hm.1 (fun _ q => q) (fun _ _ _ q => q), ⟨by rw [sN.1]; exact sA.1, by rw [sN.2, sA.2]; omega, fun u hu => by rw [(hm.1.2 N (by omega) (by omega)).1 (fun q => q)]; exact kA u hu⟩, fun u hu => ⟨(hm.2 u hu).1, by rw [(hm.2 u hu).2]; omega⟩, by omega⟩
  have key : ∀ d v : Nat, v + d = (σ 0).toNat → ∀ I3 : Ii, FFr σ I N I3 → I3 999 0 = I2 999 0 → (∀ u z, u < v → z < (σ 0).toNat → I3 (N + 1 + u) z = TBz σ u z) → L_X12_flow_16 (a : Int) (b : Int) Q (d + 1) N (v : Int) I3 J := by
    intro d
    induction d with
    | zero =>
      intro v hv I3 F3 n3 t3
      have w3 := w.ex hN.1 F3.1
      show Lb_X12_flow_16 (a : Int) (b : Int) Q _ N (v : Int) I3 J
      unfold Lb_X12_flow_16
      rw [w3.n]
      have hf : ∀ u z, u < (σ 0).toNat → z < (σ 0).toNat → rmF I3 N (14 * u + z) = TBz σ u z := fun u z hu hz => by
        rw [rmF_at (by omega)]; exact t3 u z (by omega) hz
      refine ⟨⟨by omega, by omega⟩, ⟨by omega, by omega⟩, fun _ => ⟨111, by decide, f_turns w ⟨by omega, by omega, by omega⟩ ha hb hab hT hq 111 I3 0 F3 ⟨fun u z hu hz => ?_, fun u z hu hz => ?_, Int.le_refl _, fun S _ _ => ?_⟩ (by omega) (by omega)⟩, fun z => absurd (by omega) z⟩
      · rw [hf u z hu hz]; exact (TBz_b hV u z).1
      · rw [hf u z hu hz, hf z u hz hu]
        have := TBz_b hV u z
        have := TBz_b hV z u
        omega
      · rw [crs_tb hV hf]; omega
    | succ d ih =>
      intro v hv I3 F3 n3 t3
      have w3 := w.ex hN.1 F3.1
      show Lb_X12_flow_16 (a : Int) (b : Int) Q _ N (v : Int) I3 J
      unfold Lb_X12_flow_16
      have eR : (((N + 1 + v : Nat) : Int)).toNat = N + 1 + v := Int.toNat_natCast _
      have f4 := F3.2.2.2
      rw [w3.n, Int.toNat_natCast, Int.toNat_natCast, F3.2.1.2.2 v (by omega), eR, show ((v : Int) + 1) = ((v + 1 : Nat) : Int) by omega]
      refine ⟨⟨by omega, by omega⟩, ⟨by omega, by omega⟩, fun z => by omega, fun _ => ⟨⟨by omega, by omega⟩, ⟨F3.2.1.1, ⟨by omega, by rw [F3.2.1.2.1]; omega⟩, by omega⟩, ⟨(F3.2.2.1 v (by omega)).1, ⟨⟨by decide, by decide⟩, by omega, by omega⟩, by omega, by rw [(F3.2.2.1 v (by omega)).2]; omega⟩, fun I8 e8 => ?_⟩⟩
      have o8 : ∀ k, k ≠ N + 1 + v → I8 k = I3 k := fun k hk => by rw [e8]; exact upr_ne hk
      have n8 : I8 999 0 = I3 999 0 := by rw [o8 999 (by omega)]
      refine ih (v + 1) (by omega) I8 (F3.same ⟨by omega, by omega⟩ n8 (by omega) (fun k h1 h2 h3 => o8 k (by omega)) (fun k => o8 _ (by omega)) (by omega)) (by rw [n8, n3]) (fun u z hu hz => ?_)
      by_cases c : u = v
      · rw [c, e8, upr_self]
        unfold va_cpy
        rw [if_pos ⟨by show 0 ≤ z; omega, by show z < 0 + (σ 0).toNat; omega⟩]
        have : ((0 : Int).toNat + (z - (0 : Int).toNat)) = z := by show 0 + (z - 0) = z; omega
        rw [this]
        exact w3.2.1.2.2.2 v z (by omega) hz
      · rw [o8 _ (by omega)]
        exact t3 u z (by omega) hz
  exact ⟨_, key (σ 0).toNat 0 (by omega) I2 F2 rfl (fun u z hu hz => by omega)⟩
end WSX

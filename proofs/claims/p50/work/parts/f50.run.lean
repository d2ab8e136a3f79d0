/-! ===== the law, from its first step to its end ===== -/
theorem Kok_w {F : Launch × (State → Prop)} {sz : Nat} {D : va_G} {cA : KA} {lit : Nat → Nat} (hl : ∀ k, 900 ≤ k → k < 1000 → lit k < sz) : Kok (gWo F sz D cA lit) := by
  have h0 : (gWo F sz D cA lit).2.2.2.2 0 ≠ 1 := by
    show ad1 sz lit 0 ≠ 1
    unfold ad1
    rw [if_pos (by decide)]
    split <;> omega
  refine ⟨fun k hk => ?_, fun z => absurd z h0, fun k h1 h2 => ?_⟩
  · show ad1 sz lit k + 1000 = sz + k
    rw [ad1_k hk]; omega
  · show ad1 sz lit k < sz
    rw [(ad_lit (n := 0) h1 h2).1]; exact hl k h1 h2
theorem shp_c {k : Nat} (hk : k < 900) (h : shp k ≠ none) : plc k < 96 ∧ kycL.getD (plc k) 0 = k ∧ 100 ≤ k := by
  have hk3 : k < 390 := by
    by_cases c : k < 390
    · exact c
    · exact absurd (shp_390 (by omega) (by omega)) h
  have h100 : 100 ≤ k := by
    by_cases c : 100 ≤ k
    · exact c
    · exact absurd (by unfold shp; rw [if_pos (by omega)]) h
  obtain ⟨a, b⟩ := plc_ky k hk3 (Option.isSome_iff_ne_none.mpr h)
  exact ⟨a, b, h100⟩
theorem Kok_c {F : Launch × (State → Prop)} {sz n : Nat} {D : va_G} {cA : KA} {lit : Nat → Nat} (hl : ∀ k, 900 ≤ k → k < 1000 → lit k < sz) (hn : 22 ≤ n) : KokC (gAd (gWo F sz D cA lit) 0 (ad2 sz n lit)) := by
  have a2 : ∀ k, 100 ≤ k → k < 900 → ad2 sz n lit k = sz + n + plc k := fun k h1 h2 => by
    unfold ad2
    rw [if_neg (by omega), if_neg (by omega), if_pos h2]
  refine ⟨⟨fun k hk => ?_, fun _ => ⟨fun k k' h1 h2 h3 h4 h5 => ?_, fun k h1 h2 => ?_, hn⟩, fun k h1 h2 => ?_⟩, rfl⟩
  · show ad2 sz n lit k + 1000 = sz + 0 + k
    rw [ad2_k hk]; omega
  · have h5 : ad2 sz n lit k = ad2 sz n lit k' := h5
    obtain ⟨p1, p2, p3⟩ := shp_c h1 h3
    obtain ⟨q1, q2, q3⟩ := shp_c h2 h4
    rw [a2 k p3 h1, a2 k' q3 h2] at h5
    have : plc k = plc k' := by omega
    rw [← p2, ← q2, this]
  · obtain ⟨p1, p2, p3⟩ := shp_c h1 h2
    show sz + 0 + n ≤ ad2 sz n lit k ∧ ad2 sz n lit k < sz + 0 + n + 96
    rw [a2 k p3 h1]
    omega
  · show ad2 sz n lit k < sz + 0
    rw [(ad_lit h1 h2).2]; exact hl k h1 h2
/-- what stands fast does so beside other addresses -/
theorem KWf_ad {G G' : KG} {mi : Nat} {U : State} (h0 : G'.2.1 = G.2.1) (h : ∀ k, 900 ≤ k → k < 1000 → kadr G' k = kadr G k) (hW : KWf G mi U) : KWf G' mi U := by
  have hF : KFr G' = KFr G := by unfold KFr; rw [h0]
  obtain ⟨w1, w2, w3, w4, w5, w6, w7⟩ := hW
  have hq : ∀ q ∈ kLdc, 900 ≤ q.2.2.2 ∧ q.2.2.2 < 1000 := by decide
  unfold KWf
  rw [hF, h 932 (by omega) (by omega), h 933 (by omega) (by omega), h 930 (by omega) (by omega)]
  refine ⟨w1, fun i w hi => ?_, w3, w4, w5, w6, fun q hq2 => ?_⟩
  · have hi15 : i < 15 := (List.getElem?_eq_some_iff.mp hi).1
    rw [h (900 + 2 * i) (by omega) (by omega), h (901 + 2 * i) (by omega) (by omega)]
    exact w2 i w hi
  · rw [h _ (hq q hq2).1 (hq q hq2).2]
    exact w7 q hq2
theorem GW_0 : GW 0 zrR I0w := by
  refine ⟨rfl, ⟨rfl, rfl, rfl, rfl⟩, fun v hv => absurd hv (Nat.not_lt_zero _), fun v _ => rfl, fun a b ha hb => ?_, ⟨rfl, rfl⟩, rfl, rfl⟩
  have e : TBz zrR a b = 0 := rfl
  rw [e]
  unfold I0w
  rw [if_neg (by omega), if_neg (by omega), if_neg (by omega), if_neg (by omega), if_neg (by omega), if_neg (by omega), if_neg (by omega)]
set_option maxHeartbeats 4000000 in
theorem law_run {F : Launch × (State → Prop)} {sz : Nat} {D : va_G} {cA : KA} {lit : Nat → Nat} {X : KX} {Qs : State → Prop} {sL : Nat} {xs : Nat → Int} {E : Nat → va_E} (hl : ∀ k, 900 ≤ k → k < 1000 → lit k < sz) (hW : KWx (gWo F sz D cA lit)) (hT : KScr (gWo F sz D cA lit) sL xs) (hAO : ∀ U, F.2 U → va_AO "ShareGraph$Sharing" U) (hX : KR X = room_1) (C : Fr (gWo F sz D cA lit) X cL_law 4 yL_law.cls (some .boolean) wsL_law)
    (k1 : ∀ (n : Nat) (lv : List (Option Value)) (pc : Nat) (I : Ii) (J : Jj), (pc = 36 ∨ pc = 80 ∨ pc = 108) → Wz (gAd (gWo F sz D cA lit) 0 (ad2 sz n lit)) X 4 Qs 0 0 pc lv [.int (iZ 1)] I J) : Wb (gWo F sz D cA lit) X 4 Qs 4000 1200000 0 [some (.ref (lit 998)), none, none, none] [] 0 E := by
  have hG := Kok_w (F := F) (D := D) (cA := cA) hl
  have CB := FrB.ofFr C
  have a998 : kadr (gWo F sz D cA lit) 998 = lit 998 := rfl
  refine wb_aload_n CB (j := 0) rfl rfl dL_law_0 ?_
  refine wb_callS C (As := [.ref (lit 998)]) (st := []) (rm := rm_X12_grown8) (Q := QsK (gWo F sz D cA lit) (fun o I J => o = 1000 ∧ J = J0w ∧ ∃ (σ : Nat → Int) (nm : Nat → Int64) (L : List Int), FG I0w σ nm L 5000 I)) (a' := 4000 - 777) (b' := 1200000 - 1046600) (k_grown (gWo F sz D cA lit) hG hW hT (E := E) (I := I0w) (J := J0w) (Q := fun o I J => o = 1000 ∧ J = J0w ∧ ∃ (σ : Nat → Int) (nm : Nat → Int64) (L : List Int), FG I0w σ nm L 5000 I) Pic_w rfl (g_grown LTP_0 GW_0 ⟨by decide, by decide⟩ (fun I' σ nm L h => ⟨rfl, rfl, σ, nm, L, h⟩))) 1 (goodIn_wsS gL_law_X12_grown) (by decide +kernel) (by decide +kernel) (by decide +kernel) rfl (by decide +kernel) (by rw [hX]; exact ⟨Nat.le_of_ble_eq_true rfl, Nat.le_of_ble_eq_true rfl⟩) rfl (Nat.le_of_ble_eq_true rfl) (by show 777 + (4000 - 777) = 4000; omega) (by show 1046600 + (1200000 - 1046600) = 1200000; omega) dL_law_1 (fun r S' hr => ?_)
  obtain ⟨o, rfl, h⟩ := hr
  obtain ⟨I, J⟩ := S'
  obtain ⟨rfl, rfl, σ, nm, L, hF⟩ : o = 1000 ∧ J = J0w ∧ ∃ (σ : Nat → Int) (nm : Nat → Int64) (L : List Int), FG I0w σ nm L 5000 I := h
  show Wz (gWo F sz D cA lit) X 4 Qs _ _ 4 [some (.ref (lit 998)), none, none, none] [.ref (sz + (1000 - 1000))] I J0w
  refine wz_astore_1 C rfl dL_law_4 ?_
  obtain ⟨hF2, h12, h20, h21⟩ := FG_fix (sz := sz) hF
  have hN : 1022 ≤ I 999 0 ∧ I 999 0 ≤ 5000 := hF.2.2.2.2.2.2.2.1
  have hXG : XG I0w I := hF.2.2.2.2.2.2.1
  obtain ⟨n, hn⟩ : ∃ n : Nat, I 999 0 = 1000 + (n : Int) := ⟨(I 999 0 - 1000).toNat, by omega⟩
  refine Wz.less (a0 := 96 + 3000) (b0 := 4265 + 140000) (by omega) (by omega) (law_obj (ad := ad2 sz n lit) (a := 3000) (b := 140000) (I2 := I2w sz I) C hX hn hAO (fun H H2 hP hz hq hB => Pic_c hn (by omega) h12 h20 h21 (fun k hk => hXG.1 k (by omega) (by omega)) hP hz hq hB) ?_)
  have hGC := Kok_c (F := F) (n := n) (D := D) (cA := cA) hl (by omega)
  have C2 : Fr (gAd (gWo F sz D cA lit) 0 (ad2 sz n lit)) X cL_law 4 yL_law.cls (some .boolean) wsL_law := by
    obtain ⟨p, e, R, s, m, args, below, meth, c⟩ := X
    obtain ⟨hx, hb, hml, hown, hts, hr, hlk, hKK, -, hlo⟩ := C
    exact ⟨hx, hb, hml, hown, hts, hr, hlk, hKK, hGC.1, hlo⟩
  have had : ∀ k, 900 ≤ k → k < 1000 → kadr (gAd (gWo F sz D cA lit) 0 (ad2 sz n lit)) k = kadr (gWo F sz D cA lit) k := fun k h1 _ => ad_hi h1
  have hW2 : KWx (gAd (gWo F sz D cA lit) 0 (ad2 sz n lit)) := by
    obtain ⟨mi, hW⟩ := hW
    exact ⟨mi, fun U hU => KWf_ad (G := gWo F sz D cA lit) (G' := gAd (gWo F sz D cA lit) 0 (ad2 sz n lit)) rfl had (hW U hU)⟩
  have hT2 : KScr (gAd (gWo F sz D cA lit) 0 (ad2 sz n lit)) sL xs := hT
  refine wz_astore_2 C2 rfl dL_law_12 ?_
  have hE : HEL (gAd (gWo F sz D cA lit) 0 (ad2 sz n lit)) X Qs (fun v _ _ => v = 1) := fun lv pc v I J hpc hv => by
    have hv : v = 1 := hv
    subst hv
    exact k1 n lv pc I J hpc
  have hlaw : wp_L_law13 sL xs (I2w sz I) J0w (fun v _ _ => v = 1) := c_law13 hF2 rfl rfl (fun k hk => by
    show I0w (1000000 + k) 0 ≠ 3
    rw [I0w_s (Or.inl (by omega)) (by omega)]; decide) (fun _ _ => rfl)
  exact Wz.less (a0 := 2600) (b0 := 90952) (by omega) (by omega) (k_L_law13 _ hGC hW2 hT2 X hX C2 (I2w sz I) J0w _ hE hlaw)

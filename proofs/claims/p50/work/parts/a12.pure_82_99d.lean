/-! ===== what a text says ===== -/
abbrev St := (Nat → Int) × (Nat → Int64) × Nat × Nat
abbrev nOK (B : Nat → Int) (E : Nat) (lo hi : Int) (p : Nat) : Prop := tK B E p = 2 ∧ lo ≤ tN B E p ∧ tN B E p ≤ hi
def numC (B : Nat → Int) (E p : Nat) : Int := if tK B E p = 2 then 2 else 1
def addV (σ : Nat → Int) (n : Int) : Nat → Int := updr (updr (updr (updr σ (7 + (σ 0).toNat) n) (35 + (σ 0).toNat) (σ 0)) 0 (σ 0 + 1)) 105 (σ 105 + 1)
def addE (σ : Nat → Int) (a b n : Int) : Nat → Int := updr (updr (updr (updr σ (110 + (σ 1).toNat) a) (150 + (σ 1).toNat) b) (190 + (σ 1).toNat) n) 1 (σ 1 + 1)
def vtx (B : Nat → Int) (E : Nat) (σ : Nat → Int) (nm : Nat → Int64) (T p w0 : Nat) : Except (Int × Nat) St :=
  if σ 0 = 14 then .error (6, w0) else if tK B E p ≠ 1 then .error (1, tS B E p) else if nmZ nm (tW B E p) (σ 0).toNat ≠ -1 then .error (3, tS B E p)
  else if ¬ nOK B E 1 99 (tE B E p) then .error (numC B E (tE B E p), tS B E (tE B E p)) else .ok (addV σ (tN B E (tE B E p)), updr nm (σ 0).toNat (tW B E p), T, tE B E (tE B E p))
def edg (B : Nat → Int) (E : Nat) (σ : Nat → Int) (nm : Nat → Int64) (T p w0 : Nat) : Except (Int × Nat) St :=
  if σ 1 = 40 then .error (6, w0) else if tK B E p ≠ 1 then .error (1, tS B E p) else if nmZ nm (tW B E p) (σ 0).toNat = -1 then .error (3, tS B E p)
  else if tK B E (tE B E p) ≠ 1 then .error (1, tS B E (tE B E p)) else if nmZ nm (tW B E (tE B E p)) (σ 0).toNat = -1 then .error (3, tS B E (tE B E p))
  else if nmZ nm (tW B E (tE B E p)) (σ 0).toNat = nmZ nm (tW B E p) (σ 0).toNat then .error (3, tS B E (tE B E p))
  else if edgeZ σ (nmZ nm (tW B E p) (σ 0).toNat) (nmZ nm (tW B E (tE B E p)) (σ 0).toNat) (σ 1).toNat ≠ -1 then .error (4, tS B E (tE B E p))
  else if ¬ nOK B E 1 99 (tE B E (tE B E p)) then .error (numC B E (tE B E (tE B E p)), tS B E (tE B E (tE B E p)))
  else .ok (addE σ (nmZ nm (tW B E p) (σ 0).toNat) (nmZ nm (tW B E (tE B E p)) (σ 0).toNat) (tN B E (tE B E (tE B E p))), nm, T, tE B E (tE B E (tE B E p)))
def onc (B : Nat → Int) (E : Nat) (w : Nat) (lo hi : Int) (σ : Nat → Int) (nm : Nat → Int64) (T p w0 : Nat) : Except (Int × Nat) St :=
  if T.testBit w = true then .error (4, w0) else if ¬ nOK B E lo hi p then .error (numC B E p, tS B E p) else .ok (updr σ (w + 2) (tN B E p), nm, T ||| 2 ^ w, tE B E p)
abbrev isW (B : Nat → Int) (E p : Nat) (w : Int64) : Prop := tK B E p = 1 ∧ tW B E p = w
def stb (B : Nat → Int) (E : Nat) (t : St) : Except (Int × Nat) St :=
  if isW B E t.2.2.2 (lZ 744050872) then vtx B E t.1 t.2.1 t.2.2.1 (tE B E t.2.2.2) (tS B E t.2.2.2)
  else if isW B E t.2.2.2 (lZ 168165) then edg B E t.1 t.2.1 t.2.2.1 (tE B E t.2.2.2) (tS B E t.2.2.2)
  else if isW B E t.2.2.2 (lZ 16829075) then onc B E 0 2 4 t.1 t.2.1 t.2.2.1 (tE B E t.2.2.2) (tS B E t.2.2.2)
  else if isW B E t.2.2.2 (lZ 20317291) then onc B E 1 0 99 t.1 t.2.1 t.2.2.1 (tE B E t.2.2.2) (tS B E t.2.2.2)
  else if isW B E t.2.2.2 (lZ 119705908) then onc B E 2 0 99 t.1 t.2.1 t.2.2.1 (tE B E t.2.2.2) (tS B E t.2.2.2)
  else .error (1, tS B E t.2.2.2)
def semi (B : Nat → Int) (E : Nat) (t : St) : Except (Int × Nat) St := if tK B E t.2.2.2 = 3 then .ok (t.1, t.2.1, t.2.2.1, tE B E t.2.2.2) else .error (1, tS B E t.2.2.2)
def stm (B : Nat → Int) (E : Nat) (t : St) : Except (Int × Nat) St := match stb B E t with
  | .error e => .error e
  | .ok t' => semi B E t'
def txt (B : Nat → Int) (E : Nat) : Nat → St → Except (Int × Nat) St
  | 0, _ => .error (1, 0)
  | f + 1, t => if tK B E t.2.2.2 = 0 then .ok t else match stm B E t with
    | .error e => .error e
    | .ok t' => txt B E f t'
/-- what holds of the row while a text is read -/
def PS (σ : Nat → Int) : Prop := MS σ ∧ VE σ ∧ σ 5 = 0 ∧ σ 6 = 0 ∧ σ 105 = σ 0 ∧ (∀ v, v < 14 → σ (21 + v) = 0) ∧ (∀ v, v < (σ 0).toNat → σ (35 + v) = (v : Int))
theorem PS.vs {σ : Nat → Int} (h : PS σ) : VS σ := by
  obtain ⟨hM, hE, h5, h6, hn, hp, hg⟩ := h
  have b0 := ms_0 hM
  have b2 := ms_2 hM
  have b5 : (σ 5).toNat = 0 := by rw [h5]; rfl
  have g0 : ∀ v, v < (σ 0).toNat → gL σ 0 v = (v : Int) := fun v hv => by
    unfold gL
    exact hg v hv
  refine ⟨hM, hE, fun v hv => by rw [hp v (by omega)]; omega, g0, hn, fun l hl => ?_, fun l u v hl => by omega, fun u v hu hv _ => by rw [hp u (by omega), hp v (by omega)]⟩
  have : l = 0 := by omega
  subst this
  exact ⟨fun v hv => by rw [g0 v hv]; show (v : Int) < σ 105; rw [hn]; omega, fun g g1 g2 => ⟨g.toNat, by have : g < σ 105 := g2; rw [hn] at this; omega, by rw [g0 g.toNat (by have : g < σ 105 := g2; rw [hn] at this; omega)]; omega⟩⟩
theorem addV_PS {σ : Nat → Int} {n : Int} (h : PS σ) (h14 : σ 0 ≠ 14) (hn : 0 ≤ n ∧ n ≤ 99) : PS (addV σ n) := by
  obtain ⟨hM, hE, h5, h6, hnn, hp, hg⟩ := h
  have b0 := ms_0 hM
  have b1 := ms_1 hM
  have b105 := ms_n hM 0 (by decide)
  have k : (σ 0).toNat < 14 := by omega
  have lo : ∀ i, i ≠ 0 → i ≠ 105 → i ≠ 7 + (σ 0).toNat → i ≠ 35 + (σ 0).toNat → addV σ n i = σ i := fun i a b c d => by
    unfold addV; rw [updr_ne b, updr_ne a, updr_ne d, updr_ne c]
  have e0 : addV σ n 0 = σ 0 + 1 := by unfold addV; rw [updr_ne (by decide), updr_self]
  have e105 : addV σ n 105 = σ 105 + 1 := by unfold addV; rw [updr_self]
  have e7 : addV σ n (7 + (σ 0).toNat) = n := by unfold addV; rw [updr_ne (by omega), updr_ne (by omega), updr_ne (by omega), updr_self]
  have e35 : addV σ n (35 + (σ 0).toNat) = σ 0 := by unfold addV; rw [updr_ne (by omega), updr_ne (by omega), updr_self]
  refine ⟨⟨by rw [e0]; omega, by rw [lo 1 (by omega) (by omega) (by omega) (by omega)]; exact b1, by rw [lo 2 (by omega) (by omega) (by omega) (by omega)]; exact ms_2 hM, by rw [lo 3 (by omega) (by omega) (by omega) (by omega)]; exact ms_3 hM, by rw [lo 4 (by omega) (by omega) (by omega) (by omega)]; exact ms_4 hM, by rw [lo 5 (by omega) (by omega) (by omega) (by omega)]; exact ms_5 hM, by rw [lo 6 (by omega) (by omega) (by omega) (by omega)]; exact ms_6 hM,
    fun v hv => ?_, fun v hv => by rw [lo (21 + v) (by omega) (by omega) (by omega) (by omega)]; exact ms_p hM v hv, fun t ht => ?_, fun l hl => ?_, fun e he => by rw [lo (110 + e) (by omega) (by omega) (by omega) (by omega)]; exact ms_a hM e he, fun e he => by rw [lo (150 + e) (by omega) (by omega) (by omega) (by omega)]; exact ms_b hM e he, fun e he => by rw [lo (190 + e) (by omega) (by omega) (by omega) (by omega)]; exact ms_h hM e he, fun e he => by rw [lo (230 + e) (by omega) (by omega) (by omega) (by omega)]; exact ms_e hM e he⟩, ?_, by rw [lo 5 (by omega) (by omega) (by omega) (by omega)]; exact h5, by rw [lo 6 (by omega) (by omega) (by omega) (by omega)]; exact h6, by rw [e105, e0, hnn], fun v hv => by rw [lo (21 + v) (by omega) (by omega) (by omega) (by omega)]; exact hp v hv, fun v hv => ?_⟩
  · by_cases c : v = (σ 0).toNat
    · rw [c, e7]; omega
    · rw [lo (7 + v) (by omega) (by omega) (by omega) (by omega)]; exact ms_w hM v hv
  · by_cases c : t = (σ 0).toNat
    · rw [c, e35]; omega
    · rw [lo (35 + t) (by omega) (by omega) (by omega) (by omega)]; exact ms_g hM t ht
  · by_cases c : l = 0
    · subst c
      show 0 ≤ addV σ n 105 ∧ addV σ n 105 ≤ 14
      rw [e105, hnn]; omega
    · rw [lo (105 + l) (by omega) (by omega) (by omega) (by omega)]; exact ms_n hM l hl
  · have q1 : addV σ n 1 = σ 1 := lo 1 (by omega) (by omega) (by omega) (by omega)
    refine ⟨fun e he => ?_, fun e f he hf => ?_⟩
    · rw [q1] at he
      rw [lo (110 + e) (by omega) (by omega) (by omega) (by omega), lo (150 + e) (by omega) (by omega) (by omega) (by omega), e0]
      have := hE.1 e he
      exact ⟨by omega, by omega, this.2.2⟩
    · rw [q1] at he hf
      rw [lo (110 + e) (by omega) (by omega) (by omega) (by omega), lo (150 + e) (by omega) (by omega) (by omega) (by omega), lo (110 + f) (by omega) (by omega) (by omega) (by omega), lo (150 + f) (by omega) (by omega) (by omega) (by omega)]
      exact hE.2 e f he hf
  · rw [e0] at hv
    by_cases c : v = (σ 0).toNat
    · rw [c, e35]; omega
    · rw [lo (35 + v) (by omega) (by omega) (by omega) (by omega)]; exact hg v (by omega)
theorem edgeZ_m1 {σ : Nat → Int} {a b : Int} : ∀ {n : Nat}, edgeZ σ a b n = -1 → ∀ e, e < n → ¬ ((σ (110 + e) = a ∧ σ (150 + e) = b) ∨ (σ (110 + e) = b ∧ σ (150 + e) = a))
  | 0, _, e, he => by omega
  | n + 1, h, e, he => by
    unfold edgeZ at h
    split at h
    · omega
    · rename_i c
      by_cases q : e = n
      · rw [q]; exact c
      · exact edgeZ_m1 h e (by omega)
theorem nmZ_m1 {f : Nat → Int64} {w : Int64} : ∀ {n : Nat}, nmZ f w n = -1 → ∀ u, u < n → f u ≠ w
  | 0, _, e, he => by omega
  | n + 1, h, e, he => by
    unfold nmZ at h
    split at h
    · omega
    · rename_i c
      by_cases q : e = n
      · rw [q]; exact c
      · exact nmZ_m1 h e (by omega)
theorem addE_PS {σ : Nat → Int} {a b n : Int} (h : PS σ) (h40 : σ 1 ≠ 40) (ha : 0 ≤ a ∧ a < σ 0) (hb : 0 ≤ b ∧ b < σ 0) (hab : a ≠ b) (hno : edgeZ σ a b (σ 1).toNat = -1) (hn : 0 ≤ n ∧ n ≤ 99) : PS (addE σ a b n) := by
  obtain ⟨hM, hE, h5, h6, hnn, hp, hg⟩ := h
  have b0 := ms_0 hM
  have b1 := ms_1 hM
  have k : (σ 1).toNat < 40 := by omega
  have lo : ∀ i, i ≠ 1 → i ≠ 110 + (σ 1).toNat → i ≠ 150 + (σ 1).toNat → i ≠ 190 + (σ 1).toNat → addE σ a b n i = σ i := fun i a b c d => by
    unfold addE; rw [updr_ne a, updr_ne d, updr_ne c, updr_ne b]
  have e1 : addE σ a b n 1 = σ 1 + 1 := by unfold addE; rw [updr_self]
  have ea : addE σ a b n (110 + (σ 1).toNat) = a := by unfold addE; rw [updr_ne (by omega), updr_ne (by omega), updr_ne (by omega), updr_self]
  have eb : addE σ a b n (150 + (σ 1).toNat) = b := by unfold addE; rw [updr_ne (by omega), updr_ne (by omega), updr_self]
  have en : addE σ a b n (190 + (σ 1).toNat) = n := by unfold addE; rw [updr_ne (by omega), updr_self]
  have e0 : addE σ a b n 0 = σ 0 := lo 0 (by omega) (by omega) (by omega) (by omega)
  have la : ∀ e, e ≠ (σ 1).toNat → e < 40 → addE σ a b n (110 + e) = σ (110 + e) := fun e _ _ => lo _ (by omega) (by omega) (by omega) (by omega)
  have lb : ∀ e, e ≠ (σ 1).toNat → e < 40 → addE σ a b n (150 + e) = σ (150 + e) := fun e _ _ => lo _ (by omega) (by omega) (by omega) (by omega)
  have hm := edgeZ_m1 hno
  refine ⟨⟨by rw [e0]; omega, by rw [e1]; omega, by rw [lo 2 (by omega) (by omega) (by omega) (by omega)]; exact ms_2 hM, by rw [lo 3 (by omega) (by omega) (by omega) (by omega)]; exact ms_3 hM, by rw [lo 4 (by omega) (by omega) (by omega) (by omega)]; exact ms_4 hM, by rw [lo 5 (by omega) (by omega) (by omega) (by omega)]; exact ms_5 hM, by rw [lo 6 (by omega) (by omega) (by omega) (by omega)]; exact ms_6 hM,
    fun v hv => by rw [lo (7 + v) (by omega) (by omega) (by omega) (by omega)]; exact ms_w hM v hv, fun v hv => by rw [lo (21 + v) (by omega) (by omega) (by omega) (by omega)]; exact ms_p hM v hv, fun t ht => by rw [lo (35 + t) (by omega) (by omega) (by omega) (by omega)]; exact ms_g hM t ht, fun l hl => by rw [lo (105 + l) (by omega) (by omega) (by omega) (by omega)]; exact ms_n hM l hl, fun e he => ?_, fun e he => ?_, fun e he => ?_, fun e he => by rw [lo (230 + e) (by omega) (by omega) (by omega) (by omega)]; exact ms_e hM e he⟩, ⟨fun e he => ?_, fun e f he hf hc => ?_⟩, by rw [lo 5 (by omega) (by omega) (by omega) (by omega)]; exact h5, by rw [lo 6 (by omega) (by omega) (by omega) (by omega)]; exact h6, by rw [lo 105 (by omega) (by omega) (by omega) (by omega), e0]; exact hnn, fun v hv => by rw [lo (21 + v) (by omega) (by omega) (by omega) (by omega)]; exact hp v hv, fun v hv => by rw [e0] at hv; rw [lo (35 + v) (by omega) (by omega) (by omega) (by omega)]; exact hg v hv⟩
  · by_cases c : e = (σ 1).toNat
    · rw [c, ea]; omega
    · rw [la e c he]; exact ms_a hM e he
  · by_cases c : e = (σ 1).toNat
    · rw [c, eb]; omega
    · rw [lb e c he]; exact ms_b hM e he
  · by_cases c : e = (σ 1).toNat
    · rw [c, en]; omega
    · rw [lo (190 + e) (by omega) (by omega) (by omega) (by omega)]; exact ms_h hM e he
  · rw [e1] at he
    rw [e0]
    by_cases c : e = (σ 1).toNat
    · rw [c, ea, eb]; exact ⟨by omega, by omega, hab⟩
    · rw [la e c (by omega), lb e c (by omega)]; exact hE.1 e (by omega)
  · rw [e1] at he hf
    by_cases c : e = (σ 1).toNat
    · by_cases d : f = (σ 1).toNat
      · rw [c, d]
      · rw [c, ea, eb, la f d (by omega), lb f d (by omega)] at hc
        exact absurd (by rcases hc with q | q; · exact Or.inl ⟨q.1.symm, q.2.symm⟩
                         · exact Or.inr ⟨q.2.symm, q.1.symm⟩) (hm f (by omega))
    · by_cases d : f = (σ 1).toNat
      · rw [d, ea, eb, la e c (by omega), lb e c (by omega)] at hc
        exact absurd hc (hm e (by omega))
      · rw [la e c (by omega), lb e c (by omega), la f d (by omega), lb f d (by omega)] at hc
        exact hE.2 e f (by omega) (by omega) hc
theorem setW_PS {σ : Nat → Int} {w : Nat} {n : Int} (h : PS σ) (hw : w = 0 ∧ 2 ≤ n ∧ n ≤ 4 ∨ (w = 1 ∨ w = 2) ∧ 0 ≤ n ∧ n ≤ 99) : PS (updr σ (w + 2) n) := by
  obtain ⟨hM, hE, h5, h6, hnn, hp, hg⟩ := h
  have lo : ∀ i, (i < 2 ∨ 4 < i) → updr σ (w + 2) n i = σ i := fun i a => updr_ne (by omega)
  refine ⟨⟨by rw [lo 0 (by omega)]; exact ms_0 hM, by rw [lo 1 (by omega)]; exact ms_1 hM, ?_, ?_, ?_, by rw [lo 5 (by omega)]; exact ms_5 hM, by rw [lo 6 (by omega)]; exact ms_6 hM, fun v hv => by rw [lo (7 + v) (by omega)]; exact ms_w hM v hv, fun v hv => by rw [lo (21 + v) (by omega)]; exact ms_p hM v hv, fun v hv => by rw [lo (35 + v) (by omega)]; exact ms_g hM v hv, fun v hv => by rw [lo (105 + v) (by omega)]; exact ms_n hM v hv, fun v hv => by rw [lo (110 + v) (by omega)]; exact ms_a hM v hv, fun v hv => by rw [lo (150 + v) (by omega)]; exact ms_b hM v hv, fun v hv => by rw [lo (190 + v) (by omega)]; exact ms_h hM v hv, fun v hv => by rw [lo (230 + v) (by omega)]; exact ms_e hM v hv⟩,
    ⟨fun e he => ?_, fun e f he hf => ?_⟩, by rw [lo 5 (by omega)]; exact h5, by rw [lo 6 (by omega)]; exact h6, by rw [lo 105 (by omega), lo 0 (by omega)]; exact hnn, fun v hv => by rw [lo (21 + v) (by omega)]; exact hp v hv, fun v hv => by rw [lo 0 (by omega)] at hv; rw [lo (35 + v) (by omega)]; exact hg v hv⟩
  · have := ms_2 hM
    unfold updr; split <;> omega
  · have := ms_3 hM
    unfold updr; split <;> omega
  · have := ms_4 hM
    unfold updr; split <;> omega
  · rw [lo 1 (by omega)] at he
    rw [lo (110 + e) (by omega), lo (150 + e) (by omega), lo 0 (by omega)]; exact hE.1 e he
  · rw [lo 1 (by omega)] at he hf
    rw [lo (110 + e) (by omega), lo (150 + e) (by omega), lo (110 + f) (by omega), lo (150 + f) (by omega)]; exact hE.2 e f he hf
/-- what holds of a state of reading -/
def PSt (E : Nat) (t : St) : Prop := PS t.1 ∧ ND t.2.1 (t.1 0).toNat ∧ t.2.2.1 < 8 ∧ t.2.2.2 ≤ E
/-- an outcome: what a fault says, what goes on -/
def PO (r : Except (Int × Nat) St) (bad : Int → Nat → Prop) (good : St → Prop) : Prop := match r with
  | .error e => bad e.1 e.2
  | .ok t => good t
theorem lit6 {c : Int} {s : Nat} {good : St → Prop} (h : 1 ≤ c ∧ c ≤ 6) : PO (.error (c, s)) (fun c _ => 1 ≤ c ∧ c ≤ 6) good := h
section PAR
variable {B : Nat → Int} {E : Nat}
theorem numC_b {p : Nat} : numC B E p = 1 ∨ numC B E p = 2 := by unfold numC; split <;> omega
theorem vtx_PO {σ : Nat → Int} {nm : Nat → Int64} {T p w0 : Nat} (h : PSt E (σ, nm, T, p)) : PO (vtx B E σ nm T p w0) (fun c _ => 1 ≤ c ∧ c ≤ 6) (fun t => PSt E t ∧ p ≤ t.2.2.2) := by
  obtain ⟨hP, hd, hT, hp⟩ := h
  dsimp only at hP hd hT hp
  have b0 := ms_0 hP.1
  unfold vtx
  by_cases c1 : σ 0 = 14
  · rw [if_pos c1]; exact lit6 (by decide)
  rw [if_neg c1]
  by_cases c2 : tK B E p ≠ 1
  · rw [if_pos c2]; exact lit6 (by decide)
  rw [if_neg c2]
  by_cases c3 : nmZ nm (tW B E p) (σ 0).toNat ≠ -1
  · rw [if_pos c3]; exact lit6 (by decide)
  rw [if_neg c3]
  by_cases c4 : ¬ nOK B E 1 99 (tE B E p)
  · rw [if_pos c4]; have := numC_b (B := B) (E := E) (p := tE B E p); exact ⟨by dsimp only; omega, by dsimp only; omega⟩
  rw [if_neg c4]
  have c5 : nOK B E 1 99 (tE B E p) := Classical.not_not.mp c4
  have b1 := tE_b (B := B) hp
  have b2 := tE_b (B := B) b1.2.1
  refine ⟨⟨addV_PS hP c1 (by have := c5.2; omega), ?_, hT, b2.2.1⟩, by show p ≤ tE B E (tE B E p); omega⟩
  have e0 : (addV σ (tN B E (tE B E p)) 0).toNat = (σ 0).toNat + 1 := by
    have : addV σ (tN B E (tE B E p)) 0 = σ 0 + 1 := by unfold addV; rw [updr_ne (by decide), updr_self]
    rw [this]; omega
  show ND (updr nm (σ 0).toNat (tW B E p)) (addV σ (tN B E (tE B E p)) 0).toNat
  rw [e0]
  have hm := nmZ_m1 (Classical.not_not.mp c3)
  intro u v hu hv e
  by_cases cu : u = (σ 0).toNat
  · by_cases cv : v = (σ 0).toNat
    · omega
    · rw [cu, updr_self, updr_ne cv] at e
      exact absurd e.symm (hm v (by omega))
  · by_cases cv : v = (σ 0).toNat
    · rw [cv, updr_self, updr_ne cu] at e
      exact absurd e (hm u (by omega))
    · rw [updr_ne cu, updr_ne cv] at e
      exact hd u v (by omega) (by omega) e
theorem edg_PO {σ : Nat → Int} {nm : Nat → Int64} {T p w0 : Nat} (h : PSt E (σ, nm, T, p)) : PO (edg B E σ nm T p w0) (fun c _ => 1 ≤ c ∧ c ≤ 6) (fun t => PSt E t ∧ p ≤ t.2.2.2) := by
  obtain ⟨hP, hd, hT, hp⟩ := h
  dsimp only at hP hd hT hp
  have b0 := ms_0 hP.1
  unfold edg
  by_cases c1 : σ 1 = 40
  · rw [if_pos c1]; exact lit6 (by decide)
  rw [if_neg c1]
  by_cases c2 : tK B E p ≠ 1
  · rw [if_pos c2]; exact lit6 (by decide)
  rw [if_neg c2]
  by_cases c3 : nmZ nm (tW B E p) (σ 0).toNat = -1
  · rw [if_pos c3]; exact lit6 (by decide)
  rw [if_neg c3]
  by_cases c4 : tK B E (tE B E p) ≠ 1
  · rw [if_pos c4]; exact lit6 (by decide)
  rw [if_neg c4]
  by_cases c5 : nmZ nm (tW B E (tE B E p)) (σ 0).toNat = -1
  · rw [if_pos c5]; exact lit6 (by decide)
  rw [if_neg c5]
  by_cases c6 : nmZ nm (tW B E (tE B E p)) (σ 0).toNat = nmZ nm (tW B E p) (σ 0).toNat
  · rw [if_pos c6]; exact lit6 (by decide)
  rw [if_neg c6]
  by_cases c7 : edgeZ σ (nmZ nm (tW B E p) (σ 0).toNat) (nmZ nm (tW B E (tE B E p)) (σ 0).toNat) (σ 1).toNat ≠ -1
  · rw [if_pos c7]; exact lit6 (by decide)
  rw [if_neg c7]
  by_cases c8 : ¬ nOK B E 1 99 (tE B E (tE B E p))
  · rw [if_pos c8]; have := numC_b (B := B) (E := E) (p := tE B E (tE B E p)); exact ⟨by dsimp only; omega, by dsimp only; omega⟩
  rw [if_neg c8]
  have c9 : nOK B E 1 99 (tE B E (tE B E p)) := Classical.not_not.mp c8
  have b1 := tE_b (B := B) hp
  have b2 := tE_b (B := B) b1.2.1
  have b3 := tE_b (B := B) b2.2.1
  have n1 := nmZ_b nm (tW B E p) (σ 0).toNat
  have n2 := nmZ_b nm (tW B E (tE B E p)) (σ 0).toNat
  refine ⟨⟨addE_PS hP c1 (by omega) (by omega) (fun z => c6 z.symm) (Classical.not_not.mp c7) (by have := c9.2; omega), ?_, hT, b3.2.1⟩, by show p ≤ tE B E (tE B E (tE B E p)); omega⟩
  have e0 : addE σ (nmZ nm (tW B E p) (σ 0).toNat) (nmZ nm (tW B E (tE B E p)) (σ 0).toNat) (tN B E (tE B E (tE B E p))) 0 = σ 0 := by
    unfold addE; rw [updr_ne (by omega), updr_ne (by omega), updr_ne (by omega), updr_ne (by omega)]
  show ND nm (addE σ _ _ _ 0).toNat
  rw [e0]
  exact hd
theorem onc_PO {w : Nat} {lo hi : Int} {σ : Nat → Int} {nm : Nat → Int64} {T p w0 : Nat} (h : PSt E (σ, nm, T, p)) (hw : w = 0 ∧ lo = 2 ∧ hi = 4 ∨ (w = 1 ∨ w = 2) ∧ lo = 0 ∧ hi = 99) : PO (onc B E w lo hi σ nm T p w0) (fun c _ => 1 ≤ c ∧ c ≤ 6) (fun t => PSt E t ∧ p ≤ t.2.2.2) := by
  obtain ⟨hP, hd, hT, hp⟩ := h
  dsimp only at hP hd hT hp
  unfold onc
  by_cases c1 : T.testBit w = true
  · rw [if_pos c1]; exact lit6 (by decide)
  rw [if_neg c1]
  by_cases c2 : ¬ nOK B E lo hi p
  · rw [if_pos c2]; have := numC_b (B := B) (E := E) (p := p); exact ⟨by dsimp only; omega, by dsimp only; omega⟩
  rw [if_neg c2]
  have c9 : nOK B E lo hi p := Classical.not_not.mp c2
  have b1 := tE_b (B := B) hp
  refine ⟨⟨setW_PS hP (by have := c9.2; omega), ?_, ?_, b1.2.1⟩, b1.2.2⟩
  · show ND nm (updr σ (w + 2) (tN B E p) 0).toNat
    rw [updr_ne (by omega)]; exact hd
  · show T ||| 2 ^ w < 8
    have : 2 ^ w < 2 ^ 3 := Nat.pow_lt_pow_right (by decide) (by omega)
    exact Nat.or_lt_two_pow (n := 3) hT this
theorem stb_PO {t : St} (h : PSt E t) (h0 : tK B E t.2.2.2 ≠ 0) : PO (stb B E t) (fun c _ => 1 ≤ c ∧ c ≤ 6) (fun u => PSt E u ∧ t.2.2.2 < u.2.2.2) := by
  have b1 := tE_b (B := B) h.2.2.2
  have b2 := tK_lt (B := B) h.2.2.2 h0
  have b3 := tS_b (B := B) h.2.2.2
  have h2 : PSt E (t.1, t.2.1, t.2.2.1, tE B E t.2.2.2) := ⟨h.1, h.2.1, h.2.2.1, b1.2.1⟩
  have wk : ∀ {r : Except (Int × Nat) St}, PO r (fun c _ => 1 ≤ c ∧ c ≤ 6) (fun u => PSt E u ∧ tE B E t.2.2.2 ≤ u.2.2.2) → PO r (fun c _ => 1 ≤ c ∧ c ≤ 6) (fun u => PSt E u ∧ t.2.2.2 < u.2.2.2) := by
    intro r hr
    cases r with
    | error e => exact hr
    | ok u => exact ⟨hr.1, by have := hr.2; omega⟩
  unfold stb
  split
  · exact wk (vtx_PO h2)
  split
  · exact wk (edg_PO h2)
  split
  · exact wk (onc_PO h2 (by omega))
  split
  · exact wk (onc_PO h2 (by omega))
  split
  · exact wk (onc_PO h2 (by omega))
  · exact lit6 (by decide)
theorem semi_PO {t : St} (h : PSt E t) : PO (semi B E t) (fun c _ => 1 ≤ c ∧ c ≤ 6) (fun u => PSt E u ∧ t.2.2.2 ≤ u.2.2.2) := by
  have b1 := tE_b (B := B) h.2.2.2
  unfold semi
  split
  · exact ⟨⟨h.1, h.2.1, h.2.2.1, b1.2.1⟩, b1.2.2⟩
  · exact lit6 (by decide)
theorem stm_PO {t : St} (h : PSt E t) (h0 : tK B E t.2.2.2 ≠ 0) : PO (stm B E t) (fun c _ => 1 ≤ c ∧ c ≤ 6) (fun u => PSt E u ∧ t.2.2.2 < u.2.2.2) := by
  have h1 := stb_PO h h0
  unfold stm
  cases hr : stb B E t with
  | error e => rw [hr] at h1; exact h1
  | ok u =>
    rw [hr] at h1
    have h2 := semi_PO (B := B) h1.1
    show PO (semi B E u) _ _
    cases hs : semi B E u with
    | error e => rw [hs] at h2; exact h2
    | ok w => rw [hs] at h2; exact ⟨h2.1, by have := h2.2; have := h1.2; omega⟩
theorem txt_PO : ∀ {f : Nat} {t : St}, PSt E t → PO (txt B E f t) (fun c _ => 1 ≤ c ∧ c ≤ 6) (fun u => PSt E u)
  | 0, t, _ => lit6 (by decide)
  | f + 1, t, h => by
    unfold txt
    split
    · exact h
    · rename_i h0
      have h1 := stm_PO h h0
      cases hr : stm B E t with
      | error e => rw [hr] at h1; exact h1
      | ok u => rw [hr] at h1; exact txt_PO h1.1
end PAR
/-! ===== reading a text: the class ===== -/
/-- the class's tokens: consumed up to p, at a depth d -/
def CT (B : Nat → Int) (E d p : Nat) (I : Ii) : Prop := I 101 2 = (E : Int) ∧ I 101 4 = (p : Int) ∧ p ≤ E ∧ I 101 8 = (d : Int) ∧ (∀ i, i < E → I 102 i = B i) ∧ E ≤ 800 ∧ (∀ i, i < E → 0 ≤ B i ∧ B i ≤ 255) ∧ I 101 9 = 0 ∧ I 101 10 = -1 ∧ I 101 11 = -1
/-- the class has told a fault -/
def CE (c : Int) (s d : Nat) (I : Ii) : Prop := I 101 9 = c ∧ I 101 10 = (s : Int) ∧ I 101 11 = (d : Int)
section CPA
variable {I : Ii} {J : Jj} {B : Nat → Int} {E d p : Nat}
theorem CT.step {I' : Ii} {q : Nat} (h : CT B E d p I) (e2 : I' 101 2 = I 101 2) (e8 : I' 101 8 = I 101 8) (e9 : I' 101 9 = I 101 9) (e10 : I' 101 10 = I 101 10) (e11 : I' 101 11 = I 101 11) (eB : I' 102 = I 102) (e4 : I' 101 4 = (q : Int)) (hq : q ≤ E) : CT B E d q I' :=
  ⟨e2.trans h.1, e4, hq, e8.trans h.2.2.2.1, fun i hi => by rw [eB]; exact h.2.2.2.2.1 i hi, h.2.2.2.2.2.1, h.2.2.2.2.2.2.1, e9.trans h.2.2.2.2.2.2.2.1, e10.trans h.2.2.2.2.2.2.2.2.1, e11.trans h.2.2.2.2.2.2.2.2.2⟩
theorem CT.same {I' : Ii} (h : CT B E d p I) (e : I' 101 = I 101) (eB : I' 102 = I 102) : CT B E d p I' :=
  h.step (by rw [e]) (by rw [e]) (by rw [e]) (by rw [e]) (by rw [e]) eB (by rw [e]; exact h.2.1) h.2.2.1
theorem c_advanceT (h : CT B E d p I) : wp_X10_advance I J (fun I' J' => CT B E d (tE B E p) I' ∧ I' 101 3 = (tS B E p : Int) ∧ I' 101 5 = tK B E p ∧ (tK B E p = 1 → J' 101 6 = tW B E p) ∧ (tK B E p = 2 → I' 101 7 = tN B E p ∧ J' 101 6 = J 101 6)) := by
  have h' := h
  obtain ⟨h2, h4, hp, h8, hB, hE, hb, -⟩ := h
  refine fr_X10_advance (c_tok h2 h4 hp hE hB hb) (fun I' J' q s => ⟨?_, q.1, q.2.2.1, q.2.2.2.1, q.2.2.2.2⟩)
  exact CT.step (p := p) (I := I) h' s.i s.i s.i s.i s.i s.k q.2.1 (tE_b hp).2.1
theorem fail_of {c : Int} {s : Nat} (h3 : I 101 3 = (s : Int)) (h8 : I 101 8 = (d : Int)) {Q : Int → Ii → Jj → Prop} (hq : ∀ I', CE c s d I' → Same (WL [(101, 9), (101, 10), (101, 11)]) I J I' J → Q 0 I' J) : wp_X10_fail c I J Q := by
  refine fr_X10_fail (P := fun r I' J' => r = 0 ∧ CE c s d I' ∧ J' = J) ?_ (fun v I' J' h s => ?_)
  · intro I1 e1 I2 e2 I3 e3
    subst e1 e2 e3
    refine ⟨rfl, ⟨?_, ?_, ?_⟩, rfl⟩
    · rw [up2_ne (by omega), up2_ne (by omega), up2_self]
    · rw [up2_ne (by omega), up2_self, up2_ne (by omega)]; exact h3
    · rw [up2_self, up2_ne (by omega), up2_ne (by omega)]; exact h8
  · obtain ⟨rfl, h1, rfl⟩ := h
    exact hq I' h1 s
theorem takes_of {k : Int} (h : CT B E d p I) (hk : 0 ≤ k ∧ k ≤ 6) {Q : Int → Ii → Jj → Prop} (h1 : tK B E p = k → ∀ I' J', CT B E d (tE B E p) I' → I' 101 3 = (tS B E p : Int) → (k = 1 → J' 101 6 = tW B E p) → Same W_X10_takes I J I' J' → Q 1 I' J') (h0 : tK B E p ≠ k → ∀ I' J', CE 1 (tS B E p) d I' → Same W_X10_takes I J I' J' → Q 0 I' J') : wp_X10_takes k I J Q := by
  refine fr_X10_takes (P := fun r I' J' => (tK B E p = k ∧ r = 1 ∧ CT B E d (tE B E p) I' ∧ I' 101 3 = (tS B E p : Int) ∧ (k = 1 → J' 101 6 = tW B E p)) ∨ (tK B E p ≠ k ∧ r = 0 ∧ CE 1 (tS B E p) d I')) ?_ (fun v I' J' h s => ?_)
  · unfold wp_X10_takes
    have kb := tK_b (B := B) (E := E) (p := p)
    refine fr_X10_advance (c_advanceT h) (fun I1 J1 q _ => ?_)
    obtain ⟨q1, q2, q3, q4, q5⟩ := q
    rw [q3]
    refine ⟨rgK (by omega), rgK (by omega), fun c => Or.inl ⟨c, rfl, q1, q2, fun z => q4 (by omega)⟩, fun c => fail_of q2 q1.2.2.2.1 (fun I' hE _ => ⟨fun _ => Or.inr ⟨c, rfl, hE⟩, fun z => absurd rfl z⟩)⟩
  · rcases h with ⟨a, rfl, b, b2, b3⟩ | ⟨a, rfl, b⟩
    · exact h1 a I' J' b b2 b3 s
    · exact h0 a I' J' b s
theorem takesN_of {lo hi : Int} (h : CT B E d p I) (hl : 0 ≤ lo ∧ lo ≤ 999 ∧ 0 ≤ hi ∧ hi ≤ 999) {Q : Int → Ii → Jj → Prop} (h1 : nOK B E lo hi p → ∀ I' J', CT B E d (tE B E p) I' → I' 101 7 = tN B E p → Same W_X10_takesNumber I J I' J' → J' 101 6 = J 101 6 → Q 1 I' J') (h0 : ¬ nOK B E lo hi p → ∀ I' J', CE (numC B E p) (tS B E p) d I' → Same W_X10_takesNumber I J I' J' → Q 0 I' J') : wp_X10_takesNumber lo hi I J Q := by
  refine fr_X10_takesNumber (P := fun r I' J' => (nOK B E lo hi p ∧ r = 1 ∧ CT B E d (tE B E p) I' ∧ I' 101 7 = tN B E p ∧ J' 101 6 = J 101 6) ∨ (¬ nOK B E lo hi p ∧ r = 0 ∧ CE (numC B E p) (tS B E p) d I')) ?_ (fun v I' J' h s => ?_)
  · unfold wp_X10_takesNumber
    have kb := tK_b (B := B) (E := E) (p := p)
    refine fr_X10_advance (c_advanceT h) (fun I1 J1 q _ => ?_)
    obtain ⟨q1, q2, q3, q4, q5⟩ := q
    rw [q3]
    have bad : ∀ c : Int, c = numC B E p → ¬ nOK B E lo hi p → wp_X10_fail c I1 J1 (fun r I' J' => r = 0 ∧ ((nOK B E lo hi p ∧ r = 1 ∧ CT B E d (tE B E p) I' ∧ I' 101 7 = tN B E p ∧ J' 101 6 = J 101 6) ∨ (¬ nOK B E lo hi p ∧ r = 0 ∧ CE (numC B E p) (tS B E p) d I'))) := by
      intro c hc hn
      subst hc
      exact fail_of q2 q1.2.2.2.1 (fun I' hE _ => ⟨rfl, Or.inr ⟨hn, rfl, hE⟩⟩)
    refine ⟨rgK (by omega), fun c => ?_, fun c => ?_⟩
    · have nb := tN_b (B := B) h.2.2.1 c
      have e2 : (2 : Int) = numC B E p := by unfold numC; rw [if_pos c]
      have e7 := (q5 c).1
      have go : ¬ nOK B E lo hi p → B_X10_takesNumber_34 lo hi (fun r I' J' => (nOK B E lo hi p ∧ r = 1 ∧ CT B E d (tE B E p) I' ∧ I' 101 7 = tN B E p ∧ J' 101 6 = J 101 6) ∨ (¬ nOK B E lo hi p ∧ r = 0 ∧ CE (numC B E p) (tS B E p) d I')) I1 J1 := fun hn => fr_X10_fail (bad 2 e2 hn) (fun v I' J' hh _ => ⟨fun z => by rw [hh.1] at hh; exact hh.2, fun z => absurd hh.1 z⟩)
      rw [e7]
      refine ⟨rgK (by omega), rgK (by omega), fun c2 => go (fun z => by have := z.2; omega), fun c2 => ⟨rgK (by omega), fun c3 => Or.inl ⟨⟨c, by omega, c3⟩, rfl, q1, e7, (q5 c).2⟩, fun c3 => go (fun z => by have := z.2; omega)⟩⟩
    · have e1 : (1 : Int) = numC B E p := by unfold numC; rw [if_neg c]
      exact fr_X10_fail (bad 1 e1 (fun z => c z.1)) (fun v I' J' hh _ => ⟨Or.inl hh.1, hh.2⟩)
  · rcases h with ⟨a, rfl, b, b2, b3⟩ | ⟨a, rfl, b⟩
    · exact h1 a I' J' b b2 s b3
    · exact h0 a I' J' b s
end CPA
/-! ===== statements: the class ===== -/
/-- the class while it reads a text -/
def CS (B : Nat → Int) (E : Nat) (t : St) (I : Ii) (J : Jj) : Prop := CT B E 0 t.2.2.2 I ∧ RG 210 I J t.1 t.2.1 ∧ I 210 4 = t.1 4 ∧ I 103 0 = (t.2.2.1 : Int)
/-- what the class answers of a statement -/
def CQ (B : Nat → Int) (E : Nat) (x : Except (Int × Nat) St) (r : Int) (I : Ii) (J : Jj) : Prop := PO x (fun c s => r = 0 ∧ CE c s 0 I) (fun u => r = 1 ∧ CS B E u I J)
section CST
variable {I : Ii} {J : Jj} {B : Nat → Int} {E : Nat} {σ : Nat → Int} {nm : Nat → Int64} {T p w0 : Nat}
theorem addV_0 {n : Int} : addV σ n 0 = σ 0 + 1 := by unfold addV; rw [updr_ne (by decide), updr_self]
theorem addV_o {n : Int} {i : Nat} (a : i ≠ 0) (b : i ≠ 105) (c : i ≠ 7 + (σ 0).toNat) (d : i ≠ 35 + (σ 0).toNat) : addV σ n i = σ i := by
  unfold addV; rw [updr_ne b, updr_ne a, updr_ne d, updr_ne c]
theorem addV_w {n : Int} (h : σ 0 < 14) : addV σ n (7 + (σ 0).toNat) = n := by unfold addV; rw [updr_ne (by omega), updr_ne (by omega), updr_ne (by omega), updr_self]
theorem addV_of {w : Int64} {n : Int} (hP : PS σ) (h14 : σ 0 < 14) (hR : RG 210 I J σ nm) {Q : Ii → Jj → Prop} (hq : ∀ I' J', RG 210 I' J' (addV σ n) (updr nm (σ 0).toNat w) → Same (W_X2_addVertex 210) I J I' J' → Q I' J') : wp_X2_addVertex 210 w n I J Q := by
  have b0 := ms_0 hP.1
  have b1 := ms_1 hP.1
  have hn := hR.n
  refine fr_X2_addVertex (P := fun I' J' => RG 210 I' J' (addV σ n) (updr nm (σ 0).toNat w)) ?_ hq
  refine ⟨Or.inr (Or.inl rfl), rgK (by omega), fun c => by omega, fun _ => ⟨by omega, ?_⟩⟩
  intro J3 e3
  refine put_of (n := 14) (i := (σ 0).toNat) rfl (by omega) (by omega) (fun I4 e4 => ?_)
  intro I5 e5 I6 e6
  have k0 : (I 210 0).toNat = (σ 0).toNat := by rw [hn]
  rw [k0] at e3
  have ek : ∀ k, k ≠ 210 → k ≠ 212 → I6 k = I k := fun k a b => by rw [e6, up2_key a, e5, up2_key a, e4, up2_key b]
  have ef : ∀ i, i ≠ 0 → i ≠ 5 → I6 210 i = I 210 i := fun i a b => by rw [e6, up2_ne (by omega), e5, up2_ne (by omega), e4, up2_ne (by omega)]
  have em : (addV σ n 1) = σ 1 := addV_o (by omega) (by omega) (by omega) (by omega)
  have e0 : (addV σ n 0).toNat = (σ 0).toNat + 1 := by rw [addV_0]; omega
  refine ⟨?_, ?_, ?_, ?_, ?_, ?_, fun v hv => ?_, fun v hv => ?_, fun e he => ?_, fun e he => ?_, fun e he => ?_⟩
  · rw [addV_0, e6, up2_self, e5, up2_ne (by omega), e4, up2_ne (by omega), hn]
  · rw [em, ef 1 (by omega) (by omega)]; exact hR.m
  · rw [addV_o (by omega) (by omega) (by omega) (by omega), ef 2 (by omega) (by omega)]; exact hR.q
  · rw [addV_o (by omega) (by omega) (by omega) (by omega), ef 3 (by omega) (by omega)]; exact hR.s
  · have : allW (addV σ n) = allW σ + n := by
      unfold allW
      rw [e0, sm_succ, addV_w h14, sm_cong (g := fun v => σ (7 + v)) (fun k hk => addV_o (by omega) (by omega) (by omega) (by omega))]
    rw [this, e6, up2_ne (by omega), e5, up2_self, e4, up2_ne (by omega), hR.aw]
  · have : allE (addV σ n) = allE σ := by
      unfold allE
      rw [em]
      exact sm_cong (fun k hk => addV_o (by omega) (by omega) (by omega) (by omega))
    rw [this, ef 6 (by omega) (by omega)]; exact hR.ae
  · rw [e0] at hv
    show I6 212 v = _
    rw [e6, up2_ne (by omega), e5, up2_ne (by omega), e4]
    by_cases c : v = (σ 0).toNat
    · rw [c, up2_self, addV_w h14]
    · rw [up2_ne (by omega), addV_o (by omega) (by omega) (by omega) (by omega)]; exact hR.w (by omega)
  · rw [e0] at hv
    show J3 211 v = _
    rw [e3]
    by_cases c : v = (σ 0).toNat
    · rw [c, up2_self, updr_self]
    · rw [up2_ne (by omega), updr_ne c]; exact hR.z (by omega)
  · rw [em] at he
    show I6 213 e = _
    rw [ek 213 (by omega) (by omega), addV_o (by omega) (by omega) (by omega) (by omega)]; exact hR.a he
  · rw [em] at he
    show I6 214 e = _
    rw [ek 214 (by omega) (by omega), addV_o (by omega) (by omega) (by omega) (by omega)]; exact hR.b he
  · rw [em] at he
    show I6 215 e = _
    rw [ek 215 (by omega) (by omega), addV_o (by omega) (by omega) (by omega) (by omega)]; exact hR.h he
theorem addE_1 {a b n : Int} : addE σ a b n 1 = σ 1 + 1 := by unfold addE; rw [updr_self]
theorem addE_o {a b n : Int} {i : Nat} (h : i ≠ 1) (h1 : i ≠ 110 + (σ 1).toNat) (h2 : i ≠ 150 + (σ 1).toNat) (h3 : i ≠ 190 + (σ 1).toNat) : addE σ a b n i = σ i := by
  unfold addE; rw [updr_ne h, updr_ne h3, updr_ne h2, updr_ne h1]
theorem addE_of {a b n : Int} (hP : PS σ) (h40 : σ 1 < 40) (hR : RG 210 I J σ nm) {Q : Ii → Jj → Prop} (hq : ∀ I' J', RG 210 I' J' (addE σ a b n) nm → Same (W_X2_addEdge 210) I J I' J' → Q I' J') : wp_X2_addEdge 210 a b n I J Q := by
  have b0 := ms_0 hP.1
  have b1 := ms_1 hP.1
  have hm := hR.m
  have xa : addE σ a b n (110 + (σ 1).toNat) = a := by unfold addE; rw [updr_ne (by omega), updr_ne (by omega), updr_ne (by omega), updr_self]
  have xb : addE σ a b n (150 + (σ 1).toNat) = b := by unfold addE; rw [updr_ne (by omega), updr_ne (by omega), updr_self]
  have xn : addE σ a b n (190 + (σ 1).toNat) = n := by unfold addE; rw [updr_ne (by omega), updr_self]
  refine fr_X2_addEdge (P := fun I' J' => RG 210 I' J' (addE σ a b n) nm) ?_ hq
  refine ⟨Or.inr (Or.inl rfl), ?_⟩
  refine put_of (n := 40) (i := (σ 1).toNat) rfl (by omega) (by omega) (fun I1 e1 => ?_)
  have q1 : I1 210 1 = σ 1 := by rw [e1, up2_ne (by omega)]; exact hm
  refine put_of (n := 40) (i := (σ 1).toNat) rfl (by omega) (by omega) (fun I2 e2 => ?_)
  have q2 : I2 210 1 = σ 1 := by rw [e2, up2_ne (by omega)]; exact q1
  refine put_of (n := 40) (i := (σ 1).toNat) rfl (by omega) (by omega) (fun I3 e3 => ?_)
  intro I5 e5 I6 e6
  have ek : ∀ k, k ≠ 210 → k ≠ 213 → k ≠ 214 → k ≠ 215 → I6 k = I k := fun k a b c d => by rw [e6, up2_key a, e5, up2_key a, e3, up2_key d, e2, up2_key c, e1, up2_key b]
  have ef : ∀ i, i ≠ 1 → i ≠ 6 → I6 210 i = I 210 i := fun i a b => by rw [e6, up2_ne (by omega), e5, up2_ne (by omega), e3, up2_ne (by omega), e2, up2_ne (by omega), e1, up2_ne (by omega)]
  have en : (addE σ a b n 0) = σ 0 := addE_o (by omega) (by omega) (by omega) (by omega)
  have e0 : (addE σ a b n 1).toNat = (σ 1).toNat + 1 := by rw [addE_1]; omega
  refine ⟨?_, ?_, ?_, ?_, ?_, ?_, fun v hv => ?_, fun v hv => ?_, fun e he => ?_, fun e he => ?_, fun e he => ?_⟩
  · rw [en, ef 0 (by omega) (by omega)]; exact hR.n
  · rw [addE_1, e6, up2_self, e5, up2_ne (by omega), e3, up2_ne (by omega), q2]
  · rw [addE_o (by omega) (by omega) (by omega) (by omega), ef 2 (by omega) (by omega)]; exact hR.q
  · rw [addE_o (by omega) (by omega) (by omega) (by omega), ef 3 (by omega) (by omega)]; exact hR.s
  · have : allW (addE σ a b n) = allW σ := by
      unfold allW
      rw [en]
      exact sm_cong (fun k hk => addE_o (by omega) (by omega) (by omega) (by omega))
    rw [this, ef 5 (by omega) (by omega)]; exact hR.aw
  · have : allE (addE σ a b n) = allE σ + n := by
      unfold allE
      rw [e0, sm_succ, xn, sm_cong (g := fun v => σ (190 + v)) (fun k hk => addE_o (by omega) (by omega) (by omega) (by omega))]
    rw [this, e6, up2_ne (by omega), e5, up2_self, e3, up2_ne (by omega), e2, up2_ne (by omega), e1, up2_ne (by omega), hR.ae]
  · rw [en] at hv
    show I6 212 v = _
    rw [ek 212 (by omega) (by omega) (by omega) (by omega), addE_o (by omega) (by omega) (by omega) (by omega)]; exact hR.w hv
  · rw [en] at hv
    exact hR.z hv
  · rw [e0] at he
    show I6 213 e = _
    rw [e6, up2_ne (by omega), e5, up2_ne (by omega), e3, up2_ne (by omega), e2, up2_ne (by omega), e1]
    by_cases c : e = (σ 1).toNat
    · rw [c, up2_self, xa]
    · rw [up2_ne (by omega), addE_o (by omega) (by omega) (by omega) (by omega)]; exact hR.a (by omega)
  · rw [e0] at he
    show I6 214 e = _
    rw [e6, up2_ne (by omega), e5, up2_ne (by omega), e3, up2_ne (by omega), e2]
    by_cases c : e = (σ 1).toNat
    · rw [c, up2_self, xb]
    · rw [up2_ne (by omega), e1, up2_ne (by omega), addE_o (by omega) (by omega) (by omega) (by omega)]; exact hR.b (by omega)
  · rw [e0] at he
    show I6 215 e = _
    rw [e6, up2_ne (by omega), e5, up2_ne (by omega), e3]
    by_cases c : e = (σ 1).toNat
    · rw [c, up2_self, xn]
    · rw [up2_ne (by omega), e2, up2_ne (by omega), e1, up2_ne (by omega), addE_o (by omega) (by omega) (by omega) (by omega)]; exact hR.h (by omega)
theorem c_readVertex (hS : PSt E (σ, nm, T, p)) (hC : CS B E (σ, nm, T, p) I J) (h3 : I 101 3 = (w0 : Int)) : wp_X9_readVertex 210 I J (CQ B E (vtx B E σ nm T p w0)) := by
  obtain ⟨hP, hd, hT, hp⟩ := hS
  obtain ⟨hT1, hR, h4, h103⟩ := hC
  dsimp only at hP hd hT hp hT1 hR h4 h103
  have b0 := ms_0 hP.1
  have hn := hR.n
  refine ⟨Or.inr (Or.inl rfl), rgK (by omega), fun c => ?_, fun c => ?_⟩
  · unfold CQ vtx
    rw [if_neg (by omega)]
    refine takes_of hT1 (by decide) (fun k1 I2 J2 t2 q2 w2 s2 => ⟨fun _ => ?_, fun z => absurd z (by decide)⟩) (fun k1 I2 J2 t2 _ => ⟨fun z => absurd rfl z, fun _ => ?_⟩)
    · rw [if_neg (by omega), w2 rfl]
      have hR2 := hR.fr s2
      refine fr_X2_vertexNamed (c_vertexNamed (Or.inr (Or.inl rfl)) hP.1 hR2 hd) (fun v hv => ?_)
      have nb := nmZ_b nm (tW B E p) (σ 0).toNat
      subst hv
      refine ⟨rgK (by omega), fun c2 => ?_, fun c2 => ?_⟩
      · rw [if_neg (by omega)]
        refine takesN_of t2 (by decide) (fun k2 I5 J5 t5 n5 s5 _ => ⟨fun _ => ?_, fun z => absurd z (by decide)⟩) (fun k2 I5 J5 t5 _ => ⟨fun z => absurd rfl z, fun _ => ?_⟩)
        · rw [if_neg (Classical.not_not.mpr k2), n5]
          refine addV_of hP (by omega) (hR2.fr s5) (fun I6 J6 r6 s6 => ⟨rfl, t5.same s6.k s6.k, r6, ?_, ?_⟩)
          · show I6 210 4 = addV σ _ 4
            rw [addV_o (by omega) (by omega) (by omega) (by omega), ← h4]
            exact s6.i.trans (s5.i.trans s2.i)
          · show I6 103 0 = (T : Int)
            rw [← h103]
            exact s6.i.trans (s5.i.trans s2.i)
        · rw [if_pos k2]; exact ⟨rfl, t5⟩
      · rw [if_pos c2]
        exact fail_of q2 t2.2.2.2.1 (fun I' hE _ => ⟨Or.inl rfl, rfl, hE⟩)
    · rw [if_pos k1]; exact ⟨rfl, t2⟩
  · unfold CQ vtx
    rw [if_pos (by omega)]
    exact fail_of h3 hT1.2.2.2.1 (fun I' hE _ => ⟨Or.inl rfl, rfl, hE⟩)
theorem c_readEdge (hS : PSt E (σ, nm, T, p)) (hC : CS B E (σ, nm, T, p) I J) (h3 : I 101 3 = (w0 : Int)) : wp_X9_readEdge 210 I J (CQ B E (edg B E σ nm T p w0)) := by
  obtain ⟨hP, hd, hT, hp⟩ := hS
  obtain ⟨hT1, hR, h4, h103⟩ := hC
  dsimp only at hP hd hT hp hT1 hR h4 h103
  have b0 := ms_0 hP.1
  have b1 := ms_1 hP.1
  have hm := hR.m
  have gk : gK 210 := Or.inr (Or.inl rfl)
  refine ⟨gk, rgK (by omega), fun c => ?_, fun c => ?_⟩
  · unfold CQ edg
    rw [if_neg (by omega)]
    refine takes_of hT1 (by decide) (fun k1 I2 J2 t2 q2 w2 s2 => ⟨fun _ => ?_, fun z => absurd z (by decide)⟩) (fun k1 I2 J2 t2 _ => ⟨fun z => absurd rfl z, fun _ => ?_⟩)
    · rw [if_neg (by omega), w2 rfl]
      have hR2 := hR.fr s2
      refine fr_X2_vertexNamed (c_vertexNamed gk hP.1 hR2 hd) (fun v hv => ?_)
      have nb := nmZ_b nm (tW B E p) (σ 0).toNat
      subst hv
      refine ⟨rgK (by omega), fun c2 => ?_, fun c2 => ?_⟩
      · rw [if_neg c2]
        refine takes_of t2 (by decide) (fun k5 I5 J5 t5 q5 w5 s5 => ⟨fun _ => ?_, fun z => absurd z (by decide)⟩) (fun k5 I5 J5 t5 _ => ⟨fun z => absurd rfl z, fun _ => ?_⟩)
        · rw [if_neg (by omega), w5 rfl]
          have hR5 := hR2.fr s5
          refine fr_X2_vertexNamed (c_vertexNamed gk hP.1 hR5 hd) (fun v hv => ?_)
          have nb5 := nmZ_b nm (tW B E (tE B E p)) (σ 0).toNat
          subst hv
          refine ⟨rgK (by omega), fun c5 => ?_, fun c5 => ?_⟩
          · rw [if_pos c5]
            exact fail_of q5 t5.2.2.2.1 (fun I' hE _ => ⟨Or.inl rfl, rfl, hE⟩)
          · rw [if_neg c5]
            refine ⟨rgK (by omega), fun c6 => ?_, fun c6 => ?_⟩
            · rw [if_neg c6]
              refine fr_X2_edgeOf (c_edgeOf gk hP.vs hR5 (by omega) (by omega)) (fun v hv => ?_)
              have eb := edgeZ_b σ (nmZ nm (tW B E p) (σ 0).toNat) (nmZ nm (tW B E (tE B E p)) (σ 0).toNat) (σ 1).toNat
              subst hv
              refine ⟨rgK (by omega), fun c7 => ?_, fun c7 => ?_⟩
              · rw [if_neg (Classical.not_not.mpr c7)]
                refine takesN_of t5 (by decide) (fun k8 I8 J8 t8 n8 s8 _ => ⟨fun _ => ?_, fun z => absurd z (by decide)⟩) (fun k8 I8 J8 t8 _ => ⟨fun z => absurd rfl z, fun _ => ?_⟩)
                · rw [if_neg (Classical.not_not.mpr k8), n8]
                  refine addE_of hP (by omega) (hR5.fr s8) (fun I6 J6 r6 s6 => ⟨rfl, t8.same s6.k s6.k, r6, ?_, ?_⟩)
                  · show I6 210 4 = addE σ _ _ _ 4
                    rw [addE_o (by omega) (by omega) (by omega) (by omega), ← h4]
                    exact s6.i.trans (s8.i.trans (s5.i.trans s2.i))
                  · show I6 103 0 = (T : Int)
                    rw [← h103]
                    exact s6.i.trans (s8.i.trans (s5.i.trans s2.i))
                · rw [if_pos k8]; exact ⟨rfl, t8⟩
              · rw [if_pos c7]
                exact fail_of q5 t5.2.2.2.1 (fun I' hE _ => ⟨Or.inl rfl, rfl, hE⟩)
            · rw [if_pos c6]
              exact fail_of q5 t5.2.2.2.1 (fun I' hE _ => ⟨Or.inl rfl, rfl, hE⟩)
        · rw [if_pos k5]; exact ⟨rfl, t5⟩
      · rw [if_pos c2]
        exact fail_of q2 t2.2.2.2.1 (fun I' hE _ => ⟨Or.inl rfl, rfl, hE⟩)
    · rw [if_pos k1]; exact ⟨rfl, t2⟩
  · unfold CQ edg
    rw [if_pos (by omega)]
    exact fail_of h3 hT1.2.2.2.1 (fun I' hE _ => ⟨Or.inl rfl, rfl, hE⟩)
theorem once_and {w : Nat} (hw : w ≤ 2) : andZ (T : Int) ((2 ^ w : Nat) : Int) = if T.testBit w = true then ((2 ^ w : Nat) : Int) else 0 := by
  have : 2 ^ w < 2 ^ 3 := Nat.pow_lt_pow_right (by decide) (by omega)
  have e : T &&& 2 ^ w = if T.testBit w = true then 2 ^ w else 0 := by
    apply Nat.eq_of_testBit_eq
    intro i
    rw [Nat.testBit_and, Nat.testBit_two_pow]
    by_cases c : w = i
    · subst c
      cases h : T.testBit w <;> simp
    · cases h : T.testBit w <;> simp [c]
  rw [andZ_nat' (by omega), e]
  split <;> rfl
theorem once_of {w : Nat} (hw : w ≤ 2) (hT : T < 8) (hC : CS B E (σ, nm, T, p) I J) (h3 : I 101 3 = (w0 : Int)) {Q : Int → Ii → Jj → Prop} (h1 : ¬ T.testBit w = true → ∀ I', CT B E 0 p I' → RG 210 I' J σ nm → I' 210 4 = σ 4 → I' 103 0 = ((T ||| 2 ^ w : Nat) : Int) → Q 1 I' J) (h0 : T.testBit w = true → ∀ I', CE 4 w0 0 I' → Q 0 I' J) : wp_X9_takesOnce ((2 ^ w : Nat) : Int) I J Q := by
  obtain ⟨hT1, hR, h4, h103⟩ := hC
  dsimp only at hT1 hR h4 h103
  have p8 : 2 ^ w < 2 ^ 3 := Nat.pow_lt_pow_right (by decide) (by omega)
  have pp : 0 < 2 ^ w := Nat.pos_of_ne_zero (by simp)
  unfold wp_X9_takesOnce
  rw [h103, once_and hw]
  by_cases c : T.testBit w = true
  · rw [if_pos c]
    exact ⟨fun z => by omega, fun _ => fail_of h3 hT1.2.2.2.1 (fun I' hE _ => ⟨Or.inl rfl, h0 c I' hE⟩)⟩
  · rw [if_neg c]
    refine ⟨fun _ I1 e1 => h1 c I1 ?_ ?_ ?_ ?_, fun z => absurd rfl z⟩
    · exact hT1.same (by rw [e1, up2_key (by omega)]) (by rw [e1, up2_key (by omega)])
    · exact hR.cong (by rw [e1, up2_key (by omega)]) rfl (by rw [e1, up2_key (by omega)]) (by rw [e1, up2_key (by omega)]) (by rw [e1, up2_key (by omega)]) (by rw [e1, up2_key (by omega)])
    · rw [e1, up2_ne (by omega)]; exact h4
    · rw [e1, up2_self, orZ_nat (by omega) (by omega)]
theorem RG_set {w : Nat} {n : Int} {I' : Ii} (hw : w ≤ 2) (hR : RG 210 I J σ nm) (e : I' = up2 I 210 (w + 2) n) : RG 210 I' J (updr σ (w + 2) n) nm := by
  have ek : ∀ k, k ≠ 210 → I' k = I k := fun k a => by rw [e, up2_key a]
  have ef : ∀ i, i ≠ w + 2 → I' 210 i = I 210 i := fun i a => by rw [e, up2_ne (by omega)]
  have lo : ∀ i, i ≠ w + 2 → updr σ (w + 2) n i = σ i := fun i a => updr_ne a
  have e0 := lo 0 (by omega)
  have e1 := lo 1 (by omega)
  have es : ∀ i, I' 210 i = (if i = w + 2 then n else I 210 i) := fun i => by
    rw [e]
    unfold up2
    by_cases c : i = w + 2
    · rw [if_pos ⟨rfl, c⟩, if_pos c]
    · rw [if_neg (fun z => c z.2), if_neg c]
  refine ⟨by rw [e0, ef 0 (by omega)]; exact hR.n, by rw [e1, ef 1 (by omega)]; exact hR.m, ?_, ?_, ?_, ?_, fun v hv => ?_, fun v hv => ?_, fun e he => ?_, fun e he => ?_, fun e he => ?_⟩
  · rw [es 2]; unfold updr; split
    · rfl
    · exact hR.q
  · rw [es 3]; unfold updr; split
    · rfl
    · exact hR.s
  · rw [ef 5 (by omega), hR.aw]
    unfold allW
    rw [e0]
    exact (sm_cong (fun k _ => lo _ (by omega))).symm
  · rw [ef 6 (by omega), hR.ae]
    unfold allE
    rw [e1]
    exact (sm_cong (fun k _ => lo _ (by omega))).symm
  · rw [e0] at hv
    show I' 212 v = _
    rw [ek 212 (by omega), lo _ (by omega)]; exact hR.w hv
  · rw [e0] at hv
    exact hR.z hv
  · rw [e1] at he
    show I' 213 e = _
    rw [ek 213 (by omega), lo _ (by omega)]; exact hR.a he
  · rw [e1] at he
    show I' 214 e = _
    rw [ek 214 (by omega), lo _ (by omega)]; exact hR.b he
  · rw [e1] at he
    show I' 215 e = _
    rw [ek 215 (by omega), lo _ (by omega)]; exact hR.h he
/-- parts, slack and credit are read alike -/
theorem c_once {w : Nat} {lo hi : Int} (hw : w ≤ 2) (hl : 0 ≤ lo ∧ lo ≤ 999 ∧ 0 ≤ hi ∧ hi ≤ 999) (hS : PSt E (σ, nm, T, p)) (hC : CS B E (σ, nm, T, p) I J) (h3 : I 101 3 = (w0 : Int)) : wp_X9_takesOnce ((2 ^ w : Nat) : Int) I J (fun v1 I1 J1 => (v1 = 0 → CQ B E (onc B E w lo hi σ nm T p w0) 0 I1 J1) ∧ (¬ v1 = 0 → wp_X10_takesNumber lo hi I1 J1 (fun v2 I2 J2 => (¬ v2 = 0 → ∀ I3 : Ii, I3 = up2 I2 210 (w + 2) (I2 101 7) → CQ B E (onc B E w lo hi σ nm T p w0) 1 I3 J2) ∧ (v2 = 0 → CQ B E (onc B E w lo hi σ nm T p w0) 0 I2 J2)))) := by
  obtain ⟨hP, hd, hT, hp⟩ := hS
  dsimp only at hP hd hT hp
  unfold CQ onc
  refine once_of hw hT hC h3 (fun c I1 t1 r1 q4 q103 => ⟨fun z => absurd z (by decide), fun _ => ?_⟩) (fun c I1 e1 => ⟨fun _ => ?_, fun z => absurd rfl z⟩)
  · rw [if_neg c]
    refine takesN_of t1 hl (fun k2 I5 J5 t5 n5 s5 _ => ⟨fun _ I3 e3 => ?_, fun z => absurd z (by decide)⟩) (fun k2 I5 J5 t5 _ => ⟨fun z => absurd rfl z, fun _ => ?_⟩)
    · rw [if_neg (Classical.not_not.mpr k2)]
      rw [n5] at e3
      have ek : ∀ k, k ≠ 210 → I3 k = I5 k := fun k a => by rw [e3, up2_key a]
      refine ⟨rfl, t5.same (ek 101 (by omega)) (ek 102 (by omega)), RG_set hw (r1.fr s5) e3, ?_, ?_⟩
      · show I3 210 4 = updr σ (w + 2) (tN B E p) 4
        have e5 : I5 210 4 = σ 4 := by rw [← q4]; exact s5.i
        rw [e3]
        by_cases c4 : w = 2
        · subst c4; rw [up2_self, updr_self]
        · rw [up2_ne (by omega), updr_ne (by omega)]; exact e5
      · show I3 103 0 = ((T ||| 2 ^ w : Nat) : Int)
        rw [ek 103 (by omega), ← q103]; exact s5.i
    · rw [if_pos k2]; exact ⟨rfl, t5⟩
  · rw [if_pos c]; exact ⟨rfl, e1⟩
theorem isWord_of {w : Int64} {q : Nat} (h5 : I 101 5 = tK B E q) (h6 : tK B E q = 1 → J 101 6 = tW B E q) {Q : Int → Ii → Jj → Prop} (h1 : isW B E q w → Q 1 I J) (h0 : ¬ isW B E q w → Q 0 I J) : wp_X10_isWordL w I J Q := by
  refine ⟨fun c => h1 ?_, fun c => h0 (fun z => c ?_)⟩
  · rw [h5] at c
    exact ⟨c.1, by rw [← h6 c.1]; exact c.2⟩
  · rw [h5]
    exact ⟨z.1, by rw [h6 z.1]; exact z.2⟩
theorem CQ_b {x : Except (Int × Nat) St} {r : Int} (h : CQ B E x r I J) : r = 0 ∨ r = 1 := by
  cases x with
  | error e => exact Or.inl h.1
  | ok u => exact Or.inr h.1
theorem c_statement {t : St} (hS : PSt E t) (h0 : tK B E t.2.2.2 ≠ 0) (hC : CS B E (t.1, t.2.1, t.2.2.1, tE B E t.2.2.2) I J) (h3 : I 101 3 = (tS B E t.2.2.2 : Int)) (h5 : I 101 5 = tK B E t.2.2.2) (h6 : tK B E t.2.2.2 = 1 → J 101 6 = tW B E t.2.2.2) : wp_X9_readStatement 210 I J (CQ B E (stb B E t)) := by
  have b1 := tE_b (B := B) hS.2.2.2
  have hS2 : PSt E (t.1, t.2.1, t.2.2.1, tE B E t.2.2.2) := ⟨hS.1, hS.2.1, hS.2.2.1, b1.2.1⟩
  have gk : gK 210 := Or.inr (Or.inl rfl)
  unfold stb
  refine ⟨gk, isWord_of h5 h6 (fun c => ⟨fun z => absurd z (by decide), fun _ => ?_⟩) (fun c => ⟨fun _ => ?_, fun z => absurd rfl z⟩)⟩
  · rw [if_pos c]
    exact fr_X9_readVertex (c_readVertex hS2 hC h3) (fun v I' J' h _ => ⟨CQ_b h, h⟩)
  rw [if_neg c]
  refine isWord_of h5 h6 (fun c2 => ⟨fun z => absurd z (by decide), fun _ => ?_⟩) (fun c2 => ⟨fun _ => ?_, fun z => absurd rfl z⟩)
  · rw [if_pos c2]
    exact fr_X9_readEdge (c_readEdge hS2 hC h3) (fun v I' J' h _ => ⟨CQ_b h, h⟩)
  rw [if_neg c2]
  refine isWord_of h5 h6 (fun c3 => ⟨fun z => absurd z (by decide), fun _ => ?_⟩) (fun c3 => ⟨fun _ => ?_, fun z => absurd rfl z⟩)
  · rw [if_pos c3]
    exact fr_X9_readParts (⟨gk, c_once (w := 0) (lo := 2) (hi := 4) (by decide) (by decide) hS2 hC h3⟩) (fun v I' J' h _ => ⟨CQ_b h, h⟩)
  rw [if_neg c3]
  refine isWord_of h5 h6 (fun c4 => ⟨fun z => absurd z (by decide), fun _ => ?_⟩) (fun c4 => ⟨fun _ => ?_, fun z => absurd rfl z⟩)
  · rw [if_pos c4]
    exact fr_X9_readSlack (⟨gk, c_once (w := 1) (lo := 0) (hi := 99) (by decide) (by decide) hS2 hC h3⟩) (fun v I' J' h _ => ⟨CQ_b h, h⟩)
  rw [if_neg c4]
  refine isWord_of h5 h6 (fun c5 => ⟨fun z => absurd z (by decide), fun _ => ?_⟩) (fun c5 => ⟨fun _ => ?_, fun z => absurd rfl z⟩)
  · rw [if_pos c5]
    exact fr_X9_readCredit (⟨gk, c_once (w := 2) (lo := 0) (hi := 99) (by decide) (by decide) hS2 hC h3⟩) (fun v I' J' h _ => ⟨CQ_b h, h⟩)
  rw [if_neg c5]
  exact fail_of h3 hC.1.2.2.2.1 (fun I' hE _ => ⟨Or.inl rfl, rfl, hE⟩)
end CST
/-! ===== a whole text: the class ===== -/
theorem txt_0 {B : Nat → Int} {E f : Nat} {t : St} (h : tK B E t.2.2.2 = 0) : txt B E (f + 1) t = .ok t := by
  show (if tK B E t.2.2.2 = 0 then Except.ok t else _) = _
  rw [if_pos h]
theorem txt_e {B : Nat → Int} {E f : Nat} {t : St} {e : Int × Nat} (h : tK B E t.2.2.2 ≠ 0) (h2 : stm B E t = .error e) : txt B E (f + 1) t = .error e := by
  unfold txt
  rw [if_neg h, h2]
theorem txt_s {B : Nat → Int} {E f : Nat} {t t' : St} (h : tK B E t.2.2.2 ≠ 0) (h2 : stm B E t = .ok t') : txt B E (f + 1) t = txt B E f t' := by
  show (if tK B E t.2.2.2 = 0 then _ else _) = _
  rw [if_neg h, h2]
/-- what the class answers of a text -/
def CQ2 (x : Except (Int × Nat) St) (r : Int) (I : Ii) (J : Jj) : Prop := PO x (fun c s => r = 0 ∧ CE c s 0 I) (fun u => r = 1 ∧ RG 210 I J u.1 u.2.1 ∧ I 210 4 = u.1 4 ∧ I 101 9 = 0 ∧ I 101 10 = -1 ∧ I 101 11 = -1)
section CRD
variable {I : Ii} {J : Jj} {B : Nat → Int} {E : Nat}
theorem c_readL : ∀ (f : Nat) (t : St) (c : Nat) (I : Ii) (J : Jj), PSt E t → CS B E t I J → E + 1 ≤ t.2.2.2 + f → c ≤ t.2.2.2 → L_X9_read_11 210 (CQ2 (txt B E f t)) f (c : Int) I J
  | 0, t, c, I, J, hS, hC, h1, h2 => by have := hS.2.2.2; omega
  | f + 1, t, c, I, J, hS, hC, h1, h2 => by
    have hE := hC.1.2.2.2.2.2.1
    have hp := hS.2.2.2
    have kb := tK_b (B := B) (E := E) (p := t.2.2.2)
    refine ls_X9_read_11 ?_
    unfold Lb_X9_read_11
    refine ⟨rgK (by omega), fun d => by omega, fun _ => fr_X10_advance (c_advanceT hC.1) (fun I4 J4 q s4 => ?_)⟩
    obtain ⟨q1, q2, q3, q4, q5⟩ := q
    have hC4 : CS B E (t.1, t.2.1, t.2.2.1, tE B E t.2.2.2) I4 J4 := ⟨q1, hC.2.1.fr s4, by show I4 210 4 = t.1 4; rw [← hC.2.2.1]; exact s4.i, by show I4 103 0 = (t.2.2.1 : Int); rw [← hC.2.2.2]; exact s4.i⟩
    refine ⟨rgK (by omega), fun d => ?_, fun d => ?_⟩
    · rw [q3] at d
      have hP := stb_PO hS d
      refine fr_X9_readStatement (c_statement hS d hC4 q2 q3 q4) (fun v I6 J6 h6 s6 => ?_)
      cases hx : stb B E t with
      | error e =>
        rw [hx] at h6
        have e1 : stm B E t = .error e := by unfold stm; rw [hx]
        rw [txt_e d e1]
        exact ⟨fun _ => ⟨rfl, h6.2⟩, fun z => absurd h6.1 z⟩
      | ok u =>
        rw [hx] at h6 hP
        have e1 : stm B E t = semi B E u := by unfold stm; rw [hx]
        obtain ⟨hv, hC6⟩ : v = 1 ∧ CS B E u I6 J6 := h6
        refine ⟨fun z => by omega, fun _ => takes_of hC6.1 (by decide) (fun k7 I7 J7 t7 q7 _ s7 => ⟨fun _ => ?_, fun z => absurd z (by decide)⟩) (fun k7 I7 J7 t7 _ => ⟨fun z => absurd rfl z, fun _ => ?_⟩)⟩
        · have e2 : semi B E u = .ok (u.1, u.2.1, u.2.2.1, tE B E u.2.2.2) := by unfold semi; rw [if_pos k7]
          rw [e2] at e1
          rw [txt_s d e1]
          have b1 := tE_b (B := B) hP.1.2.2.2
          have hp2 := hP.2
          have := c_readL f (u.1, u.2.1, u.2.2.1, tE B E u.2.2.2) (c + 1) I7 J7 ⟨hP.1.1, hP.1.2.1, hP.1.2.2.1, b1.2.1⟩ ⟨t7, hC6.2.1.fr s7, by show I7 210 4 = u.1 4; rw [← hC6.2.2.1]; exact s7.i, by show I7 103 0 = (u.2.2.1 : Int); rw [← hC6.2.2.2]; exact s7.i⟩ (by show E + 1 ≤ tE B E u.2.2.2 + f; omega) (by show c + 1 ≤ tE B E u.2.2.2; omega)
          rwa [show (((c + 1 : Nat)) : Int) = (c : Int) + 1 by omega] at this
        · have e2 : semi B E u = .error (1, tS B E u.2.2.2) := by unfold semi; rw [if_neg k7]
          rw [e2] at e1
          rw [txt_e d e1]
          exact ⟨rfl, t7⟩
    · rw [q3] at d
      rw [txt_0 d]
      exact ⟨rfl, hC4.2.1, hC4.2.2.1, q1.2.2.2.2.2.2.2⟩
/-- an empty row -/
def Z0 (σ : Nat → Int) : Prop := ∀ i, i < 350 → σ i = if i = 2 then 2 else 0
theorem Z0.PS {σ : Nat → Int} (h : Z0 σ) : PS σ := by
  have z : ∀ i, i < 350 → i ≠ 2 → σ i = 0 := fun i a b => by rw [h i a, if_neg b]
  have z2 : σ 2 = 2 := by rw [h 2 (by decide), if_pos rfl]
  refine ⟨⟨by rw [z 0 (by omega) (by omega)]; omega, by rw [z 1 (by omega) (by omega)]; omega, by rw [z2]; omega, by rw [z 3 (by omega) (by omega)]; omega, by rw [z 4 (by omega) (by omega)]; omega, by rw [z 5 (by omega) (by omega)]; omega, by rw [z 6 (by omega) (by omega)]; omega, fun v hv => by rw [z (7 + v) (by omega) (by omega)]; omega, fun v hv => by rw [z (21 + v) (by omega) (by omega)]; omega, fun v hv => by rw [z (35 + v) (by omega) (by omega)]; omega, fun v hv => by rw [z (105 + v) (by omega) (by omega)]; omega, fun v hv => by rw [z (110 + v) (by omega) (by omega)]; omega, fun v hv => by rw [z (150 + v) (by omega) (by omega)]; omega, fun v hv => by rw [z (190 + v) (by omega) (by omega)]; omega, fun v hv => by rw [z (230 + v) (by omega) (by omega)]; omega⟩,
    ⟨fun e he => by rw [z 1 (by omega) (by omega)] at he; exact absurd he (Nat.not_lt_zero _), fun e f he _ => by rw [z 1 (by omega) (by omega)] at he; exact absurd he (Nat.not_lt_zero _)⟩, z 5 (by omega) (by omega), z 6 (by omega) (by omega), by rw [z 105 (by omega) (by omega), z 0 (by omega) (by omega)], fun v hv => z (21 + v) (by omega) (by omega), fun v hv => by rw [z 0 (by omega) (by omega)] at hv; exact absurd hv (Nat.not_lt_zero _)⟩
theorem Z0.PSt {σ : Nat → Int} {nm : Nat → Int64} (h : Z0 σ) : PSt E (σ, nm, 0, 0) := by
  refine ⟨h.PS, ?_, Nat.succ_pos 7, Nat.zero_le _⟩
  show ND nm (σ 0).toNat
  rw [h 0 (by decide)]
  intro u v hu
  exact absurd hu (Nat.not_lt_zero _)
theorem c_read {σ : Nat → Int} {nm : Nat → Int64} (hz : Z0 σ) (hC : CT B E 0 0 I) : wp_X9_read 210 I J (CQ2 (txt B E (E + 1) (σ, nm, 0, 0))) := by
  have gk : gK 210 := Or.inr (Or.inl rfl)
  refine ⟨gk, gk, ?_⟩
  intro I1 e1 I2 e2 I3 e3 I4 e4 I5 e5 I6 e6 I7 e7 I8 e8
  have ek : ∀ k, k ≠ 210 → k ≠ 103 → I8 k = I k := fun k a b => by rw [e8, up2_key b, e7, up2_key a, e6, up2_key a, e5, up2_key a, e4, up2_key a, e3, up2_key a, e2, up2_key a, e1, up2_key a]
  have z : ∀ i, i < 350 → i ≠ 2 → σ i = 0 := fun i a b => by rw [hz i a, if_neg b]
  have z0 := z 0 (by decide) (by decide)
  have z1 := z 1 (by decide) (by decide)
  have ef : ∀ i, I8 210 i = I7 210 i := fun i => by rw [e8, up2_ne (by omega)]
  refine ⟨E + 1, c_readL (E + 1) (σ, nm, 0, 0) 0 I8 J hz.PSt ⟨hC.same (ek 101 (by omega) (by omega)) (ek 102 (by omega) (by omega)), ⟨?_, ?_, ?_, ?_, ?_, ?_, fun v hv => ?_, fun v hv => ?_, fun v hv => ?_, fun v hv => ?_, fun v hv => ?_⟩, ?_, ?_⟩ (by show E + 1 ≤ 0 + (E + 1); omega) (Nat.le_refl _)⟩
  · rw [ef, e7, up2_ne (by omega), e6, up2_ne (by omega), e5, up2_ne (by omega), e4, up2_ne (by omega), e3, up2_ne (by omega), e2, up2_ne (by omega), e1, up2_self]; exact z0.symm
  · rw [ef, e7, up2_ne (by omega), e6, up2_ne (by omega), e5, up2_ne (by omega), e4, up2_ne (by omega), e3, up2_ne (by omega), e2, up2_self]; exact z1.symm
  · rw [ef, e7, up2_ne (by omega), e6, up2_ne (by omega), e5, up2_ne (by omega), e4, up2_ne (by omega), e3, up2_self]; exact (hz 2 (by decide)).symm
  · rw [ef, e7, up2_ne (by omega), e6, up2_ne (by omega), e5, up2_ne (by omega), e4, up2_self]; exact (z 3 (by decide) (by decide)).symm
  · rw [ef, e7, up2_ne (by omega), e6, up2_self]; unfold allW; dsimp only; rw [z0]; rfl
  · rw [ef, e7, up2_self]; unfold allE; dsimp only; rw [z1]; rfl
  · have hv' : v < (σ 0).toNat := hv
    rw [z0] at hv'; exact absurd hv' (Nat.not_lt_zero _)
  · have hv' : v < (σ 0).toNat := hv
    rw [z0] at hv'; exact absurd hv' (Nat.not_lt_zero _)
  · have hv' : v < (σ 1).toNat := hv
    rw [z1] at hv'; exact absurd hv' (Nat.not_lt_zero _)
  · have hv' : v < (σ 1).toNat := hv
    rw [z1] at hv'; exact absurd hv' (Nat.not_lt_zero _)
  · have hv' : v < (σ 1).toNat := hv
    rw [z1] at hv'; exact absurd hv' (Nat.not_lt_zero _)
  · show I8 210 4 = σ 4
    rw [ef, e7, up2_ne (by omega), e6, up2_ne (by omega), e5, up2_self]; exact (z 4 (by decide) (by decide)).symm
  · show I8 103 0 = ((0 : Nat) : Int)
    rw [e8, up2_self]; rfl
theorem c_start {σ : Nat → Int} {nm : Nat → Int64} (hP : PS σ) (hR : RG 200 I J σ nm) (h4 : I 200 4 = σ 4) : wp_X8_start 300 200 I J (fun I' _ => RS 300 I' σ) := by
  obtain ⟨hM, hE, h5, h6, hnn, hp, hg⟩ := hP
  have b0 := ms_0 hM
  refine ⟨Or.inl rfl, Or.inl rfl, ?_⟩
  intro I1 e1 I2 e2 I3 e3
  refine fill_of (n := 14) rfl (fun I4 e4 => ?_)
  have q0 : I4 200 0 = σ 0 := by rw [e4, upr_ne (by omega), e3, up2_ne (by omega), e2, up2_ne (by omega), e1, up2_ne (by omega)]; exact hR.n
  refine put_of (n := 5) (i := 0) rfl rfl (by omega) (fun I5 e5 => ?_)
  rw [q0] at e5
  refine ⟨15, loopN (L := fun m (t : Ii) v => L_X8_start_40 300 200 _ m v t J) (fun n t => (∀ k, k ≠ 303 → t k = I5 k) ∧ ∀ v, v < n → t 303 v = (v : Int)) (N := (σ 0).toNat) (fun m n t hv ht kk => ?_) 15 0 I5 (by omega) (by omega) ⟨fun _ _ => rfl, fun v h => by omega⟩⟩
  obtain ⟨t1, t2⟩ := ht
  show L_X8_start_40 300 200 _ (m + 1) (n : Int) t J
  refine ls_X8_start_40 ?_
  have k5 : ∀ i, I5 200 i = I 200 i := fun i => by rw [e5, up2_ne (by omega), e4, upr_ne (by omega), e3, up2_ne (by omega), e2, up2_ne (by omega), e1, up2_ne (by omega)]
  have tn : t 200 0 = σ 0 := by rw [t1 200 (by omega), k5]; exact hR.n
  generalize hr : L_X8_start_40 300 200 _ m = r at kk ⊢
  unfold Lb_X8_start_40
  rw [tn]
  refine ⟨rgK (by omega), rgK (by omega), fun d => ?_, fun d => put_of (n := 70) (i := n) rfl rfl (by omega) (fun I8 e8 => kk (by omega) I8 ⟨fun k hk => ?_, fun v hv' => ?_⟩)⟩
  · have ke : kev σ = 0 := by unfold kev; rw [h6]; rfl
    refine ⟨?_, ?_, ?_, fun v hv' => ?_, fun l hl => ?_, fun l v hl hv' => ?_, fun i w hi => ?_⟩
    · rw [t1 300 (by omega), h5, e5, up2_ne (by omega), e4, upr_ne (by omega), e3, up2_ne (by omega), e2, up2_ne (by omega), e1, up2_self]
    · rw [t1 300 (by omega), e5, up2_ne (by omega), e4, upr_ne (by omega), e3, up2_ne (by omega), e2, up2_self, e1, up2_ne (by omega)]; exact h4
    · rw [t1 300 (by omega), ke, e5, up2_ne (by omega), e4, upr_ne (by omega), e3, up2_self]
    · show t 301 v = _
      rw [t1 301 (by omega), hp v (by omega), e5, up2_ne (by omega), e4, upr_self, filR_lt (by omega)]
    · have : l = 0 := by omega
      subst this
      show t 302 0 = σ 105
      rw [t1 302 (by omega), hnn, e5, up2_self]
    · have : l = 0 := by omega
      subst this
      show t 303 (14 * 0 + v) = σ (35 + 14 * 0 + v)
      rw [show 14 * 0 + v = v by omega, show 35 + 14 * 0 + v = 35 + v by omega, t2 v (by omega), hg v hv']
    · rw [ke] at hi; exact absurd hi (Nat.not_lt_zero _)
  · show I8 k = _
    rw [e8, up2_key (by omega)]; exact t1 k hk
  · show I8 303 v = _
    rw [e8]
    by_cases c : v = n
    · rw [c, up2_self]
    · rw [up2_ne (by omega)]; exact t2 v (by omega)
/-- the tokens begin -/
theorem c_begin (h1 : I 101 1 = (E : Int)) (hB : ∀ i, i < E → I 102 i = B i) (hE : E ≤ 800) (hb : ∀ i, i < E → 0 ≤ B i ∧ B i ≤ 255) : wp_X10_begin I J (fun I' J' => CT B E 0 0 I' ∧ I' 101 1 = 0 ∧ J' = J) := by
  intro I1 e1 I2 e2 I3 e3 I4 e4 I5 e5 I6 e6 I7 e7 I8 e8 I9 e9
  have r9 : I9 101 9 = 0 := by rw [e9, up2_ne (by omega), e8, up2_ne (by omega), e7, up2_self]
  have r10 : I9 101 10 = -1 := by rw [e9, up2_ne (by omega), e8, up2_self]
  have r11 : I9 101 11 = -1 := by rw [e9, up2_self]
  refine ⟨⟨?_, ?_, Nat.zero_le _, ?_, fun i hi => ?_, hE, hb, r9, r10, r11⟩, ?_, rfl⟩
  · rw [e9, up2_ne (by omega), e8, up2_ne (by omega), e7, up2_ne (by omega), e6, up2_ne (by omega), e5, up2_ne (by omega), e4, up2_ne (by omega), e3, up2_ne (by omega), e2, up2_ne (by omega), e1, up2_self]; exact h1
  · rw [e9, up2_ne (by omega), e8, up2_ne (by omega), e7, up2_ne (by omega), e6, up2_ne (by omega), e5, up2_ne (by omega), e4, up2_self]; rfl
  · rw [e9, up2_ne (by omega), e8, up2_ne (by omega), e7, up2_ne (by omega), e6, up2_self]; rfl
  · rw [e9, up2_ne (by omega), e8, up2_ne (by omega), e7, up2_ne (by omega), e6, up2_ne (by omega), e5, up2_ne (by omega), e4, up2_ne (by omega), e3, up2_ne (by omega), e2, up2_ne (by omega), e1, up2_ne (by omega)]; exact hB i hi
  · rw [e9, up2_ne (by omega), e8, up2_ne (by omega), e7, up2_ne (by omega), e6, up2_ne (by omega), e5, up2_ne (by omega), e4, up2_ne (by omega), e3, up2_ne (by omega), e2, up2_self]
theorem c_readText {σ : Nat → Int} {nm : Nat → Int64} {u : St} (hz : Z0 σ) (h1 : I 101 1 = (E : Int)) (hB : ∀ i, i < E → I 102 i = B i) (hE : E ≤ 800) (hb : ∀ i, i < E → 0 ≤ B i ∧ B i ≤ 255) (hx : txt B E (E + 1) (σ, nm, 0, 0) = .ok u) : wp_X11_readText I J (fun r I' J' => r = u.1 0 ∧ RG 200 I' J' u.1 u.2.1 ∧ RS 300 I' u.1 ∧ I' 111 2 = 0 ∧ I' 101 1 = 0 ∧ I' 101 9 = 0 ∧ I' 101 10 = -1 ∧ I' 101 11 = -1) := by
  have hP := txt_PO (B := B) (E := E) (f := E + 1) (hz.PSt (nm := nm))
  rw [hx] at hP
  obtain ⟨hP1, hd, -, -⟩ : PSt E u := hP
  refine fr_X10_begin (c_begin h1 hB hE hb) (fun I1 J1 q1 s1 => ?_)
  obtain ⟨q1, p1, -⟩ := q1
  refine fr_X9_read (c_read (nm := nm) hz q1) (fun v2 I2 J2 h2 s2 => ?_)
  rw [hx] at h2
  obtain ⟨hv, hR, h4, n9, n10, n11⟩ : v2 = 1 ∧ RG 210 I2 J2 u.1 u.2.1 ∧ I2 210 4 = u.1 4 ∧ I2 101 9 = 0 ∧ I2 101 10 = -1 ∧ I2 101 11 = -1 := h2
  refine ⟨fun _ => ?_, fun z => by omega⟩
  refine fr_X2_copyFrom (c_copyG (Or.inl rfl) (Or.inr (Or.inl rfl)) (by omega) hP1.1 hR) (fun I3 J3 h3 s3 => ?_)
  refine fr_X8_start (c_start hP1 h3.1 (h3.2.trans h4)) (fun I4 J4 h4' s4 => ?_)
  intro I5 e5
  have k5 : ∀ k, k ≠ 111 → I5 k = I4 k := fun k a => by rw [e5, up2_key a]
  have hR4 := h3.1.fr s4
  refine ⟨?_, hR4.cong (k5 200 (by omega)) rfl (k5 202 (by omega)) (k5 203 (by omega)) (k5 204 (by omega)) (k5 205 (by omega)), h4'.cong (k5 300 (by omega)) (k5 301 (by omega)) (k5 302 (by omega)) (k5 303 (by omega)) (k5 304 (by omega)), by rw [e5, up2_self], ?_, ?_, ?_, ?_⟩
  · rw [k5 200 (by omega)]; exact hR4.n
  · rw [k5 101 (by omega), ← p1]; exact s4.i.trans (s3.i.trans s2.i)
  · rw [k5 101 (by omega), ← n9]; exact s4.i.trans s3.i
  · rw [k5 101 (by omega), ← n10]; exact s4.i.trans s3.i
  · rw [k5 101 (by omega), ← n11]; exact s4.i.trans s3.i
end CRD
/-! ===== reading a text: the reference ===== -/
/-- the reference's tokens: the one behind p is looked at; no fault yet -/
def LX (B : Nat → Int) (E d p : Nat) (I : Ii) (J : Jj) : Prop := I 0 8 = 0 ∧ I 0 9 = -1 ∧ I 0 10 = -1 ∧ LK B E p I J ∧ I 0 3 = (E : Int) ∧ I 1 = B ∧ I 0 43 = (d : Int) ∧ p ≤ E ∧ E ≤ 800 ∧ (∀ i, i < E → 0 ≤ B i ∧ B i ≤ 255)
/-- the reference has told a fault -/
def RF (c : Int) (s d : Nat) (I : Ii) : Prop := (1 ≤ c ∧ c ≤ 6) ∧ I 0 8 = c ∧ I 0 9 = (s : Int) ∧ I 0 10 = (d : Int)
section RPA
variable {I : Ii} {J : Jj} {B : Nat → Int} {E d p : Nat}
theorem soK_1 {k : Int} (h : 0 ≤ k ∧ k ≤ 6) : soK k = 1 ↔ k = 1 := by unfold soK; (repeat' split) <;> omega
theorem soK_2 {k : Int} (h : 0 ≤ k ∧ k ≤ 6) : soK k = 2 ↔ k = 2 := by unfold soK; (repeat' split) <;> omega
theorem soK_0 {k : Int} (h : 0 ≤ k ∧ k ≤ 6) : soK k = 0 ↔ k = 0 := by unfold soK; (repeat' split) <;> omega
theorem soK_3 {k : Int} (h : 0 ≤ k ∧ k ≤ 6) : soK k = 3 ↔ (k = 3 ∨ k = 4 ∨ k = 5) := by unfold soK; (repeat' split) <;> omega
theorem soK_4 {k : Int} (h : 0 ≤ k ∧ k ≤ 6) : soK k = 4 ↔ k = 6 := by unfold soK; (repeat' split) <;> omega
theorem soK_b (k : Int) : 0 ≤ soK k ∧ soK k ≤ 4 := by unfold soK; (repeat' split) <;> omega
end RPA
/-! ===== statements: the reference ===== -/
theorem Tl_up {n : Nat} {f : Nat → Int} {i : Nat} {v : Int} (h : Tl n f) (hi : i < n) : Tl n (updr f i v) := fun j hj => by rw [updr_ne (by omega)]; exact h j hj
theorem TlJ_up {n : Nat} {f : Nat → Int64} {i : Nat} {v : Int64} (h : TlJ n f) (hi : i < n) : TlJ n (updr f i v) := fun j hj => by rw [updr_ne (by omega)]; exact h j hj
/-- the reference while it reads a text -/
def RT (B : Nat → Int) (E : Nat) (t : St) (I : Ii) (J : Jj) : Prop := LX B E 0 t.2.2.2 I J ∧ I 2 = t.1 ∧ J 7 = t.2.1 ∧ I 0 25 = ((4 * t.2.2.1 : Nat) : Int) ∧ Tl 350 t.1 ∧ TlJ 14 t.2.1
/-- what the reference has behind a statement -/
def RQ (B : Nat → Int) (E : Nat) (x : Except (Int × Nat) St) (I : Ii) (J : Jj) : Prop := PO x (fun c s => RF c s 0 I ∧ Tl 350 (I 2) ∧ TlJ 14 (J 7)) (fun u => RT B E u I J)
section RST
variable {I : Ii} {J : Jj} {B : Nat → Int} {E d p : Nat}
theorem LX.cong {I' : Ii} {J' : Jj} (h : LX B E d p I J) (e0 : ∀ i, i ≠ 0 → i < 11 → I' 0 i = I 0 i) (e43 : I' 0 43 = I 0 43) (e1 : I' 1 = I 1) (e14 : J' 0 14 = J 0 14) : LX B E d p I' J' := by
  obtain ⟨h8, h9, h10, hL, h3, hB, h43, hp, hE, hb⟩ := h
  refine ⟨(e0 8 (by omega) (by omega)).trans h8, (e0 9 (by omega) (by omega)).trans h9, (e0 10 (by omega) (by omega)).trans h10, ?_, (e0 3 (by omega) (by omega)).trans h3, e1.trans hB, e43.trans h43, hp, hE, hb⟩
  unfold LK
  rw [e0 5 (by omega) (by omega), e0 4 (by omega) (by omega), e0 6 (by omega) (by omega), e0 7 (by omega) (by omega), e14]
  exact hL
theorem sort1 (h : LX B E d p I J) : rg (I 0 6) ∧ (I 0 6 = 1 ↔ tK B E p = 1) ∧ (I 0 6 = 0 ↔ tK B E p = 0) ∧ (tK B E p = 1 → J 0 14 = tW B E p) := by
  have hL := h.2.2.2.1
  have kb := tK_b (B := B) (E := E) (p := p)
  have h6 := hL.2.2.1
  have sb := soK_b (tK B E p)
  rw [h6]
  exact ⟨rgK (by omega), soK_1 kb, soK_0 kb, hL.2.2.2.1⟩
variable {σ : Nat → Int} {nm : Nat → Int64} {T : Nat}
end RST
/-! ===== reading a script: the class ===== -/
/-- the class's script -/
def CC (K A C : Nat → Int) (n w d : Nat) (O : Nat → Nat) (I : Ii) : Prop := I 106 4 = (n : Int) ∧ I 106 5 = (w : Int) ∧ (∀ i, i < n → I 107 i = K i ∧ I 108 i = A i ∧ I 109 i = C i) ∧ ∀ i, i < d → I 105 i = ((O i : Nat) : Int)
section CSC
variable {I : Ii} {J : Jj} {B : Nat → Int} {E : Nat} {σ : Nat → Int} {nm : Nat → Int64} {K A C : Nat → Int} {n w d p : Nat} {O : Nat → Nat}
theorem CC.cong {I' : Ii} (h : CC K A C n w d O I) (e5 : I' 105 = I 105) (e6 : I' 106 = I 106) (e7 : I' 107 = I 107) (e8 : I' 108 = I 108) (e9 : I' 109 = I 109) : CC K A C n w d O I' := by
  unfold CC
  rw [e5, e6, e7, e8, e9]
  exact h
end CSC
/-! ===== reading a script: the reference ===== -/
abbrev one1 (k : Int) : Prop := k = 2 ∨ k = 4 ∨ k = 6 ∨ k = 7 ∨ k = 8
abbrev two2 (k : Int) : Prop := k = 2 ∨ k = 6
/-- the reference's script -/
def SX (K A C : Nat → Int) (n w : Nat) (I : Ii) : Prop := I 0 41 = (n : Int) ∧ I 0 42 = (w : Int) ∧ ∀ i, i < n → I 16 i = K i ∧ (one1 (K i) → I 17 i = A i) ∧ (two2 (K i) → I 18 i = C i)
/-- a command that is being read -/
def SP (K A C : Nat → Int) (n w : Nat) (k a c : Int) (I : Ii) : Prop := SX K A C n w I ∧ I 16 n = k ∧ (one1 k → I 17 n = a) ∧ (two2 k → I 18 n = c)
def BA (c : Int) (s d : Nat) (I : Ii) : Prop := RF c s d I ∧ I 0 43 = (d : Int) ∧ MS (I 2)
section RSC
variable {I : Ii} {J : Jj} {B : Nat → Int} {E : Nat} {σ : Nat → Int} {nm : Nat → Int64} {K A C : Nat → Int} {n w d p : Nat} {O : Nat → Nat} {k l a c : Int} {s : Nat} {Q : Ii → Jj → Prop}
theorem SX.cong {I' : Ii} (h : SX K A C n w I) (e41 : I' 0 41 = I 0 41) (e42 : I' 0 42 = I 0 42) (e6 : I' 16 = I 16) (e7 : I' 17 = I 17) (e8 : I' 18 = I 18) : SX K A C n w I' := by
  unfold SX
  rw [e41, e42, e6, e7, e8]
  exact h
theorem BA.up {I' : Ii} {q i : Nat} {v : Int} (h : BA c s d I) (e : I' = up2 I q i v) (hq : q ≠ 0) (hq2 : q ≠ 2) : BA c s d I' := by
  obtain ⟨⟨h1, h2, h3, h4⟩, h5, h6⟩ := h
  refine ⟨⟨h1, ?_, ?_, ?_⟩, ?_, ?_⟩
  · rw [e, up2_key (fun z => hq z.symm)]; exact h2
  · rw [e, up2_key (fun z => hq z.symm)]; exact h3
  · rw [e, up2_key (fun z => hq z.symm)]; exact h4
  · rw [e, up2_key (fun z => hq z.symm)]; exact h5
  · rw [e, up2_key (fun z => hq2 z.symm)]; exact h6
theorem SP.fr {I' : Ii} (h : SP K A C n w k a c I) (e41 : I' 0 41 = I 0 41) (e42 : I' 0 42 = I 0 42) (e6 : I' 16 = I 16) (e7 : I' 17 = I 17) (e8 : I' 18 = I 18) : SP K A C n w k a c I' :=
  ⟨h.1.cong e41 e42 e6 e7 e8, by rw [e6]; exact h.2.1, by rw [e7]; exact h.2.2.1, by rw [e8]; exact h.2.2.2⟩
theorem LX.up (hL : LX B E d p I J) {I' : Ii} {q i : Nat} {v : Int} (e : I' = up2 I q i v) (h0 : 1 < q) : LX B E d p I' J :=
  hL.cong (fun j _ _ => by rw [e, up2_key (by omega)]) (by rw [e, up2_key (by omega)]) (by rw [e, up2_key (by omega)]) rfl
end RSC
theorem RS_cred {I I' : Ii} {σ : Nat → Int} {a : Int} (hS : RS 300 I σ) (e : I' = up2 I 300 1 a) : RS 300 I' (updr σ 4 a) := by
  have o : ∀ i, i ≠ 4 → updr σ 4 a i = σ i := fun i hi => updr_ne hi
  have ek : ∀ k, k ≠ 300 → I' k = I k := fun k h => by rw [e, up2_key h]
  have ke : kev (updr σ 4 a) = kev σ := by unfold kev; rw [o 6 (by omega)]
  refine ⟨?_, ?_, ?_, fun v hv => ?_, fun l hl => ?_, fun l v hl hv => ?_, fun i w hi hw => ?_⟩
  · rw [e, up2_ne (by omega), o 5 (by omega)]; exact hS.l
  · rw [e, up2_self, updr_self]
  · rw [e, up2_ne (by omega), ke]; exact hS.e
  · rw [o 0 (by omega)] at hv
    show I' 301 v = _
    rw [ek 301 (by omega), o _ (by omega)]; exact hS.p hv
  · rw [o 5 (by omega)] at hl
    show I' 302 l = _
    rw [ek 302 (by omega), o _ (by omega)]; exact hS.n hl
  · rw [o 5 (by omega)] at hl
    rw [o 0 (by omega)] at hv
    show I' 303 (14 * l + v) = updr σ 4 a (35 + 14 * l + v)
    rw [ek 303 (by omega), o _ (by omega)]; exact hS.g hl hv
  · rw [ke] at hi
    show I' 304 (4 * i + w) = _
    rw [ek 304 (by omega), o 6 (by omega), o _ (by omega)]; exact hS.ev hi hw
/-! ===== a script runs: the class ===== -/
/-- the class's script, as it stands -/
def CD (K A C : Nat → Int) (n : Nat) (I : Ii) : Prop := I 106 4 = (n : Int) ∧ ∀ i, i < n → I 107 i = K i ∧ I 108 i = A i ∧ I 109 i = C i
section CRN
theorem CD.cong {K A C : Nat → Int} {n : Nat} {I I' : Ii} (h : CD K A C n I) (e6 : I' 106 = I 106) (e7 : I' 107 = I 107) (e8 : I' 108 = I 108) (e9 : I' 109 = I 109) : CD K A C n I' := by
  unfold CD
  rw [e6, e7, e8, e9]
  exact h
end CRN
theorem HR_same {I I' : Ii} {u nw : Nat} {pf : Nat → Nat → Int} (h : HR I u nw pf) (e : I' 111 = I 111) (ek : ∀ m, m < 6 → I' (330 + 10 * m) = I (330 + 10 * m) ∧ I' (330 + 10 * m + 1) = I (330 + 10 * m + 1) ∧ I' (330 + 10 * m + 2) = I (330 + 10 * m + 2) ∧ I' (330 + 10 * m + 3) = I (330 + 10 * m + 3) ∧ I' (330 + 10 * m + 4) = I (330 + 10 * m + 4)) : HR I' u nw pf := by
  obtain ⟨h1, h2, h3, h4, h5⟩ := h
  refine ⟨by rw [e]; exact h1, by rw [e]; exact h2, h3, h4, fun j hj => ?_⟩
  obtain ⟨a0, a1, a2, a3, a4⟩ := ek ((nw + 6 - j) % 6) (Nat.mod_lt _ (by omega))
  exact (h5 j hj).cong a0 a1 a2 a3 a4
/-- what the history is behind a change -/
def HN (I : Ii) (u : Nat) (pf : Nat → Nat → Int) (σ : Nat → Int) : Prop := ∃ nw', (u < 6 → ∀ pf', (∀ i, i < u → pf' i = pf i) → pf' u = σ → HR I (u + 1) nw' pf') ∧ (u = 6 → ∀ pf', (∀ i, i < 5 → pf' i = pf (i + 1)) → pf' 5 = σ → HR I 6 nw' pf')

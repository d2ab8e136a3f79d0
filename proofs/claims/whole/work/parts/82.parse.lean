/-! ===== what a text says ===== -/
abbrev St := (Nat → Int) × (Nat → Int64) × Nat × Nat
abbrev nOK (B : Nat → Int) (E : Nat) (lo hi : Int) (p : Nat) : Prop := tK B E p = 2 ∧ lo ≤ tN B E p ∧ tN B E p ≤ hi
def numC (B : Nat → Int) (E p : Nat) : Int := if tK B E p = 2 then 2 else 1
def addV (σ : Nat → Int) (n : Int) : Nat → Int := updr (updr (updr (updr σ (7 + (σ 0).toNat) n) (35 + (σ 0).toNat) (σ 0)) 0 (σ 0 + 1)) 105 (σ 105 + 1)
def addE (σ : Nat → Int) (a b n : Int) : Nat → Int := updr (updr (updr (updr σ (110 + (σ 1).toNat) a) (150 + (σ 1).toNat) b) (190 + (σ 1).toNat) n) 1 (σ 1 + 1)
def vtx (B : Nat → Int) (E : Nat) (σ : Nat → Int) (nm : Nat → Int64) (T p w0 : Nat) : Except (Int × Nat) St :=
  if σ 0 = 14 then .error (6, w0) else if tK B E p ≠ 1 then .error (1, tS B E p) else if nmZ nm (tW B E p) (σ 0).toNat ≠ -1 then .error (3, tS B E p)
  else if ¬ nOK B E 1 99 (tE B E p) then .error (numC B E (tE B E p), tS B E (tE B E p)) else .ok (addV σ (tN B E (tE B E p)), updr nm (σ 0).toNat (tW B E p), T, tE B E (tE B E p))
def edg (B : Nat → Int) (E : Nat) (σ : Nat → Int) (nm : Nat → Int64) (T p w0 : Nat) : Except (Int × Nat) St :=
  if σ 1 = 40 then .error (6, w0) else if tK B E p ≠ 1 then .error (1, tS B E p) else if nmZ nm (tW B E p) (σ 0).toNat = -1 then .error (3, tS B E p)
  else if tK B E (tE B E p) ≠ 1 then .error (1, tS B E (tE B E p)) else if nmZ nm (tW B E (tE B E p)) (σ 0).toNat = -1 then .error (3, tS B E (tE B E p))
  else if nmZ nm (tW B E (tE B E p)) (σ 0).toNat = nmZ nm (tW B E p) (σ 0).toNat then .error (3, tS B E (tE B E p))
  else if edgeZ σ (nmZ nm (tW B E p) (σ 0).toNat) (nmZ nm (tW B E (tE B E p)) (σ 0).toNat) (σ 1).toNat ≠ -1 then .error (4, tS B E (tE B E p))
  else if ¬ nOK B E 1 99 (tE B E (tE B E p)) then .error (numC B E (tE B E (tE B E p)), tS B E (tE B E (tE B E p)))
  else .ok (addE σ (nmZ nm (tW B E p) (σ 0).toNat) (nmZ nm (tW B E (tE B E p)) (σ 0).toNat) (tN B E (tE B E (tE B E p))), nm, T, tE B E (tE B E (tE B E p)))
def onc (B : Nat → Int) (E : Nat) (w : Nat) (lo hi : Int) (σ : Nat → Int) (nm : Nat → Int64) (T p w0 : Nat) : Except (Int × Nat) St :=
  if T.testBit w = true then .error (4, w0) else if ¬ nOK B E lo hi p then .error (numC B E p, tS B E p) else .ok (updr σ (w + 2) (tN B E p), nm, T ||| 2 ^ w, tE B E p)
abbrev isW (B : Nat → Int) (E p : Nat) (w : Int64) : Prop := tK B E p = 1 ∧ tW B E p = w
def stb (B : Nat → Int) (E : Nat) (t : St) : Except (Int × Nat) St :=
  if isW B E t.2.2.2 (lZ 744050872) then vtx B E t.1 t.2.1 t.2.2.1 (tE B E t.2.2.2) (tS B E t.2.2.2)
  else if isW B E t.2.2.2 (lZ 168165) then edg B E t.1 t.2.1 t.2.2.1 (tE B E t.2.2.2) (tS B E t.2.2.2)
  else if isW B E t.2.2.2 (lZ 16829075) then onc B E 0 2 4 t.1 t.2.1 t.2.2.1 (tE B E t.2.2.2) (tS B E t.2.2.2)
  else if isW B E t.2.2.2 (lZ 20317291) then onc B E 1 0 99 t.1 t.2.1 t.2.2.1 (tE B E t.2.2.2) (tS B E t.2.2.2)
  else if isW B E t.2.2.2 (lZ 119705908) then onc B E 2 0 99 t.1 t.2.1 t.2.2.1 (tE B E t.2.2.2) (tS B E t.2.2.2)
  else .error (1, tS B E t.2.2.2)
def semi (B : Nat → Int) (E : Nat) (t : St) : Except (Int × Nat) St := if tK B E t.2.2.2 = 3 then .ok (t.1, t.2.1, t.2.2.1, tE B E t.2.2.2) else .error (1, tS B E t.2.2.2)
def stm (B : Nat → Int) (E : Nat) (t : St) : Except (Int × Nat) St := match stb B E t with
  | .error e => .error e
  | .ok t' => semi B E t'
def txt (B : Nat → Int) (E : Nat) : Nat → St → Except (Int × Nat) St
  | 0, _ => .error (1, 0)
  | f + 1, t => if tK B E t.2.2.2 = 0 then .ok t else match stm B E t with
    | .error e => .error e
    | .ok t' => txt B E f t'
/-- what holds of the row while a text is read -/
def PS (σ : Nat → Int) : Prop := MS σ ∧ VE σ ∧ σ 5 = 0 ∧ σ 6 = 0 ∧ σ 105 = σ 0 ∧ (∀ v, v < 14 → σ (21 + v) = 0) ∧ (∀ v, v < (σ 0).toNat → σ (35 + v) = (v : Int))
theorem PS.vs {σ : Nat → Int} (h : PS σ) : VS σ := by
  obtain ⟨hM, hE, h5, h6, hn, hp, hg⟩ := h
  have b0 := ms_0 hM
  have b2 := ms_2 hM
  have b5 : (σ 5).toNat = 0 := by rw [h5]; rfl
  have g0 : ∀ v, v < (σ 0).toNat → gL σ 0 v = (v : Int) := fun v hv => by
    unfold gL
    exact hg v hv
  refine ⟨hM, hE, fun v hv => by rw [hp v (by omega)]; omega, g0, hn, fun l hl => ?_, fun l u v hl => by omega, fun u v hu hv _ => by rw [hp u (by omega), hp v (by omega)]⟩
  have : l = 0 := by omega
  subst this
  exact ⟨fun v hv => by rw [g0 v hv]; show (v : Int) < σ 105; rw [hn]; omega, fun g g1 g2 => ⟨g.toNat, by have : g < σ 105 := g2; rw [hn] at this; omega, by rw [g0 g.toNat (by have : g < σ 105 := g2; rw [hn] at this; omega)]; omega⟩⟩
theorem addV_PS {σ : Nat → Int} {n : Int} (h : PS σ) (h14 : σ 0 ≠ 14) (hn : 0 ≤ n ∧ n ≤ 99) : PS (addV σ n) := by
  obtain ⟨hM, hE, h5, h6, hnn, hp, hg⟩ := h
  have b0 := ms_0 hM
  have b1 := ms_1 hM
  have b105 := ms_n hM 0 (by decide)
  have k : (σ 0).toNat < 14 := by omega
  have lo : ∀ i, i ≠ 0 → i ≠ 105 → i ≠ 7 + (σ 0).toNat → i ≠ 35 + (σ 0).toNat → addV σ n i = σ i := fun i a b c d => by
    unfold addV; rw [updr_ne b, updr_ne a, updr_ne d, updr_ne c]
  have e0 : addV σ n 0 = σ 0 + 1 := by unfold addV; rw [updr_ne (by decide), updr_self]
  have e105 : addV σ n 105 = σ 105 + 1 := by unfold addV; rw [updr_self]
  have e7 : addV σ n (7 + (σ 0).toNat) = n := by unfold addV; rw [updr_ne (by omega), updr_ne (by omega), updr_ne (by omega), updr_self]
  have e35 : addV σ n (35 + (σ 0).toNat) = σ 0 := by unfold addV; rw [updr_ne (by omega), updr_ne (by omega), updr_self]
  refine ⟨⟨by rw [e0]; omega, by rw [lo 1 (by omega) (by omega) (by omega) (by omega)]; exact b1, by rw [lo 2 (by omega) (by omega) (by omega) (by omega)]; exact ms_2 hM, by rw [lo 3 (by omega) (by omega) (by omega) (by omega)]; exact ms_3 hM, by rw [lo 4 (by omega) (by omega) (by omega) (by omega)]; exact ms_4 hM, by rw [lo 5 (by omega) (by omega) (by omega) (by omega)]; exact ms_5 hM, by rw [lo 6 (by omega) (by omega) (by omega) (by omega)]; exact ms_6 hM,
    fun v hv => ?_, fun v hv => by rw [lo (21 + v) (by omega) (by omega) (by omega) (by omega)]; exact ms_p hM v hv, fun t ht => ?_, fun l hl => ?_, fun e he => by rw [lo (110 + e) (by omega) (by omega) (by omega) (by omega)]; exact ms_a hM e he, fun e he => by rw [lo (150 + e) (by omega) (by omega) (by omega) (by omega)]; exact ms_b hM e he, fun e he => by rw [lo (190 + e) (by omega) (by omega) (by omega) (by omega)]; exact ms_h hM e he, fun e he => by rw [lo (230 + e) (by omega) (by omega) (by omega) (by omega)]; exact ms_e hM e he⟩, ?_, by rw [lo 5 (by omega) (by omega) (by omega) (by omega)]; exact h5, by rw [lo 6 (by omega) (by omega) (by omega) (by omega)]; exact h6, by rw [e105, e0, hnn], fun v hv => by rw [lo (21 + v) (by omega) (by omega) (by omega) (by omega)]; exact hp v hv, fun v hv => ?_⟩
  · by_cases c : v = (σ 0).toNat
    · rw [c, e7]; omega
    · rw [lo (7 + v) (by omega) (by omega) (by omega) (by omega)]; exact ms_w hM v hv
  · by_cases c : t = (σ 0).toNat
    · rw [c, e35]; omega
    · rw [lo (35 + t) (by omega) (by omega) (by omega) (by omega)]; exact ms_g hM t ht
  · by_cases c : l = 0
    · subst c
      show 0 ≤ addV σ n 105 ∧ addV σ n 105 ≤ 14
      rw [e105, hnn]; omega
    · rw [lo (105 + l) (by omega) (by omega) (by omega) (by omega)]; exact ms_n hM l hl
  · have q1 : addV σ n 1 = σ 1 := lo 1 (by omega) (by omega) (by omega) (by omega)
    refine ⟨fun e he => ?_, fun e f he hf => ?_⟩
    · rw [q1] at he
      rw [lo (110 + e) (by omega) (by omega) (by omega) (by omega), lo (150 + e) (by omega) (by omega) (by omega) (by omega), e0]
      have := hE.1 e he
      exact ⟨by omega, by omega, this.2.2⟩
    · rw [q1] at he hf
      rw [lo (110 + e) (by omega) (by omega) (by omega) (by omega), lo (150 + e) (by omega) (by omega) (by omega) (by omega), lo (110 + f) (by omega) (by omega) (by omega) (by omega), lo (150 + f) (by omega) (by omega) (by omega) (by omega)]
      exact hE.2 e f he hf
  · rw [e0] at hv
    by_cases c : v = (σ 0).toNat
    · rw [c, e35]; omega
    · rw [lo (35 + v) (by omega) (by omega) (by omega) (by omega)]; exact hg v (by omega)
theorem edgeZ_m1 {σ : Nat → Int} {a b : Int} : ∀ {n : Nat}, edgeZ σ a b n = -1 → ∀ e, e < n → ¬ ((σ (110 + e) = a ∧ σ (150 + e) = b) ∨ (σ (110 + e) = b ∧ σ (150 + e) = a))
  | 0, _, e, he => by omega
  | n + 1, h, e, he => by
    unfold edgeZ at h
    split at h
    · omega
    · rename_i c
      by_cases q : e = n
      · rw [q]; exact c
      · exact edgeZ_m1 h e (by omega)
theorem nmZ_m1 {f : Nat → Int64} {w : Int64} : ∀ {n : Nat}, nmZ f w n = -1 → ∀ u, u < n → f u ≠ w
  | 0, _, e, he => by omega
  | n + 1, h, e, he => by
    unfold nmZ at h
    split at h
    · omega
    · rename_i c
      by_cases q : e = n
      · rw [q]; exact c
      · exact nmZ_m1 h e (by omega)
theorem addE_PS {σ : Nat → Int} {a b n : Int} (h : PS σ) (h40 : σ 1 ≠ 40) (ha : 0 ≤ a ∧ a < σ 0) (hb : 0 ≤ b ∧ b < σ 0) (hab : a ≠ b) (hno : edgeZ σ a b (σ 1).toNat = -1) (hn : 0 ≤ n ∧ n ≤ 99) : PS (addE σ a b n) := by
  obtain ⟨hM, hE, h5, h6, hnn, hp, hg⟩ := h
  have b0 := ms_0 hM
  have b1 := ms_1 hM
  have k : (σ 1).toNat < 40 := by omega
  have lo : ∀ i, i ≠ 1 → i ≠ 110 + (σ 1).toNat → i ≠ 150 + (σ 1).toNat → i ≠ 190 + (σ 1).toNat → addE σ a b n i = σ i := fun i a b c d => by
    unfold addE; rw [updr_ne a, updr_ne d, updr_ne c, updr_ne b]
  have e1 : addE σ a b n 1 = σ 1 + 1 := by unfold addE; rw [updr_self]
  have ea : addE σ a b n (110 + (σ 1).toNat) = a := by unfold addE; rw [updr_ne (by omega), updr_ne (by omega), updr_ne (by omega), updr_self]
  have eb : addE σ a b n (150 + (σ 1).toNat) = b := by unfold addE; rw [updr_ne (by omega), updr_ne (by omega), updr_self]
  have en : addE σ a b n (190 + (σ 1).toNat) = n := by unfold addE; rw [updr_ne (by omega), updr_self]
  have e0 : addE σ a b n 0 = σ 0 := lo 0 (by omega) (by omega) (by omega) (by omega)
  have la : ∀ e, e ≠ (σ 1).toNat → e < 40 → addE σ a b n (110 + e) = σ (110 + e) := fun e _ _ => lo _ (by omega) (by omega) (by omega) (by omega)
  have lb : ∀ e, e ≠ (σ 1).toNat → e < 40 → addE σ a b n (150 + e) = σ (150 + e) := fun e _ _ => lo _ (by omega) (by omega) (by omega) (by omega)
  have hm := edgeZ_m1 hno
  refine ⟨⟨by rw [e0]; omega, by rw [e1]; omega, by rw [lo 2 (by omega) (by omega) (by omega) (by omega)]; exact ms_2 hM, by rw [lo 3 (by omega) (by omega) (by omega) (by omega)]; exact ms_3 hM, by rw [lo 4 (by omega) (by omega) (by omega) (by omega)]; exact ms_4 hM, by rw [lo 5 (by omega) (by omega) (by omega) (by omega)]; exact ms_5 hM, by rw [lo 6 (by omega) (by omega) (by omega) (by omega)]; exact ms_6 hM,
    fun v hv => by rw [lo (7 + v) (by omega) (by omega) (by omega) (by omega)]; exact ms_w hM v hv, fun v hv => by rw [lo (21 + v) (by omega) (by omega) (by omega) (by omega)]; exact ms_p hM v hv, fun t ht => by rw [lo (35 + t) (by omega) (by omega) (by omega) (by omega)]; exact ms_g hM t ht, fun l hl => by rw [lo (105 + l) (by omega) (by omega) (by omega) (by omega)]; exact ms_n hM l hl, fun e he => ?_, fun e he => ?_, fun e he => ?_, fun e he => by rw [lo (230 + e) (by omega) (by omega) (by omega) (by omega)]; exact ms_e hM e he⟩, ⟨fun e he => ?_, fun e f he hf hc => ?_⟩, by rw [lo 5 (by omega) (by omega) (by omega) (by omega)]; exact h5, by rw [lo 6 (by omega) (by omega) (by omega) (by omega)]; exact h6, by rw [lo 105 (by omega) (by omega) (by omega) (by omega), e0]; exact hnn, fun v hv => by rw [lo (21 + v) (by omega) (by omega) (by omega) (by omega)]; exact hp v hv, fun v hv => by rw [e0] at hv; rw [lo (35 + v) (by omega) (by omega) (by omega) (by omega)]; exact hg v hv⟩
  · by_cases c : e = (σ 1).toNat
    · rw [c, ea]; omega
    · rw [la e c he]; exact ms_a hM e he
  · by_cases c : e = (σ 1).toNat
    · rw [c, eb]; omega
    · rw [lb e c he]; exact ms_b hM e he
  · by_cases c : e = (σ 1).toNat
    · rw [c, en]; omega
    · rw [lo (190 + e) (by omega) (by omega) (by omega) (by omega)]; exact ms_h hM e he
  · rw [e1] at he
    rw [e0]
    by_cases c : e = (σ 1).toNat
    · rw [c, ea, eb]; exact ⟨by omega, by omega, hab⟩
    · rw [la e c (by omega), lb e c (by omega)]; exact hE.1 e (by omega)
  · rw [e1] at he hf
    by_cases c : e = (σ 1).toNat
    · by_cases d : f = (σ 1).toNat
      · rw [c, d]
      · rw [c, ea, eb, la f d (by omega), lb f d (by omega)] at hc
        exact absurd (by rcases hc with q | q; · exact Or.inl ⟨q.1.symm, q.2.symm⟩
                         · exact Or.inr ⟨q.2.symm, q.1.symm⟩) (hm f (by omega))
    · by_cases d : f = (σ 1).toNat
      · rw [d, ea, eb, la e c (by omega), lb e c (by omega)] at hc
        exact absurd hc (hm e (by omega))
      · rw [la e c (by omega), lb e c (by omega), la f d (by omega), lb f d (by omega)] at hc
        exact hE.2 e f (by omega) (by omega) hc
theorem setW_PS {σ : Nat → Int} {w : Nat} {n : Int} (h : PS σ) (hw : w = 0 ∧ 2 ≤ n ∧ n ≤ 4 ∨ (w = 1 ∨ w = 2) ∧ 0 ≤ n ∧ n ≤ 99) : PS (updr σ (w + 2) n) := by
  obtain ⟨hM, hE, h5, h6, hnn, hp, hg⟩ := h
  have lo : ∀ i, (i < 2 ∨ 4 < i) → updr σ (w + 2) n i = σ i := fun i a => updr_ne (by omega)
  refine ⟨⟨by rw [lo 0 (by omega)]; exact ms_0 hM, by rw [lo 1 (by omega)]; exact ms_1 hM, ?_, ?_, ?_, by rw [lo 5 (by omega)]; exact ms_5 hM, by rw [lo 6 (by omega)]; exact ms_6 hM, fun v hv => by rw [lo (7 + v) (by omega)]; exact ms_w hM v hv, fun v hv => by rw [lo (21 + v) (by omega)]; exact ms_p hM v hv, fun v hv => by rw [lo (35 + v) (by omega)]; exact ms_g hM v hv, fun v hv => by rw [lo (105 + v) (by omega)]; exact ms_n hM v hv, fun v hv => by rw [lo (110 + v) (by omega)]; exact ms_a hM v hv, fun v hv => by rw [lo (150 + v) (by omega)]; exact ms_b hM v hv, fun v hv => by rw [lo (190 + v) (by omega)]; exact ms_h hM v hv, fun v hv => by rw [lo (230 + v) (by omega)]; exact ms_e hM v hv⟩,
    ⟨fun e he => ?_, fun e f he hf => ?_⟩, by rw [lo 5 (by omega)]; exact h5, by rw [lo 6 (by omega)]; exact h6, by rw [lo 105 (by omega), lo 0 (by omega)]; exact hnn, fun v hv => by rw [lo (21 + v) (by omega)]; exact hp v hv, fun v hv => by rw [lo 0 (by omega)] at hv; rw [lo (35 + v) (by omega)]; exact hg v hv⟩
  · have := ms_2 hM
    unfold updr; split <;> omega
  · have := ms_3 hM
    unfold updr; split <;> omega
  · have := ms_4 hM
    unfold updr; split <;> omega
  · rw [lo 1 (by omega)] at he
    rw [lo (110 + e) (by omega), lo (150 + e) (by omega), lo 0 (by omega)]; exact hE.1 e he
  · rw [lo 1 (by omega)] at he hf
    rw [lo (110 + e) (by omega), lo (150 + e) (by omega), lo (110 + f) (by omega), lo (150 + f) (by omega)]; exact hE.2 e f he hf
/-- what holds of a state of reading -/
def PSt (E : Nat) (t : St) : Prop := PS t.1 ∧ ND t.2.1 (t.1 0).toNat ∧ t.2.2.1 < 8 ∧ t.2.2.2 ≤ E
/-- an outcome: what a fault says, what goes on -/
def PO (r : Except (Int × Nat) St) (bad : Int → Nat → Prop) (good : St → Prop) : Prop := match r with
  | .error e => bad e.1 e.2
  | .ok t => good t
theorem lit6 {c : Int} {s : Nat} {good : St → Prop} (h : 1 ≤ c ∧ c ≤ 6) : PO (.error (c, s)) (fun c _ => 1 ≤ c ∧ c ≤ 6) good := h
section PAR
variable {B : Nat → Int} {E : Nat}
theorem numC_b {p : Nat} : numC B E p = 1 ∨ numC B E p = 2 := by unfold numC; split <;> omega
theorem vtx_PO {σ : Nat → Int} {nm : Nat → Int64} {T p w0 : Nat} (h : PSt E (σ, nm, T, p)) : PO (vtx B E σ nm T p w0) (fun c _ => 1 ≤ c ∧ c ≤ 6) (fun t => PSt E t ∧ p ≤ t.2.2.2) := by
  obtain ⟨hP, hd, hT, hp⟩ := h
  dsimp only at hP hd hT hp
  have b0 := ms_0 hP.1
  unfold vtx
  by_cases c1 : σ 0 = 14
  · rw [if_pos c1]; exact lit6 (by decide)
  rw [if_neg c1]
  by_cases c2 : tK B E p ≠ 1
  · rw [if_pos c2]; exact lit6 (by decide)
  rw [if_neg c2]
  by_cases c3 : nmZ nm (tW B E p) (σ 0).toNat ≠ -1
  · rw [if_pos c3]; exact lit6 (by decide)
  rw [if_neg c3]
  by_cases c4 : ¬ nOK B E 1 99 (tE B E p)
  · rw [if_pos c4]; have := numC_b (B := B) (E := E) (p := tE B E p); exact ⟨by dsimp only; omega, by dsimp only; omega⟩
  rw [if_neg c4]
  have c5 : nOK B E 1 99 (tE B E p) := Classical.not_not.mp c4
  have b1 := tE_b (B := B) hp
  have b2 := tE_b (B := B) b1.2.1
  refine ⟨⟨addV_PS hP c1 (by have := c5.2; omega), ?_, hT, b2.2.1⟩, by show p ≤ tE B E (tE B E p); omega⟩
  have e0 : (addV σ (tN B E (tE B E p)) 0).toNat = (σ 0).toNat + 1 := by
    have : addV σ (tN B E (tE B E p)) 0 = σ 0 + 1 := by unfold addV; rw [updr_ne (by decide), updr_self]
    rw [this]; omega
  show ND (updr nm (σ 0).toNat (tW B E p)) (addV σ (tN B E (tE B E p)) 0).toNat
  rw [e0]
  have hm := nmZ_m1 (Classical.not_not.mp c3)
  intro u v hu hv e
  by_cases cu : u = (σ 0).toNat
  · by_cases cv : v = (σ 0).toNat
    · omega
    · rw [cu, updr_self, updr_ne cv] at e
      exact absurd e.symm (hm v (by omega))
  · by_cases cv : v = (σ 0).toNat
    · rw [cv, updr_self, updr_ne cu] at e
      exact absurd e (hm u (by omega))
    · rw [updr_ne cu, updr_ne cv] at e
      exact hd u v (by omega) (by omega) e
theorem edg_PO {σ : Nat → Int} {nm : Nat → Int64} {T p w0 : Nat} (h : PSt E (σ, nm, T, p)) : PO (edg B E σ nm T p w0) (fun c _ => 1 ≤ c ∧ c ≤ 6) (fun t => PSt E t ∧ p ≤ t.2.2.2) := by
  obtain ⟨hP, hd, hT, hp⟩ := h
  dsimp only at hP hd hT hp
  have b0 := ms_0 hP.1
  unfold edg
  by_cases c1 : σ 1 = 40
  · rw [if_pos c1]; exact lit6 (by decide)
  rw [if_neg c1]
  by_cases c2 : tK B E p ≠ 1
  · rw [if_pos c2]; exact lit6 (by decide)
  rw [if_neg c2]
  by_cases c3 : nmZ nm (tW B E p) (σ 0).toNat = -1
  · rw [if_pos c3]; exact lit6 (by decide)
  rw [if_neg c3]
  by_cases c4 : tK B E (tE B E p) ≠ 1
  · rw [if_pos c4]; exact lit6 (by decide)
  rw [if_neg c4]
  by_cases c5 : nmZ nm (tW B E (tE B E p)) (σ 0).toNat = -1
  · rw [if_pos c5]; exact lit6 (by decide)
  rw [if_neg c5]
  by_cases c6 : nmZ nm (tW B E (tE B E p)) (σ 0).toNat = nmZ nm (tW B E p) (σ 0).toNat
  · rw [if_pos c6]; exact lit6 (by decide)
  rw [if_neg c6]
  by_cases c7 : edgeZ σ (nmZ nm (tW B E p) (σ 0).toNat) (nmZ nm (tW B E (tE B E p)) (σ 0).toNat) (σ 1).toNat ≠ -1
  · rw [if_pos c7]; exact lit6 (by decide)
  rw [if_neg c7]
  by_cases c8 : ¬ nOK B E 1 99 (tE B E (tE B E p))
  · rw [if_pos c8]; have := numC_b (B := B) (E := E) (p := tE B E (tE B E p)); exact ⟨by dsimp only; omega, by dsimp only; omega⟩
  rw [if_neg c8]
  have c9 : nOK B E 1 99 (tE B E (tE B E p)) := Classical.not_not.mp c8
  have b1 := tE_b (B := B) hp
  have b2 := tE_b (B := B) b1.2.1
  have b3 := tE_b (B := B) b2.2.1
  have n1 := nmZ_b nm (tW B E p) (σ 0).toNat
  have n2 := nmZ_b nm (tW B E (tE B E p)) (σ 0).toNat
  refine ⟨⟨addE_PS hP c1 (by omega) (by omega) (fun z => c6 z.symm) (Classical.not_not.mp c7) (by have := c9.2; omega), ?_, hT, b3.2.1⟩, by show p ≤ tE B E (tE B E (tE B E p)); omega⟩
  have e0 : addE σ (nmZ nm (tW B E p) (σ 0).toNat) (nmZ nm (tW B E (tE B E p)) (σ 0).toNat) (tN B E (tE B E (tE B E p))) 0 = σ 0 := by
    unfold addE; rw [updr_ne (by omega), updr_ne (by omega), updr_ne (by omega), updr_ne (by omega)]
  show ND nm (addE σ _ _ _ 0).toNat
  rw [e0]
  exact hd
theorem onc_PO {w : Nat} {lo hi : Int} {σ : Nat → Int} {nm : Nat → Int64} {T p w0 : Nat} (h : PSt E (σ, nm, T, p)) (hw : w = 0 ∧ lo = 2 ∧ hi = 4 ∨ (w = 1 ∨ w = 2) ∧ lo = 0 ∧ hi = 99) : PO (onc B E w lo hi σ nm T p w0) (fun c _ => 1 ≤ c ∧ c ≤ 6) (fun t => PSt E t ∧ p ≤ t.2.2.2) := by
  obtain ⟨hP, hd, hT, hp⟩ := h
  dsimp only at hP hd hT hp
  unfold onc
  by_cases c1 : T.testBit w = true
  · rw [if_pos c1]; exact lit6 (by decide)
  rw [if_neg c1]
  by_cases c2 : ¬ nOK B E lo hi p
  · rw [if_pos c2]; have := numC_b (B := B) (E := E) (p := p); exact ⟨by dsimp only; omega, by dsimp only; omega⟩
  rw [if_neg c2]
  have c9 : nOK B E lo hi p := Classical.not_not.mp c2
  have b1 := tE_b (B := B) hp
  refine ⟨⟨setW_PS hP (by have := c9.2; omega), ?_, ?_, b1.2.1⟩, b1.2.2⟩
  · show ND nm (updr σ (w + 2) (tN B E p) 0).toNat
    rw [updr_ne (by omega)]; exact hd
  · show T ||| 2 ^ w < 8
    have : 2 ^ w < 2 ^ 3 := Nat.pow_lt_pow_right (by decide) (by omega)
    exact Nat.or_lt_two_pow (n := 3) hT this
theorem stb_PO {t : St} (h : PSt E t) (h0 : tK B E t.2.2.2 ≠ 0) : PO (stb B E t) (fun c _ => 1 ≤ c ∧ c ≤ 6) (fun u => PSt E u ∧ t.2.2.2 < u.2.2.2) := by
  have b1 := tE_b (B := B) h.2.2.2
  have b2 := tK_lt (B := B) h.2.2.2 h0
  have b3 := tS_b (B := B) h.2.2.2
  have h2 : PSt E (t.1, t.2.1, t.2.2.1, tE B E t.2.2.2) := ⟨h.1, h.2.1, h.2.2.1, b1.2.1⟩
  have wk : ∀ {r : Except (Int × Nat) St}, PO r (fun c _ => 1 ≤ c ∧ c ≤ 6) (fun u => PSt E u ∧ tE B E t.2.2.2 ≤ u.2.2.2) → PO r (fun c _ => 1 ≤ c ∧ c ≤ 6) (fun u => PSt E u ∧ t.2.2.2 < u.2.2.2) := by
    intro r hr
    cases r with
    | error e => exact hr
    | ok u => exact ⟨hr.1, by have := hr.2; omega⟩
  unfold stb
  split
  · exact wk (vtx_PO h2)
  split
  · exact wk (edg_PO h2)
  split
  · exact wk (onc_PO h2 (by omega))
  split
  · exact wk (onc_PO h2 (by omega))
  split
  · exact wk (onc_PO h2 (by omega))
  · exact lit6 (by decide)
theorem semi_PO {t : St} (h : PSt E t) : PO (semi B E t) (fun c _ => 1 ≤ c ∧ c ≤ 6) (fun u => PSt E u ∧ t.2.2.2 ≤ u.2.2.2) := by
  have b1 := tE_b (B := B) h.2.2.2
  unfold semi
  split
  · exact ⟨⟨h.1, h.2.1, h.2.2.1, b1.2.1⟩, b1.2.2⟩
  · exact lit6 (by decide)
theorem stm_PO {t : St} (h : PSt E t) (h0 : tK B E t.2.2.2 ≠ 0) : PO (stm B E t) (fun c _ => 1 ≤ c ∧ c ≤ 6) (fun u => PSt E u ∧ t.2.2.2 < u.2.2.2) := by
  have h1 := stb_PO h h0
  unfold stm
  cases hr : stb B E t with
  | error e => rw [hr] at h1; exact h1
  | ok u =>
    rw [hr] at h1
    have h2 := semi_PO (B := B) h1.1
    show PO (semi B E u) _ _
    cases hs : semi B E u with
    | error e => rw [hs] at h2; exact h2
    | ok w => rw [hs] at h2; exact ⟨h2.1, by have := h2.2; have := h1.2; omega⟩
theorem txt_PO : ∀ {f : Nat} {t : St}, PSt E t → PO (txt B E f t) (fun c _ => 1 ≤ c ∧ c ≤ 6) (fun u => PSt E u)
  | 0, t, _ => lit6 (by decide)
  | f + 1, t, h => by
    unfold txt
    split
    · exact h
    · rename_i h0
      have h1 := stm_PO h h0
      cases hr : stm B E t with
      | error e => rw [hr] at h1; exact h1
      | ok u => rw [hr] at h1; exact txt_PO h1.1
end PAR

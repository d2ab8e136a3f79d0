/-! ===== the world grows: its edges ===== -/
section GRE
variable {I0 I : Ii} {J : Jj} {n : Int} {σ : Nat → Int} {nm : Nat → Int64} {T p c : Nat} {k b : Nat} {L : List Int} {N : Int} {sL : Nat} {xs : Nat → Int}
/-- where edges are appended -/
def EI (I0 : Ii) (n : Int) (k : Nat) (I : Ii) : Prop := ∃ (b : Nat) (σ : Nat → Int) (nm : Nat → Int64) (T p c : Nat) (L : List Int), GM I0 n σ I k b L (2000 + 30 * (c : Int)) ∧ GS σ nm T p c L ∧ σ 0 = n ∧ (c : Int) ≤ 3 + n + σ 1
/-- the world's numbers behind an edge -/
theorem GW_edge {a b : Nat} {x : Int} {I' : Ii} (h : GW n σ I) (hs : GS σ nm T p c L) (ha : a < 14) (hb : b < 14) (hno : edgeZ σ (a : Int) (b : Int) (σ 1).toNat = -1) (e' : I' = up2 (up2 (up2 (up2 (up2 I (1006 + a) b x) (1006 + b) a x) 1003 (σ 1).toNat (a : Int)) 1004 (σ 1).toNat (b : Int)) 1000 4 (σ 1 + 1)) : GW n (addE σ (a : Int) (b : Int) x) I' := by
  have b1 := ms_1 hs.2.1.1
  obtain ⟨h0, h1, h2, h3, h4, h5⟩ := h
  have ao : ∀ i, i ≠ 1 → i ≠ 110 + (σ 1).toNat → i ≠ 150 + (σ 1).toNat → i ≠ 190 + (σ 1).toNat → addE σ (a : Int) (b : Int) x i = σ i := fun i a b c d => by
    unfold addE; rw [updr_ne a, updr_ne d, updr_ne c, updr_ne b]
  have a1 : addE σ (a : Int) (b : Int) x 1 = σ 1 + 1 := by unfold addE; rw [updr_self]
  have o : ∀ q, q ≠ 1000 → q ≠ 1003 → q ≠ 1004 → q ≠ 1006 + a → q ≠ 1006 + b → I' q = I q := fun q q1 q2 q3 q4 q5 => by
    rw [e', up2_key q1, up2_key q3, up2_key q2, up2_key q5, up2_key q4]
  have o0 : ∀ i, i ≠ 4 → I' 1000 i = I 1000 i := fun i hi => by
    rw [e', up2_ne (by omega), up2_key (by omega), up2_key (by omega), up2_key (by omega), up2_key (by omega)]
  have o4 : I' 1000 4 = σ 1 + 1 := by rw [e', up2_self]
  unfold GW
  rw [o 1001 (by omega) (by omega) (by omega) (by omega) (by omega), o 1002 (by omega) (by omega) (by omega) (by omega) (by omega), o 1020 (by omega) (by omega) (by omega) (by omega) (by omega), o 1021 (by omega) (by omega) (by omega) (by omega) (by omega), o0 0 (by omega), o0 1 (by omega), o0 2 (by omega), o0 3 (by omega), o4, a1, ao 2 (by omega) (by omega) (by omega) (by omega), ao 3 (by omega) (by omega) (by omega) (by omega), ao 4 (by omega) (by omega) (by omega) (by omega), ao 0 (by omega) (by omega) (by omega) (by omega)]
  have b0 := ms_0 hs.2.1.1
  refine ⟨h0, ⟨h1.1, h1.2.1, h1.2.2.1, rfl⟩, fun v hv => ?_, h3, fun u v hu hv => ?_, h5⟩
  · rw [h2 v hv]
    exact (ao (7 + v) (by omega) (by omega) (by omega) (by omega)).symm
  · rw [TBz_addE hs hno]
    have t : I' (1006 + u) v = up2 (up2 I (1006 + a) b x) (1006 + b) a x (1006 + u) v := by
      rw [e', up2_key (by omega), up2_key (by omega), up2_key (by omega)]
    rw [t]
    by_cases c2 : u = b ∧ v = a
    · rw [if_pos (Or.inr c2), c2.1, c2.2, up2_self]
    · rw [up2_ne (by omega)]
      by_cases c1 : u = a ∧ v = b
      · rw [if_pos (Or.inl c1), c1.1, c1.2, up2_self]
      · rw [up2_ne (by omega), if_neg (by omega)]
        exact h4 u v hu hv
theorem g_edges {Q : Nat → Ii → Jj → Prop} (hn : 2 ≤ n ∧ n ≤ 10) (hq : ∀ I' : Ii, EI I0 n k I' → (((0 : Int) ≤ n ∧ n ≤ ((14 : Nat) : Int)) ∧ I' 999 0 < 900000) ∧ ∀ I51 : Ii, I51 = nwI I' 1 n (fun _ => 0) → ∀ v52 : Nat, v52 = (I' 999 0).toNat → ∃ m : Nat, L_X12_grown8_435 sL xs Q m k v52 0 I51 J) : ∀ (m j : Nat) (I : Ii), j ≤ 3 * n.toNat → 3 * n.toNat + 1 ≤ j + m → EI I0 n k I → L_X12_grown8_235 sL xs Q m k (j : Int) I J := by
  refine loopN (L := fun m (t : Ii) v => L_X12_grown8_235 sL xs Q m k v t J) (fun _ => EI I0 n k) (N := 3 * n.toNat) (fun m j I hj hi kk => ?_)
  have hi' := hi
  obtain ⟨b, σ, nm, T, p, c, L, h, hs, s0, hc⟩ := hi
  have hL := hs.2.2.2.1
  have b1 := ms_1 hs.2.1.1
  have b30 := hs.2.2.2.2.1.2
  show Lb_X12_grown8_235 sL xs Q (L_X12_grown8_235 sL xs Q m) k (j : Int) I J
  generalize L_X12_grown8_235 sL xs Q m = r at kk ⊢
  unfold Lb_X12_grown8_235
  have hw0 : I 1000 0 = n := h.2.2.1.1
  have hw4 : I 1000 4 = σ 1 := h.2.2.1.2.1.2.2.2
  rw [hw0]
  refine ⟨⟨by omega, by omega⟩, ⟨by omega, by omega⟩, fun d => hq I hi', fun d => ?_⟩
  refine c_pick ⟨by omega, by omega⟩ (by omega) (fun a' _ a0b => ?_)
  rw [hw0]
  refine c_pick ⟨by omega, by omega⟩ (by omega) (fun b' _ c0b => ?_)
  obtain ⟨a, rfl⟩ : ∃ a : Nat, a' = (a : Int) := ⟨a'.toNat, by omega⟩
  obtain ⟨d2, rfl⟩ : ∃ a : Nat, b' = (a : Int) := ⟨b'.toNat, by omega⟩
  rw [Int.toNat_natCast, Int.toNat_natCast, hw4]
  have ht : I (1006 + a) d2 = TBz σ a d2 := h.2.2.1.2.2.2.2.1 a d2 (by omega) (by omega)
  have tb := TBz_b9 (a := a) (b := d2) hs
  refine ⟨⟨by omega, by omega⟩, ⟨by omega, by omega⟩, fun _ => kk (by omega) I hi', fun hab => ⟨⟨by omega, by omega⟩, ⟨by omega, by omega⟩, ?_⟩⟩
  rw [ht]
  refine ⟨⟨by omega, by omega⟩, fun _ => kk (by omega) I hi', fun hno => ⟨⟨by omega, by omega⟩, fun h30 => ?_, fun _ => kk (by omega) I hi'⟩⟩
  have hnE := tb.2.2 hno
  refine c_pick ⟨by omega, by omega⟩ (by omega) (fun v61 _ w0b => ⟨⟨by omega, by omega⟩, ⟨by omega, by omega⟩, fun I64 e64 => ⟨⟨by omega, by omega⟩, ⟨by omega, by omega⟩, fun I67 e67 => ?_⟩⟩)
  have hx : 1 ≤ (1 : Int) + v61 ∧ (1 : Int) + v61 ≤ 9 := by omega
  generalize (1 : Int) + v61 = x at *
  have g67 : I67 1000 4 = σ 1 := by rw [e67, up2_key (by omega), e64, up2_key (by omega)]; exact hw4
  rw [g67]
  refine ⟨⟨by omega, by omega⟩, fun I69 e69 => ?_⟩
  have g69 : I69 1000 4 = σ 1 := by rw [e69, up2_key (by omega)]; exact g67
  rw [g69]
  refine ⟨⟨by omega, by omega⟩, fun I71 e71 => ?_⟩
  have g71 : I71 1000 4 = σ 1 := by rw [e71, up2_key (by omega)]; exact g69
  rw [g71]
  intro I72 e72
  have eI : I72 = up2 (up2 (up2 (up2 (up2 I (1006 + a) d2 x) (1006 + d2) a x) 1003 (σ 1).toNat (a : Int)) 1004 (σ 1).toNat (d2 : Int)) 1000 4 (σ 1 + 1) := by rw [e72, e71, e69, e67, e64]
  have gN : GN I0 I72 k b L (2000 + 30 * (c : Int)) := by
    rw [e72, e71, e69, e67, e64]
    exact ((((h.gn.put ⟨by omega, by omega⟩).put ⟨by omega, by omega⟩).put ⟨by omega, by omega⟩).put ⟨by omega, by omega⟩).put ⟨by omega, by omega⟩
  have h72 : GM I0 n (addE σ (a : Int) (d2 : Int) x) I72 k b L (2000 + 30 * (c : Int)) := gN.gm (GW_edge h.2.2.1 hs (by omega) (by omega) hnE eI)
  clear eI gN e72 e71 e69 e67 e64 g67 g69 g71
  refine ⟨h72.k6, h72.lit (i := 7) (by omega) [101, 100, 103, 101, 32] rfl (by show _ + 5 ≤ 900; omega) (by decide) (fun I73 b73 h73 => ?_)⟩
  have l73 : (L ++ [101, 100, 103, 101, 32]).length = L.length + 5 := by rw [List.length_append]; rfl
  refine h73.name (by omega) (by omega) (by omega) (fun I76 b76 h76 => ?_)
  have l76 : ((L ++ [101, 100, 103, 101, 32]) ++ nmL a).length = L.length + 7 := by rw [List.length_append, l73]; rfl
  refine ⟨h76.k6, h76.lit (i := 5) (by omega) [32] rfl (by show _ + 1 ≤ 900; omega) (by decide) (fun I78 b78 h78 => ?_)⟩
  have l78 : (((L ++ [101, 100, 103, 101, 32]) ++ nmL a) ++ [32]).length = L.length + 8 := by rw [List.length_append, l76]; rfl
  refine h78.name (by omega) (by omega) (by omega) (fun I81 b81 h81 => ?_)
  have l81 : ((((L ++ [101, 100, 103, 101, 32]) ++ nmL a) ++ [32]) ++ nmL d2).length = L.length + 10 := by rw [List.length_append, l78]; rfl
  refine ⟨h81.k6, h81.lit (i := 5) (by omega) [32] rfl (by show _ + 1 ≤ 900; omega) (by decide) (fun I83 b83 h83 => ?_)⟩
  have l83 : (((((L ++ [101, 100, 103, 101, 32]) ++ nmL a) ++ [32]) ++ nmL d2) ++ [32]).length = L.length + 11 := by rw [List.length_append, l81]; rfl
  refine ⟨h83.k6, h83.int (by omega) (by omega) (by omega) (fun I85 b85 h85 => ?_)⟩
  have ld := dgL_l x
  have l85 : ((((((L ++ [101, 100, 103, 101, 32]) ++ nmL a) ++ [32]) ++ nmL d2) ++ [32]) ++ dgL x).length ≤ L.length + 13 := by rw [List.length_append, l83]; omega
  refine ⟨h85.k6, h85.lit (i := 1) (by omega) [59] rfl (by show _ + 1 ≤ 900; omega) (by decide) (fun I87 b87 h87 => ?_)⟩
  obtain ⟨p', hs'⟩ := hs.edg (a := a) (b := d2) hx (by omega) (by omega) (by omega) (by omega) hnE
  have a1' : addE σ (a : Int) (d2 : Int) x 1 = σ 1 + 1 := by unfold addE; rw [updr_self]
  have a0' : addE σ (a : Int) (d2 : Int) x 0 = σ 0 := by unfold addE; rw [updr_ne (by omega), updr_ne (by omega), updr_ne (by omega), updr_ne (by omega)]
  exact kk (by omega) I87 ⟨b87, _, nm, T, p', c + 1, _, h87.wk (by omega), hs', by rw [a0']; exact s0, by rw [a1']; omega⟩
end GRE

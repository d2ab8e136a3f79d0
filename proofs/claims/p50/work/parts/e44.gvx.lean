/-! ===== the world grows: its text's beginning, its vertices ===== -/
section GRW
variable {I0 I : Ii} {J : Jj} {n : Int} {σ : Nat → Int} {nm : Nat → Int64} {T p c : Nat} {k b : Nat} {L : List Int} {N : Int} {sL : Nat} {xs : Nat → Int}
theorem g_one {R : Ii → Jj → Prop} {W : List Int} {w i : Nat} {lo hi a m : Int} {f : Int → Int} (ho : isOne W w lo hi) (hkl : kLit[i]? = some (W ++ [32])) (h : GM I0 n σ I k b L N) (hs : GS σ nm T p c L) (h0 : σ 0 = 0) (hT : T.testBit w = false) (hN : N ≤ 700000) (hc : c ≤ 10) (ha : 0 ≤ a ∧ a < 1000) (hm : 1 ≤ m ∧ m < 100) (hf : ∀ v, 0 ≤ v → v < m → (lo ≤ f v ∧ f v ≤ hi) ∧ 0 ≤ f v ∧ f v < 100)
    (hq : ∀ (I' : Ii) (b' : Nat) (L' : List Int) (x : Int) (p' : Nat), GM I0 n (updr σ (w + 2) x) I' k b' L' (N + 3) → GS (updr σ (w + 2) x) nm (T ||| 2 ^ w) p' (c + 1) L' → R I' J) :
    (dS I k = 6) ∧ wp_J4_append_15ec4 k (900 + 2 * i) I J (fun v7 I7 J7 => wp_L_pick sL xs a m I7 J7 (fun v9 I9 J9 => ∀ I10 : Ii, I10 = up2 I9 1000 (w + 1) (f v9) → (dS I10 v7 = 6) ∧ wp_J4_append_bf812 v7 (f v9) I10 J9 (fun v11 I11 J11 => (dS I11 v11 = 6) ∧ wp_J4_append_15ec4 v11 902 I11 J11 (fun v13 I13 J13 => R I13 J13)))) := by
  have hL := hs.2.2.2.1
  have hw : w = 0 ∨ w = 1 ∨ w = 2 := by rcases ho with ⟨-, z, -⟩ | ⟨-, z, -⟩ | ⟨-, z, -⟩ <;> omega
  have lW : (W ++ [32]).length ≤ 7 := by rcases ho with ⟨rfl, -⟩ | ⟨rfl, -⟩ | ⟨rfl, -⟩ <;> decide
  have bW : ∀ j, j < (W ++ [32]).length → 0 ≤ (W ++ [32]).getD j 0 ∧ (W ++ [32]).getD j 0 < 128 := by rcases ho with ⟨rfl, -⟩ | ⟨rfl, -⟩ | ⟨rfl, -⟩ <;> decide
  refine ⟨h.k6, h.lit (by omega) (W ++ [32]) hkl (by omega) bW (fun I7 b7 h7 => ?_)⟩
  refine c_pick ha ⟨by omega, by omega⟩ (fun v9 _ v0b => ?_)
  intro I10 e10
  obtain ⟨fb, fx⟩ := hf v9 v0b.1 v0b.2
  generalize f v9 = x at *
  have l7 : (L ++ (W ++ [32])).length ≤ 160 := by rw [List.length_append]; omega
  have hg : GW n (updr σ (w + 2) x) (up2 I7 1000 (w + 1) x) := by
    have g := h7.2.2.1
    obtain ⟨g0, ⟨g1, g2, g3, g4⟩, -⟩ := g
    refine GW_up h7.2.2.1 (Or.inl ⟨rfl, by omega⟩) (by rw [up2_ne (by omega)]; exact g0) ?_ (fun j hj => updr_ne (by omega)) (fun v hv => ?_)
    · rcases hw with rfl | rfl | rfl
      · exact ⟨by rw [up2_self]; exact (updr_self _ _ _).symm, by rw [up2_ne (by omega), g2]; exact (updr_ne (by decide)).symm, by rw [up2_ne (by omega), g3]; exact (updr_ne (by decide)).symm⟩
      · exact ⟨by rw [up2_ne (by omega), g1]; exact (updr_ne (by decide)).symm, by rw [up2_self]; exact (updr_self _ _ _).symm, by rw [up2_ne (by omega), g3]; exact (updr_ne (by decide)).symm⟩
      · exact ⟨by rw [up2_ne (by omega), g1]; exact (updr_ne (by decide)).symm, by rw [up2_ne (by omega), g2]; exact (updr_ne (by decide)).symm, by rw [up2_self]; exact (updr_self _ _ _).symm⟩
    · rw [updr_ne (by omega), h0] at hv
      exact absurd hv (Nat.not_lt_zero _)
  have h10 : GM I0 n (updr σ (w + 2) x) I10 k b7 (L ++ (W ++ [32])) (N + 1) := by
    rw [e10]
    exact h7.put ⟨by omega, by omega⟩ hg
  have ld := dgL_l x
  refine ⟨h10.k6, h10.int (by omega) fx (by omega) (fun I11 b11 h11 => ?_)⟩
  have l11 : ((L ++ (W ++ [32])) ++ dgL x).length ≤ 162 := by rw [List.length_append]; omega
  refine ⟨h11.k6, h11.lit (i := 1) (by omega) [59] rfl (by show _ + 1 ≤ 900; omega) (by decide) (fun I13 b13 h13 => ?_)⟩
  obtain ⟨p', hs'⟩ := hs.one ho ⟨fb, fx⟩ hT
  exact hq I13 b13 _ x p' (h13.wk (by omega)) hs'
/-- where a vertex was appended -/
def VI (I0 : Ii) (n : Int) (k v : Nat) (I : Ii) : Prop := ∃ (b : Nat) (σ : Nat → Int) (nm : Nat → Int64) (T p c : Nat) (L : List Int), GM I0 n σ I k b L (2000 + 30 * (c : Int)) ∧ GS σ nm T p c L ∧ σ 0 = (v : Int) ∧ σ 1 = 0 ∧ (c : Int) ≤ 3 + (v : Int)
theorem g_195 {Q : Nat → Ii → Jj → Prop} {r142 : Nat → Int → Ii → Jj → Prop} {v : Nat} {t6 : Int} (h : GM I0 n σ I k b (((L ++ [118, 101, 114, 116, 101, 120, 32]) ++ nmL v) ++ [32]) N) (hs : GS σ nm T p c L) (hv : σ 0 = (v : Int)) (hv10 : v < 10) (h1 : σ 1 = 0) (ht : t6 = 3 ∨ t6 = 12) (hc : (c : Int) ≤ 3 + (v : Int)) (hN : N ≤ 2000 + 30 * (c : Int) + 20) (hr : ∀ I' : Ii, VI I0 n k (v + 1) I' → r142 k ((v : Int) + 1) I' J) : B_X12_grown8_195 sL xs Q r142 k (v : Int) k (v : Int) 1 ((20 : Int) + (v : Int)) t6 I J := by
  have hL := hs.2.2.2.1
  have ll : (((L ++ [118, 101, 114, 116, 101, 120, 32]) ++ nmL v) ++ [32]).length = L.length + 10 := by simp only [List.length_append]; rfl
  unfold B_X12_grown8_195
  refine c_pick ⟨by omega, by omega⟩ (by omega) (fun v89 _ v0b => ⟨⟨by omega, by omega⟩, fun I91 e91 => ?_⟩)
  have hx : 1 ≤ (1 : Int) + v89 ∧ (1 : Int) + v89 ≤ 12 := by omega
  generalize (1 : Int) + v89 = x at *
  rw [Int.toNat_natCast] at e91
  have b0 := ms_0 hs.2.1.1
  have a0 : addV σ x 0 = σ 0 + 1 := by unfold addV; rw [updr_ne (by decide), updr_self]
  have ao : ∀ i, i ≠ 0 → i ≠ 105 → i ≠ 7 + (σ 0).toNat → i ≠ 35 + (σ 0).toNat → addV σ x i = σ i := fun i a b c d => by
    unfold addV; rw [updr_ne b, updr_ne a, updr_ne d, updr_ne c]
  have a7 : addV σ x (7 + (σ 0).toNat) = x := by unfold addV; rw [updr_ne (by omega), updr_ne (by omega), updr_ne (by omega), updr_self]
  have hg : GW n (addV σ x) (up2 I 1001 v x) := by
    obtain ⟨g0, ⟨g1, g2, g3, g4⟩, gw, -⟩ := h.2.2.1
    refine GW_up h.2.2.1 (Or.inr rfl) (by rw [up2_ne (by omega)]; exact g0) ⟨?_, ?_, ?_⟩ (fun j hj => ao j (by omega) (by omega) (by omega) (by omega)) (fun u hu => ?_)
    · rw [up2_ne (by omega), g1]; exact (ao 2 (by omega) (by omega) (by omega) (by omega)).symm
    · rw [up2_ne (by omega), g2]; exact (ao 3 (by omega) (by omega) (by omega) (by omega)).symm
    · rw [up2_ne (by omega), g3]; exact (ao 4 (by omega) (by omega) (by omega) (by omega)).symm
    · rw [a0] at hu
      by_cases cu : u = v
      · rw [cu, up2_self]
        have := a7
        rw [hv, Int.toNat_natCast] at this
        exact this.symm
      · rw [up2_ne (by omega), gw u (by omega)]
        exact (ao (7 + u) (by omega) (by omega) (by omega) (by omega)).symm
  have h91 := h.put (K := 1001) (i := v) (x := x) ⟨by omega, by omega⟩ hg
  rw [← e91] at h91
  have ld := dgL_l x
  refine ⟨h91.k6, h91.int (by omega) (by omega) (by omega) (fun I92 b92 h92 => ?_)⟩
  refine c_pick ⟨by omega, by omega⟩ (by omega) (fun v94 _ w0b => ⟨⟨by omega, by omega⟩, ?_⟩)
  have l92 : ((((L ++ [118, 101, 114, 116, 101, 120, 32]) ++ nmL v) ++ [32]) ++ dgL x).length ≤ L.length + 12 := by rw [List.length_append]; omega
  refine ⟨fun _ => ⟨h92.k6, h92.lit (i := 1) (by omega) [59] rfl (by show _ + 1 ≤ 900; omega) (by decide) (fun I' b' h' => ?_)⟩, fun _ => ⟨h92.k6, h92.lit (i := 6) (by omega) [32, 59, 10] rfl (by show _ + 3 ≤ 900; omega) (by decide) (fun I' b' h' => ?_)⟩⟩
  · obtain ⟨p', hs'⟩ := hs.vtx (v := v) (Or.inl ⟨rfl, rfl⟩) (x := x) (by omega) hv hv10
    exact hr I' ⟨b', _, _, T, p', c + 1, _, h'.wk (by omega), hs', by rw [a0]; omega, (ao 1 (by omega) (by omega) (by omega) (by omega)).trans h1, by omega⟩
  · obtain ⟨p', hs'⟩ := hs.vtx (v := v) (Or.inr ⟨rfl, rfl⟩) (x := x) (by omega) hv hv10
    exact hr I' ⟨b', _, _, T, p', c + 1, _, h'.wk (by omega), hs', by rw [a0]; omega, (ao 1 (by omega) (by omega) (by omega) (by omega)).trans h1, by omega⟩
theorem g_vtxs {Q : Nat → Ii → Jj → Prop} (hn : 2 ≤ n ∧ n ≤ 10) (hq : ∀ I' : Ii, VI I0 n k n.toNat I' → ∃ m : Nat, m ≤ 32 ∧ L_X12_grown8_235 sL xs Q m k 0 I' J) : ∀ (m v : Nat) (I : Ii), v ≤ n.toNat → n.toNat + 1 ≤ v + m → VI I0 n k v I → L_X12_grown8_142 sL xs Q m k (v : Int) I J := by
  refine loopN (L := fun m (t : Ii) v => L_X12_grown8_142 sL xs Q m k v t J) (VI I0 n k) (N := n.toNat) (fun m v I hv hi kk => ?_)
  have hi' := hi
  obtain ⟨b, σ, nm, T, p, c, L, h, hs, s0, s1, hc⟩ := hi
  have hL := hs.2.2.2.1
  show Lb_X12_grown8_142 sL xs Q (L_X12_grown8_142 sL xs Q m) k (v : Int) I J
  generalize L_X12_grown8_142 sL xs Q m = r at kk ⊢
  unfold Lb_X12_grown8_142
  rw [h.2.2.1.1]
  refine ⟨⟨by omega, by omega⟩, ⟨by omega, by omega⟩, fun d => ?_, fun d => ⟨h.k6, h.lit (i := 4) (by omega) [118, 101, 114, 116, 101, 120, 32] rfl (by show _ + 7 ≤ 900; omega) (by decide) (fun I39 b39 h39 => ?_)⟩⟩
  · have e : v = n.toNat := by omega
    rw [← e] at hq
    exact hq I hi'
  · have l39 : (L ++ [118, 101, 114, 116, 101, 120, 32]).length = L.length + 7 := by rw [List.length_append]; rfl
    refine h39.name (by omega) (by omega) (by omega) (fun I42 b42 h42 => ?_)
    have l42 : ((L ++ [118, 101, 114, 116, 101, 120, 32]) ++ nmL v).length = L.length + 9 := by rw [List.length_append, l39]; rfl
    refine ⟨h42.k6, h42.lit (i := 5) (by omega) [32] rfl (by show _ + 1 ≤ 900; omega) (by decide) (fun I44 b44 h44 => ?_)⟩
    refine c_pick ⟨by omega, by omega⟩ (by omega) (fun v46 _ w0b => ⟨⟨by omega, by omega⟩, fun _ => ?_, fun _ => ?_⟩)
    · exact g_195 h44 hs s0 (by omega) s1 (Or.inr rfl) hc (by omega) (fun I' hI' => kk (by omega) I' hI')
    · exact g_195 h44 hs s0 (by omega) s1 (Or.inl rfl) hc (by omega) (fun I' hI' => kk (by omega) I' hI')
end GRW

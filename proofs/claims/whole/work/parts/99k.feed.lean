/-! ===== feed ===== -/
/-- four bytes more -/
def fed4 (B : Nat → Int) (n : Nat) (v : Int) : Nat → Int := updr (updr (updr (updr B n (bytZ v 24)) (n + 1) (bytZ v 16)) (n + 2) (bytZ v 8)) (n + 3) (bytZ v 0)
def fed20 (B : Nat → Int) (n : Nat) (v1 v2 v3 v4 v5 : Int) : Nat → Int := fed4 (fed4 (fed4 (fed4 (fed4 B n v1) (n + 4) v2) (n + 8) v3) (n + 12) v4) (n + 16) v5
section FD
variable {I : Ii} {J : Jj} {v : Int} {n m : Nat} {Q : Ii → Jj → Prop}
theorem s_four1 {k : Int} (hk : k = 0 ∨ k = 8 ∨ k = 16 ∨ k = 24) (hn : I 0 2 = (n : Int)) (h8 : n < 800) (h : ∀ I' : Ii, I' 0 2 = ((n + 1 : Nat) : Int) → I' 1 = updr (I 1) n (bytZ v k) → I' 0 0 = I 0 0 → L_X12_four_3 v Q m (k + (-8)) I' J) : L_X12_four_3 v Q (m + 1) k I J := by
  refine ls_X12_four_3 ?_
  unfold Lb_X12_four_3
  refine ⟨rgK (by omega), fun c => by omega, fun _ => ⟨by omega, fun I3 e3 I4 e4 => h I4 ?_ ?_ (by rw [e4, up2_ne (by omega), e3, up2_ne (by omega)])⟩⟩
  · rw [e4, up2_self, e3, up2_ne (by omega), hn]; omega
  · rw [e4, up2_key (by omega), e3, up2_row, byt_eq hk, hn, show ((n : Int)).toNat = n by omega]
theorem s_four (hn : I 0 2 = (n : Int)) (h8 : n + 4 ≤ 800) (h : ∀ I' : Ii, I' 0 2 = ((n + 4 : Nat) : Int) → I' 1 = fed4 (I 1) n v → I' 0 0 = I 0 0 → Q I' J) : wp_X12_four v I J Q := by
  refine ⟨5, s_four1 (k := 24) (by omega) hn (by omega) (fun I1 a1 b1 z1 => ?_)⟩
  refine s_four1 (k := 16) (by omega) a1 (by omega) (fun I2 a2 b2 z2 => ?_)
  refine s_four1 (k := 8) (by omega) a2 (by omega) (fun I3 a3 b3 z3 => ?_)
  refine s_four1 (k := 0) (by omega) a3 (by omega) (fun I4 a4 b4 z4 => ?_)
  refine ls_X12_four_3 ?_
  unfold Lb_X12_four_3
  exact ⟨rgK (by omega), fun _ => h I4 a4 (by rw [b4, b3, b2, b1]; rfl) (by rw [z4, z3, z2, z1]), fun z => absurd (by omega) z⟩
theorem c_app1 {k : Int} (hk : k = 0 ∨ k = 8 ∨ k = 16 ∨ k = 24) (hn : I 101 1 = (n : Int)) (h8 : n < 800) (h : ∀ I' : Ii, I' 101 1 = ((n + 1 : Nat) : Int) → I' 102 = updr (I 102) n (bytZ v k) → L_X10_append_3 v Q m (k + (-8)) I' J) : L_X10_append_3 v Q (m + 1) k I J := by
  refine ls_X10_append_3 ?_
  unfold Lb_X10_append_3
  refine ⟨rgK (by omega), fun c => by omega, fun _ => put_of (n := 800) rfl hn h8 (fun I3 e3 I4 e4 => h I4 ?_ ?_)⟩
  · rw [e4, up2_self, e3, up2_ne (by omega), hn]; omega
  · rw [e4, up2_key (by omega), e3, up2_row]; rfl
theorem c_append (hn : I 101 1 = (n : Int)) (h8 : n + 4 ≤ 800) (h : ∀ I' : Ii, I' 101 1 = ((n + 4 : Nat) : Int) → I' 102 = fed4 (I 102) n v → Q I' J) : wp_X10_append v I J Q := by
  refine ⟨5, c_app1 (k := 24) (by omega) hn (by omega) (fun I1 a1 b1 => ?_)⟩
  refine c_app1 (k := 16) (by omega) a1 (by omega) (fun I2 a2 b2 => ?_)
  refine c_app1 (k := 8) (by omega) a2 (by omega) (fun I3 a3 b3 => ?_)
  refine c_app1 (k := 0) (by omega) a3 (by omega) (fun I4 a4 b4 => ?_)
  refine ls_X10_append_3 ?_
  unfold Lb_X10_append_3
  exact ⟨rgK (by omega), fun _ => h I4 a4 (by rw [b4, b3, b2, b1]; rfl), fun z => absurd (by omega) z⟩
theorem c_feed {v1 v2 v3 v4 v5 : Int} (hn : I 101 1 = (n : Int)) (h8 : n ≤ 780) : wp_X11_feed v1 v2 v3 v4 v5 I J (fun r I' _ => r = ((n + 20 : Nat) : Int) ∧ I' 101 1 = ((n + 20 : Nat) : Int) ∧ I' 102 = fed20 (I 102) n v1 v2 v3 v4 v5) := by
  refine ⟨rgK (by omega), fun _ => ?_, fun z => by omega⟩
  refine c_append hn (by omega) (fun I1 a1 b1 => c_append a1 (by omega) (fun I2 a2 b2 => c_append a2 (by omega) (fun I3 a3 b3 => c_append a3 (by omega) (fun I4 a4 b4 => c_append a4 (by omega) (fun I5 a5 b5 => ?_)))))
  exact ⟨a5, a5, by rw [b5, b4, b3, b2, b1]; rfl⟩
theorem s_feed {v1 v2 v3 v4 v5 : Int} (hn : I 0 2 = (n : Int)) (h8 : n ≤ 800) : wp_X12_feed v1 v2 v3 v4 v5 I J (fun r I' _ => (n ≤ 780 → r = ((n + 20 : Nat) : Int) ∧ I' 0 2 = ((n + 20 : Nat) : Int) ∧ I' 1 = fed20 (I 1) n v1 v2 v3 v4 v5 ∧ I' 0 0 = 0) ∧ (780 < n → r = 0 ∧ I' = up2 I 0 0 1)) := by
  refine ⟨rgK (by omega), fun c => ?_, fun c => ?_⟩
  · refine goes_of (P := False) (Or.inr ⟨rfl, id⟩) (fun z => absurd z id) (fun _ I' e => ⟨fun z => absurd rfl z, fun _ => ⟨fun z => by omega, fun _ => ⟨rfl, e⟩⟩⟩)
  · refine goes_of (P := True) (Or.inl ⟨rfl, trivial⟩) (fun _ I' e => ⟨fun _ => ?_, fun z => absurd z (by decide)⟩) (fun z => absurd trivial z)
    have a0 : I' 0 2 = (n : Int) := by rw [e, up2_ne (by omega)]; exact hn
    have b0 : I' 1 = I 1 := by rw [e, up2_key (by omega)]
    refine s_four a0 (by omega) (fun I1 a1 b1 z1 => s_four a1 (by omega) (fun I2 a2 b2 z2 => s_four a2 (by omega) (fun I3 a3 b3 z3 => s_four a3 (by omega) (fun I4 a4 b4 z4 => s_four a4 (by omega) (fun I5 a5 b5 z5 => ?_)))))
    exact ⟨fun _ => ⟨a5, a5, by rw [b5, b4, b3, b2, b1, b0]; rfl, by rw [z5, z4, z3, z2, z1, e, up2_self]⟩, fun z => by omega⟩
end FD

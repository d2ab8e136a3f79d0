/-! ===== the law, from its first step to the loop's end ===== -/
theorem law_all {G : KG} {X : KX} {Qs : State → Prop} {L b0 : Nat} {xs : Nat → Int} {E : Nat → va_E} (hA : G.2.2.2.2 = fun k => G.2.1 + plc k) (hW : KSx G) (hZ : KZx G) (hC : KCx G) (hAO : ∀ U, Kst G U → va_AO "ShareGraph$Sharing" U) (hX : KR X = room_1) (C : Fr G X cL_law 9 RL (some .boolean) wsL_law) (hT : ∀ U : State, G.1.2 U → va_T .int b0 L (fun j => .int (iZ (xs j))) (KFr G) U U.heap) (hxs : ∀ j, rg (xs j)) (hL : L ≤ 3072) (k1 : ∀ (lv : List (Option Value)) (I : Ii) (J : Jj), Wz G X 9 Qs 0 0 2372 lv [] I J) : Wb G X 9 Qs (119 + 512) (9228 + 6 * 512) 0 [some (.ref b0), none, none, none, none, none, none, none, none] [] 0 E := by
  have h100 : kadr G 100 = G.2.1 + 0 := by show G.2.2.2.2 100 = _; rw [hA]; rfl
  have h0 : kadr G 0 = G.2.1 + 96 := by show G.2.2.2.2 0 = _; rw [hA]; rfl
  have h50 : kadr G 50 = G.2.1 + 118 := by show G.2.2.2.2 50 = _; rw [hA]; rfl
  refine law_start hAO hX (FrB.ofFr C) ?_
  refine wb_to (S := (I0, J0)) (Pic_start hA) ?_
  rw [← h100, ← h0, ← h50]
  refine wz_iconst C dL_law_20 ?_
  refine wz_istore_4 C rfl dL_law_21 ?_
  exact law_loop (Kok_of hA) hW hZ hC hX C hT hxs hL k1 512 0 I0 J0 Inv_0 (by omega) (by omega)

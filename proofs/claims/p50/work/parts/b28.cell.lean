theorem k_L_cell (G : KG) (hG : Kok G) (hW : KWx G) {sL : Nat} {xs : Nat → Int} (hT : KScr G sL xs) (l1 : Int) (I : Ii) (J : Jj) (Q : Int → Ii → Jj → Prop) (h : wp_L_cell sL xs l1 I J Q) : Ctr G yL_cell wsL_cell rm_L_cell [.ref (kadr G 998), .int (iZ l1)] (I, J) (QsI Q) := by
  obtain ⟨g, h⟩ := h
  refine Ctr.ofZ (cc := cL_cell) (nL := 2) (ret := (some .int)) [some (.ref (kadr G 998)), some (.int (iZ l1))] hG (by decide +kernel) rfl (Nat.le_of_ble_eq_true rfl) (Nat.le_of_ble_eq_true rfl) (by simp [lvA, lv_args, Value.category]) ?_
  intro X hX C
  refine wz_iload_n C rfl rfl dL_cell_0 ?_
  refine wz_aload_n C rfl rfl dL_cell_1 ?_
  have hlen : ∀ k : Wz G X 2 (QsU G X (QsI Q)) 0 0 3 [some (.ref (kadr G 998)), some (.int (iZ l1))] (.int (iZ (sL : Int)) :: .int (iZ l1) :: []) I J, Wz G X 2 (QsU G X (QsI Q)) 0 0 2 [some (.ref (kadr G 998)), some (.int (iZ l1))] (.ref (kadr G 998) :: .int (iZ l1) :: []) I J := by
    intro k
    obtain ⟨p, e, R, s, m, args, below, meth, c⟩ := X
    obtain ⟨hx, hb, hml, hown, hts, hr, hlk9, hKK, hG, hlo⟩ := C
    intro k9 n9 hk9 hn9 H locs ls hP hS hl
    exact va_tlen hx hb (hT.2 s hKK.2.2.1) hS (v := iZ (sL : Int)) rfl dL_cell_2 (k k9 n9 hk9 hn9 H locs ls hP hS hl)
  refine hlen ?_
  have hL := hT.1
  refine wz_icmp_ge C (tgt := 12) (by omega) (by omega) dL_cell_3 (by decide) (fun c => ?_) (fun c => ?_)
  · refine wz_ldc C (n := 1664525) (v := 1664525) (by decide) (by decide +kernel) dL_cell_12 ?_
    refine wz_iload_n C rfl rfl dL_cell_14 ?_
    refine wz_imul C dL_cell_15 ?_
    refine wz_ldc C (n := 40018) (v := 40018) (by decide) (by decide +kernel) dL_cell_16 ?_
    refine wz_iadd C dL_cell_18 ?_
    refine wz_iret C dL_cell_19 ⟨_, rfl, ?_⟩
    unfold clZ at h
    rw [if_neg (by omega)] at h
    exact h
  · refine wz_aload_n C rfl rfl dL_cell_6 ?_
    refine wz_iload_n C rfl rfl dL_cell_7 ?_
    have hld : ∀ k : Wz G X 2 (QsU G X (QsI Q)) 0 0 9 [some (.ref (kadr G 998)), some (.int (iZ l1))] (.int (iZ (xs l1.toNat)) :: []) I J, Wz G X 2 (QsU G X (QsI Q)) 0 0 8 [some (.ref (kadr G 998)), some (.int (iZ l1))] (.int (iZ l1) :: .ref (kadr G 998) :: []) I J := by
      intro k
      obtain ⟨p, e, R, s, m, args, below, meth, c9⟩ := X
      obtain ⟨hx, hb, hml, hown, hts, hr, hlk9, hKK, hG, hlo⟩ := C
      intro k9 n9 hk9 hn9 H locs ls hP hS hl
      exact va_ti hx hb (hT.2 s hKK.2.2.1) hS (v := .int (iZ (xs l1.toNat))) (iZ_vp g.1 (by omega) (by omega)) (by rw [iZ_cN g.1 (by omega)]) dL_cell_8 (k k9 n9 hk9 hn9 H locs ls hP hS hl)
    refine hld ?_
    refine wz_goto C dL_cell_9 (tgt := 19) (by decide) ?_
    refine wz_iret C dL_cell_19 ⟨_, rfl, ?_⟩
    unfold clZ at h
    rw [if_pos (by omega)] at h
    exact h

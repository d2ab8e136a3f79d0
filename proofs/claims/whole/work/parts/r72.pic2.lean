/-! ===== building: the picture at the start ===== -/
theorem arr112 {G : KG} (c : ClassId) : vp_cell c (6, .inr (.inr (.inr (.inr (fun i => some (G.2.1 + plc (330 + 10 * i))))))) = vp_cell c (6, .inr (.inr (.inr (.inr (kX3 G (44 + 1) 6))))) := by
  have h1 : ∀ j : Fin 6, va_rf (some (G.2.1 + plc (330 + 10 * j.val))) = va_rf (kX3 G (44 + 1) 6 j.val) := fun j => match j with
    | ⟨0, _⟩ => rfl
    | ⟨1, _⟩ => rfl
    | ⟨2, _⟩ => rfl
    | ⟨3, _⟩ => rfl
    | ⟨4, _⟩ => rfl
    | ⟨5, _⟩ => rfl
  have h2 : (fun j : Fin 6 => va_rf (some (G.2.1 + plc (330 + 10 * j.val)))) = fun j : Fin 6 => va_rf (kX3 G (44 + 1) 6 j.val) := funext h1
  rw [vp_cell_q, vp_cell_q]
  exact congrArg (fun f => ({ cls := c, slots := Array.ofFn (n := 6) f, vm := .none } : Cell)) h2
theorem e5_45 {G : KG} {E : Nat → va_E} : E5 G E 45 = aX3 G (44 + 1) 6 := E5_A (i := 44) rfl
theorem en_all {G : KG} {E : Nat → va_E} (hA : G.2.2.2.2 = fun k => G.2.1 + plc k) : ∀ p, p < 119 → p ≠ 45 → ent G.2.2.2.1 G.2.2.2.2 (I0, J0) (kycL.getD p 0) = some (E5 G E p) := fun p hp hn => match p, hp, hn with
  | 0, _, _ => en_0 hA
  | 1, _, _ => en_1 hA
  | 2, _, _ => en_2 hA
  | 3, _, _ => en_3 hA
  | 4, _, _ => en_4 hA
  | 5, _, _ => en_5 hA
  | 6, _, _ => en_6 hA
  | 7, _, _ => en_7 hA
  | 8, _, _ => en_8 hA
  | 9, _, _ => en_9 hA
  | 10, _, _ => en_10 hA
  | 11, _, _ => en_11 hA
  | 12, _, _ => en_12 hA
  | 13, _, _ => en_13 hA
  | 14, _, _ => en_14 hA
  | 15, _, _ => en_15 hA
  | 16, _, _ => en_16 hA
  | 17, _, _ => en_17 hA
  | 18, _, _ => en_18 hA
  | 19, _, _ => en_19 hA
  | 20, _, _ => en_20 hA
  | 21, _, _ => en_21 hA
  | 22, _, _ => en_22 hA
  | 23, _, _ => en_23 hA
  | 24, _, _ => en_24 hA
  | 25, _, _ => en_25 hA
  | 26, _, _ => en_26 hA
  | 27, _, _ => en_27 hA
  | 28, _, _ => en_28 hA
  | 29, _, _ => en_29 hA
  | 30, _, _ => en_30 hA
  | 31, _, _ => en_31 hA
  | 32, _, _ => en_32 hA
  | 33, _, _ => en_33 hA
  | 34, _, _ => en_34 hA
  | 35, _, _ => en_35 hA
  | 36, _, _ => en_36 hA
  | 37, _, _ => en_37 hA
  | 38, _, _ => en_38 hA
  | 39, _, _ => en_39 hA
  | 40, _, _ => en_40 hA
  | 41, _, _ => en_41 hA
  | 42, _, _ => en_42 hA
  | 43, _, _ => en_43 hA
  | 44, _, _ => en_44 hA
  | 45, _, h => absurd rfl h
  | 46, _, _ => en_46 hA
  | 47, _, _ => en_47 hA
  | 48, _, _ => en_48 hA
  | 49, _, _ => en_49 hA
  | 50, _, _ => en_50 hA
  | 51, _, _ => en_51 hA
  | 52, _, _ => en_52 hA
  | 53, _, _ => en_53 hA
  | 54, _, _ => en_54 hA
  | 55, _, _ => en_55 hA
  | 56, _, _ => en_56 hA
  | 57, _, _ => en_57 hA
  | 58, _, _ => en_58 hA
  | 59, _, _ => en_59 hA
  | 60, _, _ => en_60 hA
  | 61, _, _ => en_61 hA
  | 62, _, _ => en_62 hA
  | 63, _, _ => en_63 hA
  | 64, _, _ => en_64 hA
  | 65, _, _ => en_65 hA
  | 66, _, _ => en_66 hA
  | 67, _, _ => en_67 hA
  | 68, _, _ => en_68 hA
  | 69, _, _ => en_69 hA
  | 70, _, _ => en_70 hA
  | 71, _, _ => en_71 hA
  | 72, _, _ => en_72 hA
  | 73, _, _ => en_73 hA
  | 74, _, _ => en_74 hA
  | 75, _, _ => en_75 hA
  | 76, _, _ => en_76 hA
  | 77, _, _ => en_77 hA
  | 78, _, _ => en_78 hA
  | 79, _, _ => en_79 hA
  | 80, _, _ => en_80 hA
  | 81, _, _ => en_81 hA
  | 82, _, _ => en_82 hA
  | 83, _, _ => en_83 hA
  | 84, _, _ => en_84 hA
  | 85, _, _ => en_85 hA
  | 86, _, _ => en_86 hA
  | 87, _, _ => en_87 hA
  | 88, _, _ => en_88 hA
  | 89, _, _ => en_89 hA
  | 90, _, _ => en_90 hA
  | 91, _, _ => en_91 hA
  | 92, _, _ => en_92 hA
  | 93, _, _ => en_93 hA
  | 94, _, _ => en_94 hA
  | 95, _, _ => en_95 hA
  | 96, _, _ => en_96 hA
  | 97, _, _ => en_97 hA
  | 98, _, _ => en_98 hA
  | 99, _, _ => en_99 hA
  | 100, _, _ => en_100 hA
  | 101, _, _ => en_101 hA
  | 102, _, _ => en_102 hA
  | 103, _, _ => en_103 hA
  | 104, _, _ => en_104 hA
  | 105, _, _ => en_105 hA
  | 106, _, _ => en_106 hA
  | 107, _, _ => en_107 hA
  | 108, _, _ => en_108 hA
  | 109, _, _ => en_109 hA
  | 110, _, _ => en_110 hA
  | 111, _, _ => en_111 hA
  | 112, _, _ => en_112 hA
  | 113, _, _ => en_113 hA
  | 114, _, _ => en_114 hA
  | 115, _, _ => en_115 hA
  | 116, _, _ => en_116 hA
  | 117, _, _ => en_117 hA
  | 118, _, _ => en_118 hA
  | _ + 119, h, _ => absurd h (by omega)
theorem Pic_start {G : KG} {E : Nat → va_E} (hA : G.2.2.2.2 = fun k => G.2.1 + plc k) : ∀ H, BH G 119 (E5 G E) H → Pic G (I0, J0) H := fun H h k e he => by
  have hne := ent_ne he
  obtain ⟨hp, hk⟩ := plc_ky k (shp_lt hne) (Option.isSome_iff_ne_none.mpr hne)
  have had : kadr G k = G.2.1 + plc k := by show G.2.2.2.2 k = _; rw [hA]
  rw [had]
  have h1 := h.2 (plc k) hp
  by_cases c : plc k = 45
  · rw [c] at hk h1 ⊢
    have hk : 112 = k := hk
    subst hk
    rw [hA] at he
    have he : some (Sum.inl (G.2.2.2.1.2.2, (6, Sum.inr (Sum.inr (Sum.inr (Sum.inr (fun i => some (G.2.1 + plc (330 + 10 * i))))))))) = some e := he
    cases he
    rw [e5_45] at h1
    show H[G.2.1 + 45]? = some (vp_cell _ _)
    rw [arr112]
    exact h1
  · have h2 := en_all (E := E) hA (plc k) hp c
    rw [hk, he] at h2
    cases h2
    exact h1

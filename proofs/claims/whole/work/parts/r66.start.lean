/-! ===== building: the law's start ===== -/
theorem hfX11 : ∀ j, j < 18 → defaultValue (tyX11 j) = vp_V zX11 j := by
  intro j hj
  have : j = 0 ∨ j = 1 ∨ j = 2 ∨ j = 3 ∨ j = 4 ∨ j = 5 ∨ j = 6 ∨ j = 7 ∨ j = 8 ∨ j = 9 ∨ j = 10 ∨ j = 11 ∨ j = 12 ∨ j = 13 ∨ j = 14 ∨ j = 15 ∨ j = 16 ∨ j = 17 := by omega
  rcases this with rfl | rfl | rfl | rfl | rfl | rfl | rfl | rfl | rfl | rfl | rfl | rfl | rfl | rfl | rfl | rfl | rfl | rfl <;> rfl
theorem hfX12 : ∀ j, j < 48 → defaultValue (tyX12 j) = vp_V zX12 j := by
  intro j hj
  have : j = 0 ∨ j = 1 ∨ j = 2 ∨ j = 3 ∨ j = 4 ∨ j = 5 ∨ j = 6 ∨ j = 7 ∨ j = 8 ∨ j = 9 ∨ j = 10 ∨ j = 11 ∨ j = 12 ∨ j = 13 ∨ j = 14 ∨ j = 15 ∨ j = 16 ∨ j = 17 ∨ j = 18 ∨ j = 19 ∨ j = 20 ∨ j = 21 ∨ j = 22 ∨ j = 23 ∨ j = 24 ∨ j = 25 ∨ j = 26 ∨ j = 27 ∨ j = 28 ∨ j = 29 ∨ j = 30 ∨ j = 31 ∨ j = 32 ∨ j = 33 ∨ j = 34 ∨ j = 35 ∨ j = 36 ∨ j = 37 ∨ j = 38 ∨ j = 39 ∨ j = 40 ∨ j = 41 ∨ j = 42 ∨ j = 43 ∨ j = 44 ∨ j = 45 ∨ j = 46 ∨ j = 47 := by omega
  rcases this with rfl | rfl | rfl | rfl | rfl | rfl | rfl | rfl | rfl | rfl | rfl | rfl | rfl | rfl | rfl | rfl | rfl | rfl | rfl | rfl | rfl | rfl | rfl | rfl | rfl | rfl | rfl | rfl | rfl | rfl | rfl | rfl | rfl | rfl | rfl | rfl | rfl | rfl | rfl | rfl | rfl | rfl | rfl | rfl | rfl | rfl | rfl | rfl <;> rfl
theorem FrB.ofFr {G : KG} {X : KX} {cc : ByteArray} {nL : Nat} {own : String} {ret : Option FieldType} {Ts : List Cond} (C : Fr G X cc nL own ret Ts) : FrB G X cc nL own ret Ts false := by
  obtain ⟨p, e, R, s, m, args, below, meth, c⟩ := X
  obtain ⟨hx, hb, hml, hown, hts, hr, hlk, hKK, hG, hlo⟩ := C
  exact ⟨hx, hb, hml, hown, hts, hr, hlk, hKK, fun h => absurd h Bool.false_ne_true, hlo⟩
section WBS
variable {G : KG} {X : KX} {nL : Nat} {Qs : State → Prop} {a b pc n : Nat} {E : Nat → va_E} {lv : List (Option Value)} {st : List Value} {cc : ByteArray} {own : String} {ret : Option FieldType} {Ts : List Cond} {ini : Bool}
theorem wb_astore_n (C : FrB G X cc nL own ret Ts ini) {j : Fin 4} {i : Nat} (hj : (j : Nat) = i) {x : Nat} {lv' : List (Option Value)} (hi : i < lv.length) (hn : nolong lv i = true) (he : lv.set i (some (.ref x)) = lv') (d : decode cc pc = .ok (.astore_n j, 1)) (k : Wb G X nL Qs a b (pc + 1) lv' st n E) : Wb G X nL Qs a b pc lv (.ref x :: st) n E := by
  obtain ⟨p, e, R, s, m, args, below, meth, c⟩ := X
  obtain ⟨hx, hb, hml, hown, hts, hr, hlk, hKK, hin, hlo⟩ := C
  intro k9 n9 hk9 hn9 H locs ls hP hS hl
  subst he
  exact lv_astore_n (lv := lvA 0 lv) hx hb d hj hl.has (Nat.lt_of_lt_of_le hi hl.2.2.1) rfl (fun ls' hl' => k k9 n9 hk9 hn9 H locs ls' hP hS (lvD.stored hl.2.2.1 hi hn hl'))
theorem wb_to {S : Sg} (hPic : ∀ H, BH G n E H → Pic G S H) (k : Wm G X nL Qs a b pc lv st S) : Wb G X nL Qs a b pc lv st n E := by
  obtain ⟨p, e, R, s, m, args, below, meth, c⟩ := X
  intro k9 n9 hk9 hn9 H locs ls hP hS hl
  exact k k9 n9 hk9 hn9 H locs ls (hPic H hP) hS hl
end WBS
def E1 (E : Nat → va_E) : Nat → va_E := bup E 0 (.inr (11, zX11))
def E2 (G : KG) (E : Nat → va_E) : Nat → va_E := bld (E1 E) 0 (11, o11_16 G 1) 1 (n11_16 G 1)
def E3 (G : KG) (E : Nat → va_E) : Nat → va_E := bup (E2 G E) 96 (.inr (12, zX12))
def E4 (G : KG) (E : Nat → va_E) : Nat → va_E := bld (E3 G E) 96 (12, o12_25 G 97) 97 ((n12_25 G 97).set 1 (.inl (G.2.2.2.1.1, (350, .inl sA2))))
def E5 (G : KG) (E : Nat → va_E) : Nat → va_E := bup (E4 G E) 118 (.inl (G.2.2.2.1.2.1, (1, .inr (.inl (fun _ => 0)))))
theorem law_start {G : KG} {X : KX} {Qs : State → Prop} {a b b0 : Nat} {E : Nat → va_E} (hAO : ∀ U, Kst G U → va_AO "ShareGraph$Sharing" U) (hX : KR X = room_1) (C : FrB G X cL_law 9 RL (some .boolean) wsL_law false) (k : Wb G X 9 Qs a b 20 [some (.ref b0), some (.ref (G.2.1 + 0)), some (.ref (G.2.1 + 96)), some (.ref (G.2.1 + 118)), none, none, none, none, none] [] 119 (E5 G E)) : Wb G X 9 Qs (119 + a) (9228 + b) 0 [some (.ref b0), none, none, none, none, none, none, none, none] [] 0 E := by
  refine wb_new C (ci := 11) (Cn := RX11) (T := TX11) (N := 18) (fs := zX11) (a' := 118 + a) (b' := 9210 + b) tyX11 rfl (by decide +kernel) tyX11_ok (by decide +kernel) (by decide +kernel) (by decide +kernel) hfX11 dL_law_0 (by omega) (by omega) ?_
  refine wb_dup C dL_law_3 ?_
  refine wb_init C (o := 0) (n := 1) (E := E1 E) (a' := 23 + a) (b' := 4963 + b) (c_X11 hAO (o := 0) (n := 1) (by unfold E1 bup; rw [if_pos rfl]) (by decide)) gL_law_X11_init (by decide +kernel) (by decide +kernel) (by decide +kernel) rfl rfl (by decide) (by rw [hX]; exact ⟨by decide, by decide⟩) (Nat.le_of_ble_eq_true rfl) (by show 95 + _ = _; omega) (by show 4247 + _ = _; omega) dL_law_4 ?_
  refine wb_astore_n C (j := 1) rfl (Nat.le_of_ble_eq_true rfl) rfl rfl dL_law_7 ?_
  refine wb_new C (n := 96) (E := E2 G E) (ci := 12) (Cn := RX12) (T := TX12) (N := 48) (fs := zX12) (a' := 22 + a) (b' := 4915 + b) tyX12 rfl (by decide +kernel) tyX12_ok (by decide +kernel) (by decide +kernel) (by decide +kernel) hfX12 dL_law_8 (by omega) (by omega) ?_
  refine wb_dup C dL_law_11 ?_
  refine wb_init C (o := 96) (n := 97) (E := E3 G E) (a' := 1 + a) (b' := 1 + b) (c_X12 (o := 96) (n := 97) (by unfold E3 bup; rw [if_pos rfl]) (by decide)) gL_law_X12_init (by decide +kernel) (by decide +kernel) (by decide +kernel) rfl rfl (by decide) (by rw [hX]; exact ⟨by decide, by decide⟩) (Nat.le_of_ble_eq_true rfl) (by show 21 + _ = _; omega) (by show 4914 + _ = _; omega) dL_law_12 ?_
  refine wb_astore_n C (j := 2) rfl (Nat.le_of_ble_eq_true rfl) rfl rfl dL_law_15 ?_
  refine wb_iconst C dL_law_16 ?_
  refine wb_newJ C (n := 118) (E := E4 G E) (N := 1) (a' := a) (b' := b) rfl (by decide) (by decide +kernel) dL_law_17 rfl rfl ?_
  refine wb_astore_n C (j := 3) rfl (Nat.le_of_ble_eq_true rfl) rfl rfl dL_law_19 ?_
  exact k

/-! ===== one turn of the law's loop ===== -/
theorem Wz.wide {G : KG} {X : KX} {nL : Nat} {Qs : State → Prop} {a b a2 b2 pc : Nat} {lv : List (Option Value)} {st : List Value} {I : Ii} {J : Jj} (k : Wz G X nL Qs a b pc lv st I J) (h1 : a ≤ a2) (h2 : b ≤ b2) : Wz G X nL Qs a2 b2 pc lv st I J := by
  obtain ⟨p, e, R, s, m, args, below, meth, c⟩ := X
  intro k9 n9 hk9 hn9 H locs ls hP hS hl
  exact k k9 n9 (by omega) (by omega) H locs ls hP hS hl
section WSL
variable {G : KG} {X : KX} {nL : Nat} {Qs : State → Prop} {a b pc : Nat} {lv : List (Option Value)} {st : List Value} {I : Ii} {J : Jj} {cc : ByteArray} {own : String} {ret : Option FieldType} {Ts : List Cond} {Q : Option Value → Sg → Prop}
theorem ws_ilen (C : Fr G X cc nL own ret Ts) {t N : Nat} {f : Nat → Value} (hT : ∀ U : State, G.1.2 U → va_T .int t N f (KFr G) U U.heap) (hN : N < 2147483648) (dd : decode cc pc = .ok (.arraylength, 1)) (k : Wz G X nL Qs a b (pc + 1) lv (.int (iZ (N : Int)) :: st) I J) : Wz G X nL Qs a b pc lv (.ref t :: st) I J := by
  obtain ⟨p, e, R, s, m, args, below, meth, c⟩ := X
  obtain ⟨hx, hb, hml, hown, hts, hr, hlk9, hKK, hG, hlo⟩ := C
  intro k9 n9 hk9 hn9 H locs ls hP hS hl
  exact va_tlen hx hb (hT s hKK.2.2.1) hS (iZ_nat hN) dd (k k9 n9 hk9 hn9 H locs ls hP hS hl)
theorem ws_iald (C : Fr G X cc nL own ret Ts) {t N : Nat} {xs : Nat → Int} {z : Int} (i : Nat) (hT : ∀ U : State, G.1.2 U → va_T .int t N (fun j => .int (iZ (xs j))) (KFr G) U U.heap) (hz : z = (i : Int)) (hi : i < N) (hN : N < 2147483648) (dd : decode cc pc = .ok (.iaload, 1)) (k : Wz G X nL Qs a b (pc + 1) lv (.int (iZ (xs i)) :: st) I J) : Wz G X nL Qs a b pc lv (.int (iZ z) :: .ref t :: st) I J := by
  subst hz
  obtain ⟨p, e, R, s, m, args, below, meth, c⟩ := X
  obtain ⟨hx, hb, hml, hown, hts, hr, hlk9, hKK, hG, hlo⟩ := C
  intro k9 n9 hk9 hn9 H locs ls hP hS hl
  have e0 : (iZ (i : Int)).toInt = (i : Int) := iZ_toInt (by omega)
  exact va_ti hx hb (hT s hKK.2.2.1) hS (vp_in_iff.mpr (by rw [e0]; omega)) (v := .int (iZ (xs i))) (by
    show Value.int (iZ (xs (((iZ (i : Int)).toInt).toNat))) = _
    rw [e0]; rfl) dd (k k9 n9 hk9 hn9 H locs ls hP hS hl)
/-- a static call of a method with handlers -/
theorem wl_callSW (C : Fr G X cc nL own ret Ts) {y : MethodName} {bytes : ByteArray} {maxL idx a' b' : Nat} {yret : Option FieldType} {hh : List (Nat × Nat × Nat × Nat)} {ws ws' : List Cond} {rm : Room} {As st0 : List Value} (h : Ctr G y ws rm As (I, J) Q) (n : Nat) (g : GoodIn Ts (va_wsS own idx y ws)) (hw : ws = Cond.codeWith y bytes maxL yret hh :: ws') (hd : y.cls ≠ "java/lang/invoke/MethodHandle" ∧ y.cls ≠ "java/lang/invoke/VarHandle" ∧ (parseMethodDescriptor y.desc).map (fun d => d.parameters.length) = some n) (hR : rm.frames + 1 ≤ (KR X).frames ∧ 8 + (maxL + 11) + rm.locals ≤ (KR X).locals) (hn : As.length = n) (hc : (st.map fun v => v.category).sum ≤ 8) (hca : rm.cells + a' = a) (hcb : rm.slots + b' = b) (hst : st0 = As.reverse ++ st) (d : decode cc pc = .ok (.invokestatic idx, 3)) (k : ∀ r S', Q r S' → Wm G X nL Qs a' b' (pc + 3) lv (r.toList ++ st) S') : Wz G X nL Qs a b pc lv st0 I J := by
  subst hst
  obtain ⟨p, e, R, s, m, args, below, meth, c⟩ := X
  obtain ⟨hx, hb, hml, hown, hts, hr, hlk, hKK, hG, hlo⟩ := C
  intro k9 n9 hk9 hn9 H locs ls hP hS hl
  have hf : k9 + rm.cells ≤ R.cells ∧ n9 + rm.slots ≤ R.slots := by constructor <;> omega
  have hR : rm.frames + 1 ≤ R.frames ∧ 8 + (maxL + 11) + rm.locals ≤ R.locals := hR
  refine va_callQ (vx_runSW (hh := hh) (p := p) (As := As) (rest := st) ⟨hx, hb, hml, hown, hts⟩ h (vx_cwSW n hts g hw rfl rfl hd hR) ⟨frameBlind_pc, kpre hP hKK hlo hS⟩ rfl hn hl.1 rfl (lv_room hc) d hf) hS (fun r S' H1 locs1 hq hP1 hS1 => ?_)
  exact k r S' hq (k9 + rm.cells) (n9 + rm.slots) (by omega) (by omega) H1 locs1 ls hP1 hS1 hl
end WSL
/-- behind a caller: what the reference then does -/
def LBh (M : Ii → Jj → (Int → Ii → Jj → Prop) → Prop) (n : Nat) : Int → Ii → Jj → Prop := fun v I' J' => (0 ≤ v ∧ v ≤ 3) ∧ M I' J' (fun b I2 J2 => I2 0 0 = v ∧ (v = 0 → J2 50 0 = i2lZ b) ∧ Inv (n + 1) I2 J2)
theorem LQ_of {M : Ii → Jj → (Int → Ii → Jj → Prop) → Prop} {n : Nat} {cd : Nat → Int} {v : Int} {I' : Ii} {J' : Jj} (hcd : ∀ k, 0 ≤ cd k ∧ cd k ≤ 3) (hM : ∀ (I : Ii) (J : Jj) (P P' : Int → Ii → Jj → Prop), M I J P → (∀ r I2 J2, P r I2 J2 → P' r I2 J2) → M I J P') (h : LQ (MX M n cd) (MN M n) cd v I' J') : LBh M n v I' J' := by
  rcases h with ⟨rfl, r, J1, hN, rfl⟩ | ⟨k, h0, rfl, hX⟩
  · refine ⟨by decide, hM _ _ _ _ (hN (up2 J1 50 0 (i2lZ r)) (fun k hk => up2_key hk)) (fun b I2 J2 hb => ?_)⟩
    obtain ⟨b1, b2, b3, b4⟩ := hb
    exact ⟨b1, fun _ => by rw [b3, up2_self, b2], b4⟩
  · refine ⟨hcd k, hM _ _ _ _ hX.2 (fun b I2 J2 hb => ⟨hb.1, fun z => absurd z h0, hb.2⟩)⟩
theorem cdV_b (k : Nat) : 0 ≤ cdV k ∧ cdV k ≤ 3 := by unfold cdV; split <;> omega
theorem cdB_b (k : Nat) : 0 ≤ cdB k ∧ cdB k ≤ 3 := by unfold cdB; split <;> omega
theorem cdM_b (k : Nat) : 0 ≤ cdM k ∧ cdM k ≤ 3 := by unfold cdM; split <;> omega
theorem cdA_b (k : Nat) : 0 ≤ cdA k ∧ cdA k ≤ 3 := by unfold cdA; split <;> omega
theorem cdI_b (k : Nat) : 0 ≤ cdI k ∧ cdI k ≤ 3 := by unfold cdI; split <;> omega
theorem cdS_b (k : Nat) : 0 ≤ cdS k ∧ cdS k ≤ 3 := by unfold cdS; split <;> omega
theorem cmpL_self (x : Int64) : cmpL x x = 0 := cmpL_eq.mpr rfl
section LAW
variable {G : KG} {X : KX} {Qs : State → Prop} {a b : Nat} {I : Ii} {J : Jj} {n i L b0 : Nat} {xs : Nat → Int}

set_option maxHeartbeats 4000000 in
set_option maxRecDepth 100000 in
theorem law_feed (hG : Kok G) (hW : KSx G) (hZ : KZx G) (hC : KCx G) (hX : KR X = room_1) (C : Fr G X cL_law 9 RL (some .boolean) wsL_law) (hT : ∀ U : State, G.1.2 U → va_T .int b0 L (fun j => .int (iZ (xs j))) (KFr G) U U.heap) (hxs : ∀ j, rg (xs j)) (h : Inv n I J) (hn : n ≤ 600) (hi : i + 6 ≤ L) (hL : L ≤ 3072)
    (k : ∀ (I2 : Ii) (J2 : Jj), Inv (n + 1) I2 J2 → Wz G X 9 Qs a b 2366 [some (.ref b0), some (.ref (kadr G 100)), some (.ref (kadr G 0)), some (.ref (kadr G 50)), some (.int (iZ i)), none, none, none, none] [] I2 J2) : Wz G X 9 Qs (1 + a) (6 + b) 244 [some (.ref b0), some (.ref (kadr G 100)), some (.ref (kadr G 0)), some (.ref (kadr G 50)), some (.int (iZ i)), none, none, none, none] [] I J := by
  refine wz_aload_n C rfl rfl dL_law_244 ?_
  refine wz_aload_n C rfl rfl dL_law_245 ?_
  refine wz_iload C rfl dL_law_246 ?_
  refine wz_iconst C dL_law_248 ?_
  refine wz_iadd C dL_law_249 ?_
  refine ws_iald C (i + 1) hT (by omega) (by omega) (by omega) dL_law_250 ?_
  refine wz_aload_n C rfl rfl dL_law_251 ?_
  refine wz_iload C rfl dL_law_252 ?_
  refine wz_iconst C dL_law_254 ?_
  refine wz_iadd C dL_law_255 ?_
  refine ws_iald C (i + 2) hT (by omega) (by omega) (by omega) dL_law_256 ?_
  refine wz_aload_n C rfl rfl dL_law_257 ?_
  refine wz_iload C rfl dL_law_258 ?_
  refine wz_iconst C dL_law_260 ?_
  refine wz_iadd C dL_law_261 ?_
  refine ws_iald C (i + 3) hT (by omega) (by omega) (by omega) dL_law_262 ?_
  refine wz_aload_n C rfl rfl dL_law_263 ?_
  refine wz_iload C rfl dL_law_264 ?_
  refine wz_iconst C dL_law_266 ?_
  refine wz_iadd C dL_law_267 ?_
  refine ws_iald C (i + 4) hT (by omega) (by omega) (by omega) dL_law_268 ?_
  refine wz_aload_n C rfl rfl dL_law_269 ?_
  refine wz_iload C rfl dL_law_270 ?_
  refine wz_iconst C dL_law_272 ?_
  refine wz_iadd C dL_law_273 ?_
  refine ws_iald C (i + 5) hT (by omega) (by omega) (by omega) dL_law_274 ?_
  refine wz_aload_n C rfl rfl dL_law_275 ?_
  refine wl_callSW C (As := [.ref (kadr G 100), .int (iZ (xs (i + 1))), .int (iZ (xs (i + 2))), .int (iZ (xs (i + 3))), .int (iZ (xs (i + 4))), .int (iZ (xs (i + 5))), .ref (kadr G 50)]) (st := []) (a' := a) (b' := b) (kL_feed G hG hZ hC (xs (i + 1)) (xs (i + 2)) (xs (i + 3)) (xs (i + 4)) (xs (i + 5)) I J _ _ (st_feed h hn) (fun k I J hk => hk.1)) 7 gL_law_L_feed rfl (by decide +kernel) (by rw [hX]; exact ⟨Nat.le_of_ble_eq_true rfl, Nat.le_of_ble_eq_true rfl⟩) rfl (Nat.le_of_ble_eq_true rfl) rfl rfl rfl dL_law_276 (kk_sI (fun v I1 J1 h1 => ?_))
  obtain ⟨hv, h1⟩ := LQ_of (M := wp_X12_feed (xs (i + 1)) (xs (i + 2)) (xs (i + 3)) (xs (i + 4)) (xs (i + 5))) cdS_b (fun I J P P' hp hq => fr_X12_feed hp (fun r I2 J2 hr _ => hq r I2 J2 hr)) h1
  refine wz_istore_5 C rfl dL_law_279 ?_
  refine wz_aload_n C rfl rfl dL_law_281 ?_
  refine wz_aload_n C rfl rfl dL_law_282 ?_
  refine wz_iload C rfl dL_law_283 ?_
  refine wz_iconst C dL_law_285 ?_
  refine wz_iadd C dL_law_286 ?_
  refine ws_iald C (i + 1) hT (by omega) (by omega) (by omega) dL_law_287 ?_
  refine wz_aload_n C rfl rfl dL_law_288 ?_
  refine wz_iload C rfl dL_law_289 ?_
  refine wz_iconst C dL_law_291 ?_
  refine wz_iadd C dL_law_292 ?_
  refine ws_iald C (i + 2) hT (by omega) (by omega) (by omega) dL_law_293 ?_
  refine wz_aload_n C rfl rfl dL_law_294 ?_
  refine wz_iload C rfl dL_law_295 ?_
  refine wz_iconst C dL_law_297 ?_
  refine wz_iadd C dL_law_298 ?_
  refine ws_iald C (i + 3) hT (by omega) (by omega) (by omega) dL_law_299 ?_
  refine wz_aload_n C rfl rfl dL_law_300 ?_
  refine wz_iload C rfl dL_law_301 ?_
  refine wz_iconst C dL_law_303 ?_
  refine wz_iadd C dL_law_304 ?_
  refine ws_iald C (i + 4) hT (by omega) (by omega) (by omega) dL_law_305 ?_
  refine wz_aload_n C rfl rfl dL_law_306 ?_
  refine wz_iload C rfl dL_law_307 ?_
  refine wz_iconst C dL_law_309 ?_
  refine wz_iadd C dL_law_310 ?_
  refine ws_iald C (i + 5) hT (by omega) (by omega) (by omega) dL_law_311 ?_
  refine wm_callV C (o := 0) (As := [.int (iZ (xs (i + 1))), .int (iZ (xs (i + 2))), .int (iZ (xs (i + 3))), .int (iZ (xs (i + 4))), .int (iZ (xs (i + 5)))]) (st := []) (a' := a) (b' := b) rfl rfl (k_X12_feed G hG (xs (i + 1)) (xs (i + 2)) (xs (i + 3)) (xs (i + 4)) (xs (i + 5)) I1 J1 _ h1) 5 gL_law_X12_feed rfl (by decide +kernel) (by rw [hX]; exact ⟨Nat.le_of_ble_eq_true rfl, Nat.le_of_ble_eq_true rfl⟩) rfl (Nat.le_of_ble_eq_true rfl) (Nat.zero_add _) (Nat.zero_add _) rfl dL_law_312 (kk_sI (fun r I2 J2 h2 => ?_))
  obtain ⟨e1, e2, h3⟩ := h2
  refine wz_istore_6 C rfl dL_law_315 ?_
  refine wz_aload_n C rfl rfl dL_law_317 ?_
  refine wm_callV C (o := 0) (As := []) (st := []) (a' := a) (b' := b) rfl rfl (k_X12_thrown G hG I2 J2 (fun t I3 J3 => t = v ∧ I3 = I2 ∧ J3 = J2) ⟨e1, rfl, rfl⟩) 0 gL_law_X12_thrown rfl (by decide +kernel) (by rw [hX]; exact ⟨Nat.le_of_ble_eq_true rfl, Nat.le_of_ble_eq_true rfl⟩) rfl (Nat.le_of_ble_eq_true rfl) (Nat.zero_add _) (Nat.zero_add _) rfl dL_law_318 (kk_sI (fun t I3 J3 h4 => ?_))
  obtain ⟨rfl, rfl, rfl⟩ := h4
  refine wz_iload C rfl dL_law_321 ?_
  refine wm_icmp_eq C (tgt := 328) dL_law_323 (by decide) (fun _ => ?_) (fun z => absurd rfl z)
  refine wz_iload C rfl dL_law_328 ?_
  refine wz_if_ne C (tgt := 345) (by omega) dL_law_330 (by decide) (fun _ => ?_) (fun z => ?_)
  · refine wz_goto C dL_law_345 (tgt := 2366) (by decide) ?_
    exact Wz.drop (k _ _ h3) (And.intro rfl (And.intro rfl (And.intro rfl (And.intro rfl (And.intro rfl trivial)))))
  · refine wz_aload_n C rfl rfl dL_law_333 ?_
    refine wz_iconst C dL_law_334 ?_
    refine wz_laload C 0 rfl rfl (by decide) (by decide) (e2 z) dL_law_335 ?_
    refine wz_iload C rfl dL_law_336 ?_
    refine wd_i2l C dL_law_338 ?_
    refine wd_lcmp C dL_law_339 ?_
    refine wz_if_eq C (tgt := 345) (toInt_rg _) dL_law_340 (by decide) (fun _ => ?_) (fun z2 => absurd (cmpL_self _) z2)
    refine wz_goto C dL_law_345 (tgt := 2366) (by decide) ?_
    exact Wz.drop (k _ _ h3) (And.intro rfl (And.intro rfl (And.intro rfl (And.intro rfl (And.intro rfl trivial)))))
set_option maxHeartbeats 4000000 in
set_option maxRecDepth 100000 in
theorem law_truncate (hG : Kok G) (hW : KSx G) (hZ : KZx G) (hC : KCx G) (hX : KR X = room_1) (C : Fr G X cL_law 9 RL (some .boolean) wsL_law) (hT : ∀ U : State, G.1.2 U → va_T .int b0 L (fun j => .int (iZ (xs j))) (KFr G) U U.heap) (hxs : ∀ j, rg (xs j)) (h : Inv n I J) (hn : n ≤ 600) (hi : i + 6 ≤ L) (hL : L ≤ 3072)
    (k : ∀ (I2 : Ii) (J2 : Jj), Inv (n + 1) I2 J2 → Wz G X 9 Qs a b 2366 [some (.ref b0), some (.ref (kadr G 100)), some (.ref (kadr G 0)), some (.ref (kadr G 50)), some (.int (iZ i)), none, none, none, none] [] I2 J2) : Wz G X 9 Qs (1 + a) (6 + b) 348 [some (.ref b0), some (.ref (kadr G 100)), some (.ref (kadr G 0)), some (.ref (kadr G 50)), some (.int (iZ i)), none, none, none, none] [] I J := by
  refine wz_aload_n C rfl rfl dL_law_348 ?_
  refine wz_aload_n C rfl rfl dL_law_349 ?_
  refine wz_iload C rfl dL_law_350 ?_
  refine wz_iconst C dL_law_352 ?_
  refine wz_iadd C dL_law_353 ?_
  refine ws_iald C (i + 1) hT (by omega) (by omega) (by omega) dL_law_354 ?_
  refine wz_aload_n C rfl rfl dL_law_355 ?_
  refine wl_callSW C (As := [.ref (kadr G 100), .int (iZ (xs (i + 1))), .ref (kadr G 50)]) (st := []) (a' := a) (b' := b) (kL_truncate G hG hZ hC (xs (i + 1)) I J _ _ (st_truncate h hn (hxs (i + 1))) (fun k I J hk => hk.1)) 3 gL_law_L_truncate rfl (by decide +kernel) (by rw [hX]; exact ⟨Nat.le_of_ble_eq_true rfl, Nat.le_of_ble_eq_true rfl⟩) rfl (Nat.le_of_ble_eq_true rfl) rfl rfl rfl dL_law_356 (kk_sI (fun v I1 J1 h1 => ?_))
  obtain ⟨hv, h1⟩ := LQ_of (M := wp_X12_truncate (xs (i + 1))) cdI_b (fun I J P P' hp hq => fr_X12_truncate hp (fun r I2 J2 hr _ => hq r I2 J2 hr)) h1
  refine wz_istore_5 C rfl dL_law_359 ?_
  refine wz_aload_n C rfl rfl dL_law_361 ?_
  refine wz_aload_n C rfl rfl dL_law_362 ?_
  refine wz_iload C rfl dL_law_363 ?_
  refine wz_iconst C dL_law_365 ?_
  refine wz_iadd C dL_law_366 ?_
  refine ws_iald C (i + 1) hT (by omega) (by omega) (by omega) dL_law_367 ?_
  refine wm_callV C (o := 0) (As := [.int (iZ (xs (i + 1)))]) (st := []) (a' := a) (b' := b) rfl rfl (k_X12_truncate G hG (xs (i + 1)) I1 J1 _ h1) 1 gL_law_X12_truncate rfl (by decide +kernel) (by rw [hX]; exact ⟨Nat.le_of_ble_eq_true rfl, Nat.le_of_ble_eq_true rfl⟩) rfl (Nat.le_of_ble_eq_true rfl) (Nat.zero_add _) (Nat.zero_add _) rfl dL_law_368 (kk_sI (fun r I2 J2 h2 => ?_))
  obtain ⟨e1, e2, h3⟩ := h2
  refine wz_istore_6 C rfl dL_law_371 ?_
  refine wz_aload_n C rfl rfl dL_law_373 ?_
  refine wm_callV C (o := 0) (As := []) (st := []) (a' := a) (b' := b) rfl rfl (k_X12_thrown G hG I2 J2 (fun t I3 J3 => t = v ∧ I3 = I2 ∧ J3 = J2) ⟨e1, rfl, rfl⟩) 0 gL_law_X12_thrown rfl (by decide +kernel) (by rw [hX]; exact ⟨Nat.le_of_ble_eq_true rfl, Nat.le_of_ble_eq_true rfl⟩) rfl (Nat.le_of_ble_eq_true rfl) (Nat.zero_add _) (Nat.zero_add _) rfl dL_law_374 (kk_sI (fun t I3 J3 h4 => ?_))
  obtain ⟨rfl, rfl, rfl⟩ := h4
  refine wz_iload C rfl dL_law_377 ?_
  refine wm_icmp_eq C (tgt := 384) dL_law_379 (by decide) (fun _ => ?_) (fun z => absurd rfl z)
  refine wz_iload C rfl dL_law_384 ?_
  refine wz_if_ne C (tgt := 401) (by omega) dL_law_386 (by decide) (fun _ => ?_) (fun z => ?_)
  · refine wz_goto C dL_law_401 (tgt := 2366) (by decide) ?_
    exact Wz.drop (k _ _ h3) (And.intro rfl (And.intro rfl (And.intro rfl (And.intro rfl (And.intro rfl trivial)))))
  · refine wz_aload_n C rfl rfl dL_law_389 ?_
    refine wz_iconst C dL_law_390 ?_
    refine wz_laload C 0 rfl rfl (by decide) (by decide) (e2 z) dL_law_391 ?_
    refine wz_iload C rfl dL_law_392 ?_
    refine wd_i2l C dL_law_394 ?_
    refine wd_lcmp C dL_law_395 ?_
    refine wz_if_eq C (tgt := 401) (toInt_rg _) dL_law_396 (by decide) (fun _ => ?_) (fun z2 => absurd (cmpL_self _) z2)
    refine wz_goto C dL_law_401 (tgt := 2366) (by decide) ?_
    exact Wz.drop (k _ _ h3) (And.intro rfl (And.intro rfl (And.intro rfl (And.intro rfl (And.intro rfl trivial)))))
set_option maxHeartbeats 4000000 in
set_option maxRecDepth 100000 in
theorem law_readText (hG : Kok G) (hW : KSx G) (hZ : KZx G) (hC : KCx G) (hX : KR X = room_1) (C : Fr G X cL_law 9 RL (some .boolean) wsL_law) (hT : ∀ U : State, G.1.2 U → va_T .int b0 L (fun j => .int (iZ (xs j))) (KFr G) U U.heap) (hxs : ∀ j, rg (xs j)) (h : Inv n I J) (hn : n ≤ 600) (hi : i + 6 ≤ L) (hL : L ≤ 3072)
    (k : ∀ (I2 : Ii) (J2 : Jj), Inv (n + 1) I2 J2 → Wz G X 9 Qs a b 2366 [some (.ref b0), some (.ref (kadr G 100)), some (.ref (kadr G 0)), some (.ref (kadr G 50)), some (.int (iZ i)), none, none, none, none] [] I2 J2) : Wz G X 9 Qs (1 + a) (6 + b) 404 [some (.ref b0), some (.ref (kadr G 100)), some (.ref (kadr G 0)), some (.ref (kadr G 50)), some (.int (iZ i)), none, none, none, none] [] I J := by
  refine wz_aload_n C rfl rfl dL_law_404 ?_
  refine wz_aload_n C rfl rfl dL_law_405 ?_
  refine wl_callSW C (As := [.ref (kadr G 100), .ref (kadr G 50)]) (st := []) (a' := a) (b' := b) (kL_readText G hG hW hZ hC I J _ _ (st_readText h hn) (fun k I J hk => hk.1)) 2 gL_law_L_readText rfl (by decide +kernel) (by rw [hX]; exact ⟨Nat.le_of_ble_eq_true rfl, Nat.le_of_ble_eq_true rfl⟩) rfl (Nat.le_of_ble_eq_true rfl) rfl rfl rfl dL_law_406 (kk_sI (fun v I1 J1 h1 => ?_))
  obtain ⟨hv, h1⟩ := LQ_of (M := wp_X12_readText) cdI_b (fun I J P P' hp hq => fr_X12_readText hp (fun r I2 J2 hr _ => hq r I2 J2 hr)) h1
  refine wz_istore_5 C rfl dL_law_409 ?_
  refine wz_aload_n C rfl rfl dL_law_411 ?_
  refine wm_callV C (o := 0) (As := []) (st := []) (a' := a) (b' := b) rfl rfl (k_X12_readText G hG I1 J1 _ h1) 0 gL_law_X12_readText rfl (by decide +kernel) (by rw [hX]; exact ⟨Nat.le_of_ble_eq_true rfl, Nat.le_of_ble_eq_true rfl⟩) rfl (Nat.le_of_ble_eq_true rfl) (Nat.zero_add _) (Nat.zero_add _) rfl dL_law_412 (kk_sI (fun r I2 J2 h2 => ?_))
  obtain ⟨e1, e2, h3⟩ := h2
  refine wz_istore_6 C rfl dL_law_415 ?_
  refine wz_aload_n C rfl rfl dL_law_417 ?_
  refine wm_callV C (o := 0) (As := []) (st := []) (a' := a) (b' := b) rfl rfl (k_X12_thrown G hG I2 J2 (fun t I3 J3 => t = v ∧ I3 = I2 ∧ J3 = J2) ⟨e1, rfl, rfl⟩) 0 gL_law_X12_thrown rfl (by decide +kernel) (by rw [hX]; exact ⟨Nat.le_of_ble_eq_true rfl, Nat.le_of_ble_eq_true rfl⟩) rfl (Nat.le_of_ble_eq_true rfl) (Nat.zero_add _) (Nat.zero_add _) rfl dL_law_418 (kk_sI (fun t I3 J3 h4 => ?_))
  obtain ⟨rfl, rfl, rfl⟩ := h4
  refine wz_iload C rfl dL_law_421 ?_
  refine wm_icmp_eq C (tgt := 428) dL_law_423 (by decide) (fun _ => ?_) (fun z => absurd rfl z)
  refine wz_iload C rfl dL_law_428 ?_
  refine wz_if_ne C (tgt := 445) (by omega) dL_law_430 (by decide) (fun _ => ?_) (fun z => ?_)
  · refine wz_goto C dL_law_445 (tgt := 2366) (by decide) ?_
    exact Wz.drop (k _ _ h3) (And.intro rfl (And.intro rfl (And.intro rfl (And.intro rfl (And.intro rfl trivial)))))
  · refine wz_aload_n C rfl rfl dL_law_433 ?_
    refine wz_iconst C dL_law_434 ?_
    refine wz_laload C 0 rfl rfl (by decide) (by decide) (e2 z) dL_law_435 ?_
    refine wz_iload C rfl dL_law_436 ?_
    refine wd_i2l C dL_law_438 ?_
    refine wd_lcmp C dL_law_439 ?_
    refine wz_if_eq C (tgt := 445) (toInt_rg _) dL_law_440 (by decide) (fun _ => ?_) (fun z2 => absurd (cmpL_self _) z2)
    refine wz_goto C dL_law_445 (tgt := 2366) (by decide) ?_
    exact Wz.drop (k _ _ h3) (And.intro rfl (And.intro rfl (And.intro rfl (And.intro rfl (And.intro rfl trivial)))))
set_option maxHeartbeats 4000000 in
set_option maxRecDepth 100000 in
theorem law_runScript (hG : Kok G) (hW : KSx G) (hZ : KZx G) (hC : KCx G) (hX : KR X = room_1) (C : Fr G X cL_law 9 RL (some .boolean) wsL_law) (hT : ∀ U : State, G.1.2 U → va_T .int b0 L (fun j => .int (iZ (xs j))) (KFr G) U U.heap) (hxs : ∀ j, rg (xs j)) (h : Inv n I J) (hn : n ≤ 600) (hi : i + 6 ≤ L) (hL : L ≤ 3072)
    (k : ∀ (I2 : Ii) (J2 : Jj), Inv (n + 1) I2 J2 → Wz G X 9 Qs a b 2366 [some (.ref b0), some (.ref (kadr G 100)), some (.ref (kadr G 0)), some (.ref (kadr G 50)), some (.int (iZ i)), none, none, none, none] [] I2 J2) : Wz G X 9 Qs (1 + a) (6 + b) 448 [some (.ref b0), some (.ref (kadr G 100)), some (.ref (kadr G 0)), some (.ref (kadr G 50)), some (.int (iZ i)), none, none, none, none] [] I J := by
  refine wz_aload_n C rfl rfl dL_law_448 ?_
  refine wz_aload_n C rfl rfl dL_law_449 ?_
  refine wl_callSW C (As := [.ref (kadr G 100), .ref (kadr G 50)]) (st := []) (a' := a) (b' := b) (kL_runScript G hG hW hZ hC I J _ _ (st_runScript h hn) (fun k I J hk => hk.1)) 2 gL_law_L_runScript rfl (by decide +kernel) (by rw [hX]; exact ⟨Nat.le_of_ble_eq_true rfl, Nat.le_of_ble_eq_true rfl⟩) rfl (Nat.le_of_ble_eq_true rfl) rfl rfl rfl dL_law_450 (kk_sI (fun v I1 J1 h1 => ?_))
  obtain ⟨hv, h1⟩ := LQ_of (M := wp_X12_runScript) cdI_b (fun I J P P' hp hq => fr_X12_runScript hp (fun r I2 J2 hr _ => hq r I2 J2 hr)) h1
  refine wz_istore_5 C rfl dL_law_453 ?_
  refine wz_aload_n C rfl rfl dL_law_455 ?_
  refine wm_callV C (o := 0) (As := []) (st := []) (a' := a) (b' := b) rfl rfl (k_X12_runScript G hG I1 J1 _ h1) 0 gL_law_X12_runScript rfl (by decide +kernel) (by rw [hX]; exact ⟨Nat.le_of_ble_eq_true rfl, Nat.le_of_ble_eq_true rfl⟩) rfl (Nat.le_of_ble_eq_true rfl) (Nat.zero_add _) (Nat.zero_add _) rfl dL_law_456 (kk_sI (fun r I2 J2 h2 => ?_))
  obtain ⟨e1, e2, h3⟩ := h2
  refine wz_istore_6 C rfl dL_law_459 ?_
  refine wz_aload_n C rfl rfl dL_law_461 ?_
  refine wm_callV C (o := 0) (As := []) (st := []) (a' := a) (b' := b) rfl rfl (k_X12_thrown G hG I2 J2 (fun t I3 J3 => t = v ∧ I3 = I2 ∧ J3 = J2) ⟨e1, rfl, rfl⟩) 0 gL_law_X12_thrown rfl (by decide +kernel) (by rw [hX]; exact ⟨Nat.le_of_ble_eq_true rfl, Nat.le_of_ble_eq_true rfl⟩) rfl (Nat.le_of_ble_eq_true rfl) (Nat.zero_add _) (Nat.zero_add _) rfl dL_law_462 (kk_sI (fun t I3 J3 h4 => ?_))
  obtain ⟨rfl, rfl, rfl⟩ := h4
  refine wz_iload C rfl dL_law_465 ?_
  refine wm_icmp_eq C (tgt := 472) dL_law_467 (by decide) (fun _ => ?_) (fun z => absurd rfl z)
  refine wz_iload C rfl dL_law_472 ?_
  refine wz_if_ne C (tgt := 489) (by omega) dL_law_474 (by decide) (fun _ => ?_) (fun z => ?_)
  · refine wz_goto C dL_law_489 (tgt := 2366) (by decide) ?_
    exact Wz.drop (k _ _ h3) (And.intro rfl (And.intro rfl (And.intro rfl (And.intro rfl (And.intro rfl trivial)))))
  · refine wz_aload_n C rfl rfl dL_law_477 ?_
    refine wz_iconst C dL_law_478 ?_
    refine wz_laload C 0 rfl rfl (by decide) (by decide) (e2 z) dL_law_479 ?_
    refine wz_iload C rfl dL_law_480 ?_
    refine wd_i2l C dL_law_482 ?_
    refine wd_lcmp C dL_law_483 ?_
    refine wz_if_eq C (tgt := 489) (toInt_rg _) dL_law_484 (by decide) (fun _ => ?_) (fun z2 => absurd (cmpL_self _) z2)
    refine wz_goto C dL_law_489 (tgt := 2366) (by decide) ?_
    exact Wz.drop (k _ _ h3) (And.intro rfl (And.intro rfl (And.intro rfl (And.intro rfl (And.intro rfl trivial)))))
set_option maxHeartbeats 4000000 in
set_option maxRecDepth 100000 in
theorem law_error (hG : Kok G) (hW : KSx G) (hZ : KZx G) (hC : KCx G) (hX : KR X = room_1) (C : Fr G X cL_law 9 RL (some .boolean) wsL_law) (hT : ∀ U : State, G.1.2 U → va_T .int b0 L (fun j => .int (iZ (xs j))) (KFr G) U U.heap) (hxs : ∀ j, rg (xs j)) (h : Inv n I J) (hn : n ≤ 600) (hi : i + 6 ≤ L) (hL : L ≤ 3072)
    (k : ∀ (I2 : Ii) (J2 : Jj), Inv (n + 1) I2 J2 → Wz G X 9 Qs a b 2366 [some (.ref b0), some (.ref (kadr G 100)), some (.ref (kadr G 0)), some (.ref (kadr G 50)), some (.int (iZ i)), none, none, none, none] [] I2 J2) : Wz G X 9 Qs (1 + a) (6 + b) 492 [some (.ref b0), some (.ref (kadr G 100)), some (.ref (kadr G 0)), some (.ref (kadr G 50)), some (.int (iZ i)), none, none, none, none] [] I J := by
  refine wz_aload_n C rfl rfl dL_law_492 ?_
  refine wz_aload_n C rfl rfl dL_law_493 ?_
  refine wz_iload C rfl dL_law_494 ?_
  refine wz_iconst C dL_law_496 ?_
  refine wz_iadd C dL_law_497 ?_
  refine ws_iald C (i + 1) hT (by omega) (by omega) (by omega) dL_law_498 ?_
  refine wz_aload_n C rfl rfl dL_law_499 ?_
  refine wl_callSW C (As := [.ref (kadr G 100), .int (iZ (xs (i + 1))), .ref (kadr G 50)]) (st := []) (a' := a) (b' := b) (kL_error G hG hZ hC (xs (i + 1)) I J _ _ (st_error h (hxs (i + 1))) (fun k I J hk => hk.1)) 3 gL_law_L_error rfl (by decide +kernel) (by rw [hX]; exact ⟨Nat.le_of_ble_eq_true rfl, Nat.le_of_ble_eq_true rfl⟩) rfl (Nat.le_of_ble_eq_true rfl) rfl rfl rfl dL_law_500 (kk_sI (fun v I1 J1 h1 => ?_))
  obtain ⟨hv, h1⟩ := LQ_of (M := wp_X12_error (xs (i + 1))) cdI_b (fun I J P P' hp hq => fr_X12_error hp (fun r I2 J2 hr _ => hq r I2 J2 hr)) h1
  refine wz_istore_5 C rfl dL_law_503 ?_
  refine wz_aload_n C rfl rfl dL_law_505 ?_
  refine wz_aload_n C rfl rfl dL_law_506 ?_
  refine wz_iload C rfl dL_law_507 ?_
  refine wz_iconst C dL_law_509 ?_
  refine wz_iadd C dL_law_510 ?_
  refine ws_iald C (i + 1) hT (by omega) (by omega) (by omega) dL_law_511 ?_
  refine wm_callV C (o := 0) (As := [.int (iZ (xs (i + 1)))]) (st := []) (a' := a) (b' := b) rfl rfl (k_X12_error G hG (xs (i + 1)) I1 J1 _ h1) 1 gL_law_X12_error rfl (by decide +kernel) (by rw [hX]; exact ⟨Nat.le_of_ble_eq_true rfl, Nat.le_of_ble_eq_true rfl⟩) rfl (Nat.le_of_ble_eq_true rfl) (Nat.zero_add _) (Nat.zero_add _) rfl dL_law_512 (kk_sI (fun r I2 J2 h2 => ?_))
  obtain ⟨e1, e2, h3⟩ := h2
  refine wz_istore_6 C rfl dL_law_515 ?_
  refine wz_aload_n C rfl rfl dL_law_517 ?_
  refine wm_callV C (o := 0) (As := []) (st := []) (a' := a) (b' := b) rfl rfl (k_X12_thrown G hG I2 J2 (fun t I3 J3 => t = v ∧ I3 = I2 ∧ J3 = J2) ⟨e1, rfl, rfl⟩) 0 gL_law_X12_thrown rfl (by decide +kernel) (by rw [hX]; exact ⟨Nat.le_of_ble_eq_true rfl, Nat.le_of_ble_eq_true rfl⟩) rfl (Nat.le_of_ble_eq_true rfl) (Nat.zero_add _) (Nat.zero_add _) rfl dL_law_518 (kk_sI (fun t I3 J3 h4 => ?_))
  obtain ⟨rfl, rfl, rfl⟩ := h4
  refine wz_iload C rfl dL_law_521 ?_
  refine wm_icmp_eq C (tgt := 528) dL_law_523 (by decide) (fun _ => ?_) (fun z => absurd rfl z)
  refine wz_iload C rfl dL_law_528 ?_
  refine wz_if_ne C (tgt := 545) (by omega) dL_law_530 (by decide) (fun _ => ?_) (fun z => ?_)
  · refine wz_goto C dL_law_545 (tgt := 2366) (by decide) ?_
    exact Wz.drop (k _ _ h3) (And.intro rfl (And.intro rfl (And.intro rfl (And.intro rfl (And.intro rfl trivial)))))
  · refine wz_aload_n C rfl rfl dL_law_533 ?_
    refine wz_iconst C dL_law_534 ?_
    refine wz_laload C 0 rfl rfl (by decide) (by decide) (e2 z) dL_law_535 ?_
    refine wz_iload C rfl dL_law_536 ?_
    refine wd_i2l C dL_law_538 ?_
    refine wd_lcmp C dL_law_539 ?_
    refine wz_if_eq C (tgt := 545) (toInt_rg _) dL_law_540 (by decide) (fun _ => ?_) (fun z2 => absurd (cmpL_self _) z2)
    refine wz_goto C dL_law_545 (tgt := 2366) (by decide) ?_
    exact Wz.drop (k _ _ h3) (And.intro rfl (And.intro rfl (And.intro rfl (And.intro rfl (And.intro rfl trivial)))))
set_option maxHeartbeats 4000000 in
set_option maxRecDepth 100000 in
theorem law_setting (hG : Kok G) (hW : KSx G) (hZ : KZx G) (hC : KCx G) (hX : KR X = room_1) (C : Fr G X cL_law 9 RL (some .boolean) wsL_law) (hT : ∀ U : State, G.1.2 U → va_T .int b0 L (fun j => .int (iZ (xs j))) (KFr G) U U.heap) (hxs : ∀ j, rg (xs j)) (h : Inv n I J) (hn : n ≤ 600) (hi : i + 6 ≤ L) (hL : L ≤ 3072)
    (k : ∀ (I2 : Ii) (J2 : Jj), Inv (n + 1) I2 J2 → Wz G X 9 Qs a b 2366 [some (.ref b0), some (.ref (kadr G 100)), some (.ref (kadr G 0)), some (.ref (kadr G 50)), some (.int (iZ i)), none, none, none, none] [] I2 J2) : Wz G X 9 Qs (1 + a) (6 + b) 548 [some (.ref b0), some (.ref (kadr G 100)), some (.ref (kadr G 0)), some (.ref (kadr G 50)), some (.int (iZ i)), none, none, none, none] [] I J := by
  refine wz_aload_n C rfl rfl dL_law_548 ?_
  refine wz_aload_n C rfl rfl dL_law_549 ?_
  refine wz_iload C rfl dL_law_550 ?_
  refine wz_iconst C dL_law_552 ?_
  refine wz_iadd C dL_law_553 ?_
  refine ws_iald C (i + 1) hT (by omega) (by omega) (by omega) dL_law_554 ?_
  refine wz_aload_n C rfl rfl dL_law_555 ?_
  refine wl_callSW C (As := [.ref (kadr G 100), .int (iZ (xs (i + 1))), .ref (kadr G 50)]) (st := []) (a' := a) (b' := b) (kL_setting G hG hZ hC (xs (i + 1)) I J _ _ (st_setting h (hxs (i + 1))) (fun k I J hk => hk.1)) 3 gL_law_L_setting rfl (by decide +kernel) (by rw [hX]; exact ⟨Nat.le_of_ble_eq_true rfl, Nat.le_of_ble_eq_true rfl⟩) rfl (Nat.le_of_ble_eq_true rfl) rfl rfl rfl dL_law_556 (kk_sI (fun v I1 J1 h1 => ?_))
  obtain ⟨hv, h1⟩ := LQ_of (M := wp_X12_setting (xs (i + 1))) cdI_b (fun I J P P' hp hq => fr_X12_setting hp (fun r I2 J2 hr _ => hq r I2 J2 hr)) h1
  refine wz_istore_5 C rfl dL_law_559 ?_
  refine wz_aload_n C rfl rfl dL_law_561 ?_
  refine wz_aload_n C rfl rfl dL_law_562 ?_
  refine wz_iload C rfl dL_law_563 ?_
  refine wz_iconst C dL_law_565 ?_
  refine wz_iadd C dL_law_566 ?_
  refine ws_iald C (i + 1) hT (by omega) (by omega) (by omega) dL_law_567 ?_
  refine wm_callV C (o := 0) (As := [.int (iZ (xs (i + 1)))]) (st := []) (a' := a) (b' := b) rfl rfl (k_X12_setting G hG (xs (i + 1)) I1 J1 _ h1) 1 gL_law_X12_setting rfl (by decide +kernel) (by rw [hX]; exact ⟨Nat.le_of_ble_eq_true rfl, Nat.le_of_ble_eq_true rfl⟩) rfl (Nat.le_of_ble_eq_true rfl) (Nat.zero_add _) (Nat.zero_add _) rfl dL_law_568 (kk_sI (fun r I2 J2 h2 => ?_))
  obtain ⟨e1, e2, h3⟩ := h2
  refine wz_istore_6 C rfl dL_law_571 ?_
  refine wz_aload_n C rfl rfl dL_law_573 ?_
  refine wm_callV C (o := 0) (As := []) (st := []) (a' := a) (b' := b) rfl rfl (k_X12_thrown G hG I2 J2 (fun t I3 J3 => t = v ∧ I3 = I2 ∧ J3 = J2) ⟨e1, rfl, rfl⟩) 0 gL_law_X12_thrown rfl (by decide +kernel) (by rw [hX]; exact ⟨Nat.le_of_ble_eq_true rfl, Nat.le_of_ble_eq_true rfl⟩) rfl (Nat.le_of_ble_eq_true rfl) (Nat.zero_add _) (Nat.zero_add _) rfl dL_law_574 (kk_sI (fun t I3 J3 h4 => ?_))
  obtain ⟨rfl, rfl, rfl⟩ := h4
  refine wz_iload C rfl dL_law_577 ?_
  refine wm_icmp_eq C (tgt := 584) dL_law_579 (by decide) (fun _ => ?_) (fun z => absurd rfl z)
  refine wz_iload C rfl dL_law_584 ?_
  refine wz_if_ne C (tgt := 601) (by omega) dL_law_586 (by decide) (fun _ => ?_) (fun z => ?_)
  · refine wz_goto C dL_law_601 (tgt := 2366) (by decide) ?_
    exact Wz.drop (k _ _ h3) (And.intro rfl (And.intro rfl (And.intro rfl (And.intro rfl (And.intro rfl trivial)))))
  · refine wz_aload_n C rfl rfl dL_law_589 ?_
    refine wz_iconst C dL_law_590 ?_
    refine wz_laload C 0 rfl rfl (by decide) (by decide) (e2 z) dL_law_591 ?_
    refine wz_iload C rfl dL_law_592 ?_
    refine wd_i2l C dL_law_594 ?_
    refine wd_lcmp C dL_law_595 ?_
    refine wz_if_eq C (tgt := 601) (toInt_rg _) dL_law_596 (by decide) (fun _ => ?_) (fun z2 => absurd (cmpL_self _) z2)
    refine wz_goto C dL_law_601 (tgt := 2366) (by decide) ?_
    exact Wz.drop (k _ _ h3) (And.intro rfl (And.intro rfl (And.intro rfl (And.intro rfl (And.intro rfl trivial)))))
set_option maxHeartbeats 4000000 in
set_option maxRecDepth 100000 in
theorem law_weight (hG : Kok G) (hW : KSx G) (hZ : KZx G) (hC : KCx G) (hX : KR X = room_1) (C : Fr G X cL_law 9 RL (some .boolean) wsL_law) (hT : ∀ U : State, G.1.2 U → va_T .int b0 L (fun j => .int (iZ (xs j))) (KFr G) U U.heap) (hxs : ∀ j, rg (xs j)) (h : Inv n I J) (hn : n ≤ 600) (hi : i + 6 ≤ L) (hL : L ≤ 3072)
    (k : ∀ (I2 : Ii) (J2 : Jj), Inv (n + 1) I2 J2 → Wz G X 9 Qs a b 2366 [some (.ref b0), some (.ref (kadr G 100)), some (.ref (kadr G 0)), some (.ref (kadr G 50)), some (.int (iZ i)), none, none, none, none] [] I2 J2) : Wz G X 9 Qs (1 + a) (6 + b) 604 [some (.ref b0), some (.ref (kadr G 100)), some (.ref (kadr G 0)), some (.ref (kadr G 50)), some (.int (iZ i)), none, none, none, none] [] I J := by
  refine wz_aload_n C rfl rfl dL_law_604 ?_
  refine wz_aload_n C rfl rfl dL_law_605 ?_
  refine wz_iload C rfl dL_law_606 ?_
  refine wz_iconst C dL_law_608 ?_
  refine wz_iadd C dL_law_609 ?_
  refine ws_iald C (i + 1) hT (by omega) (by omega) (by omega) dL_law_610 ?_
  refine wz_aload_n C rfl rfl dL_law_611 ?_
  refine wl_callSW C (As := [.ref (kadr G 100), .int (iZ (xs (i + 1))), .ref (kadr G 50)]) (st := []) (a' := a) (b' := b) (kL_weight G hG hZ hC (xs (i + 1)) I J _ _ (st_weight h (hxs (i + 1))) (fun k I J hk => hk.1)) 3 gL_law_L_weight rfl (by decide +kernel) (by rw [hX]; exact ⟨Nat.le_of_ble_eq_true rfl, Nat.le_of_ble_eq_true rfl⟩) rfl (Nat.le_of_ble_eq_true rfl) rfl rfl rfl dL_law_612 (kk_sI (fun v I1 J1 h1 => ?_))
  obtain ⟨hv, h1⟩ := LQ_of (M := wp_X12_weight (xs (i + 1))) cdV_b (fun I J P P' hp hq => fr_X12_weight hp (fun r I2 J2 hr _ => hq r I2 J2 hr)) h1
  refine wz_istore_5 C rfl dL_law_615 ?_
  refine wz_aload_n C rfl rfl dL_law_617 ?_
  refine wz_aload_n C rfl rfl dL_law_618 ?_
  refine wz_iload C rfl dL_law_619 ?_
  refine wz_iconst C dL_law_621 ?_
  refine wz_iadd C dL_law_622 ?_
  refine ws_iald C (i + 1) hT (by omega) (by omega) (by omega) dL_law_623 ?_
  refine wm_callV C (o := 0) (As := [.int (iZ (xs (i + 1)))]) (st := []) (a' := a) (b' := b) rfl rfl (k_X12_weight G hG (xs (i + 1)) I1 J1 _ h1) 1 gL_law_X12_weight rfl (by decide +kernel) (by rw [hX]; exact ⟨Nat.le_of_ble_eq_true rfl, Nat.le_of_ble_eq_true rfl⟩) rfl (Nat.le_of_ble_eq_true rfl) (Nat.zero_add _) (Nat.zero_add _) rfl dL_law_624 (kk_sI (fun r I2 J2 h2 => ?_))
  obtain ⟨e1, e2, h3⟩ := h2
  refine wz_istore_6 C rfl dL_law_627 ?_
  refine wz_aload_n C rfl rfl dL_law_629 ?_
  refine wm_callV C (o := 0) (As := []) (st := []) (a' := a) (b' := b) rfl rfl (k_X12_thrown G hG I2 J2 (fun t I3 J3 => t = v ∧ I3 = I2 ∧ J3 = J2) ⟨e1, rfl, rfl⟩) 0 gL_law_X12_thrown rfl (by decide +kernel) (by rw [hX]; exact ⟨Nat.le_of_ble_eq_true rfl, Nat.le_of_ble_eq_true rfl⟩) rfl (Nat.le_of_ble_eq_true rfl) (Nat.zero_add _) (Nat.zero_add _) rfl dL_law_630 (kk_sI (fun t I3 J3 h4 => ?_))
  obtain ⟨rfl, rfl, rfl⟩ := h4
  refine wz_iload C rfl dL_law_633 ?_
  refine wm_icmp_eq C (tgt := 640) dL_law_635 (by decide) (fun _ => ?_) (fun z => absurd rfl z)
  refine wz_iload C rfl dL_law_640 ?_
  refine wz_if_ne C (tgt := 657) (by omega) dL_law_642 (by decide) (fun _ => ?_) (fun z => ?_)
  · refine wz_goto C dL_law_657 (tgt := 2366) (by decide) ?_
    exact Wz.drop (k _ _ h3) (And.intro rfl (And.intro rfl (And.intro rfl (And.intro rfl (And.intro rfl trivial)))))
  · refine wz_aload_n C rfl rfl dL_law_645 ?_
    refine wz_iconst C dL_law_646 ?_
    refine wz_laload C 0 rfl rfl (by decide) (by decide) (e2 z) dL_law_647 ?_
    refine wz_iload C rfl dL_law_648 ?_
    refine wd_i2l C dL_law_650 ?_
    refine wd_lcmp C dL_law_651 ?_
    refine wz_if_eq C (tgt := 657) (toInt_rg _) dL_law_652 (by decide) (fun _ => ?_) (fun z2 => absurd (cmpL_self _) z2)
    refine wz_goto C dL_law_657 (tgt := 2366) (by decide) ?_
    exact Wz.drop (k _ _ h3) (And.intro rfl (And.intro rfl (And.intro rfl (And.intro rfl (And.intro rfl trivial)))))
set_option maxHeartbeats 4000000 in
set_option maxRecDepth 100000 in
theorem law_edge (hG : Kok G) (hW : KSx G) (hZ : KZx G) (hC : KCx G) (hX : KR X = room_1) (C : Fr G X cL_law 9 RL (some .boolean) wsL_law) (hT : ∀ U : State, G.1.2 U → va_T .int b0 L (fun j => .int (iZ (xs j))) (KFr G) U U.heap) (hxs : ∀ j, rg (xs j)) (h : Inv n I J) (hn : n ≤ 600) (hi : i + 6 ≤ L) (hL : L ≤ 3072)
    (k : ∀ (I2 : Ii) (J2 : Jj), Inv (n + 1) I2 J2 → Wz G X 9 Qs a b 2366 [some (.ref b0), some (.ref (kadr G 100)), some (.ref (kadr G 0)), some (.ref (kadr G 50)), some (.int (iZ i)), none, none, none, none] [] I2 J2) : Wz G X 9 Qs (1 + a) (6 + b) 660 [some (.ref b0), some (.ref (kadr G 100)), some (.ref (kadr G 0)), some (.ref (kadr G 50)), some (.int (iZ i)), none, none, none, none] [] I J := by
  refine wz_aload_n C rfl rfl dL_law_660 ?_
  refine wz_aload_n C rfl rfl dL_law_661 ?_
  refine wz_iload C rfl dL_law_662 ?_
  refine wz_iconst C dL_law_664 ?_
  refine wz_iadd C dL_law_665 ?_
  refine ws_iald C (i + 1) hT (by omega) (by omega) (by omega) dL_law_666 ?_
  refine wz_aload_n C rfl rfl dL_law_667 ?_
  refine wz_iload C rfl dL_law_668 ?_
  refine wz_iconst C dL_law_670 ?_
  refine wz_iadd C dL_law_671 ?_
  refine ws_iald C (i + 2) hT (by omega) (by omega) (by omega) dL_law_672 ?_
  refine wz_aload_n C rfl rfl dL_law_673 ?_
  refine wl_callSW C (As := [.ref (kadr G 100), .int (iZ (xs (i + 1))), .int (iZ (xs (i + 2))), .ref (kadr G 50)]) (st := []) (a' := a) (b' := b) (kL_edge G hG hZ hC (xs (i + 1)) (xs (i + 2)) I J _ _ (st_edge h (hxs (i + 1)) (hxs (i + 2))) (fun k I J hk => hk.1)) 4 gL_law_L_edge rfl (by decide +kernel) (by rw [hX]; exact ⟨Nat.le_of_ble_eq_true rfl, Nat.le_of_ble_eq_true rfl⟩) rfl (Nat.le_of_ble_eq_true rfl) rfl rfl rfl dL_law_674 (kk_sI (fun v I1 J1 h1 => ?_))
  obtain ⟨hv, h1⟩ := LQ_of (M := wp_X12_edge (xs (i + 1)) (xs (i + 2))) cdB_b (fun I J P P' hp hq => fr_X12_edge hp (fun r I2 J2 hr _ => hq r I2 J2 hr)) h1
  refine wz_istore_5 C rfl dL_law_677 ?_
  refine wz_aload_n C rfl rfl dL_law_679 ?_
  refine wz_aload_n C rfl rfl dL_law_680 ?_
  refine wz_iload C rfl dL_law_681 ?_
  refine wz_iconst C dL_law_683 ?_
  refine wz_iadd C dL_law_684 ?_
  refine ws_iald C (i + 1) hT (by omega) (by omega) (by omega) dL_law_685 ?_
  refine wz_aload_n C rfl rfl dL_law_686 ?_
  refine wz_iload C rfl dL_law_687 ?_
  refine wz_iconst C dL_law_689 ?_
  refine wz_iadd C dL_law_690 ?_
  refine ws_iald C (i + 2) hT (by omega) (by omega) (by omega) dL_law_691 ?_
  refine wm_callV C (o := 0) (As := [.int (iZ (xs (i + 1))), .int (iZ (xs (i + 2)))]) (st := []) (a' := a) (b' := b) rfl rfl (k_X12_edge G hG (xs (i + 1)) (xs (i + 2)) I1 J1 _ h1) 2 gL_law_X12_edge rfl (by decide +kernel) (by rw [hX]; exact ⟨Nat.le_of_ble_eq_true rfl, Nat.le_of_ble_eq_true rfl⟩) rfl (Nat.le_of_ble_eq_true rfl) (Nat.zero_add _) (Nat.zero_add _) rfl dL_law_692 (kk_sI (fun r I2 J2 h2 => ?_))
  obtain ⟨e1, e2, h3⟩ := h2
  refine wz_istore_6 C rfl dL_law_695 ?_
  refine wz_aload_n C rfl rfl dL_law_697 ?_
  refine wm_callV C (o := 0) (As := []) (st := []) (a' := a) (b' := b) rfl rfl (k_X12_thrown G hG I2 J2 (fun t I3 J3 => t = v ∧ I3 = I2 ∧ J3 = J2) ⟨e1, rfl, rfl⟩) 0 gL_law_X12_thrown rfl (by decide +kernel) (by rw [hX]; exact ⟨Nat.le_of_ble_eq_true rfl, Nat.le_of_ble_eq_true rfl⟩) rfl (Nat.le_of_ble_eq_true rfl) (Nat.zero_add _) (Nat.zero_add _) rfl dL_law_698 (kk_sI (fun t I3 J3 h4 => ?_))
  obtain ⟨rfl, rfl, rfl⟩ := h4
  refine wz_iload C rfl dL_law_701 ?_
  refine wm_icmp_eq C (tgt := 708) dL_law_703 (by decide) (fun _ => ?_) (fun z => absurd rfl z)
  refine wz_iload C rfl dL_law_708 ?_
  refine wz_if_ne C (tgt := 725) (by omega) dL_law_710 (by decide) (fun _ => ?_) (fun z => ?_)
  · refine wz_goto C dL_law_725 (tgt := 2366) (by decide) ?_
    exact Wz.drop (k _ _ h3) (And.intro rfl (And.intro rfl (And.intro rfl (And.intro rfl (And.intro rfl trivial)))))
  · refine wz_aload_n C rfl rfl dL_law_713 ?_
    refine wz_iconst C dL_law_714 ?_
    refine wz_laload C 0 rfl rfl (by decide) (by decide) (e2 z) dL_law_715 ?_
    refine wz_iload C rfl dL_law_716 ?_
    refine wd_i2l C dL_law_718 ?_
    refine wd_lcmp C dL_law_719 ?_
    refine wz_if_eq C (tgt := 725) (toInt_rg _) dL_law_720 (by decide) (fun _ => ?_) (fun z2 => absurd (cmpL_self _) z2)
    refine wz_goto C dL_law_725 (tgt := 2366) (by decide) ?_
    exact Wz.drop (k _ _ h3) (And.intro rfl (And.intro rfl (And.intro rfl (And.intro rfl (And.intro rfl trivial)))))
set_option maxHeartbeats 4000000 in
set_option maxRecDepth 100000 in
theorem law_between (hG : Kok G) (hW : KSx G) (hZ : KZx G) (hC : KCx G) (hX : KR X = room_1) (C : Fr G X cL_law 9 RL (some .boolean) wsL_law) (hT : ∀ U : State, G.1.2 U → va_T .int b0 L (fun j => .int (iZ (xs j))) (KFr G) U U.heap) (hxs : ∀ j, rg (xs j)) (h : Inv n I J) (hn : n ≤ 600) (hi : i + 6 ≤ L) (hL : L ≤ 3072)
    (k : ∀ (I2 : Ii) (J2 : Jj), Inv (n + 1) I2 J2 → Wz G X 9 Qs a b 2366 [some (.ref b0), some (.ref (kadr G 100)), some (.ref (kadr G 0)), some (.ref (kadr G 50)), some (.int (iZ i)), none, none, none, none] [] I2 J2) : Wz G X 9 Qs (1 + a) (6 + b) 728 [some (.ref b0), some (.ref (kadr G 100)), some (.ref (kadr G 0)), some (.ref (kadr G 50)), some (.int (iZ i)), none, none, none, none] [] I J := by
  refine wz_aload_n C rfl rfl dL_law_728 ?_
  refine wz_aload_n C rfl rfl dL_law_729 ?_
  refine wz_iload C rfl dL_law_730 ?_
  refine wz_iconst C dL_law_732 ?_
  refine wz_iadd C dL_law_733 ?_
  refine ws_iald C (i + 1) hT (by omega) (by omega) (by omega) dL_law_734 ?_
  refine wz_aload_n C rfl rfl dL_law_735 ?_
  refine wz_iload C rfl dL_law_736 ?_
  refine wz_iconst C dL_law_738 ?_
  refine wz_iadd C dL_law_739 ?_
  refine ws_iald C (i + 2) hT (by omega) (by omega) (by omega) dL_law_740 ?_
  refine wz_aload_n C rfl rfl dL_law_741 ?_
  refine wl_callSW C (As := [.ref (kadr G 100), .int (iZ (xs (i + 1))), .int (iZ (xs (i + 2))), .ref (kadr G 50)]) (st := []) (a' := a) (b' := b) (kL_between G hG hZ hC (xs (i + 1)) (xs (i + 2)) I J _ _ (st_between h (hxs (i + 1)) (hxs (i + 2))) (fun k I J hk => hk.1)) 4 gL_law_L_between rfl (by decide +kernel) (by rw [hX]; exact ⟨Nat.le_of_ble_eq_true rfl, Nat.le_of_ble_eq_true rfl⟩) rfl (Nat.le_of_ble_eq_true rfl) rfl rfl rfl dL_law_742 (kk_sI (fun v I1 J1 h1 => ?_))
  obtain ⟨hv, h1⟩ := LQ_of (M := wp_X12_between (xs (i + 1)) (xs (i + 2))) cdV_b (fun I J P P' hp hq => fr_X12_between hp (fun r I2 J2 hr _ => hq r I2 J2 hr)) h1
  refine wz_istore_5 C rfl dL_law_745 ?_
  refine wz_aload_n C rfl rfl dL_law_747 ?_
  refine wz_aload_n C rfl rfl dL_law_748 ?_
  refine wz_iload C rfl dL_law_749 ?_
  refine wz_iconst C dL_law_751 ?_
  refine wz_iadd C dL_law_752 ?_
  refine ws_iald C (i + 1) hT (by omega) (by omega) (by omega) dL_law_753 ?_
  refine wz_aload_n C rfl rfl dL_law_754 ?_
  refine wz_iload C rfl dL_law_755 ?_
  refine wz_iconst C dL_law_757 ?_
  refine wz_iadd C dL_law_758 ?_
  refine ws_iald C (i + 2) hT (by omega) (by omega) (by omega) dL_law_759 ?_
  refine wm_callV C (o := 0) (As := [.int (iZ (xs (i + 1))), .int (iZ (xs (i + 2)))]) (st := []) (a' := a) (b' := b) rfl rfl (k_X12_between G hG (xs (i + 1)) (xs (i + 2)) I1 J1 _ h1) 2 gL_law_X12_between rfl (by decide +kernel) (by rw [hX]; exact ⟨Nat.le_of_ble_eq_true rfl, Nat.le_of_ble_eq_true rfl⟩) rfl (Nat.le_of_ble_eq_true rfl) (Nat.zero_add _) (Nat.zero_add _) rfl dL_law_760 (kk_sI (fun r I2 J2 h2 => ?_))
  obtain ⟨e1, e2, h3⟩ := h2
  refine wz_istore_6 C rfl dL_law_763 ?_
  refine wz_aload_n C rfl rfl dL_law_765 ?_
  refine wm_callV C (o := 0) (As := []) (st := []) (a' := a) (b' := b) rfl rfl (k_X12_thrown G hG I2 J2 (fun t I3 J3 => t = v ∧ I3 = I2 ∧ J3 = J2) ⟨e1, rfl, rfl⟩) 0 gL_law_X12_thrown rfl (by decide +kernel) (by rw [hX]; exact ⟨Nat.le_of_ble_eq_true rfl, Nat.le_of_ble_eq_true rfl⟩) rfl (Nat.le_of_ble_eq_true rfl) (Nat.zero_add _) (Nat.zero_add _) rfl dL_law_766 (kk_sI (fun t I3 J3 h4 => ?_))
  obtain ⟨rfl, rfl, rfl⟩ := h4
  refine wz_iload C rfl dL_law_769 ?_
  refine wm_icmp_eq C (tgt := 776) dL_law_771 (by decide) (fun _ => ?_) (fun z => absurd rfl z)
  refine wz_iload C rfl dL_law_776 ?_
  refine wz_if_ne C (tgt := 793) (by omega) dL_law_778 (by decide) (fun _ => ?_) (fun z => ?_)
  · refine wz_goto C dL_law_793 (tgt := 2366) (by decide) ?_
    exact Wz.drop (k _ _ h3) (And.intro rfl (And.intro rfl (And.intro rfl (And.intro rfl (And.intro rfl trivial)))))
  · refine wz_aload_n C rfl rfl dL_law_781 ?_
    refine wz_iconst C dL_law_782 ?_
    refine wz_laload C 0 rfl rfl (by decide) (by decide) (e2 z) dL_law_783 ?_
    refine wz_iload C rfl dL_law_784 ?_
    refine wd_i2l C dL_law_786 ?_
    refine wd_lcmp C dL_law_787 ?_
    refine wz_if_eq C (tgt := 793) (toInt_rg _) dL_law_788 (by decide) (fun _ => ?_) (fun z2 => absurd (cmpL_self _) z2)
    refine wz_goto C dL_law_793 (tgt := 2366) (by decide) ?_
    exact Wz.drop (k _ _ h3) (And.intro rfl (And.intro rfl (And.intro rfl (And.intro rfl (And.intro rfl trivial)))))
set_option maxHeartbeats 4000000 in
set_option maxRecDepth 100000 in
theorem law_flow (hG : Kok G) (hW : KSx G) (hZ : KZx G) (hC : KCx G) (hX : KR X = room_1) (C : Fr G X cL_law 9 RL (some .boolean) wsL_law) (hT : ∀ U : State, G.1.2 U → va_T .int b0 L (fun j => .int (iZ (xs j))) (KFr G) U U.heap) (hxs : ∀ j, rg (xs j)) (h : Inv n I J) (hn : n ≤ 600) (hi : i + 6 ≤ L) (hL : L ≤ 3072)
    (k : ∀ (I2 : Ii) (J2 : Jj), Inv (n + 1) I2 J2 → Wz G X 9 Qs a b 2366 [some (.ref b0), some (.ref (kadr G 100)), some (.ref (kadr G 0)), some (.ref (kadr G 50)), some (.int (iZ i)), none, none, none, none] [] I2 J2) : Wz G X 9 Qs (1 + a) (6 + b) 796 [some (.ref b0), some (.ref (kadr G 100)), some (.ref (kadr G 0)), some (.ref (kadr G 50)), some (.int (iZ i)), none, none, none, none] [] I J := by
  refine wz_aload_n C rfl rfl dL_law_796 ?_
  refine wz_aload_n C rfl rfl dL_law_797 ?_
  refine wz_iload C rfl dL_law_798 ?_
  refine wz_iconst C dL_law_800 ?_
  refine wz_iadd C dL_law_801 ?_
  refine ws_iald C (i + 1) hT (by omega) (by omega) (by omega) dL_law_802 ?_
  refine wz_aload_n C rfl rfl dL_law_803 ?_
  refine wz_iload C rfl dL_law_804 ?_
  refine wz_iconst C dL_law_806 ?_
  refine wz_iadd C dL_law_807 ?_
  refine ws_iald C (i + 2) hT (by omega) (by omega) (by omega) dL_law_808 ?_
  refine wz_aload_n C rfl rfl dL_law_809 ?_
  refine wl_callSW C (As := [.ref (kadr G 100), .int (iZ (xs (i + 1))), .int (iZ (xs (i + 2))), .ref (kadr G 50)]) (st := []) (a' := a) (b' := b) (kL_flow G hG hZ hC (xs (i + 1)) (xs (i + 2)) I J _ _ (st_flow h (hxs (i + 1)) (hxs (i + 2))) (fun k I J hk => hk.1)) 4 gL_law_L_flow rfl (by decide +kernel) (by rw [hX]; exact ⟨Nat.le_of_ble_eq_true rfl, Nat.le_of_ble_eq_true rfl⟩) rfl (Nat.le_of_ble_eq_true rfl) rfl rfl rfl dL_law_810 (kk_sI (fun v I1 J1 h1 => ?_))
  obtain ⟨hv, h1⟩ := LQ_of (M := wp_X12_flow (xs (i + 1)) (xs (i + 2))) cdV_b (fun I J P P' hp hq => fr_X12_flow hp (fun r I2 J2 hr _ => hq r I2 J2 hr)) h1
  refine wz_istore_5 C rfl dL_law_813 ?_
  refine wz_aload_n C rfl rfl dL_law_815 ?_
  refine wz_aload_n C rfl rfl dL_law_816 ?_
  refine wz_iload C rfl dL_law_817 ?_
  refine wz_iconst C dL_law_819 ?_
  refine wz_iadd C dL_law_820 ?_
  refine ws_iald C (i + 1) hT (by omega) (by omega) (by omega) dL_law_821 ?_
  refine wz_aload_n C rfl rfl dL_law_822 ?_
  refine wz_iload C rfl dL_law_823 ?_
  refine wz_iconst C dL_law_825 ?_
  refine wz_iadd C dL_law_826 ?_
  refine ws_iald C (i + 2) hT (by omega) (by omega) (by omega) dL_law_827 ?_
  refine wm_callV C (o := 0) (As := [.int (iZ (xs (i + 1))), .int (iZ (xs (i + 2)))]) (st := []) (a' := a) (b' := b) rfl rfl (k_X12_flow G hG (xs (i + 1)) (xs (i + 2)) I1 J1 _ h1) 2 gL_law_X12_flow rfl (by decide +kernel) (by rw [hX]; exact ⟨Nat.le_of_ble_eq_true rfl, Nat.le_of_ble_eq_true rfl⟩) rfl (Nat.le_of_ble_eq_true rfl) (Nat.zero_add _) (Nat.zero_add _) rfl dL_law_828 (kk_sI (fun r I2 J2 h2 => ?_))
  obtain ⟨e1, e2, h3⟩ := h2
  refine wz_istore_6 C rfl dL_law_831 ?_
  refine wz_aload_n C rfl rfl dL_law_833 ?_
  refine wm_callV C (o := 0) (As := []) (st := []) (a' := a) (b' := b) rfl rfl (k_X12_thrown G hG I2 J2 (fun t I3 J3 => t = v ∧ I3 = I2 ∧ J3 = J2) ⟨e1, rfl, rfl⟩) 0 gL_law_X12_thrown rfl (by decide +kernel) (by rw [hX]; exact ⟨Nat.le_of_ble_eq_true rfl, Nat.le_of_ble_eq_true rfl⟩) rfl (Nat.le_of_ble_eq_true rfl) (Nat.zero_add _) (Nat.zero_add _) rfl dL_law_834 (kk_sI (fun t I3 J3 h4 => ?_))
  obtain ⟨rfl, rfl, rfl⟩ := h4
  refine wz_iload C rfl dL_law_837 ?_
  refine wm_icmp_eq C (tgt := 844) dL_law_839 (by decide) (fun _ => ?_) (fun z => absurd rfl z)
  refine wz_iload C rfl dL_law_844 ?_
  refine wz_if_ne C (tgt := 861) (by omega) dL_law_846 (by decide) (fun _ => ?_) (fun z => ?_)
  · refine wz_goto C dL_law_861 (tgt := 2366) (by decide) ?_
    exact Wz.drop (k _ _ h3) (And.intro rfl (And.intro rfl (And.intro rfl (And.intro rfl (And.intro rfl trivial)))))
  · refine wz_aload_n C rfl rfl dL_law_849 ?_
    refine wz_iconst C dL_law_850 ?_
    refine wz_laload C 0 rfl rfl (by decide) (by decide) (e2 z) dL_law_851 ?_
    refine wz_iload C rfl dL_law_852 ?_
    refine wd_i2l C dL_law_854 ?_
    refine wd_lcmp C dL_law_855 ?_
    refine wz_if_eq C (tgt := 861) (toInt_rg _) dL_law_856 (by decide) (fun _ => ?_) (fun z2 => absurd (cmpL_self _) z2)
    refine wz_goto C dL_law_861 (tgt := 2366) (by decide) ?_
    exact Wz.drop (k _ _ h3) (And.intro rfl (And.intro rfl (And.intro rfl (And.intro rfl (And.intro rfl trivial)))))
set_option maxHeartbeats 4000000 in
set_option maxRecDepth 100000 in
theorem law_side (hG : Kok G) (hW : KSx G) (hZ : KZx G) (hC : KCx G) (hX : KR X = room_1) (C : Fr G X cL_law 9 RL (some .boolean) wsL_law) (hT : ∀ U : State, G.1.2 U → va_T .int b0 L (fun j => .int (iZ (xs j))) (KFr G) U U.heap) (hxs : ∀ j, rg (xs j)) (h : Inv n I J) (hn : n ≤ 600) (hi : i + 6 ≤ L) (hL : L ≤ 3072)
    (k : ∀ (I2 : Ii) (J2 : Jj), Inv (n + 1) I2 J2 → Wz G X 9 Qs a b 2366 [some (.ref b0), some (.ref (kadr G 100)), some (.ref (kadr G 0)), some (.ref (kadr G 50)), some (.int (iZ i)), none, none, none, none] [] I2 J2) : Wz G X 9 Qs (1 + a) (6 + b) 864 [some (.ref b0), some (.ref (kadr G 100)), some (.ref (kadr G 0)), some (.ref (kadr G 50)), some (.int (iZ i)), none, none, none, none] [] I J := by
  refine wz_aload_n C rfl rfl dL_law_864 ?_
  refine wz_aload_n C rfl rfl dL_law_865 ?_
  refine wz_iload C rfl dL_law_866 ?_
  refine wz_iconst C dL_law_868 ?_
  refine wz_iadd C dL_law_869 ?_
  refine ws_iald C (i + 1) hT (by omega) (by omega) (by omega) dL_law_870 ?_
  refine wz_aload_n C rfl rfl dL_law_871 ?_
  refine wz_iload C rfl dL_law_872 ?_
  refine wz_iconst C dL_law_874 ?_
  refine wz_iadd C dL_law_875 ?_
  refine ws_iald C (i + 2) hT (by omega) (by omega) (by omega) dL_law_876 ?_
  refine wz_aload_n C rfl rfl dL_law_877 ?_
  refine wl_callSW C (As := [.ref (kadr G 100), .int (iZ (xs (i + 1))), .int (iZ (xs (i + 2))), .ref (kadr G 50)]) (st := []) (a' := a) (b' := b) (kL_side G hG hZ hC (xs (i + 1)) (xs (i + 2)) I J _ _ (st_side h (hxs (i + 1)) (hxs (i + 2))) (fun k I J hk => hk.1)) 4 gL_law_L_side rfl (by decide +kernel) (by rw [hX]; exact ⟨Nat.le_of_ble_eq_true rfl, Nat.le_of_ble_eq_true rfl⟩) rfl (Nat.le_of_ble_eq_true rfl) rfl rfl rfl dL_law_878 (kk_sI (fun v I1 J1 h1 => ?_))
  obtain ⟨hv, h1⟩ := LQ_of (M := wp_X12_side (xs (i + 1)) (xs (i + 2))) cdV_b (fun I J P P' hp hq => fr_X12_side hp (fun r I2 J2 hr _ => hq r I2 J2 hr)) h1
  refine wz_istore_5 C rfl dL_law_881 ?_
  refine wz_aload_n C rfl rfl dL_law_883 ?_
  refine wz_aload_n C rfl rfl dL_law_884 ?_
  refine wz_iload C rfl dL_law_885 ?_
  refine wz_iconst C dL_law_887 ?_
  refine wz_iadd C dL_law_888 ?_
  refine ws_iald C (i + 1) hT (by omega) (by omega) (by omega) dL_law_889 ?_
  refine wz_aload_n C rfl rfl dL_law_890 ?_
  refine wz_iload C rfl dL_law_891 ?_
  refine wz_iconst C dL_law_893 ?_
  refine wz_iadd C dL_law_894 ?_
  refine ws_iald C (i + 2) hT (by omega) (by omega) (by omega) dL_law_895 ?_
  refine wm_callV C (o := 0) (As := [.int (iZ (xs (i + 1))), .int (iZ (xs (i + 2)))]) (st := []) (a' := a) (b' := b) rfl rfl (k_X12_side G hG (xs (i + 1)) (xs (i + 2)) I1 J1 _ h1) 2 gL_law_X12_side rfl (by decide +kernel) (by rw [hX]; exact ⟨Nat.le_of_ble_eq_true rfl, Nat.le_of_ble_eq_true rfl⟩) rfl (Nat.le_of_ble_eq_true rfl) (Nat.zero_add _) (Nat.zero_add _) rfl dL_law_896 (kk_sI (fun r I2 J2 h2 => ?_))
  obtain ⟨e1, e2, h3⟩ := h2
  refine wz_istore_6 C rfl dL_law_899 ?_
  refine wz_aload_n C rfl rfl dL_law_901 ?_
  refine wm_callV C (o := 0) (As := []) (st := []) (a' := a) (b' := b) rfl rfl (k_X12_thrown G hG I2 J2 (fun t I3 J3 => t = v ∧ I3 = I2 ∧ J3 = J2) ⟨e1, rfl, rfl⟩) 0 gL_law_X12_thrown rfl (by decide +kernel) (by rw [hX]; exact ⟨Nat.le_of_ble_eq_true rfl, Nat.le_of_ble_eq_true rfl⟩) rfl (Nat.le_of_ble_eq_true rfl) (Nat.zero_add _) (Nat.zero_add _) rfl dL_law_902 (kk_sI (fun t I3 J3 h4 => ?_))
  obtain ⟨rfl, rfl, rfl⟩ := h4
  refine wz_iload C rfl dL_law_905 ?_
  refine wm_icmp_eq C (tgt := 912) dL_law_907 (by decide) (fun _ => ?_) (fun z => absurd rfl z)
  refine wz_iload C rfl dL_law_912 ?_
  refine wz_if_ne C (tgt := 929) (by omega) dL_law_914 (by decide) (fun _ => ?_) (fun z => ?_)
  · refine wz_goto C dL_law_929 (tgt := 2366) (by decide) ?_
    exact Wz.drop (k _ _ h3) (And.intro rfl (And.intro rfl (And.intro rfl (And.intro rfl (And.intro rfl trivial)))))
  · refine wz_aload_n C rfl rfl dL_law_917 ?_
    refine wz_iconst C dL_law_918 ?_
    refine wz_laload C 0 rfl rfl (by decide) (by decide) (e2 z) dL_law_919 ?_
    refine wz_iload C rfl dL_law_920 ?_
    refine wd_i2l C dL_law_922 ?_
    refine wd_lcmp C dL_law_923 ?_
    refine wz_if_eq C (tgt := 929) (toInt_rg _) dL_law_924 (by decide) (fun _ => ?_) (fun z2 => absurd (cmpL_self _) z2)
    refine wz_goto C dL_law_929 (tgt := 2366) (by decide) ?_
    exact Wz.drop (k _ _ h3) (And.intro rfl (And.intro rfl (And.intro rfl (And.intro rfl (And.intro rfl trivial)))))
set_option maxHeartbeats 4000000 in
set_option maxRecDepth 100000 in
theorem law_leastFlow (hG : Kok G) (hW : KSx G) (hZ : KZx G) (hC : KCx G) (hX : KR X = room_1) (C : Fr G X cL_law 9 RL (some .boolean) wsL_law) (hT : ∀ U : State, G.1.2 U → va_T .int b0 L (fun j => .int (iZ (xs j))) (KFr G) U U.heap) (hxs : ∀ j, rg (xs j)) (h : Inv n I J) (hn : n ≤ 600) (hi : i + 6 ≤ L) (hL : L ≤ 3072)
    (k : ∀ (I2 : Ii) (J2 : Jj), Inv (n + 1) I2 J2 → Wz G X 9 Qs a b 2366 [some (.ref b0), some (.ref (kadr G 100)), some (.ref (kadr G 0)), some (.ref (kadr G 50)), some (.int (iZ i)), none, none, none, none] [] I2 J2) : Wz G X 9 Qs (0 + a) (0 + b) 932 [some (.ref b0), some (.ref (kadr G 100)), some (.ref (kadr G 0)), some (.ref (kadr G 50)), some (.int (iZ i)), none, none, none, none] [] I J := by
  refine wz_aload_n C rfl rfl dL_law_932 ?_
  refine wm_callV C (o := 100) (As := []) (st := []) (a' := a) (b' := b) rfl rfl (k_X11_leastFlow G hG I J _ (st_leastFlow h)) 0 gL_law_X11_leastFlow rfl (by decide +kernel) (by rw [hX]; exact ⟨Nat.le_of_ble_eq_true rfl, Nat.le_of_ble_eq_true rfl⟩) rfl (Nat.le_of_ble_eq_true rfl) rfl rfl rfl dL_law_933 (kk_sI (fun r I1 J1 h1 => ?_))
  refine wz_aload_n C rfl rfl dL_law_936 ?_
  refine wm_callV C (o := 0) (As := []) (st := [.int (iZ r)]) (a' := a) (b' := b) rfl rfl (k_X12_leastFlow G hG I1 J1 _ h1) 0 gL_law_X12_leastFlow rfl (by decide +kernel) (by rw [hX]; exact ⟨Nat.le_of_ble_eq_true rfl, Nat.le_of_ble_eq_true rfl⟩) rfl (Nat.le_of_ble_eq_true rfl) (Nat.zero_add _) (Nat.zero_add _) rfl dL_law_937 (kk_sI (fun t I2 J2 h2 => ?_))
  obtain ⟨rfl, h3⟩ := h2
  exact wm_icmp_eq C (tgt := 2366) dL_law_940 (by decide) (fun _ => k _ _ h3) (fun z => absurd rfl z)
set_option maxHeartbeats 4000000 in
set_option maxRecDepth 100000 in
theorem law_partOf (hG : Kok G) (hW : KSx G) (hZ : KZx G) (hC : KCx G) (hX : KR X = room_1) (C : Fr G X cL_law 9 RL (some .boolean) wsL_law) (hT : ∀ U : State, G.1.2 U → va_T .int b0 L (fun j => .int (iZ (xs j))) (KFr G) U U.heap) (hxs : ∀ j, rg (xs j)) (h : Inv n I J) (hn : n ≤ 600) (hi : i + 6 ≤ L) (hL : L ≤ 3072)
    (k : ∀ (I2 : Ii) (J2 : Jj), Inv (n + 1) I2 J2 → Wz G X 9 Qs a b 2366 [some (.ref b0), some (.ref (kadr G 100)), some (.ref (kadr G 0)), some (.ref (kadr G 50)), some (.int (iZ i)), none, none, none, none] [] I2 J2) : Wz G X 9 Qs (1 + a) (6 + b) 945 [some (.ref b0), some (.ref (kadr G 100)), some (.ref (kadr G 0)), some (.ref (kadr G 50)), some (.int (iZ i)), none, none, none, none] [] I J := by
  refine wz_aload_n C rfl rfl dL_law_945 ?_
  refine wz_aload_n C rfl rfl dL_law_946 ?_
  refine wz_iload C rfl dL_law_947 ?_
  refine wz_iconst C dL_law_949 ?_
  refine wz_iadd C dL_law_950 ?_
  refine ws_iald C (i + 1) hT (by omega) (by omega) (by omega) dL_law_951 ?_
  refine wz_aload_n C rfl rfl dL_law_952 ?_
  refine wl_callSW C (As := [.ref (kadr G 100), .int (iZ (xs (i + 1))), .ref (kadr G 50)]) (st := []) (a' := a) (b' := b) (kL_partOf G hG hZ hC (xs (i + 1)) I J _ _ (st_partOf h (hxs (i + 1))) (fun k I J hk => hk.1)) 3 gL_law_L_partOf rfl (by decide +kernel) (by rw [hX]; exact ⟨Nat.le_of_ble_eq_true rfl, Nat.le_of_ble_eq_true rfl⟩) rfl (Nat.le_of_ble_eq_true rfl) rfl rfl rfl dL_law_953 (kk_sI (fun v I1 J1 h1 => ?_))
  obtain ⟨hv, h1⟩ := LQ_of (M := wp_X12_partOf (xs (i + 1))) cdV_b (fun I J P P' hp hq => fr_X12_partOf hp (fun r I2 J2 hr _ => hq r I2 J2 hr)) h1
  refine wz_istore_5 C rfl dL_law_956 ?_
  refine wz_aload_n C rfl rfl dL_law_958 ?_
  refine wz_aload_n C rfl rfl dL_law_959 ?_
  refine wz_iload C rfl dL_law_960 ?_
  refine wz_iconst C dL_law_962 ?_
  refine wz_iadd C dL_law_963 ?_
  refine ws_iald C (i + 1) hT (by omega) (by omega) (by omega) dL_law_964 ?_
  refine wm_callV C (o := 0) (As := [.int (iZ (xs (i + 1)))]) (st := []) (a' := a) (b' := b) rfl rfl (k_X12_partOf G hG (xs (i + 1)) I1 J1 _ h1) 1 gL_law_X12_partOf rfl (by decide +kernel) (by rw [hX]; exact ⟨Nat.le_of_ble_eq_true rfl, Nat.le_of_ble_eq_true rfl⟩) rfl (Nat.le_of_ble_eq_true rfl) (Nat.zero_add _) (Nat.zero_add _) rfl dL_law_965 (kk_sI (fun r I2 J2 h2 => ?_))
  obtain ⟨e1, e2, h3⟩ := h2
  refine wz_istore_6 C rfl dL_law_968 ?_
  refine wz_aload_n C rfl rfl dL_law_970 ?_
  refine wm_callV C (o := 0) (As := []) (st := []) (a' := a) (b' := b) rfl rfl (k_X12_thrown G hG I2 J2 (fun t I3 J3 => t = v ∧ I3 = I2 ∧ J3 = J2) ⟨e1, rfl, rfl⟩) 0 gL_law_X12_thrown rfl (by decide +kernel) (by rw [hX]; exact ⟨Nat.le_of_ble_eq_true rfl, Nat.le_of_ble_eq_true rfl⟩) rfl (Nat.le_of_ble_eq_true rfl) (Nat.zero_add _) (Nat.zero_add _) rfl dL_law_971 (kk_sI (fun t I3 J3 h4 => ?_))
  obtain ⟨rfl, rfl, rfl⟩ := h4
  refine wz_iload C rfl dL_law_974 ?_
  refine wm_icmp_eq C (tgt := 981) dL_law_976 (by decide) (fun _ => ?_) (fun z => absurd rfl z)
  refine wz_iload C rfl dL_law_981 ?_
  refine wz_if_ne C (tgt := 998) (by omega) dL_law_983 (by decide) (fun _ => ?_) (fun z => ?_)
  · refine wz_goto C dL_law_998 (tgt := 2366) (by decide) ?_
    exact Wz.drop (k _ _ h3) (And.intro rfl (And.intro rfl (And.intro rfl (And.intro rfl (And.intro rfl trivial)))))
  · refine wz_aload_n C rfl rfl dL_law_986 ?_
    refine wz_iconst C dL_law_987 ?_
    refine wz_laload C 0 rfl rfl (by decide) (by decide) (e2 z) dL_law_988 ?_
    refine wz_iload C rfl dL_law_989 ?_
    refine wd_i2l C dL_law_991 ?_
    refine wd_lcmp C dL_law_992 ?_
    refine wz_if_eq C (tgt := 998) (toInt_rg _) dL_law_993 (by decide) (fun _ => ?_) (fun z2 => absurd (cmpL_self _) z2)
    refine wz_goto C dL_law_998 (tgt := 2366) (by decide) ?_
    exact Wz.drop (k _ _ h3) (And.intro rfl (And.intro rfl (And.intro rfl (And.intro rfl (And.intro rfl trivial)))))
set_option maxHeartbeats 4000000 in
set_option maxRecDepth 100000 in
theorem law_part (hG : Kok G) (hW : KSx G) (hZ : KZx G) (hC : KCx G) (hX : KR X = room_1) (C : Fr G X cL_law 9 RL (some .boolean) wsL_law) (hT : ∀ U : State, G.1.2 U → va_T .int b0 L (fun j => .int (iZ (xs j))) (KFr G) U U.heap) (hxs : ∀ j, rg (xs j)) (h : Inv n I J) (hn : n ≤ 600) (hi : i + 6 ≤ L) (hL : L ≤ 3072)
    (k : ∀ (I2 : Ii) (J2 : Jj), Inv (n + 1) I2 J2 → Wz G X 9 Qs a b 2366 [some (.ref b0), some (.ref (kadr G 100)), some (.ref (kadr G 0)), some (.ref (kadr G 50)), some (.int (iZ i)), none, none, none, none] [] I2 J2) : Wz G X 9 Qs (1 + a) (6 + b) 1001 [some (.ref b0), some (.ref (kadr G 100)), some (.ref (kadr G 0)), some (.ref (kadr G 50)), some (.int (iZ i)), none, none, none, none] [] I J := by
  refine wz_aload_n C rfl rfl dL_law_1001 ?_
  refine wz_aload_n C rfl rfl dL_law_1002 ?_
  refine wz_iload C rfl dL_law_1003 ?_
  refine wz_iconst C dL_law_1005 ?_
  refine wz_iadd C dL_law_1006 ?_
  refine ws_iald C (i + 1) hT (by omega) (by omega) (by omega) dL_law_1007 ?_
  refine wz_aload_n C rfl rfl dL_law_1008 ?_
  refine wz_iload C rfl dL_law_1009 ?_
  refine wz_iconst C dL_law_1011 ?_
  refine wz_iadd C dL_law_1012 ?_
  refine ws_iald C (i + 2) hT (by omega) (by omega) (by omega) dL_law_1013 ?_
  refine wz_aload_n C rfl rfl dL_law_1014 ?_
  refine wl_callSW C (As := [.ref (kadr G 100), .int (iZ (xs (i + 1))), .int (iZ (xs (i + 2))), .ref (kadr G 50)]) (st := []) (a' := a) (b' := b) (kL_part G hG hZ hC (xs (i + 1)) (xs (i + 2)) I J _ _ (st_part h (hxs (i + 1)) (hxs (i + 2))) (fun k I J hk => hk.1)) 4 gL_law_L_part rfl (by decide +kernel) (by rw [hX]; exact ⟨Nat.le_of_ble_eq_true rfl, Nat.le_of_ble_eq_true rfl⟩) rfl (Nat.le_of_ble_eq_true rfl) rfl rfl rfl dL_law_1015 (kk_sI (fun v I1 J1 h1 => ?_))
  obtain ⟨hv, h1⟩ := LQ_of (M := wp_X12_part (xs (i + 1)) (xs (i + 2))) cdB_b (fun I J P P' hp hq => fr_X12_part hp (fun r I2 J2 hr _ => hq r I2 J2 hr)) h1
  refine wz_istore_5 C rfl dL_law_1018 ?_
  refine wz_aload_n C rfl rfl dL_law_1020 ?_
  refine wz_aload_n C rfl rfl dL_law_1021 ?_
  refine wz_iload C rfl dL_law_1022 ?_
  refine wz_iconst C dL_law_1024 ?_
  refine wz_iadd C dL_law_1025 ?_
  refine ws_iald C (i + 1) hT (by omega) (by omega) (by omega) dL_law_1026 ?_
  refine wz_aload_n C rfl rfl dL_law_1027 ?_
  refine wz_iload C rfl dL_law_1028 ?_
  refine wz_iconst C dL_law_1030 ?_
  refine wz_iadd C dL_law_1031 ?_
  refine ws_iald C (i + 2) hT (by omega) (by omega) (by omega) dL_law_1032 ?_
  refine wm_callV C (o := 0) (As := [.int (iZ (xs (i + 1))), .int (iZ (xs (i + 2)))]) (st := []) (a' := a) (b' := b) rfl rfl (k_X12_part G hG (xs (i + 1)) (xs (i + 2)) I1 J1 _ h1) 2 gL_law_X12_part rfl (by decide +kernel) (by rw [hX]; exact ⟨Nat.le_of_ble_eq_true rfl, Nat.le_of_ble_eq_true rfl⟩) rfl (Nat.le_of_ble_eq_true rfl) (Nat.zero_add _) (Nat.zero_add _) rfl dL_law_1033 (kk_sI (fun r I2 J2 h2 => ?_))
  obtain ⟨e1, e2, h3⟩ := h2
  refine wz_istore_6 C rfl dL_law_1036 ?_
  refine wz_aload_n C rfl rfl dL_law_1038 ?_
  refine wm_callV C (o := 0) (As := []) (st := []) (a' := a) (b' := b) rfl rfl (k_X12_thrown G hG I2 J2 (fun t I3 J3 => t = v ∧ I3 = I2 ∧ J3 = J2) ⟨e1, rfl, rfl⟩) 0 gL_law_X12_thrown rfl (by decide +kernel) (by rw [hX]; exact ⟨Nat.le_of_ble_eq_true rfl, Nat.le_of_ble_eq_true rfl⟩) rfl (Nat.le_of_ble_eq_true rfl) (Nat.zero_add _) (Nat.zero_add _) rfl dL_law_1039 (kk_sI (fun t I3 J3 h4 => ?_))
  obtain ⟨rfl, rfl, rfl⟩ := h4
  refine wz_iload C rfl dL_law_1042 ?_
  refine wm_icmp_eq C (tgt := 1049) dL_law_1044 (by decide) (fun _ => ?_) (fun z => absurd rfl z)
  refine wz_iload C rfl dL_law_1049 ?_
  refine wz_if_ne C (tgt := 1066) (by omega) dL_law_1051 (by decide) (fun _ => ?_) (fun z => ?_)
  · refine wz_goto C dL_law_1066 (tgt := 2366) (by decide) ?_
    exact Wz.drop (k _ _ h3) (And.intro rfl (And.intro rfl (And.intro rfl (And.intro rfl (And.intro rfl trivial)))))
  · refine wz_aload_n C rfl rfl dL_law_1054 ?_
    refine wz_iconst C dL_law_1055 ?_
    refine wz_laload C 0 rfl rfl (by decide) (by decide) (e2 z) dL_law_1056 ?_
    refine wz_iload C rfl dL_law_1057 ?_
    refine wd_i2l C dL_law_1059 ?_
    refine wd_lcmp C dL_law_1060 ?_
    refine wz_if_eq C (tgt := 1066) (toInt_rg _) dL_law_1061 (by decide) (fun _ => ?_) (fun z2 => absurd (cmpL_self _) z2)
    refine wz_goto C dL_law_1066 (tgt := 2366) (by decide) ?_
    exact Wz.drop (k _ _ h3) (And.intro rfl (And.intro rfl (And.intro rfl (And.intro rfl (And.intro rfl trivial)))))
set_option maxHeartbeats 4000000 in
set_option maxRecDepth 100000 in
theorem law_cut (hG : Kok G) (hW : KSx G) (hZ : KZx G) (hC : KCx G) (hX : KR X = room_1) (C : Fr G X cL_law 9 RL (some .boolean) wsL_law) (hT : ∀ U : State, G.1.2 U → va_T .int b0 L (fun j => .int (iZ (xs j))) (KFr G) U U.heap) (hxs : ∀ j, rg (xs j)) (h : Inv n I J) (hn : n ≤ 600) (hi : i + 6 ≤ L) (hL : L ≤ 3072)
    (k : ∀ (I2 : Ii) (J2 : Jj), Inv (n + 1) I2 J2 → Wz G X 9 Qs a b 2366 [some (.ref b0), some (.ref (kadr G 100)), some (.ref (kadr G 0)), some (.ref (kadr G 50)), some (.int (iZ i)), none, none, none, none] [] I2 J2) : Wz G X 9 Qs (0 + a) (0 + b) 1069 [some (.ref b0), some (.ref (kadr G 100)), some (.ref (kadr G 0)), some (.ref (kadr G 50)), some (.int (iZ i)), none, none, none, none] [] I J := by
  refine wz_aload_n C rfl rfl dL_law_1069 ?_
  refine wm_callV C (o := 100) (As := []) (st := []) (a' := a) (b' := b) rfl rfl (k_X11_cut G hG I J _ (st_cut h)) 0 gL_law_X11_cut rfl (by decide +kernel) (by rw [hX]; exact ⟨Nat.le_of_ble_eq_true rfl, Nat.le_of_ble_eq_true rfl⟩) rfl (Nat.le_of_ble_eq_true rfl) rfl rfl rfl dL_law_1070 (kk_sI (fun r I1 J1 h1 => ?_))
  refine wz_aload_n C rfl rfl dL_law_1073 ?_
  refine wm_callV C (o := 0) (As := []) (st := [.int (iZ r)]) (a' := a) (b' := b) rfl rfl (k_X12_cut G hG I1 J1 _ h1) 0 gL_law_X12_cut rfl (by decide +kernel) (by rw [hX]; exact ⟨Nat.le_of_ble_eq_true rfl, Nat.le_of_ble_eq_true rfl⟩) rfl (Nat.le_of_ble_eq_true rfl) (Nat.zero_add _) (Nat.zero_add _) rfl dL_law_1074 (kk_sI (fun t I2 J2 h2 => ?_))
  obtain ⟨rfl, h3⟩ := h2
  exact wm_icmp_eq C (tgt := 2366) dL_law_1077 (by decide) (fun _ => k _ _ h3) (fun z => absurd rfl z)
set_option maxHeartbeats 4000000 in
set_option maxRecDepth 100000 in
theorem law_debts (hG : Kok G) (hW : KSx G) (hZ : KZx G) (hC : KCx G) (hX : KR X = room_1) (C : Fr G X cL_law 9 RL (some .boolean) wsL_law) (hT : ∀ U : State, G.1.2 U → va_T .int b0 L (fun j => .int (iZ (xs j))) (KFr G) U U.heap) (hxs : ∀ j, rg (xs j)) (h : Inv n I J) (hn : n ≤ 600) (hi : i + 6 ≤ L) (hL : L ≤ 3072)
    (k : ∀ (I2 : Ii) (J2 : Jj), Inv (n + 1) I2 J2 → Wz G X 9 Qs a b 2366 [some (.ref b0), some (.ref (kadr G 100)), some (.ref (kadr G 0)), some (.ref (kadr G 50)), some (.int (iZ i)), none, none, none, none] [] I2 J2) : Wz G X 9 Qs (0 + a) (0 + b) 1082 [some (.ref b0), some (.ref (kadr G 100)), some (.ref (kadr G 0)), some (.ref (kadr G 50)), some (.int (iZ i)), none, none, none, none] [] I J := by
  refine wz_aload_n C rfl rfl dL_law_1082 ?_
  refine wm_callV C (o := 100) (As := []) (st := []) (a' := a) (b' := b) rfl rfl (k_X11_debts G hG I J _ (st_debts h)) 0 gL_law_X11_debts rfl (by decide +kernel) (by rw [hX]; exact ⟨Nat.le_of_ble_eq_true rfl, Nat.le_of_ble_eq_true rfl⟩) rfl (Nat.le_of_ble_eq_true rfl) rfl rfl rfl dL_law_1083 (kk_sI (fun r I1 J1 h1 => ?_))
  refine wz_aload_n C rfl rfl dL_law_1086 ?_
  refine wm_callV C (o := 0) (As := []) (st := [.int (iZ r)]) (a' := a) (b' := b) rfl rfl (k_X12_debts G hG I1 J1 _ h1) 0 gL_law_X12_debts rfl (by decide +kernel) (by rw [hX]; exact ⟨Nat.le_of_ble_eq_true rfl, Nat.le_of_ble_eq_true rfl⟩) rfl (Nat.le_of_ble_eq_true rfl) (Nat.zero_add _) (Nat.zero_add _) rfl dL_law_1087 (kk_sI (fun t I2 J2 h2 => ?_))
  obtain ⟨rfl, h3⟩ := h2
  exact wm_icmp_eq C (tgt := 2366) dL_law_1090 (by decide) (fun _ => k _ _ h3) (fun z => absurd rfl z)
set_option maxHeartbeats 4000000 in
set_option maxRecDepth 100000 in
theorem law_border (hG : Kok G) (hW : KSx G) (hZ : KZx G) (hC : KCx G) (hX : KR X = room_1) (C : Fr G X cL_law 9 RL (some .boolean) wsL_law) (hT : ∀ U : State, G.1.2 U → va_T .int b0 L (fun j => .int (iZ (xs j))) (KFr G) U U.heap) (hxs : ∀ j, rg (xs j)) (h : Inv n I J) (hn : n ≤ 600) (hi : i + 6 ≤ L) (hL : L ≤ 3072)
    (k : ∀ (I2 : Ii) (J2 : Jj), Inv (n + 1) I2 J2 → Wz G X 9 Qs a b 2366 [some (.ref b0), some (.ref (kadr G 100)), some (.ref (kadr G 0)), some (.ref (kadr G 50)), some (.int (iZ i)), none, none, none, none] [] I2 J2) : Wz G X 9 Qs (0 + a) (0 + b) 1095 [some (.ref b0), some (.ref (kadr G 100)), some (.ref (kadr G 0)), some (.ref (kadr G 50)), some (.int (iZ i)), none, none, none, none] [] I J := by
  refine wz_aload_n C rfl rfl dL_law_1095 ?_
  refine wm_callV C (o := 100) (As := []) (st := []) (a' := a) (b' := b) rfl rfl (k_X11_border G hG I J _ (st_border h)) 0 gL_law_X11_border rfl (by decide +kernel) (by rw [hX]; exact ⟨Nat.le_of_ble_eq_true rfl, Nat.le_of_ble_eq_true rfl⟩) rfl (Nat.le_of_ble_eq_true rfl) rfl rfl rfl dL_law_1096 (kk_sI (fun r I1 J1 h1 => ?_))
  refine wz_aload_n C rfl rfl dL_law_1099 ?_
  refine wm_callV C (o := 0) (As := []) (st := [.int (iZ r)]) (a' := a) (b' := b) rfl rfl (k_X12_border G hG I1 J1 _ h1) 0 gL_law_X12_border rfl (by decide +kernel) (by rw [hX]; exact ⟨Nat.le_of_ble_eq_true rfl, Nat.le_of_ble_eq_true rfl⟩) rfl (Nat.le_of_ble_eq_true rfl) (Nat.zero_add _) (Nat.zero_add _) rfl dL_law_1100 (kk_sI (fun t I2 J2 h2 => ?_))
  obtain ⟨rfl, h3⟩ := h2
  exact wm_icmp_eq C (tgt := 2366) dL_law_1103 (by decide) (fun _ => k _ _ h3) (fun z => absurd rfl z)
set_option maxHeartbeats 4000000 in
set_option maxRecDepth 100000 in
theorem law_heaviest (hG : Kok G) (hW : KSx G) (hZ : KZx G) (hC : KCx G) (hX : KR X = room_1) (C : Fr G X cL_law 9 RL (some .boolean) wsL_law) (hT : ∀ U : State, G.1.2 U → va_T .int b0 L (fun j => .int (iZ (xs j))) (KFr G) U U.heap) (hxs : ∀ j, rg (xs j)) (h : Inv n I J) (hn : n ≤ 600) (hi : i + 6 ≤ L) (hL : L ≤ 3072)
    (k : ∀ (I2 : Ii) (J2 : Jj), Inv (n + 1) I2 J2 → Wz G X 9 Qs a b 2366 [some (.ref b0), some (.ref (kadr G 100)), some (.ref (kadr G 0)), some (.ref (kadr G 50)), some (.int (iZ i)), none, none, none, none] [] I2 J2) : Wz G X 9 Qs (0 + a) (0 + b) 1108 [some (.ref b0), some (.ref (kadr G 100)), some (.ref (kadr G 0)), some (.ref (kadr G 50)), some (.int (iZ i)), none, none, none, none] [] I J := by
  refine wz_aload_n C rfl rfl dL_law_1108 ?_
  refine wm_callV C (o := 100) (As := []) (st := []) (a' := a) (b' := b) rfl rfl (k_X11_heaviest G hG I J _ (st_heaviest h)) 0 gL_law_X11_heaviest rfl (by decide +kernel) (by rw [hX]; exact ⟨Nat.le_of_ble_eq_true rfl, Nat.le_of_ble_eq_true rfl⟩) rfl (Nat.le_of_ble_eq_true rfl) rfl rfl rfl dL_law_1109 (kk_sI (fun r I1 J1 h1 => ?_))
  refine wz_aload_n C rfl rfl dL_law_1112 ?_
  refine wm_callV C (o := 0) (As := []) (st := [.int (iZ r)]) (a' := a) (b' := b) rfl rfl (k_X12_heaviest G hG I1 J1 _ h1) 0 gL_law_X12_heaviest rfl (by decide +kernel) (by rw [hX]; exact ⟨Nat.le_of_ble_eq_true rfl, Nat.le_of_ble_eq_true rfl⟩) rfl (Nat.le_of_ble_eq_true rfl) (Nat.zero_add _) (Nat.zero_add _) rfl dL_law_1113 (kk_sI (fun t I2 J2 h2 => ?_))
  obtain ⟨rfl, h3⟩ := h2
  exact wm_icmp_eq C (tgt := 2366) dL_law_1116 (by decide) (fun _ => k _ _ h3) (fun z => absurd rfl z)
set_option maxHeartbeats 4000000 in
set_option maxRecDepth 100000 in
theorem law_cutShare (hG : Kok G) (hW : KSx G) (hZ : KZx G) (hC : KCx G) (hX : KR X = room_1) (C : Fr G X cL_law 9 RL (some .boolean) wsL_law) (hT : ∀ U : State, G.1.2 U → va_T .int b0 L (fun j => .int (iZ (xs j))) (KFr G) U U.heap) (hxs : ∀ j, rg (xs j)) (h : Inv n I J) (hn : n ≤ 600) (hi : i + 6 ≤ L) (hL : L ≤ 3072)
    (k : ∀ (I2 : Ii) (J2 : Jj), Inv (n + 1) I2 J2 → Wz G X 9 Qs a b 2366 [some (.ref b0), some (.ref (kadr G 100)), some (.ref (kadr G 0)), some (.ref (kadr G 50)), some (.int (iZ i)), none, none, none, none] [] I2 J2) : Wz G X 9 Qs (0 + a) (0 + b) 1121 [some (.ref b0), some (.ref (kadr G 100)), some (.ref (kadr G 0)), some (.ref (kadr G 50)), some (.int (iZ i)), none, none, none, none] [] I J := by
  refine wz_aload_n C rfl rfl dL_law_1121 ?_
  refine wm_callV C (o := 100) (As := []) (st := []) (a' := a) (b' := b) rfl rfl (k_X11_cutShare hG h) 0 gL_law_X11_cutShare rfl (by decide +kernel) (by rw [hX]; exact ⟨Nat.le_of_ble_eq_true rfl, Nat.le_of_ble_eq_true rfl⟩) rfl (Nat.le_of_ble_eq_true rfl) rfl rfl rfl dL_law_1122 (fun r S' hr => ?_)
  obtain ⟨I1, J1⟩ := S'
  obtain ⟨rfl, h1, e1⟩ := hr
  have e1 : I1 2 = I 2 := e1
  refine wf_f2d C (csZ_ok h.1.1.M) dL_law_1125 ?_
  refine wf_dstore C (i := 5) (by simp) rfl rfl dL_law_1126 ?_
  refine wz_aload_n C rfl rfl dL_law_1128 ?_
  refine wm_callV C (o := 0) (As := []) (st := []) (a' := a) (b' := b) rfl rfl (k_X12_cutShare hG h1) 0 gL_law_X12_cutShare rfl (by decide +kernel) (by rw [hX]; exact ⟨Nat.le_of_ble_eq_true rfl, Nat.le_of_ble_eq_true rfl⟩) rfl (Nat.le_of_ble_eq_true rfl) (Nat.zero_add _) (Nat.zero_add _) rfl dL_law_1129 (fun r S' hr => ?_)
  obtain ⟨I2, J2⟩ := S'
  obtain ⟨rfl, h2⟩ := hr
  have h2 : Inv n I2 J2 := h2
  rw [e1]
  refine wf_f2d C (csZ_ok h.1.1.M) dL_law_1132 ?_
  refine wf_dstore C (i := 7) (by simp) rfl rfl dL_law_1133 ?_
  refine wf_dload C rfl dL_law_1135 ?_
  refine wf_dload C rfl dL_law_1137 ?_
  refine wf_dcmp C (fl_f2d (csZ_ok h.1.1.M)) dL_law_1139 ?_
  refine wz_if_eq C (tgt := 1161) (by decide) dL_law_1140 (by decide) (fun _ => ?_) (fun z => absurd rfl z)
  refine wz_goto C dL_law_1161 (tgt := 2366) (by decide) ?_
  exact Wz.drop (k _ _ h2.mono) (And.intro rfl (And.intro rfl (And.intro rfl (And.intro rfl (And.intro rfl trivial)))))
set_option maxHeartbeats 4000000 in
set_option maxRecDepth 100000 in
theorem law_imbalance (hG : Kok G) (hW : KSx G) (hZ : KZx G) (hC : KCx G) (hX : KR X = room_1) (C : Fr G X cL_law 9 RL (some .boolean) wsL_law) (hT : ∀ U : State, G.1.2 U → va_T .int b0 L (fun j => .int (iZ (xs j))) (KFr G) U U.heap) (hxs : ∀ j, rg (xs j)) (h : Inv n I J) (hn : n ≤ 600) (hi : i + 6 ≤ L) (hL : L ≤ 3072)
    (k : ∀ (I2 : Ii) (J2 : Jj), Inv (n + 1) I2 J2 → Wz G X 9 Qs a b 2366 [some (.ref b0), some (.ref (kadr G 100)), some (.ref (kadr G 0)), some (.ref (kadr G 50)), some (.int (iZ i)), none, none, none, none] [] I2 J2) : Wz G X 9 Qs (0 + a) (0 + b) 1164 [some (.ref b0), some (.ref (kadr G 100)), some (.ref (kadr G 0)), some (.ref (kadr G 50)), some (.int (iZ i)), none, none, none, none] [] I J := by
  refine wz_aload_n C rfl rfl dL_law_1164 ?_
  refine wm_callV C (o := 100) (As := []) (st := []) (a' := a) (b' := b) rfl rfl (k_X11_imbalance hG h) 0 gL_law_X11_imbalance rfl (by decide +kernel) (by rw [hX]; exact ⟨Nat.le_of_ble_eq_true rfl, Nat.le_of_ble_eq_true rfl⟩) rfl (Nat.le_of_ble_eq_true rfl) rfl rfl rfl dL_law_1165 (fun r S' hr => ?_)
  obtain ⟨I1, J1⟩ := S'
  obtain ⟨rfl, h1, e1⟩ := hr
  have e1 : I1 2 = I 2 := e1
  refine wf_dstore C (i := 5) (by simp) rfl rfl dL_law_1168 ?_
  refine wz_aload_n C rfl rfl dL_law_1170 ?_
  refine wm_callV C (o := 0) (As := []) (st := []) (a' := a) (b' := b) rfl rfl (k_X12_imbalance hG h1) 0 gL_law_X12_imbalance rfl (by decide +kernel) (by rw [hX]; exact ⟨Nat.le_of_ble_eq_true rfl, Nat.le_of_ble_eq_true rfl⟩) rfl (Nat.le_of_ble_eq_true rfl) (Nat.zero_add _) (Nat.zero_add _) rfl dL_law_1171 (fun r S' hr => ?_)
  obtain ⟨I2, J2⟩ := S'
  obtain ⟨rfl, h2⟩ := hr
  have h2 : Inv n I2 J2 := h2
  rw [e1]
  refine wf_dstore C (i := 7) (by simp) rfl rfl dL_law_1174 ?_
  refine wf_dload C rfl dL_law_1176 ?_
  refine wf_dload C rfl dL_law_1178 ?_
  refine wf_dcmp C (ibZ_ok h.1.1.M) dL_law_1180 ?_
  refine wz_if_eq C (tgt := 1202) (by decide) dL_law_1181 (by decide) (fun _ => ?_) (fun z => absurd rfl z)
  refine wz_goto C dL_law_1202 (tgt := 2366) (by decide) ?_
  exact Wz.drop (k _ _ h2.mono) (And.intro rfl (And.intro rfl (And.intro rfl (And.intro rfl (And.intro rfl trivial)))))
set_option maxHeartbeats 4000000 in
set_option maxRecDepth 100000 in
theorem law_group (hG : Kok G) (hW : KSx G) (hZ : KZx G) (hC : KCx G) (hX : KR X = room_1) (C : Fr G X cL_law 9 RL (some .boolean) wsL_law) (hT : ∀ U : State, G.1.2 U → va_T .int b0 L (fun j => .int (iZ (xs j))) (KFr G) U U.heap) (hxs : ∀ j, rg (xs j)) (h : Inv n I J) (hn : n ≤ 600) (hi : i + 6 ≤ L) (hL : L ≤ 3072)
    (k : ∀ (I2 : Ii) (J2 : Jj), Inv (n + 1) I2 J2 → Wz G X 9 Qs a b 2366 [some (.ref b0), some (.ref (kadr G 100)), some (.ref (kadr G 0)), some (.ref (kadr G 50)), some (.int (iZ i)), none, none, none, none] [] I2 J2) : Wz G X 9 Qs (1 + a) (6 + b) 1205 [some (.ref b0), some (.ref (kadr G 100)), some (.ref (kadr G 0)), some (.ref (kadr G 50)), some (.int (iZ i)), none, none, none, none] [] I J := by
  refine wz_aload_n C rfl rfl dL_law_1205 ?_
  refine wz_aload_n C rfl rfl dL_law_1206 ?_
  refine wz_iload C rfl dL_law_1207 ?_
  refine wz_iconst C dL_law_1209 ?_
  refine wz_iadd C dL_law_1210 ?_
  refine ws_iald C (i + 1) hT (by omega) (by omega) (by omega) dL_law_1211 ?_
  refine wz_aload_n C rfl rfl dL_law_1212 ?_
  refine wz_iload C rfl dL_law_1213 ?_
  refine wz_iconst C dL_law_1215 ?_
  refine wz_iadd C dL_law_1216 ?_
  refine ws_iald C (i + 2) hT (by omega) (by omega) (by omega) dL_law_1217 ?_
  refine wz_aload_n C rfl rfl dL_law_1218 ?_
  refine wl_callSW C (As := [.ref (kadr G 100), .int (iZ (xs (i + 1))), .int (iZ (xs (i + 2))), .ref (kadr G 50)]) (st := []) (a' := a) (b' := b) (kL_group G hG hZ hC (xs (i + 1)) (xs (i + 2)) I J _ _ (st_group h (hxs (i + 1)) (hxs (i + 2))) (fun k I J hk => hk.1)) 4 gL_law_L_group rfl (by decide +kernel) (by rw [hX]; exact ⟨Nat.le_of_ble_eq_true rfl, Nat.le_of_ble_eq_true rfl⟩) rfl (Nat.le_of_ble_eq_true rfl) rfl rfl rfl dL_law_1219 (kk_sI (fun v I1 J1 h1 => ?_))
  obtain ⟨hv, h1⟩ := LQ_of (M := wp_X12_group (xs (i + 1)) (xs (i + 2))) cdB_b (fun I J P P' hp hq => fr_X12_group hp (fun r I2 J2 hr _ => hq r I2 J2 hr)) h1
  refine wz_istore_5 C rfl dL_law_1222 ?_
  refine wz_aload_n C rfl rfl dL_law_1224 ?_
  refine wz_aload_n C rfl rfl dL_law_1225 ?_
  refine wz_iload C rfl dL_law_1226 ?_
  refine wz_iconst C dL_law_1228 ?_
  refine wz_iadd C dL_law_1229 ?_
  refine ws_iald C (i + 1) hT (by omega) (by omega) (by omega) dL_law_1230 ?_
  refine wz_aload_n C rfl rfl dL_law_1231 ?_
  refine wz_iload C rfl dL_law_1232 ?_
  refine wz_iconst C dL_law_1234 ?_
  refine wz_iadd C dL_law_1235 ?_
  refine ws_iald C (i + 2) hT (by omega) (by omega) (by omega) dL_law_1236 ?_
  refine wm_callV C (o := 0) (As := [.int (iZ (xs (i + 1))), .int (iZ (xs (i + 2)))]) (st := []) (a' := a) (b' := b) rfl rfl (k_X12_group G hG (xs (i + 1)) (xs (i + 2)) I1 J1 _ h1) 2 gL_law_X12_group rfl (by decide +kernel) (by rw [hX]; exact ⟨Nat.le_of_ble_eq_true rfl, Nat.le_of_ble_eq_true rfl⟩) rfl (Nat.le_of_ble_eq_true rfl) (Nat.zero_add _) (Nat.zero_add _) rfl dL_law_1237 (kk_sI (fun r I2 J2 h2 => ?_))
  obtain ⟨e1, e2, h3⟩ := h2
  refine wz_istore_6 C rfl dL_law_1240 ?_
  refine wz_aload_n C rfl rfl dL_law_1242 ?_
  refine wm_callV C (o := 0) (As := []) (st := []) (a' := a) (b' := b) rfl rfl (k_X12_thrown G hG I2 J2 (fun t I3 J3 => t = v ∧ I3 = I2 ∧ J3 = J2) ⟨e1, rfl, rfl⟩) 0 gL_law_X12_thrown rfl (by decide +kernel) (by rw [hX]; exact ⟨Nat.le_of_ble_eq_true rfl, Nat.le_of_ble_eq_true rfl⟩) rfl (Nat.le_of_ble_eq_true rfl) (Nat.zero_add _) (Nat.zero_add _) rfl dL_law_1243 (kk_sI (fun t I3 J3 h4 => ?_))
  obtain ⟨rfl, rfl, rfl⟩ := h4
  refine wz_iload C rfl dL_law_1246 ?_
  refine wm_icmp_eq C (tgt := 1253) dL_law_1248 (by decide) (fun _ => ?_) (fun z => absurd rfl z)
  refine wz_iload C rfl dL_law_1253 ?_
  refine wz_if_ne C (tgt := 1270) (by omega) dL_law_1255 (by decide) (fun _ => ?_) (fun z => ?_)
  · refine wz_goto C dL_law_1270 (tgt := 2366) (by decide) ?_
    exact Wz.drop (k _ _ h3) (And.intro rfl (And.intro rfl (And.intro rfl (And.intro rfl (And.intro rfl trivial)))))
  · refine wz_aload_n C rfl rfl dL_law_1258 ?_
    refine wz_iconst C dL_law_1259 ?_
    refine wz_laload C 0 rfl rfl (by decide) (by decide) (e2 z) dL_law_1260 ?_
    refine wz_iload C rfl dL_law_1261 ?_
    refine wd_i2l C dL_law_1263 ?_
    refine wd_lcmp C dL_law_1264 ?_
    refine wz_if_eq C (tgt := 1270) (toInt_rg _) dL_law_1265 (by decide) (fun _ => ?_) (fun z2 => absurd (cmpL_self _) z2)
    refine wz_goto C dL_law_1270 (tgt := 2366) (by decide) ?_
    exact Wz.drop (k _ _ h3) (And.intro rfl (And.intro rfl (And.intro rfl (And.intro rfl (And.intro rfl trivial)))))
set_option maxHeartbeats 4000000 in
set_option maxRecDepth 100000 in
theorem law_groupOf (hG : Kok G) (hW : KSx G) (hZ : KZx G) (hC : KCx G) (hX : KR X = room_1) (C : Fr G X cL_law 9 RL (some .boolean) wsL_law) (hT : ∀ U : State, G.1.2 U → va_T .int b0 L (fun j => .int (iZ (xs j))) (KFr G) U U.heap) (hxs : ∀ j, rg (xs j)) (h : Inv n I J) (hn : n ≤ 600) (hi : i + 6 ≤ L) (hL : L ≤ 3072)
    (k : ∀ (I2 : Ii) (J2 : Jj), Inv (n + 1) I2 J2 → Wz G X 9 Qs a b 2366 [some (.ref b0), some (.ref (kadr G 100)), some (.ref (kadr G 0)), some (.ref (kadr G 50)), some (.int (iZ i)), none, none, none, none] [] I2 J2) : Wz G X 9 Qs (1 + a) (6 + b) 1273 [some (.ref b0), some (.ref (kadr G 100)), some (.ref (kadr G 0)), some (.ref (kadr G 50)), some (.int (iZ i)), none, none, none, none] [] I J := by
  refine wz_aload_n C rfl rfl dL_law_1273 ?_
  refine wz_aload_n C rfl rfl dL_law_1274 ?_
  refine wz_iload C rfl dL_law_1275 ?_
  refine wz_iconst C dL_law_1277 ?_
  refine wz_iadd C dL_law_1278 ?_
  refine ws_iald C (i + 1) hT (by omega) (by omega) (by omega) dL_law_1279 ?_
  refine wz_aload_n C rfl rfl dL_law_1280 ?_
  refine wl_callSW C (As := [.ref (kadr G 100), .int (iZ (xs (i + 1))), .ref (kadr G 50)]) (st := []) (a' := a) (b' := b) (kL_groupOf G hG hZ hC (xs (i + 1)) I J _ _ (st_groupOf h (hxs (i + 1))) (fun k I J hk => hk.1)) 3 gL_law_L_groupOf rfl (by decide +kernel) (by rw [hX]; exact ⟨Nat.le_of_ble_eq_true rfl, Nat.le_of_ble_eq_true rfl⟩) rfl (Nat.le_of_ble_eq_true rfl) rfl rfl rfl dL_law_1281 (kk_sI (fun v I1 J1 h1 => ?_))
  obtain ⟨hv, h1⟩ := LQ_of (M := wp_X12_groupOf (xs (i + 1))) cdV_b (fun I J P P' hp hq => fr_X12_groupOf hp (fun r I2 J2 hr _ => hq r I2 J2 hr)) h1
  refine wz_istore_5 C rfl dL_law_1284 ?_
  refine wz_aload_n C rfl rfl dL_law_1286 ?_
  refine wz_aload_n C rfl rfl dL_law_1287 ?_
  refine wz_iload C rfl dL_law_1288 ?_
  refine wz_iconst C dL_law_1290 ?_
  refine wz_iadd C dL_law_1291 ?_
  refine ws_iald C (i + 1) hT (by omega) (by omega) (by omega) dL_law_1292 ?_
  refine wm_callV C (o := 0) (As := [.int (iZ (xs (i + 1)))]) (st := []) (a' := a) (b' := b) rfl rfl (k_X12_groupOf G hG (xs (i + 1)) I1 J1 _ h1) 1 gL_law_X12_groupOf rfl (by decide +kernel) (by rw [hX]; exact ⟨Nat.le_of_ble_eq_true rfl, Nat.le_of_ble_eq_true rfl⟩) rfl (Nat.le_of_ble_eq_true rfl) (Nat.zero_add _) (Nat.zero_add _) rfl dL_law_1293 (kk_sI (fun r I2 J2 h2 => ?_))
  obtain ⟨e1, e2, h3⟩ := h2
  refine wz_istore_6 C rfl dL_law_1296 ?_
  refine wz_aload_n C rfl rfl dL_law_1298 ?_
  refine wm_callV C (o := 0) (As := []) (st := []) (a' := a) (b' := b) rfl rfl (k_X12_thrown G hG I2 J2 (fun t I3 J3 => t = v ∧ I3 = I2 ∧ J3 = J2) ⟨e1, rfl, rfl⟩) 0 gL_law_X12_thrown rfl (by decide +kernel) (by rw [hX]; exact ⟨Nat.le_of_ble_eq_true rfl, Nat.le_of_ble_eq_true rfl⟩) rfl (Nat.le_of_ble_eq_true rfl) (Nat.zero_add _) (Nat.zero_add _) rfl dL_law_1299 (kk_sI (fun t I3 J3 h4 => ?_))
  obtain ⟨rfl, rfl, rfl⟩ := h4
  refine wz_iload C rfl dL_law_1302 ?_
  refine wm_icmp_eq C (tgt := 1309) dL_law_1304 (by decide) (fun _ => ?_) (fun z => absurd rfl z)
  refine wz_iload C rfl dL_law_1309 ?_
  refine wz_if_ne C (tgt := 1326) (by omega) dL_law_1311 (by decide) (fun _ => ?_) (fun z => ?_)
  · refine wz_goto C dL_law_1326 (tgt := 2366) (by decide) ?_
    exact Wz.drop (k _ _ h3) (And.intro rfl (And.intro rfl (And.intro rfl (And.intro rfl (And.intro rfl trivial)))))
  · refine wz_aload_n C rfl rfl dL_law_1314 ?_
    refine wz_iconst C dL_law_1315 ?_
    refine wz_laload C 0 rfl rfl (by decide) (by decide) (e2 z) dL_law_1316 ?_
    refine wz_iload C rfl dL_law_1317 ?_
    refine wd_i2l C dL_law_1319 ?_
    refine wd_lcmp C dL_law_1320 ?_
    refine wz_if_eq C (tgt := 1326) (toInt_rg _) dL_law_1321 (by decide) (fun _ => ?_) (fun z2 => absurd (cmpL_self _) z2)
    refine wz_goto C dL_law_1326 (tgt := 2366) (by decide) ?_
    exact Wz.drop (k _ _ h3) (And.intro rfl (And.intro rfl (And.intro rfl (And.intro rfl (And.intro rfl trivial)))))
set_option maxHeartbeats 4000000 in
set_option maxRecDepth 100000 in
theorem law_whyNotShrink (hG : Kok G) (hW : KSx G) (hZ : KZx G) (hC : KCx G) (hX : KR X = room_1) (C : Fr G X cL_law 9 RL (some .boolean) wsL_law) (hT : ∀ U : State, G.1.2 U → va_T .int b0 L (fun j => .int (iZ (xs j))) (KFr G) U U.heap) (hxs : ∀ j, rg (xs j)) (h : Inv n I J) (hn : n ≤ 600) (hi : i + 6 ≤ L) (hL : L ≤ 3072)
    (k : ∀ (I2 : Ii) (J2 : Jj), Inv (n + 1) I2 J2 → Wz G X 9 Qs a b 2366 [some (.ref b0), some (.ref (kadr G 100)), some (.ref (kadr G 0)), some (.ref (kadr G 50)), some (.int (iZ i)), none, none, none, none] [] I2 J2) : Wz G X 9 Qs (0 + a) (0 + b) 1329 [some (.ref b0), some (.ref (kadr G 100)), some (.ref (kadr G 0)), some (.ref (kadr G 50)), some (.int (iZ i)), none, none, none, none] [] I J := by
  refine wz_aload_n C rfl rfl dL_law_1329 ?_
  refine wm_callV C (o := 100) (As := []) (st := []) (a' := a) (b' := b) rfl rfl (k_X11_whyNotShrink G hG I J _ (st_whyNotShrink h)) 0 gL_law_X11_whyNotShrink rfl (by decide +kernel) (by rw [hX]; exact ⟨Nat.le_of_ble_eq_true rfl, Nat.le_of_ble_eq_true rfl⟩) rfl (Nat.le_of_ble_eq_true rfl) rfl rfl rfl dL_law_1330 (kk_sI (fun r I1 J1 h1 => ?_))
  refine wz_aload_n C rfl rfl dL_law_1333 ?_
  refine wm_callV C (o := 0) (As := []) (st := [.int (iZ r)]) (a' := a) (b' := b) rfl rfl (k_X12_whyNotShrink G hG I1 J1 _ h1) 0 gL_law_X12_whyNotShrink rfl (by decide +kernel) (by rw [hX]; exact ⟨Nat.le_of_ble_eq_true rfl, Nat.le_of_ble_eq_true rfl⟩) rfl (Nat.le_of_ble_eq_true rfl) (Nat.zero_add _) (Nat.zero_add _) rfl dL_law_1334 (kk_sI (fun t I2 J2 h2 => ?_))
  obtain ⟨rfl, h3⟩ := h2
  exact wm_icmp_eq C (tgt := 2366) dL_law_1337 (by decide) (fun _ => k _ _ h3) (fun z => absurd rfl z)
set_option maxHeartbeats 4000000 in
set_option maxRecDepth 100000 in
theorem law_mate (hG : Kok G) (hW : KSx G) (hZ : KZx G) (hC : KCx G) (hX : KR X = room_1) (C : Fr G X cL_law 9 RL (some .boolean) wsL_law) (hT : ∀ U : State, G.1.2 U → va_T .int b0 L (fun j => .int (iZ (xs j))) (KFr G) U U.heap) (hxs : ∀ j, rg (xs j)) (h : Inv n I J) (hn : n ≤ 600) (hi : i + 6 ≤ L) (hL : L ≤ 3072)
    (k : ∀ (I2 : Ii) (J2 : Jj), Inv (n + 1) I2 J2 → Wz G X 9 Qs a b 2366 [some (.ref b0), some (.ref (kadr G 100)), some (.ref (kadr G 0)), some (.ref (kadr G 50)), some (.int (iZ i)), none, none, none, none] [] I2 J2) : Wz G X 9 Qs (1 + a) (6 + b) 1342 [some (.ref b0), some (.ref (kadr G 100)), some (.ref (kadr G 0)), some (.ref (kadr G 50)), some (.int (iZ i)), none, none, none, none] [] I J := by
  refine wz_aload_n C rfl rfl dL_law_1342 ?_
  refine wz_aload_n C rfl rfl dL_law_1343 ?_
  refine wz_iload C rfl dL_law_1344 ?_
  refine wz_iconst C dL_law_1346 ?_
  refine wz_iadd C dL_law_1347 ?_
  refine ws_iald C (i + 1) hT (by omega) (by omega) (by omega) dL_law_1348 ?_
  refine wz_aload_n C rfl rfl dL_law_1349 ?_
  refine wl_callSW C (As := [.ref (kadr G 100), .int (iZ (xs (i + 1))), .ref (kadr G 50)]) (st := []) (a' := a) (b' := b) (kL_mate G hG hZ hC (xs (i + 1)) I J _ _ (st_mate h (hxs (i + 1))) (fun k I J hk => hk.1)) 3 gL_law_L_mate rfl (by decide +kernel) (by rw [hX]; exact ⟨Nat.le_of_ble_eq_true rfl, Nat.le_of_ble_eq_true rfl⟩) rfl (Nat.le_of_ble_eq_true rfl) rfl rfl rfl dL_law_1350 (kk_sI (fun v I1 J1 h1 => ?_))
  obtain ⟨hv, h1⟩ := LQ_of (M := wp_X12_mate (xs (i + 1))) cdV_b (fun I J P P' hp hq => fr_X12_mate hp (fun r I2 J2 hr _ => hq r I2 J2 hr)) h1
  refine wz_istore_5 C rfl dL_law_1353 ?_
  refine wz_aload_n C rfl rfl dL_law_1355 ?_
  refine wz_aload_n C rfl rfl dL_law_1356 ?_
  refine wz_iload C rfl dL_law_1357 ?_
  refine wz_iconst C dL_law_1359 ?_
  refine wz_iadd C dL_law_1360 ?_
  refine ws_iald C (i + 1) hT (by omega) (by omega) (by omega) dL_law_1361 ?_
  refine wm_callV C (o := 0) (As := [.int (iZ (xs (i + 1)))]) (st := []) (a' := a) (b' := b) rfl rfl (k_X12_mate G hG (xs (i + 1)) I1 J1 _ h1) 1 gL_law_X12_mate rfl (by decide +kernel) (by rw [hX]; exact ⟨Nat.le_of_ble_eq_true rfl, Nat.le_of_ble_eq_true rfl⟩) rfl (Nat.le_of_ble_eq_true rfl) (Nat.zero_add _) (Nat.zero_add _) rfl dL_law_1362 (kk_sI (fun r I2 J2 h2 => ?_))
  obtain ⟨e1, e2, h3⟩ := h2
  refine wz_istore_6 C rfl dL_law_1365 ?_
  refine wz_aload_n C rfl rfl dL_law_1367 ?_
  refine wm_callV C (o := 0) (As := []) (st := []) (a' := a) (b' := b) rfl rfl (k_X12_thrown G hG I2 J2 (fun t I3 J3 => t = v ∧ I3 = I2 ∧ J3 = J2) ⟨e1, rfl, rfl⟩) 0 gL_law_X12_thrown rfl (by decide +kernel) (by rw [hX]; exact ⟨Nat.le_of_ble_eq_true rfl, Nat.le_of_ble_eq_true rfl⟩) rfl (Nat.le_of_ble_eq_true rfl) (Nat.zero_add _) (Nat.zero_add _) rfl dL_law_1368 (kk_sI (fun t I3 J3 h4 => ?_))
  obtain ⟨rfl, rfl, rfl⟩ := h4
  refine wz_iload C rfl dL_law_1371 ?_
  refine wm_icmp_eq C (tgt := 1378) dL_law_1373 (by decide) (fun _ => ?_) (fun z => absurd rfl z)
  refine wz_iload C rfl dL_law_1378 ?_
  refine wz_if_ne C (tgt := 1395) (by omega) dL_law_1380 (by decide) (fun _ => ?_) (fun z => ?_)
  · refine wz_goto C dL_law_1395 (tgt := 2366) (by decide) ?_
    exact Wz.drop (k _ _ h3) (And.intro rfl (And.intro rfl (And.intro rfl (And.intro rfl (And.intro rfl trivial)))))
  · refine wz_aload_n C rfl rfl dL_law_1383 ?_
    refine wz_iconst C dL_law_1384 ?_
    refine wz_laload C 0 rfl rfl (by decide) (by decide) (e2 z) dL_law_1385 ?_
    refine wz_iload C rfl dL_law_1386 ?_
    refine wd_i2l C dL_law_1388 ?_
    refine wd_lcmp C dL_law_1389 ?_
    refine wz_if_eq C (tgt := 1395) (toInt_rg _) dL_law_1390 (by decide) (fun _ => ?_) (fun z2 => absurd (cmpL_self _) z2)
    refine wz_goto C dL_law_1395 (tgt := 2366) (by decide) ?_
    exact Wz.drop (k _ _ h3) (And.intro rfl (And.intro rfl (And.intro rfl (And.intro rfl (And.intro rfl trivial)))))
set_option maxHeartbeats 4000000 in
set_option maxRecDepth 100000 in
theorem law_gain (hG : Kok G) (hW : KSx G) (hZ : KZx G) (hC : KCx G) (hX : KR X = room_1) (C : Fr G X cL_law 9 RL (some .boolean) wsL_law) (hT : ∀ U : State, G.1.2 U → va_T .int b0 L (fun j => .int (iZ (xs j))) (KFr G) U U.heap) (hxs : ∀ j, rg (xs j)) (h : Inv n I J) (hn : n ≤ 600) (hi : i + 6 ≤ L) (hL : L ≤ 3072)
    (k : ∀ (I2 : Ii) (J2 : Jj), Inv (n + 1) I2 J2 → Wz G X 9 Qs a b 2366 [some (.ref b0), some (.ref (kadr G 100)), some (.ref (kadr G 0)), some (.ref (kadr G 50)), some (.int (iZ i)), none, none, none, none] [] I2 J2) : Wz G X 9 Qs (1 + a) (6 + b) 1398 [some (.ref b0), some (.ref (kadr G 100)), some (.ref (kadr G 0)), some (.ref (kadr G 50)), some (.int (iZ i)), none, none, none, none] [] I J := by
  refine wz_aload_n C rfl rfl dL_law_1398 ?_
  refine wz_aload_n C rfl rfl dL_law_1399 ?_
  refine wz_iload C rfl dL_law_1400 ?_
  refine wz_iconst C dL_law_1402 ?_
  refine wz_iadd C dL_law_1403 ?_
  refine ws_iald C (i + 1) hT (by omega) (by omega) (by omega) dL_law_1404 ?_
  refine wz_aload_n C rfl rfl dL_law_1405 ?_
  refine wz_iload C rfl dL_law_1406 ?_
  refine wz_iconst C dL_law_1408 ?_
  refine wz_iadd C dL_law_1409 ?_
  refine ws_iald C (i + 2) hT (by omega) (by omega) (by omega) dL_law_1410 ?_
  refine wz_aload_n C rfl rfl dL_law_1411 ?_
  refine wl_callSW C (As := [.ref (kadr G 100), .int (iZ (xs (i + 1))), .int (iZ (xs (i + 2))), .ref (kadr G 50)]) (st := []) (a' := a) (b' := b) (kL_gain G hG hZ hC (xs (i + 1)) (xs (i + 2)) I J _ _ (st_gain h (hxs (i + 1)) (hxs (i + 2))) (fun k I J hk => hk.1)) 4 gL_law_L_gain rfl (by decide +kernel) (by rw [hX]; exact ⟨Nat.le_of_ble_eq_true rfl, Nat.le_of_ble_eq_true rfl⟩) rfl (Nat.le_of_ble_eq_true rfl) rfl rfl rfl dL_law_1412 (kk_sI (fun v I1 J1 h1 => ?_))
  obtain ⟨hv, h1⟩ := LQ_of (M := wp_X12_gain (xs (i + 1)) (xs (i + 2))) cdV_b (fun I J P P' hp hq => fr_X12_gain hp (fun r I2 J2 hr _ => hq r I2 J2 hr)) h1
  refine wz_istore_5 C rfl dL_law_1415 ?_
  refine wz_aload_n C rfl rfl dL_law_1417 ?_
  refine wz_aload_n C rfl rfl dL_law_1418 ?_
  refine wz_iload C rfl dL_law_1419 ?_
  refine wz_iconst C dL_law_1421 ?_
  refine wz_iadd C dL_law_1422 ?_
  refine ws_iald C (i + 1) hT (by omega) (by omega) (by omega) dL_law_1423 ?_
  refine wz_aload_n C rfl rfl dL_law_1424 ?_
  refine wz_iload C rfl dL_law_1425 ?_
  refine wz_iconst C dL_law_1427 ?_
  refine wz_iadd C dL_law_1428 ?_
  refine ws_iald C (i + 2) hT (by omega) (by omega) (by omega) dL_law_1429 ?_
  refine wm_callV C (o := 0) (As := [.int (iZ (xs (i + 1))), .int (iZ (xs (i + 2)))]) (st := []) (a' := a) (b' := b) rfl rfl (k_X12_gain G hG (xs (i + 1)) (xs (i + 2)) I1 J1 _ h1) 2 gL_law_X12_gain rfl (by decide +kernel) (by rw [hX]; exact ⟨Nat.le_of_ble_eq_true rfl, Nat.le_of_ble_eq_true rfl⟩) rfl (Nat.le_of_ble_eq_true rfl) (Nat.zero_add _) (Nat.zero_add _) rfl dL_law_1430 (kk_sI (fun r I2 J2 h2 => ?_))
  obtain ⟨e1, e2, h3⟩ := h2
  refine wz_istore_6 C rfl dL_law_1433 ?_
  refine wz_aload_n C rfl rfl dL_law_1435 ?_
  refine wm_callV C (o := 0) (As := []) (st := []) (a' := a) (b' := b) rfl rfl (k_X12_thrown G hG I2 J2 (fun t I3 J3 => t = v ∧ I3 = I2 ∧ J3 = J2) ⟨e1, rfl, rfl⟩) 0 gL_law_X12_thrown rfl (by decide +kernel) (by rw [hX]; exact ⟨Nat.le_of_ble_eq_true rfl, Nat.le_of_ble_eq_true rfl⟩) rfl (Nat.le_of_ble_eq_true rfl) (Nat.zero_add _) (Nat.zero_add _) rfl dL_law_1436 (kk_sI (fun t I3 J3 h4 => ?_))
  obtain ⟨rfl, rfl, rfl⟩ := h4
  refine wz_iload C rfl dL_law_1439 ?_
  refine wm_icmp_eq C (tgt := 1446) dL_law_1441 (by decide) (fun _ => ?_) (fun z => absurd rfl z)
  refine wz_iload C rfl dL_law_1446 ?_
  refine wz_if_ne C (tgt := 1463) (by omega) dL_law_1448 (by decide) (fun _ => ?_) (fun z => ?_)
  · refine wz_goto C dL_law_1463 (tgt := 2366) (by decide) ?_
    exact Wz.drop (k _ _ h3) (And.intro rfl (And.intro rfl (And.intro rfl (And.intro rfl (And.intro rfl trivial)))))
  · refine wz_aload_n C rfl rfl dL_law_1451 ?_
    refine wz_iconst C dL_law_1452 ?_
    refine wz_laload C 0 rfl rfl (by decide) (by decide) (e2 z) dL_law_1453 ?_
    refine wz_iload C rfl dL_law_1454 ?_
    refine wd_i2l C dL_law_1456 ?_
    refine wd_lcmp C dL_law_1457 ?_
    refine wz_if_eq C (tgt := 1463) (toInt_rg _) dL_law_1458 (by decide) (fun _ => ?_) (fun z2 => absurd (cmpL_self _) z2)
    refine wz_goto C dL_law_1463 (tgt := 2366) (by decide) ?_
    exact Wz.drop (k _ _ h3) (And.intro rfl (And.intro rfl (And.intro rfl (And.intro rfl (And.intro rfl trivial)))))
set_option maxHeartbeats 4000000 in
set_option maxRecDepth 100000 in
theorem law_whyNotMove (hG : Kok G) (hW : KSx G) (hZ : KZx G) (hC : KCx G) (hX : KR X = room_1) (C : Fr G X cL_law 9 RL (some .boolean) wsL_law) (hT : ∀ U : State, G.1.2 U → va_T .int b0 L (fun j => .int (iZ (xs j))) (KFr G) U U.heap) (hxs : ∀ j, rg (xs j)) (h : Inv n I J) (hn : n ≤ 600) (hi : i + 6 ≤ L) (hL : L ≤ 3072)
    (k : ∀ (I2 : Ii) (J2 : Jj), Inv (n + 1) I2 J2 → Wz G X 9 Qs a b 2366 [some (.ref b0), some (.ref (kadr G 100)), some (.ref (kadr G 0)), some (.ref (kadr G 50)), some (.int (iZ i)), none, none, none, none] [] I2 J2) : Wz G X 9 Qs (1 + a) (6 + b) 1466 [some (.ref b0), some (.ref (kadr G 100)), some (.ref (kadr G 0)), some (.ref (kadr G 50)), some (.int (iZ i)), none, none, none, none] [] I J := by
  refine wz_aload_n C rfl rfl dL_law_1466 ?_
  refine wz_aload_n C rfl rfl dL_law_1467 ?_
  refine wz_iload C rfl dL_law_1468 ?_
  refine wz_iconst C dL_law_1470 ?_
  refine wz_iadd C dL_law_1471 ?_
  refine ws_iald C (i + 1) hT (by omega) (by omega) (by omega) dL_law_1472 ?_
  refine wz_aload_n C rfl rfl dL_law_1473 ?_
  refine wz_iload C rfl dL_law_1474 ?_
  refine wz_iconst C dL_law_1476 ?_
  refine wz_iadd C dL_law_1477 ?_
  refine ws_iald C (i + 2) hT (by omega) (by omega) (by omega) dL_law_1478 ?_
  refine wz_aload_n C rfl rfl dL_law_1479 ?_
  refine wl_callSW C (As := [.ref (kadr G 100), .int (iZ (xs (i + 1))), .int (iZ (xs (i + 2))), .ref (kadr G 50)]) (st := []) (a' := a) (b' := b) (kL_whyNotMove G hG hZ hC (xs (i + 1)) (xs (i + 2)) I J _ _ (st_whyNotMove h (hxs (i + 1)) (hxs (i + 2))) (fun k I J hk => hk.1)) 4 gL_law_L_whyNotMove rfl (by decide +kernel) (by rw [hX]; exact ⟨Nat.le_of_ble_eq_true rfl, Nat.le_of_ble_eq_true rfl⟩) rfl (Nat.le_of_ble_eq_true rfl) rfl rfl rfl dL_law_1480 (kk_sI (fun v I1 J1 h1 => ?_))
  obtain ⟨hv, h1⟩ := LQ_of (M := wp_X12_whyNotMove (xs (i + 1)) (xs (i + 2))) cdV_b (fun I J P P' hp hq => fr_X12_whyNotMove hp (fun r I2 J2 hr _ => hq r I2 J2 hr)) h1
  refine wz_istore_5 C rfl dL_law_1483 ?_
  refine wz_aload_n C rfl rfl dL_law_1485 ?_
  refine wz_aload_n C rfl rfl dL_law_1486 ?_
  refine wz_iload C rfl dL_law_1487 ?_
  refine wz_iconst C dL_law_1489 ?_
  refine wz_iadd C dL_law_1490 ?_
  refine ws_iald C (i + 1) hT (by omega) (by omega) (by omega) dL_law_1491 ?_
  refine wz_aload_n C rfl rfl dL_law_1492 ?_
  refine wz_iload C rfl dL_law_1493 ?_
  refine wz_iconst C dL_law_1495 ?_
  refine wz_iadd C dL_law_1496 ?_
  refine ws_iald C (i + 2) hT (by omega) (by omega) (by omega) dL_law_1497 ?_
  refine wm_callV C (o := 0) (As := [.int (iZ (xs (i + 1))), .int (iZ (xs (i + 2)))]) (st := []) (a' := a) (b' := b) rfl rfl (k_X12_whyNotMove G hG (xs (i + 1)) (xs (i + 2)) I1 J1 _ h1) 2 gL_law_X12_whyNotMove rfl (by decide +kernel) (by rw [hX]; exact ⟨Nat.le_of_ble_eq_true rfl, Nat.le_of_ble_eq_true rfl⟩) rfl (Nat.le_of_ble_eq_true rfl) (Nat.zero_add _) (Nat.zero_add _) rfl dL_law_1498 (kk_sI (fun r I2 J2 h2 => ?_))
  obtain ⟨e1, e2, h3⟩ := h2
  refine wz_istore_6 C rfl dL_law_1501 ?_
  refine wz_aload_n C rfl rfl dL_law_1503 ?_
  refine wm_callV C (o := 0) (As := []) (st := []) (a' := a) (b' := b) rfl rfl (k_X12_thrown G hG I2 J2 (fun t I3 J3 => t = v ∧ I3 = I2 ∧ J3 = J2) ⟨e1, rfl, rfl⟩) 0 gL_law_X12_thrown rfl (by decide +kernel) (by rw [hX]; exact ⟨Nat.le_of_ble_eq_true rfl, Nat.le_of_ble_eq_true rfl⟩) rfl (Nat.le_of_ble_eq_true rfl) (Nat.zero_add _) (Nat.zero_add _) rfl dL_law_1504 (kk_sI (fun t I3 J3 h4 => ?_))
  obtain ⟨rfl, rfl, rfl⟩ := h4
  refine wz_iload C rfl dL_law_1507 ?_
  refine wm_icmp_eq C (tgt := 1514) dL_law_1509 (by decide) (fun _ => ?_) (fun z => absurd rfl z)
  refine wz_iload C rfl dL_law_1514 ?_
  refine wz_if_ne C (tgt := 1531) (by omega) dL_law_1516 (by decide) (fun _ => ?_) (fun z => ?_)
  · refine wz_goto C dL_law_1531 (tgt := 2366) (by decide) ?_
    exact Wz.drop (k _ _ h3) (And.intro rfl (And.intro rfl (And.intro rfl (And.intro rfl (And.intro rfl trivial)))))
  · refine wz_aload_n C rfl rfl dL_law_1519 ?_
    refine wz_iconst C dL_law_1520 ?_
    refine wz_laload C 0 rfl rfl (by decide) (by decide) (e2 z) dL_law_1521 ?_
    refine wz_iload C rfl dL_law_1522 ?_
    refine wd_i2l C dL_law_1524 ?_
    refine wd_lcmp C dL_law_1525 ?_
    refine wz_if_eq C (tgt := 1531) (toInt_rg _) dL_law_1526 (by decide) (fun _ => ?_) (fun z2 => absurd (cmpL_self _) z2)
    refine wz_goto C dL_law_1531 (tgt := 2366) (by decide) ?_
    exact Wz.drop (k _ _ h3) (And.intro rfl (And.intro rfl (And.intro rfl (And.intro rfl (And.intro rfl trivial)))))
set_option maxHeartbeats 4000000 in
set_option maxRecDepth 100000 in
theorem law_debtsIf (hG : Kok G) (hW : KSx G) (hZ : KZx G) (hC : KCx G) (hX : KR X = room_1) (C : Fr G X cL_law 9 RL (some .boolean) wsL_law) (hT : ∀ U : State, G.1.2 U → va_T .int b0 L (fun j => .int (iZ (xs j))) (KFr G) U U.heap) (hxs : ∀ j, rg (xs j)) (h : Inv n I J) (hn : n ≤ 600) (hi : i + 6 ≤ L) (hL : L ≤ 3072)
    (k : ∀ (I2 : Ii) (J2 : Jj), Inv (n + 1) I2 J2 → Wz G X 9 Qs a b 2366 [some (.ref b0), some (.ref (kadr G 100)), some (.ref (kadr G 0)), some (.ref (kadr G 50)), some (.int (iZ i)), none, none, none, none] [] I2 J2) : Wz G X 9 Qs (1 + a) (6 + b) 1534 [some (.ref b0), some (.ref (kadr G 100)), some (.ref (kadr G 0)), some (.ref (kadr G 50)), some (.int (iZ i)), none, none, none, none] [] I J := by
  refine wz_aload_n C rfl rfl dL_law_1534 ?_
  refine wz_aload_n C rfl rfl dL_law_1535 ?_
  refine wz_iload C rfl dL_law_1536 ?_
  refine wz_iconst C dL_law_1538 ?_
  refine wz_iadd C dL_law_1539 ?_
  refine ws_iald C (i + 1) hT (by omega) (by omega) (by omega) dL_law_1540 ?_
  refine wz_aload_n C rfl rfl dL_law_1541 ?_
  refine wz_iload C rfl dL_law_1542 ?_
  refine wz_iconst C dL_law_1544 ?_
  refine wz_iadd C dL_law_1545 ?_
  refine ws_iald C (i + 2) hT (by omega) (by omega) (by omega) dL_law_1546 ?_
  refine wz_aload_n C rfl rfl dL_law_1547 ?_
  refine wl_callSW C (As := [.ref (kadr G 100), .int (iZ (xs (i + 1))), .int (iZ (xs (i + 2))), .ref (kadr G 50)]) (st := []) (a' := a) (b' := b) (kL_debtsIf G hG hZ hC (xs (i + 1)) (xs (i + 2)) I J _ _ (st_debtsIf h (hxs (i + 1)) (hxs (i + 2))) (fun k I J hk => hk.1)) 4 gL_law_L_debtsIf rfl (by decide +kernel) (by rw [hX]; exact ⟨Nat.le_of_ble_eq_true rfl, Nat.le_of_ble_eq_true rfl⟩) rfl (Nat.le_of_ble_eq_true rfl) rfl rfl rfl dL_law_1548 (kk_sI (fun v I1 J1 h1 => ?_))
  obtain ⟨hv, h1⟩ := LQ_of (M := wp_X12_debtsIf (xs (i + 1)) (xs (i + 2))) cdV_b (fun I J P P' hp hq => fr_X12_debtsIf hp (fun r I2 J2 hr _ => hq r I2 J2 hr)) h1
  refine wz_istore_5 C rfl dL_law_1551 ?_
  refine wz_aload_n C rfl rfl dL_law_1553 ?_
  refine wz_aload_n C rfl rfl dL_law_1554 ?_
  refine wz_iload C rfl dL_law_1555 ?_
  refine wz_iconst C dL_law_1557 ?_
  refine wz_iadd C dL_law_1558 ?_
  refine ws_iald C (i + 1) hT (by omega) (by omega) (by omega) dL_law_1559 ?_
  refine wz_aload_n C rfl rfl dL_law_1560 ?_
  refine wz_iload C rfl dL_law_1561 ?_
  refine wz_iconst C dL_law_1563 ?_
  refine wz_iadd C dL_law_1564 ?_
  refine ws_iald C (i + 2) hT (by omega) (by omega) (by omega) dL_law_1565 ?_
  refine wm_callV C (o := 0) (As := [.int (iZ (xs (i + 1))), .int (iZ (xs (i + 2)))]) (st := []) (a' := a) (b' := b) rfl rfl (k_X12_debtsIf G hG (xs (i + 1)) (xs (i + 2)) I1 J1 _ h1) 2 gL_law_X12_debtsIf rfl (by decide +kernel) (by rw [hX]; exact ⟨Nat.le_of_ble_eq_true rfl, Nat.le_of_ble_eq_true rfl⟩) rfl (Nat.le_of_ble_eq_true rfl) (Nat.zero_add _) (Nat.zero_add _) rfl dL_law_1566 (kk_sI (fun r I2 J2 h2 => ?_))
  obtain ⟨e1, e2, h3⟩ := h2
  refine wz_istore_6 C rfl dL_law_1569 ?_
  refine wz_aload_n C rfl rfl dL_law_1571 ?_
  refine wm_callV C (o := 0) (As := []) (st := []) (a' := a) (b' := b) rfl rfl (k_X12_thrown G hG I2 J2 (fun t I3 J3 => t = v ∧ I3 = I2 ∧ J3 = J2) ⟨e1, rfl, rfl⟩) 0 gL_law_X12_thrown rfl (by decide +kernel) (by rw [hX]; exact ⟨Nat.le_of_ble_eq_true rfl, Nat.le_of_ble_eq_true rfl⟩) rfl (Nat.le_of_ble_eq_true rfl) (Nat.zero_add _) (Nat.zero_add _) rfl dL_law_1572 (kk_sI (fun t I3 J3 h4 => ?_))
  obtain ⟨rfl, rfl, rfl⟩ := h4
  refine wz_iload C rfl dL_law_1575 ?_
  refine wm_icmp_eq C (tgt := 1582) dL_law_1577 (by decide) (fun _ => ?_) (fun z => absurd rfl z)
  refine wz_iload C rfl dL_law_1582 ?_
  refine wz_if_ne C (tgt := 1599) (by omega) dL_law_1584 (by decide) (fun _ => ?_) (fun z => ?_)
  · refine wz_goto C dL_law_1599 (tgt := 2366) (by decide) ?_
    exact Wz.drop (k _ _ h3) (And.intro rfl (And.intro rfl (And.intro rfl (And.intro rfl (And.intro rfl trivial)))))
  · refine wz_aload_n C rfl rfl dL_law_1587 ?_
    refine wz_iconst C dL_law_1588 ?_
    refine wz_laload C 0 rfl rfl (by decide) (by decide) (e2 z) dL_law_1589 ?_
    refine wz_iload C rfl dL_law_1590 ?_
    refine wd_i2l C dL_law_1592 ?_
    refine wd_lcmp C dL_law_1593 ?_
    refine wz_if_eq C (tgt := 1599) (toInt_rg _) dL_law_1594 (by decide) (fun _ => ?_) (fun z2 => absurd (cmpL_self _) z2)
    refine wz_goto C dL_law_1599 (tgt := 2366) (by decide) ?_
    exact Wz.drop (k _ _ h3) (And.intro rfl (And.intro rfl (And.intro rfl (And.intro rfl (And.intro rfl trivial)))))
set_option maxHeartbeats 4000000 in
set_option maxRecDepth 100000 in
theorem law_nextStep (hG : Kok G) (hW : KSx G) (hZ : KZx G) (hC : KCx G) (hX : KR X = room_1) (C : Fr G X cL_law 9 RL (some .boolean) wsL_law) (hT : ∀ U : State, G.1.2 U → va_T .int b0 L (fun j => .int (iZ (xs j))) (KFr G) U U.heap) (hxs : ∀ j, rg (xs j)) (h : Inv n I J) (hn : n ≤ 600) (hi : i + 6 ≤ L) (hL : L ≤ 3072)
    (k : ∀ (I2 : Ii) (J2 : Jj), Inv (n + 1) I2 J2 → Wz G X 9 Qs a b 2366 [some (.ref b0), some (.ref (kadr G 100)), some (.ref (kadr G 0)), some (.ref (kadr G 50)), some (.int (iZ i)), none, none, none, none] [] I2 J2) : Wz G X 9 Qs (0 + a) (0 + b) 1602 [some (.ref b0), some (.ref (kadr G 100)), some (.ref (kadr G 0)), some (.ref (kadr G 50)), some (.int (iZ i)), none, none, none, none] [] I J := by
  refine wz_aload_n C rfl rfl dL_law_1602 ?_
  refine wm_callV C (o := 100) (As := []) (st := []) (a' := a) (b' := b) rfl rfl (k_X11_nextStep G hG I J _ (st_nextStep h)) 0 gL_law_X11_nextStep rfl (by decide +kernel) (by rw [hX]; exact ⟨Nat.le_of_ble_eq_true rfl, Nat.le_of_ble_eq_true rfl⟩) rfl (Nat.le_of_ble_eq_true rfl) rfl rfl rfl dL_law_1603 (kk_sI (fun r I1 J1 h1 => ?_))
  refine wz_aload_n C rfl rfl dL_law_1606 ?_
  refine wm_callV C (o := 0) (As := []) (st := [.int (iZ r)]) (a' := a) (b' := b) rfl rfl (k_X12_nextStep G hG I1 J1 _ h1) 0 gL_law_X12_nextStep rfl (by decide +kernel) (by rw [hX]; exact ⟨Nat.le_of_ble_eq_true rfl, Nat.le_of_ble_eq_true rfl⟩) rfl (Nat.le_of_ble_eq_true rfl) (Nat.zero_add _) (Nat.zero_add _) rfl dL_law_1607 (kk_sI (fun t I2 J2 h2 => ?_))
  obtain ⟨rfl, h3⟩ := h2
  exact wm_icmp_eq C (tgt := 2366) dL_law_1610 (by decide) (fun _ => k _ _ h3) (fun z => absurd rfl z)
set_option maxHeartbeats 4000000 in
set_option maxRecDepth 100000 in
theorem law_bestDebts (hG : Kok G) (hW : KSx G) (hZ : KZx G) (hC : KCx G) (hX : KR X = room_1) (C : Fr G X cL_law 9 RL (some .boolean) wsL_law) (hT : ∀ U : State, G.1.2 U → va_T .int b0 L (fun j => .int (iZ (xs j))) (KFr G) U U.heap) (hxs : ∀ j, rg (xs j)) (h : Inv n I J) (hn : n ≤ 600) (hi : i + 6 ≤ L) (hL : L ≤ 3072)
    (k : ∀ (I2 : Ii) (J2 : Jj), Inv (n + 1) I2 J2 → Wz G X 9 Qs a b 2366 [some (.ref b0), some (.ref (kadr G 100)), some (.ref (kadr G 0)), some (.ref (kadr G 50)), some (.int (iZ i)), none, none, none, none] [] I2 J2) : Wz G X 9 Qs (0 + a) (0 + b) 1615 [some (.ref b0), some (.ref (kadr G 100)), some (.ref (kadr G 0)), some (.ref (kadr G 50)), some (.int (iZ i)), none, none, none, none] [] I J := by
  refine wz_aload_n C rfl rfl dL_law_1615 ?_
  refine wm_callV C (o := 100) (As := []) (st := []) (a' := a) (b' := b) rfl rfl (k_X11_bestDebts G hG I J _ (st_bestDebts h)) 0 gL_law_X11_bestDebts rfl (by decide +kernel) (by rw [hX]; exact ⟨Nat.le_of_ble_eq_true rfl, Nat.le_of_ble_eq_true rfl⟩) rfl (Nat.le_of_ble_eq_true rfl) rfl rfl rfl dL_law_1616 (kk_sI (fun r I1 J1 h1 => ?_))
  refine wz_aload_n C rfl rfl dL_law_1619 ?_
  refine wm_callV C (o := 0) (As := []) (st := [.int (iZ r)]) (a' := a) (b' := b) rfl rfl (k_X12_bestDebts G hG I1 J1 _ h1) 0 gL_law_X12_bestDebts rfl (by decide +kernel) (by rw [hX]; exact ⟨Nat.le_of_ble_eq_true rfl, Nat.le_of_ble_eq_true rfl⟩) rfl (Nat.le_of_ble_eq_true rfl) (Nat.zero_add _) (Nat.zero_add _) rfl dL_law_1620 (kk_sI (fun t I2 J2 h2 => ?_))
  obtain ⟨rfl, h3⟩ := h2
  exact wm_icmp_eq C (tgt := 2366) dL_law_1623 (by decide) (fun _ => k _ _ h3) (fun z => absurd rfl z)
set_option maxHeartbeats 4000000 in
set_option maxRecDepth 100000 in
theorem law_bestCut (hG : Kok G) (hW : KSx G) (hZ : KZx G) (hC : KCx G) (hX : KR X = room_1) (C : Fr G X cL_law 9 RL (some .boolean) wsL_law) (hT : ∀ U : State, G.1.2 U → va_T .int b0 L (fun j => .int (iZ (xs j))) (KFr G) U U.heap) (hxs : ∀ j, rg (xs j)) (h : Inv n I J) (hn : n ≤ 600) (hi : i + 6 ≤ L) (hL : L ≤ 3072)
    (k : ∀ (I2 : Ii) (J2 : Jj), Inv (n + 1) I2 J2 → Wz G X 9 Qs a b 2366 [some (.ref b0), some (.ref (kadr G 100)), some (.ref (kadr G 0)), some (.ref (kadr G 50)), some (.int (iZ i)), none, none, none, none] [] I2 J2) : Wz G X 9 Qs (0 + a) (0 + b) 1628 [some (.ref b0), some (.ref (kadr G 100)), some (.ref (kadr G 0)), some (.ref (kadr G 50)), some (.int (iZ i)), none, none, none, none] [] I J := by
  refine wz_aload_n C rfl rfl dL_law_1628 ?_
  refine wm_callV C (o := 100) (As := []) (st := []) (a' := a) (b' := b) rfl rfl (k_X11_bestCut G hG I J _ (st_bestCut h)) 0 gL_law_X11_bestCut rfl (by decide +kernel) (by rw [hX]; exact ⟨Nat.le_of_ble_eq_true rfl, Nat.le_of_ble_eq_true rfl⟩) rfl (Nat.le_of_ble_eq_true rfl) rfl rfl rfl dL_law_1629 (kk_sI (fun r I1 J1 h1 => ?_))
  refine wz_aload_n C rfl rfl dL_law_1632 ?_
  refine wm_callV C (o := 0) (As := []) (st := [.int (iZ r)]) (a' := a) (b' := b) rfl rfl (k_X12_bestCut G hG I1 J1 _ h1) 0 gL_law_X12_bestCut rfl (by decide +kernel) (by rw [hX]; exact ⟨Nat.le_of_ble_eq_true rfl, Nat.le_of_ble_eq_true rfl⟩) rfl (Nat.le_of_ble_eq_true rfl) (Nat.zero_add _) (Nat.zero_add _) rfl dL_law_1633 (kk_sI (fun t I2 J2 h2 => ?_))
  obtain ⟨rfl, h3⟩ := h2
  exact wm_icmp_eq C (tgt := 2366) dL_law_1636 (by decide) (fun _ => k _ _ h3) (fun z => absurd rfl z)
set_option maxHeartbeats 4000000 in
set_option maxRecDepth 100000 in
theorem law_stepsToEnd (hG : Kok G) (hW : KSx G) (hZ : KZx G) (hC : KCx G) (hX : KR X = room_1) (C : Fr G X cL_law 9 RL (some .boolean) wsL_law) (hT : ∀ U : State, G.1.2 U → va_T .int b0 L (fun j => .int (iZ (xs j))) (KFr G) U U.heap) (hxs : ∀ j, rg (xs j)) (h : Inv n I J) (hn : n ≤ 600) (hi : i + 6 ≤ L) (hL : L ≤ 3072)
    (k : ∀ (I2 : Ii) (J2 : Jj), Inv (n + 1) I2 J2 → Wz G X 9 Qs a b 2366 [some (.ref b0), some (.ref (kadr G 100)), some (.ref (kadr G 0)), some (.ref (kadr G 50)), some (.int (iZ i)), none, none, none, none] [] I2 J2) : Wz G X 9 Qs (1 + a) (6 + b) 1641 [some (.ref b0), some (.ref (kadr G 100)), some (.ref (kadr G 0)), some (.ref (kadr G 50)), some (.int (iZ i)), none, none, none, none] [] I J := by
  refine wz_aload_n C rfl rfl dL_law_1641 ?_
  refine wz_aload_n C rfl rfl dL_law_1642 ?_
  refine wz_iload C rfl dL_law_1643 ?_
  refine wz_iconst C dL_law_1645 ?_
  refine wz_iadd C dL_law_1646 ?_
  refine ws_iald C (i + 1) hT (by omega) (by omega) (by omega) dL_law_1647 ?_
  refine wz_aload_n C rfl rfl dL_law_1648 ?_
  refine wl_callSW C (As := [.ref (kadr G 100), .int (iZ (xs (i + 1))), .ref (kadr G 50)]) (st := []) (a' := a) (b' := b) (kL_stepsToEnd G hG hZ hC (xs (i + 1)) I J _ _ (st_stepsToEnd h hn (hxs (i + 1))) (fun k I J hk => hk.1)) 3 gL_law_L_stepsToEnd rfl (by decide +kernel) (by rw [hX]; exact ⟨Nat.le_of_ble_eq_true rfl, Nat.le_of_ble_eq_true rfl⟩) rfl (Nat.le_of_ble_eq_true rfl) rfl rfl rfl dL_law_1649 (kk_sI (fun v I1 J1 h1 => ?_))
  obtain ⟨hv, h1⟩ := LQ_of (M := wp_X12_stepsToEnd (xs (i + 1))) cdI_b (fun I J P P' hp hq => fr_X12_stepsToEnd hp (fun r I2 J2 hr _ => hq r I2 J2 hr)) h1
  refine wz_istore_5 C rfl dL_law_1652 ?_
  refine wz_aload_n C rfl rfl dL_law_1654 ?_
  refine wz_aload_n C rfl rfl dL_law_1655 ?_
  refine wz_iload C rfl dL_law_1656 ?_
  refine wz_iconst C dL_law_1658 ?_
  refine wz_iadd C dL_law_1659 ?_
  refine ws_iald C (i + 1) hT (by omega) (by omega) (by omega) dL_law_1660 ?_
  refine wm_callV C (o := 0) (As := [.int (iZ (xs (i + 1)))]) (st := []) (a' := a) (b' := b) rfl rfl (k_X12_stepsToEnd G hG (xs (i + 1)) I1 J1 _ h1) 1 gL_law_X12_stepsToEnd rfl (by decide +kernel) (by rw [hX]; exact ⟨Nat.le_of_ble_eq_true rfl, Nat.le_of_ble_eq_true rfl⟩) rfl (Nat.le_of_ble_eq_true rfl) (Nat.zero_add _) (Nat.zero_add _) rfl dL_law_1661 (kk_sI (fun r I2 J2 h2 => ?_))
  obtain ⟨e1, e2, h3⟩ := h2
  refine wz_istore_6 C rfl dL_law_1664 ?_
  refine wz_aload_n C rfl rfl dL_law_1666 ?_
  refine wm_callV C (o := 0) (As := []) (st := []) (a' := a) (b' := b) rfl rfl (k_X12_thrown G hG I2 J2 (fun t I3 J3 => t = v ∧ I3 = I2 ∧ J3 = J2) ⟨e1, rfl, rfl⟩) 0 gL_law_X12_thrown rfl (by decide +kernel) (by rw [hX]; exact ⟨Nat.le_of_ble_eq_true rfl, Nat.le_of_ble_eq_true rfl⟩) rfl (Nat.le_of_ble_eq_true rfl) (Nat.zero_add _) (Nat.zero_add _) rfl dL_law_1667 (kk_sI (fun t I3 J3 h4 => ?_))
  obtain ⟨rfl, rfl, rfl⟩ := h4
  refine wz_iload C rfl dL_law_1670 ?_
  refine wm_icmp_eq C (tgt := 1677) dL_law_1672 (by decide) (fun _ => ?_) (fun z => absurd rfl z)
  refine wz_iload C rfl dL_law_1677 ?_
  refine wz_if_ne C (tgt := 1694) (by omega) dL_law_1679 (by decide) (fun _ => ?_) (fun z => ?_)
  · refine wz_goto C dL_law_1694 (tgt := 2366) (by decide) ?_
    exact Wz.drop (k _ _ h3) (And.intro rfl (And.intro rfl (And.intro rfl (And.intro rfl (And.intro rfl trivial)))))
  · refine wz_aload_n C rfl rfl dL_law_1682 ?_
    refine wz_iconst C dL_law_1683 ?_
    refine wz_laload C 0 rfl rfl (by decide) (by decide) (e2 z) dL_law_1684 ?_
    refine wz_iload C rfl dL_law_1685 ?_
    refine wd_i2l C dL_law_1687 ?_
    refine wd_lcmp C dL_law_1688 ?_
    refine wz_if_eq C (tgt := 1694) (toInt_rg _) dL_law_1689 (by decide) (fun _ => ?_) (fun z2 => absurd (cmpL_self _) z2)
    refine wz_goto C dL_law_1694 (tgt := 2366) (by decide) ?_
    exact Wz.drop (k _ _ h3) (And.intro rfl (And.intro rfl (And.intro rfl (And.intro rfl (And.intro rfl trivial)))))
set_option maxHeartbeats 4000000 in
set_option maxRecDepth 100000 in
theorem law_cutBehind (hG : Kok G) (hW : KSx G) (hZ : KZx G) (hC : KCx G) (hX : KR X = room_1) (C : Fr G X cL_law 9 RL (some .boolean) wsL_law) (hT : ∀ U : State, G.1.2 U → va_T .int b0 L (fun j => .int (iZ (xs j))) (KFr G) U U.heap) (hxs : ∀ j, rg (xs j)) (h : Inv n I J) (hn : n ≤ 600) (hi : i + 6 ≤ L) (hL : L ≤ 3072)
    (k : ∀ (I2 : Ii) (J2 : Jj), Inv (n + 1) I2 J2 → Wz G X 9 Qs a b 2366 [some (.ref b0), some (.ref (kadr G 100)), some (.ref (kadr G 0)), some (.ref (kadr G 50)), some (.int (iZ i)), none, none, none, none] [] I2 J2) : Wz G X 9 Qs (1 + a) (6 + b) 1697 [some (.ref b0), some (.ref (kadr G 100)), some (.ref (kadr G 0)), some (.ref (kadr G 50)), some (.int (iZ i)), none, none, none, none] [] I J := by
  refine wz_aload_n C rfl rfl dL_law_1697 ?_
  refine wz_aload_n C rfl rfl dL_law_1698 ?_
  refine wz_iload C rfl dL_law_1699 ?_
  refine wz_iconst C dL_law_1701 ?_
  refine wz_iadd C dL_law_1702 ?_
  refine ws_iald C (i + 1) hT (by omega) (by omega) (by omega) dL_law_1703 ?_
  refine wz_aload_n C rfl rfl dL_law_1704 ?_
  refine wl_callSW C (As := [.ref (kadr G 100), .int (iZ (xs (i + 1))), .ref (kadr G 50)]) (st := []) (a' := a) (b' := b) (kL_cutBehind G hG hZ hC (xs (i + 1)) I J _ _ (st_cutBehind h hn (hxs (i + 1))) (fun k I J hk => hk.1)) 3 gL_law_L_cutBehind rfl (by decide +kernel) (by rw [hX]; exact ⟨Nat.le_of_ble_eq_true rfl, Nat.le_of_ble_eq_true rfl⟩) rfl (Nat.le_of_ble_eq_true rfl) rfl rfl rfl dL_law_1705 (kk_sI (fun v I1 J1 h1 => ?_))
  obtain ⟨hv, h1⟩ := LQ_of (M := wp_X12_cutBehind (xs (i + 1))) cdI_b (fun I J P P' hp hq => fr_X12_cutBehind hp (fun r I2 J2 hr _ => hq r I2 J2 hr)) h1
  refine wz_istore_5 C rfl dL_law_1708 ?_
  refine wz_aload_n C rfl rfl dL_law_1710 ?_
  refine wz_aload_n C rfl rfl dL_law_1711 ?_
  refine wz_iload C rfl dL_law_1712 ?_
  refine wz_iconst C dL_law_1714 ?_
  refine wz_iadd C dL_law_1715 ?_
  refine ws_iald C (i + 1) hT (by omega) (by omega) (by omega) dL_law_1716 ?_
  refine wm_callV C (o := 0) (As := [.int (iZ (xs (i + 1)))]) (st := []) (a' := a) (b' := b) rfl rfl (k_X12_cutBehind G hG (xs (i + 1)) I1 J1 _ h1) 1 gL_law_X12_cutBehind rfl (by decide +kernel) (by rw [hX]; exact ⟨Nat.le_of_ble_eq_true rfl, Nat.le_of_ble_eq_true rfl⟩) rfl (Nat.le_of_ble_eq_true rfl) (Nat.zero_add _) (Nat.zero_add _) rfl dL_law_1717 (kk_sI (fun r I2 J2 h2 => ?_))
  obtain ⟨e1, e2, h3⟩ := h2
  refine wz_istore_6 C rfl dL_law_1720 ?_
  refine wz_aload_n C rfl rfl dL_law_1722 ?_
  refine wm_callV C (o := 0) (As := []) (st := []) (a' := a) (b' := b) rfl rfl (k_X12_thrown G hG I2 J2 (fun t I3 J3 => t = v ∧ I3 = I2 ∧ J3 = J2) ⟨e1, rfl, rfl⟩) 0 gL_law_X12_thrown rfl (by decide +kernel) (by rw [hX]; exact ⟨Nat.le_of_ble_eq_true rfl, Nat.le_of_ble_eq_true rfl⟩) rfl (Nat.le_of_ble_eq_true rfl) (Nat.zero_add _) (Nat.zero_add _) rfl dL_law_1723 (kk_sI (fun t I3 J3 h4 => ?_))
  obtain ⟨rfl, rfl, rfl⟩ := h4
  refine wz_iload C rfl dL_law_1726 ?_
  refine wm_icmp_eq C (tgt := 1733) dL_law_1728 (by decide) (fun _ => ?_) (fun z => absurd rfl z)
  refine wz_iload C rfl dL_law_1733 ?_
  refine wz_if_ne C (tgt := 1750) (by omega) dL_law_1735 (by decide) (fun _ => ?_) (fun z => ?_)
  · refine wz_goto C dL_law_1750 (tgt := 2366) (by decide) ?_
    exact Wz.drop (k _ _ h3) (And.intro rfl (And.intro rfl (And.intro rfl (And.intro rfl (And.intro rfl trivial)))))
  · refine wz_aload_n C rfl rfl dL_law_1738 ?_
    refine wz_iconst C dL_law_1739 ?_
    refine wz_laload C 0 rfl rfl (by decide) (by decide) (e2 z) dL_law_1740 ?_
    refine wz_iload C rfl dL_law_1741 ?_
    refine wd_i2l C dL_law_1743 ?_
    refine wd_lcmp C dL_law_1744 ?_
    refine wz_if_eq C (tgt := 1750) (toInt_rg _) dL_law_1745 (by decide) (fun _ => ?_) (fun z2 => absurd (cmpL_self _) z2)
    refine wz_goto C dL_law_1750 (tgt := 2366) (by decide) ?_
    exact Wz.drop (k _ _ h3) (And.intro rfl (And.intro rfl (And.intro rfl (And.intro rfl (And.intro rfl trivial)))))
set_option maxHeartbeats 4000000 in
set_option maxRecDepth 100000 in
theorem law_events (hG : Kok G) (hW : KSx G) (hZ : KZx G) (hC : KCx G) (hX : KR X = room_1) (C : Fr G X cL_law 9 RL (some .boolean) wsL_law) (hT : ∀ U : State, G.1.2 U → va_T .int b0 L (fun j => .int (iZ (xs j))) (KFr G) U U.heap) (hxs : ∀ j, rg (xs j)) (h : Inv n I J) (hn : n ≤ 600) (hi : i + 6 ≤ L) (hL : L ≤ 3072)
    (k : ∀ (I2 : Ii) (J2 : Jj), Inv (n + 1) I2 J2 → Wz G X 9 Qs a b 2366 [some (.ref b0), some (.ref (kadr G 100)), some (.ref (kadr G 0)), some (.ref (kadr G 50)), some (.int (iZ i)), none, none, none, none] [] I2 J2) : Wz G X 9 Qs (0 + a) (0 + b) 1753 [some (.ref b0), some (.ref (kadr G 100)), some (.ref (kadr G 0)), some (.ref (kadr G 50)), some (.int (iZ i)), none, none, none, none] [] I J := by
  refine wz_aload_n C rfl rfl dL_law_1753 ?_
  refine wm_callV C (o := 100) (As := []) (st := []) (a' := a) (b' := b) rfl rfl (k_X11_events G hG I J _ (st_events h)) 0 gL_law_X11_events rfl (by decide +kernel) (by rw [hX]; exact ⟨Nat.le_of_ble_eq_true rfl, Nat.le_of_ble_eq_true rfl⟩) rfl (Nat.le_of_ble_eq_true rfl) rfl rfl rfl dL_law_1754 (kk_sI (fun r I1 J1 h1 => ?_))
  refine wz_aload_n C rfl rfl dL_law_1757 ?_
  refine wm_callV C (o := 0) (As := []) (st := [.int (iZ r)]) (a' := a) (b' := b) rfl rfl (k_X12_events G hG I1 J1 _ h1) 0 gL_law_X12_events rfl (by decide +kernel) (by rw [hX]; exact ⟨Nat.le_of_ble_eq_true rfl, Nat.le_of_ble_eq_true rfl⟩) rfl (Nat.le_of_ble_eq_true rfl) (Nat.zero_add _) (Nat.zero_add _) rfl dL_law_1758 (kk_sI (fun t I2 J2 h2 => ?_))
  obtain ⟨rfl, h3⟩ := h2
  exact wm_icmp_eq C (tgt := 2366) dL_law_1761 (by decide) (fun _ => k _ _ h3) (fun z => absurd rfl z)
set_option maxHeartbeats 4000000 in
set_option maxRecDepth 100000 in
theorem law_event (hG : Kok G) (hW : KSx G) (hZ : KZx G) (hC : KCx G) (hX : KR X = room_1) (C : Fr G X cL_law 9 RL (some .boolean) wsL_law) (hT : ∀ U : State, G.1.2 U → va_T .int b0 L (fun j => .int (iZ (xs j))) (KFr G) U U.heap) (hxs : ∀ j, rg (xs j)) (h : Inv n I J) (hn : n ≤ 600) (hi : i + 6 ≤ L) (hL : L ≤ 3072)
    (k : ∀ (I2 : Ii) (J2 : Jj), Inv (n + 1) I2 J2 → Wz G X 9 Qs a b 2366 [some (.ref b0), some (.ref (kadr G 100)), some (.ref (kadr G 0)), some (.ref (kadr G 50)), some (.int (iZ i)), none, none, none, none] [] I2 J2) : Wz G X 9 Qs (1 + a) (6 + b) 1766 [some (.ref b0), some (.ref (kadr G 100)), some (.ref (kadr G 0)), some (.ref (kadr G 50)), some (.int (iZ i)), none, none, none, none] [] I J := by
  refine wz_aload_n C rfl rfl dL_law_1766 ?_
  refine wz_aload_n C rfl rfl dL_law_1767 ?_
  refine wz_iload C rfl dL_law_1768 ?_
  refine wz_iconst C dL_law_1770 ?_
  refine wz_iadd C dL_law_1771 ?_
  refine ws_iald C (i + 1) hT (by omega) (by omega) (by omega) dL_law_1772 ?_
  refine wz_aload_n C rfl rfl dL_law_1773 ?_
  refine wz_iload C rfl dL_law_1774 ?_
  refine wz_iconst C dL_law_1776 ?_
  refine wz_iadd C dL_law_1777 ?_
  refine ws_iald C (i + 2) hT (by omega) (by omega) (by omega) dL_law_1778 ?_
  refine wz_aload_n C rfl rfl dL_law_1779 ?_
  refine wl_callSW C (As := [.ref (kadr G 100), .int (iZ (xs (i + 1))), .int (iZ (xs (i + 2))), .ref (kadr G 50)]) (st := []) (a' := a) (b' := b) (kL_event G hG hZ hC (xs (i + 1)) (xs (i + 2)) I J _ _ (st_event h (hxs (i + 1)) (hxs (i + 2))) (fun k I J hk => hk.1)) 4 gL_law_L_event rfl (by decide +kernel) (by rw [hX]; exact ⟨Nat.le_of_ble_eq_true rfl, Nat.le_of_ble_eq_true rfl⟩) rfl (Nat.le_of_ble_eq_true rfl) rfl rfl rfl dL_law_1780 (kk_sI (fun v I1 J1 h1 => ?_))
  obtain ⟨hv, h1⟩ := LQ_of (M := wp_X12_event (xs (i + 1)) (xs (i + 2))) cdB_b (fun I J P P' hp hq => fr_X12_event hp (fun r I2 J2 hr _ => hq r I2 J2 hr)) h1
  refine wz_istore_5 C rfl dL_law_1783 ?_
  refine wz_aload_n C rfl rfl dL_law_1785 ?_
  refine wz_aload_n C rfl rfl dL_law_1786 ?_
  refine wz_iload C rfl dL_law_1787 ?_
  refine wz_iconst C dL_law_1789 ?_
  refine wz_iadd C dL_law_1790 ?_
  refine ws_iald C (i + 1) hT (by omega) (by omega) (by omega) dL_law_1791 ?_
  refine wz_aload_n C rfl rfl dL_law_1792 ?_
  refine wz_iload C rfl dL_law_1793 ?_
  refine wz_iconst C dL_law_1795 ?_
  refine wz_iadd C dL_law_1796 ?_
  refine ws_iald C (i + 2) hT (by omega) (by omega) (by omega) dL_law_1797 ?_
  refine wm_callV C (o := 0) (As := [.int (iZ (xs (i + 1))), .int (iZ (xs (i + 2)))]) (st := []) (a' := a) (b' := b) rfl rfl (k_X12_event G hG (xs (i + 1)) (xs (i + 2)) I1 J1 _ h1) 2 gL_law_X12_event rfl (by decide +kernel) (by rw [hX]; exact ⟨Nat.le_of_ble_eq_true rfl, Nat.le_of_ble_eq_true rfl⟩) rfl (Nat.le_of_ble_eq_true rfl) (Nat.zero_add _) (Nat.zero_add _) rfl dL_law_1798 (kk_sI (fun r I2 J2 h2 => ?_))
  obtain ⟨e1, e2, h3⟩ := h2
  refine wz_istore_6 C rfl dL_law_1801 ?_
  refine wz_aload_n C rfl rfl dL_law_1803 ?_
  refine wm_callV C (o := 0) (As := []) (st := []) (a' := a) (b' := b) rfl rfl (k_X12_thrown G hG I2 J2 (fun t I3 J3 => t = v ∧ I3 = I2 ∧ J3 = J2) ⟨e1, rfl, rfl⟩) 0 gL_law_X12_thrown rfl (by decide +kernel) (by rw [hX]; exact ⟨Nat.le_of_ble_eq_true rfl, Nat.le_of_ble_eq_true rfl⟩) rfl (Nat.le_of_ble_eq_true rfl) (Nat.zero_add _) (Nat.zero_add _) rfl dL_law_1804 (kk_sI (fun t I3 J3 h4 => ?_))
  obtain ⟨rfl, rfl, rfl⟩ := h4
  refine wz_iload C rfl dL_law_1807 ?_
  refine wm_icmp_eq C (tgt := 1814) dL_law_1809 (by decide) (fun _ => ?_) (fun z => absurd rfl z)
  refine wz_iload C rfl dL_law_1814 ?_
  refine wz_if_ne C (tgt := 1831) (by omega) dL_law_1816 (by decide) (fun _ => ?_) (fun z => ?_)
  · refine wz_goto C dL_law_1831 (tgt := 2366) (by decide) ?_
    exact Wz.drop (k _ _ h3) (And.intro rfl (And.intro rfl (And.intro rfl (And.intro rfl (And.intro rfl trivial)))))
  · refine wz_aload_n C rfl rfl dL_law_1819 ?_
    refine wz_iconst C dL_law_1820 ?_
    refine wz_laload C 0 rfl rfl (by decide) (by decide) (e2 z) dL_law_1821 ?_
    refine wz_iload C rfl dL_law_1822 ?_
    refine wd_i2l C dL_law_1824 ?_
    refine wd_lcmp C dL_law_1825 ?_
    refine wz_if_eq C (tgt := 1831) (toInt_rg _) dL_law_1826 (by decide) (fun _ => ?_) (fun z2 => absurd (cmpL_self _) z2)
    refine wz_goto C dL_law_1831 (tgt := 2366) (by decide) ?_
    exact Wz.drop (k _ _ h3) (And.intro rfl (And.intro rfl (And.intro rfl (And.intro rfl (And.intro rfl trivial)))))
set_option maxHeartbeats 4000000 in
set_option maxRecDepth 100000 in
theorem law_shrink (hG : Kok G) (hW : KSx G) (hZ : KZx G) (hC : KCx G) (hX : KR X = room_1) (C : Fr G X cL_law 9 RL (some .boolean) wsL_law) (hT : ∀ U : State, G.1.2 U → va_T .int b0 L (fun j => .int (iZ (xs j))) (KFr G) U U.heap) (hxs : ∀ j, rg (xs j)) (h : Inv n I J) (hn : n ≤ 600) (hi : i + 6 ≤ L) (hL : L ≤ 3072)
    (k : ∀ (I2 : Ii) (J2 : Jj), Inv (n + 1) I2 J2 → Wz G X 9 Qs a b 2366 [some (.ref b0), some (.ref (kadr G 100)), some (.ref (kadr G 0)), some (.ref (kadr G 50)), some (.int (iZ i)), none, none, none, none] [] I2 J2) : Wz G X 9 Qs (1 + a) (6 + b) 1834 [some (.ref b0), some (.ref (kadr G 100)), some (.ref (kadr G 0)), some (.ref (kadr G 50)), some (.int (iZ i)), none, none, none, none] [] I J := by
  refine wz_aload_n C rfl rfl dL_law_1834 ?_
  refine wz_aload_n C rfl rfl dL_law_1835 ?_
  refine wl_callSW C (As := [.ref (kadr G 100), .ref (kadr G 50)]) (st := []) (a' := a) (b' := b) (kL_shrink G hG hZ hC I J _ _ (st_shrink h hn) (fun k I J hk => hk.1)) 2 gL_law_L_shrink rfl (by decide +kernel) (by rw [hX]; exact ⟨Nat.le_of_ble_eq_true rfl, Nat.le_of_ble_eq_true rfl⟩) rfl (Nat.le_of_ble_eq_true rfl) rfl rfl rfl dL_law_1836 (kk_sI (fun v I1 J1 h1 => ?_))
  obtain ⟨hv, h1⟩ := LQ_of (M := wp_X12_shrink) cdS_b (fun I J P P' hp hq => fr_X12_shrink hp (fun r I2 J2 hr _ => hq r I2 J2 hr)) h1
  refine wz_istore_5 C rfl dL_law_1839 ?_
  refine wz_aload_n C rfl rfl dL_law_1841 ?_
  refine wm_callV C (o := 0) (As := []) (st := []) (a' := a) (b' := b) rfl rfl (k_X12_shrink G hG I1 J1 _ h1) 0 gL_law_X12_shrink rfl (by decide +kernel) (by rw [hX]; exact ⟨Nat.le_of_ble_eq_true rfl, Nat.le_of_ble_eq_true rfl⟩) rfl (Nat.le_of_ble_eq_true rfl) (Nat.zero_add _) (Nat.zero_add _) rfl dL_law_1842 (kk_sI (fun r I2 J2 h2 => ?_))
  obtain ⟨e1, e2, h3⟩ := h2
  refine wz_istore_6 C rfl dL_law_1845 ?_
  refine wz_aload_n C rfl rfl dL_law_1847 ?_
  refine wm_callV C (o := 0) (As := []) (st := []) (a' := a) (b' := b) rfl rfl (k_X12_thrown G hG I2 J2 (fun t I3 J3 => t = v ∧ I3 = I2 ∧ J3 = J2) ⟨e1, rfl, rfl⟩) 0 gL_law_X12_thrown rfl (by decide +kernel) (by rw [hX]; exact ⟨Nat.le_of_ble_eq_true rfl, Nat.le_of_ble_eq_true rfl⟩) rfl (Nat.le_of_ble_eq_true rfl) (Nat.zero_add _) (Nat.zero_add _) rfl dL_law_1848 (kk_sI (fun t I3 J3 h4 => ?_))
  obtain ⟨rfl, rfl, rfl⟩ := h4
  refine wz_iload C rfl dL_law_1851 ?_
  refine wm_icmp_eq C (tgt := 1858) dL_law_1853 (by decide) (fun _ => ?_) (fun z => absurd rfl z)
  refine wz_iload C rfl dL_law_1858 ?_
  refine wz_if_ne C (tgt := 1875) (by omega) dL_law_1860 (by decide) (fun _ => ?_) (fun z => ?_)
  · refine wz_goto C dL_law_1875 (tgt := 2366) (by decide) ?_
    exact Wz.drop (k _ _ h3) (And.intro rfl (And.intro rfl (And.intro rfl (And.intro rfl (And.intro rfl trivial)))))
  · refine wz_aload_n C rfl rfl dL_law_1863 ?_
    refine wz_iconst C dL_law_1864 ?_
    refine wz_laload C 0 rfl rfl (by decide) (by decide) (e2 z) dL_law_1865 ?_
    refine wz_iload C rfl dL_law_1866 ?_
    refine wd_i2l C dL_law_1868 ?_
    refine wd_lcmp C dL_law_1869 ?_
    refine wz_if_eq C (tgt := 1875) (toInt_rg _) dL_law_1870 (by decide) (fun _ => ?_) (fun z2 => absurd (cmpL_self _) z2)
    refine wz_goto C dL_law_1875 (tgt := 2366) (by decide) ?_
    exact Wz.drop (k _ _ h3) (And.intro rfl (And.intro rfl (And.intro rfl (And.intro rfl (And.intro rfl trivial)))))
set_option maxHeartbeats 4000000 in
set_option maxRecDepth 100000 in
theorem law_grow (hG : Kok G) (hW : KSx G) (hZ : KZx G) (hC : KCx G) (hX : KR X = room_1) (C : Fr G X cL_law 9 RL (some .boolean) wsL_law) (hT : ∀ U : State, G.1.2 U → va_T .int b0 L (fun j => .int (iZ (xs j))) (KFr G) U U.heap) (hxs : ∀ j, rg (xs j)) (h : Inv n I J) (hn : n ≤ 600) (hi : i + 6 ≤ L) (hL : L ≤ 3072)
    (k : ∀ (I2 : Ii) (J2 : Jj), Inv (n + 1) I2 J2 → Wz G X 9 Qs a b 2366 [some (.ref b0), some (.ref (kadr G 100)), some (.ref (kadr G 0)), some (.ref (kadr G 50)), some (.int (iZ i)), none, none, none, none] [] I2 J2) : Wz G X 9 Qs (1 + a) (6 + b) 1878 [some (.ref b0), some (.ref (kadr G 100)), some (.ref (kadr G 0)), some (.ref (kadr G 50)), some (.int (iZ i)), none, none, none, none] [] I J := by
  refine wz_aload_n C rfl rfl dL_law_1878 ?_
  refine wz_aload_n C rfl rfl dL_law_1879 ?_
  refine wl_callSW C (As := [.ref (kadr G 100), .ref (kadr G 50)]) (st := []) (a' := a) (b' := b) (kL_grow G hG hZ hC I J _ _ (st_grow h hn) (fun k I J hk => hk.1)) 2 gL_law_L_grow rfl (by decide +kernel) (by rw [hX]; exact ⟨Nat.le_of_ble_eq_true rfl, Nat.le_of_ble_eq_true rfl⟩) rfl (Nat.le_of_ble_eq_true rfl) rfl rfl rfl dL_law_1880 (kk_sI (fun v I1 J1 h1 => ?_))
  obtain ⟨hv, h1⟩ := LQ_of (M := wp_X12_grow) cdS_b (fun I J P P' hp hq => fr_X12_grow hp (fun r I2 J2 hr _ => hq r I2 J2 hr)) h1
  refine wz_istore_5 C rfl dL_law_1883 ?_
  refine wz_aload_n C rfl rfl dL_law_1885 ?_
  refine wm_callV C (o := 0) (As := []) (st := []) (a' := a) (b' := b) rfl rfl (k_X12_grow G hG I1 J1 _ h1) 0 gL_law_X12_grow rfl (by decide +kernel) (by rw [hX]; exact ⟨Nat.le_of_ble_eq_true rfl, Nat.le_of_ble_eq_true rfl⟩) rfl (Nat.le_of_ble_eq_true rfl) (Nat.zero_add _) (Nat.zero_add _) rfl dL_law_1886 (kk_sI (fun r I2 J2 h2 => ?_))
  obtain ⟨e1, e2, h3⟩ := h2
  refine wz_istore_6 C rfl dL_law_1889 ?_
  refine wz_aload_n C rfl rfl dL_law_1891 ?_
  refine wm_callV C (o := 0) (As := []) (st := []) (a' := a) (b' := b) rfl rfl (k_X12_thrown G hG I2 J2 (fun t I3 J3 => t = v ∧ I3 = I2 ∧ J3 = J2) ⟨e1, rfl, rfl⟩) 0 gL_law_X12_thrown rfl (by decide +kernel) (by rw [hX]; exact ⟨Nat.le_of_ble_eq_true rfl, Nat.le_of_ble_eq_true rfl⟩) rfl (Nat.le_of_ble_eq_true rfl) (Nat.zero_add _) (Nat.zero_add _) rfl dL_law_1892 (kk_sI (fun t I3 J3 h4 => ?_))
  obtain ⟨rfl, rfl, rfl⟩ := h4
  refine wz_iload C rfl dL_law_1895 ?_
  refine wm_icmp_eq C (tgt := 1902) dL_law_1897 (by decide) (fun _ => ?_) (fun z => absurd rfl z)
  refine wz_iload C rfl dL_law_1902 ?_
  refine wz_if_ne C (tgt := 1919) (by omega) dL_law_1904 (by decide) (fun _ => ?_) (fun z => ?_)
  · refine wz_goto C dL_law_1919 (tgt := 2366) (by decide) ?_
    exact Wz.drop (k _ _ h3) (And.intro rfl (And.intro rfl (And.intro rfl (And.intro rfl (And.intro rfl trivial)))))
  · refine wz_aload_n C rfl rfl dL_law_1907 ?_
    refine wz_iconst C dL_law_1908 ?_
    refine wz_laload C 0 rfl rfl (by decide) (by decide) (e2 z) dL_law_1909 ?_
    refine wz_iload C rfl dL_law_1910 ?_
    refine wd_i2l C dL_law_1912 ?_
    refine wd_lcmp C dL_law_1913 ?_
    refine wz_if_eq C (tgt := 1919) (toInt_rg _) dL_law_1914 (by decide) (fun _ => ?_) (fun z2 => absurd (cmpL_self _) z2)
    refine wz_goto C dL_law_1919 (tgt := 2366) (by decide) ?_
    exact Wz.drop (k _ _ h3) (And.intro rfl (And.intro rfl (And.intro rfl (And.intro rfl (And.intro rfl trivial)))))
set_option maxHeartbeats 4000000 in
set_option maxRecDepth 100000 in
theorem law_move (hG : Kok G) (hW : KSx G) (hZ : KZx G) (hC : KCx G) (hX : KR X = room_1) (C : Fr G X cL_law 9 RL (some .boolean) wsL_law) (hT : ∀ U : State, G.1.2 U → va_T .int b0 L (fun j => .int (iZ (xs j))) (KFr G) U U.heap) (hxs : ∀ j, rg (xs j)) (h : Inv n I J) (hn : n ≤ 600) (hi : i + 6 ≤ L) (hL : L ≤ 3072)
    (k : ∀ (I2 : Ii) (J2 : Jj), Inv (n + 1) I2 J2 → Wz G X 9 Qs a b 2366 [some (.ref b0), some (.ref (kadr G 100)), some (.ref (kadr G 0)), some (.ref (kadr G 50)), some (.int (iZ i)), none, none, none, none] [] I2 J2) : Wz G X 9 Qs (1 + a) (6 + b) 1922 [some (.ref b0), some (.ref (kadr G 100)), some (.ref (kadr G 0)), some (.ref (kadr G 50)), some (.int (iZ i)), none, none, none, none] [] I J := by
  refine wz_aload_n C rfl rfl dL_law_1922 ?_
  refine wz_aload_n C rfl rfl dL_law_1923 ?_
  refine wz_iload C rfl dL_law_1924 ?_
  refine wz_iconst C dL_law_1926 ?_
  refine wz_iadd C dL_law_1927 ?_
  refine ws_iald C (i + 1) hT (by omega) (by omega) (by omega) dL_law_1928 ?_
  refine wz_aload_n C rfl rfl dL_law_1929 ?_
  refine wz_iload C rfl dL_law_1930 ?_
  refine wz_iconst C dL_law_1932 ?_
  refine wz_iadd C dL_law_1933 ?_
  refine ws_iald C (i + 2) hT (by omega) (by omega) (by omega) dL_law_1934 ?_
  refine wz_aload_n C rfl rfl dL_law_1935 ?_
  refine wl_callSW C (As := [.ref (kadr G 100), .int (iZ (xs (i + 1))), .int (iZ (xs (i + 2))), .ref (kadr G 50)]) (st := []) (a' := a) (b' := b) (kL_move G hG hZ hC (xs (i + 1)) (xs (i + 2)) I J _ _ (st_move h hn (hxs (i + 1)) (hxs (i + 2))) (fun k I J hk => hk.1)) 4 gL_law_L_move rfl (by decide +kernel) (by rw [hX]; exact ⟨Nat.le_of_ble_eq_true rfl, Nat.le_of_ble_eq_true rfl⟩) rfl (Nat.le_of_ble_eq_true rfl) rfl rfl rfl dL_law_1936 (kk_sI (fun v I1 J1 h1 => ?_))
  obtain ⟨hv, h1⟩ := LQ_of (M := wp_X12_move (xs (i + 1)) (xs (i + 2))) cdM_b (fun I J P P' hp hq => fr_X12_move hp (fun r I2 J2 hr _ => hq r I2 J2 hr)) h1
  refine wz_istore_5 C rfl dL_law_1939 ?_
  refine wz_aload_n C rfl rfl dL_law_1941 ?_
  refine wz_aload_n C rfl rfl dL_law_1942 ?_
  refine wz_iload C rfl dL_law_1943 ?_
  refine wz_iconst C dL_law_1945 ?_
  refine wz_iadd C dL_law_1946 ?_
  refine ws_iald C (i + 1) hT (by omega) (by omega) (by omega) dL_law_1947 ?_
  refine wz_aload_n C rfl rfl dL_law_1948 ?_
  refine wz_iload C rfl dL_law_1949 ?_
  refine wz_iconst C dL_law_1951 ?_
  refine wz_iadd C dL_law_1952 ?_
  refine ws_iald C (i + 2) hT (by omega) (by omega) (by omega) dL_law_1953 ?_
  refine wm_callV C (o := 0) (As := [.int (iZ (xs (i + 1))), .int (iZ (xs (i + 2)))]) (st := []) (a' := a) (b' := b) rfl rfl (k_X12_move G hG (xs (i + 1)) (xs (i + 2)) I1 J1 _ h1) 2 gL_law_X12_move rfl (by decide +kernel) (by rw [hX]; exact ⟨Nat.le_of_ble_eq_true rfl, Nat.le_of_ble_eq_true rfl⟩) rfl (Nat.le_of_ble_eq_true rfl) (Nat.zero_add _) (Nat.zero_add _) rfl dL_law_1954 (kk_sI (fun r I2 J2 h2 => ?_))
  obtain ⟨e1, e2, h3⟩ := h2
  refine wz_istore_6 C rfl dL_law_1957 ?_
  refine wz_aload_n C rfl rfl dL_law_1959 ?_
  refine wm_callV C (o := 0) (As := []) (st := []) (a' := a) (b' := b) rfl rfl (k_X12_thrown G hG I2 J2 (fun t I3 J3 => t = v ∧ I3 = I2 ∧ J3 = J2) ⟨e1, rfl, rfl⟩) 0 gL_law_X12_thrown rfl (by decide +kernel) (by rw [hX]; exact ⟨Nat.le_of_ble_eq_true rfl, Nat.le_of_ble_eq_true rfl⟩) rfl (Nat.le_of_ble_eq_true rfl) (Nat.zero_add _) (Nat.zero_add _) rfl dL_law_1960 (kk_sI (fun t I3 J3 h4 => ?_))
  obtain ⟨rfl, rfl, rfl⟩ := h4
  refine wz_iload C rfl dL_law_1963 ?_
  refine wm_icmp_eq C (tgt := 1970) dL_law_1965 (by decide) (fun _ => ?_) (fun z => absurd rfl z)
  refine wz_iload C rfl dL_law_1970 ?_
  refine wz_if_ne C (tgt := 1987) (by omega) dL_law_1972 (by decide) (fun _ => ?_) (fun z => ?_)
  · refine wz_goto C dL_law_1987 (tgt := 2366) (by decide) ?_
    exact Wz.drop (k _ _ h3) (And.intro rfl (And.intro rfl (And.intro rfl (And.intro rfl (And.intro rfl trivial)))))
  · refine wz_aload_n C rfl rfl dL_law_1975 ?_
    refine wz_iconst C dL_law_1976 ?_
    refine wz_laload C 0 rfl rfl (by decide) (by decide) (e2 z) dL_law_1977 ?_
    refine wz_iload C rfl dL_law_1978 ?_
    refine wd_i2l C dL_law_1980 ?_
    refine wd_lcmp C dL_law_1981 ?_
    refine wz_if_eq C (tgt := 1987) (toInt_rg _) dL_law_1982 (by decide) (fun _ => ?_) (fun z2 => absurd (cmpL_self _) z2)
    refine wz_goto C dL_law_1987 (tgt := 2366) (by decide) ?_
    exact Wz.drop (k _ _ h3) (And.intro rfl (And.intro rfl (And.intro rfl (And.intro rfl (And.intro rfl trivial)))))
set_option maxHeartbeats 4000000 in
set_option maxRecDepth 100000 in
theorem law_step (hG : Kok G) (hW : KSx G) (hZ : KZx G) (hC : KCx G) (hX : KR X = room_1) (C : Fr G X cL_law 9 RL (some .boolean) wsL_law) (hT : ∀ U : State, G.1.2 U → va_T .int b0 L (fun j => .int (iZ (xs j))) (KFr G) U U.heap) (hxs : ∀ j, rg (xs j)) (h : Inv n I J) (hn : n ≤ 600) (hi : i + 6 ≤ L) (hL : L ≤ 3072)
    (k : ∀ (I2 : Ii) (J2 : Jj), Inv (n + 1) I2 J2 → Wz G X 9 Qs a b 2366 [some (.ref b0), some (.ref (kadr G 100)), some (.ref (kadr G 0)), some (.ref (kadr G 50)), some (.int (iZ i)), none, none, none, none] [] I2 J2) : Wz G X 9 Qs (0 + a) (0 + b) 1990 [some (.ref b0), some (.ref (kadr G 100)), some (.ref (kadr G 0)), some (.ref (kadr G 50)), some (.int (iZ i)), none, none, none, none] [] I J := by
  refine wz_aload_n C rfl rfl dL_law_1990 ?_
  refine wm_callV C (o := 100) (As := []) (st := []) (a' := a) (b' := b) rfl rfl (k_X11_step G hG I J _ (st_step h hn)) 0 gL_law_X11_step rfl (by decide +kernel) (by rw [hX]; exact ⟨Nat.le_of_ble_eq_true rfl, Nat.le_of_ble_eq_true rfl⟩) rfl (Nat.le_of_ble_eq_true rfl) rfl rfl rfl dL_law_1991 (kk_sI (fun r I1 J1 h1 => ?_))
  refine wz_aload_n C rfl rfl dL_law_1994 ?_
  refine wm_callV C (o := 0) (As := []) (st := [.int (iZ r)]) (a' := a) (b' := b) rfl rfl (k_X12_step G hG I1 J1 _ h1) 0 gL_law_X12_step rfl (by decide +kernel) (by rw [hX]; exact ⟨Nat.le_of_ble_eq_true rfl, Nat.le_of_ble_eq_true rfl⟩) rfl (Nat.le_of_ble_eq_true rfl) (Nat.zero_add _) (Nat.zero_add _) rfl dL_law_1995 (kk_sI (fun t I2 J2 h2 => ?_))
  obtain ⟨rfl, h3⟩ := h2
  exact wm_icmp_eq C (tgt := 2366) dL_law_1998 (by decide) (fun _ => k _ _ h3) (fun z => absurd rfl z)
set_option maxHeartbeats 4000000 in
set_option maxRecDepth 100000 in
theorem law_steps (hG : Kok G) (hW : KSx G) (hZ : KZx G) (hC : KCx G) (hX : KR X = room_1) (C : Fr G X cL_law 9 RL (some .boolean) wsL_law) (hT : ∀ U : State, G.1.2 U → va_T .int b0 L (fun j => .int (iZ (xs j))) (KFr G) U U.heap) (hxs : ∀ j, rg (xs j)) (h : Inv n I J) (hn : n ≤ 600) (hi : i + 6 ≤ L) (hL : L ≤ 3072)
    (k : ∀ (I2 : Ii) (J2 : Jj), Inv (n + 1) I2 J2 → Wz G X 9 Qs a b 2366 [some (.ref b0), some (.ref (kadr G 100)), some (.ref (kadr G 0)), some (.ref (kadr G 50)), some (.int (iZ i)), none, none, none, none] [] I2 J2) : Wz G X 9 Qs (1 + a) (6 + b) 2003 [some (.ref b0), some (.ref (kadr G 100)), some (.ref (kadr G 0)), some (.ref (kadr G 50)), some (.int (iZ i)), none, none, none, none] [] I J := by
  refine wz_aload_n C rfl rfl dL_law_2003 ?_
  refine wz_aload_n C rfl rfl dL_law_2004 ?_
  refine wz_iload C rfl dL_law_2005 ?_
  refine wz_iconst C dL_law_2007 ?_
  refine wz_iadd C dL_law_2008 ?_
  refine ws_iald C (i + 1) hT (by omega) (by omega) (by omega) dL_law_2009 ?_
  refine wz_aload_n C rfl rfl dL_law_2010 ?_
  refine wl_callSW C (As := [.ref (kadr G 100), .int (iZ (xs (i + 1))), .ref (kadr G 50)]) (st := []) (a' := a) (b' := b) (kL_steps G hG hZ hC (xs (i + 1)) I J _ _ (st_steps h hn (hxs (i + 1))) (fun k I J hk => hk.1)) 3 gL_law_L_steps rfl (by decide +kernel) (by rw [hX]; exact ⟨Nat.le_of_ble_eq_true rfl, Nat.le_of_ble_eq_true rfl⟩) rfl (Nat.le_of_ble_eq_true rfl) rfl rfl rfl dL_law_2011 (kk_sI (fun v I1 J1 h1 => ?_))
  obtain ⟨hv, h1⟩ := LQ_of (M := wp_X12_steps (xs (i + 1))) cdI_b (fun I J P P' hp hq => fr_X12_steps hp (fun r I2 J2 hr _ => hq r I2 J2 hr)) h1
  refine wz_istore_5 C rfl dL_law_2014 ?_
  refine wz_aload_n C rfl rfl dL_law_2016 ?_
  refine wz_aload_n C rfl rfl dL_law_2017 ?_
  refine wz_iload C rfl dL_law_2018 ?_
  refine wz_iconst C dL_law_2020 ?_
  refine wz_iadd C dL_law_2021 ?_
  refine ws_iald C (i + 1) hT (by omega) (by omega) (by omega) dL_law_2022 ?_
  refine wm_callV C (o := 0) (As := [.int (iZ (xs (i + 1)))]) (st := []) (a' := a) (b' := b) rfl rfl (k_X12_steps G hG (xs (i + 1)) I1 J1 _ h1) 1 gL_law_X12_steps rfl (by decide +kernel) (by rw [hX]; exact ⟨Nat.le_of_ble_eq_true rfl, Nat.le_of_ble_eq_true rfl⟩) rfl (Nat.le_of_ble_eq_true rfl) (Nat.zero_add _) (Nat.zero_add _) rfl dL_law_2023 (kk_sI (fun r I2 J2 h2 => ?_))
  obtain ⟨e1, e2, h3⟩ := h2
  refine wz_istore_6 C rfl dL_law_2026 ?_
  refine wz_aload_n C rfl rfl dL_law_2028 ?_
  refine wm_callV C (o := 0) (As := []) (st := []) (a' := a) (b' := b) rfl rfl (k_X12_thrown G hG I2 J2 (fun t I3 J3 => t = v ∧ I3 = I2 ∧ J3 = J2) ⟨e1, rfl, rfl⟩) 0 gL_law_X12_thrown rfl (by decide +kernel) (by rw [hX]; exact ⟨Nat.le_of_ble_eq_true rfl, Nat.le_of_ble_eq_true rfl⟩) rfl (Nat.le_of_ble_eq_true rfl) (Nat.zero_add _) (Nat.zero_add _) rfl dL_law_2029 (kk_sI (fun t I3 J3 h4 => ?_))
  obtain ⟨rfl, rfl, rfl⟩ := h4
  refine wz_iload C rfl dL_law_2032 ?_
  refine wm_icmp_eq C (tgt := 2039) dL_law_2034 (by decide) (fun _ => ?_) (fun z => absurd rfl z)
  refine wz_iload C rfl dL_law_2039 ?_
  refine wz_if_ne C (tgt := 2056) (by omega) dL_law_2041 (by decide) (fun _ => ?_) (fun z => ?_)
  · refine wz_goto C dL_law_2056 (tgt := 2366) (by decide) ?_
    exact Wz.drop (k _ _ h3) (And.intro rfl (And.intro rfl (And.intro rfl (And.intro rfl (And.intro rfl trivial)))))
  · refine wz_aload_n C rfl rfl dL_law_2044 ?_
    refine wz_iconst C dL_law_2045 ?_
    refine wz_laload C 0 rfl rfl (by decide) (by decide) (e2 z) dL_law_2046 ?_
    refine wz_iload C rfl dL_law_2047 ?_
    refine wd_i2l C dL_law_2049 ?_
    refine wd_lcmp C dL_law_2050 ?_
    refine wz_if_eq C (tgt := 2056) (toInt_rg _) dL_law_2051 (by decide) (fun _ => ?_) (fun z2 => absurd (cmpL_self _) z2)
    refine wz_goto C dL_law_2056 (tgt := 2366) (by decide) ?_
    exact Wz.drop (k _ _ h3) (And.intro rfl (And.intro rfl (And.intro rfl (And.intro rfl (And.intro rfl trivial)))))
set_option maxHeartbeats 4000000 in
set_option maxRecDepth 100000 in
theorem law_placeBest (hG : Kok G) (hW : KSx G) (hZ : KZx G) (hC : KCx G) (hX : KR X = room_1) (C : Fr G X cL_law 9 RL (some .boolean) wsL_law) (hT : ∀ U : State, G.1.2 U → va_T .int b0 L (fun j => .int (iZ (xs j))) (KFr G) U U.heap) (hxs : ∀ j, rg (xs j)) (h : Inv n I J) (hn : n ≤ 600) (hi : i + 6 ≤ L) (hL : L ≤ 3072)
    (k : ∀ (I2 : Ii) (J2 : Jj), Inv (n + 1) I2 J2 → Wz G X 9 Qs a b 2366 [some (.ref b0), some (.ref (kadr G 100)), some (.ref (kadr G 0)), some (.ref (kadr G 50)), some (.int (iZ i)), none, none, none, none] [] I2 J2) : Wz G X 9 Qs (1 + a) (6 + b) 2059 [some (.ref b0), some (.ref (kadr G 100)), some (.ref (kadr G 0)), some (.ref (kadr G 50)), some (.int (iZ i)), none, none, none, none] [] I J := by
  refine wz_aload_n C rfl rfl dL_law_2059 ?_
  refine wz_aload_n C rfl rfl dL_law_2060 ?_
  refine wl_callSW C (As := [.ref (kadr G 100), .ref (kadr G 50)]) (st := []) (a' := a) (b' := b) (kL_placeBest G hG hZ hC I J _ _ (st_placeBest h hn) (fun k I J hk => hk.1)) 2 gL_law_L_placeBest rfl (by decide +kernel) (by rw [hX]; exact ⟨Nat.le_of_ble_eq_true rfl, Nat.le_of_ble_eq_true rfl⟩) rfl (Nat.le_of_ble_eq_true rfl) rfl rfl rfl dL_law_2061 (kk_sI (fun v I1 J1 h1 => ?_))
  obtain ⟨hv, h1⟩ := LQ_of (M := wp_X12_placeBest) cdS_b (fun I J P P' hp hq => fr_X12_placeBest hp (fun r I2 J2 hr _ => hq r I2 J2 hr)) h1
  refine wz_istore_5 C rfl dL_law_2064 ?_
  refine wz_aload_n C rfl rfl dL_law_2066 ?_
  refine wm_callV C (o := 0) (As := []) (st := []) (a' := a) (b' := b) rfl rfl (k_X12_placeBest G hG I1 J1 _ h1) 0 gL_law_X12_placeBest rfl (by decide +kernel) (by rw [hX]; exact ⟨Nat.le_of_ble_eq_true rfl, Nat.le_of_ble_eq_true rfl⟩) rfl (Nat.le_of_ble_eq_true rfl) (Nat.zero_add _) (Nat.zero_add _) rfl dL_law_2067 (kk_sI (fun r I2 J2 h2 => ?_))
  obtain ⟨e1, e2, h3⟩ := h2
  refine wz_istore_6 C rfl dL_law_2070 ?_
  refine wz_aload_n C rfl rfl dL_law_2072 ?_
  refine wm_callV C (o := 0) (As := []) (st := []) (a' := a) (b' := b) rfl rfl (k_X12_thrown G hG I2 J2 (fun t I3 J3 => t = v ∧ I3 = I2 ∧ J3 = J2) ⟨e1, rfl, rfl⟩) 0 gL_law_X12_thrown rfl (by decide +kernel) (by rw [hX]; exact ⟨Nat.le_of_ble_eq_true rfl, Nat.le_of_ble_eq_true rfl⟩) rfl (Nat.le_of_ble_eq_true rfl) (Nat.zero_add _) (Nat.zero_add _) rfl dL_law_2073 (kk_sI (fun t I3 J3 h4 => ?_))
  obtain ⟨rfl, rfl, rfl⟩ := h4
  refine wz_iload C rfl dL_law_2076 ?_
  refine wm_icmp_eq C (tgt := 2083) dL_law_2078 (by decide) (fun _ => ?_) (fun z => absurd rfl z)
  refine wz_iload C rfl dL_law_2083 ?_
  refine wz_if_ne C (tgt := 2100) (by omega) dL_law_2085 (by decide) (fun _ => ?_) (fun z => ?_)
  · refine wz_goto C dL_law_2100 (tgt := 2366) (by decide) ?_
    exact Wz.drop (k _ _ h3) (And.intro rfl (And.intro rfl (And.intro rfl (And.intro rfl (And.intro rfl trivial)))))
  · refine wz_aload_n C rfl rfl dL_law_2088 ?_
    refine wz_iconst C dL_law_2089 ?_
    refine wz_laload C 0 rfl rfl (by decide) (by decide) (e2 z) dL_law_2090 ?_
    refine wz_iload C rfl dL_law_2091 ?_
    refine wd_i2l C dL_law_2093 ?_
    refine wd_lcmp C dL_law_2094 ?_
    refine wz_if_eq C (tgt := 2100) (toInt_rg _) dL_law_2095 (by decide) (fun _ => ?_) (fun z2 => absurd (cmpL_self _) z2)
    refine wz_goto C dL_law_2100 (tgt := 2366) (by decide) ?_
    exact Wz.drop (k _ _ h3) (And.intro rfl (And.intro rfl (And.intro rfl (And.intro rfl (And.intro rfl trivial)))))
set_option maxHeartbeats 4000000 in
set_option maxRecDepth 100000 in
theorem law_placeApart (hG : Kok G) (hW : KSx G) (hZ : KZx G) (hC : KCx G) (hX : KR X = room_1) (C : Fr G X cL_law 9 RL (some .boolean) wsL_law) (hT : ∀ U : State, G.1.2 U → va_T .int b0 L (fun j => .int (iZ (xs j))) (KFr G) U U.heap) (hxs : ∀ j, rg (xs j)) (h : Inv n I J) (hn : n ≤ 600) (hi : i + 6 ≤ L) (hL : L ≤ 3072)
    (k : ∀ (I2 : Ii) (J2 : Jj), Inv (n + 1) I2 J2 → Wz G X 9 Qs a b 2366 [some (.ref b0), some (.ref (kadr G 100)), some (.ref (kadr G 0)), some (.ref (kadr G 50)), some (.int (iZ i)), none, none, none, none] [] I2 J2) : Wz G X 9 Qs (1 + a) (6 + b) 2103 [some (.ref b0), some (.ref (kadr G 100)), some (.ref (kadr G 0)), some (.ref (kadr G 50)), some (.int (iZ i)), none, none, none, none] [] I J := by
  refine wz_aload_n C rfl rfl dL_law_2103 ?_
  refine wz_aload_n C rfl rfl dL_law_2104 ?_
  refine wz_iload C rfl dL_law_2105 ?_
  refine wz_iconst C dL_law_2107 ?_
  refine wz_iadd C dL_law_2108 ?_
  refine ws_iald C (i + 1) hT (by omega) (by omega) (by omega) dL_law_2109 ?_
  refine wz_aload_n C rfl rfl dL_law_2110 ?_
  refine wz_iload C rfl dL_law_2111 ?_
  refine wz_iconst C dL_law_2113 ?_
  refine wz_iadd C dL_law_2114 ?_
  refine ws_iald C (i + 2) hT (by omega) (by omega) (by omega) dL_law_2115 ?_
  refine wz_aload_n C rfl rfl dL_law_2116 ?_
  refine wl_callSW C (As := [.ref (kadr G 100), .int (iZ (xs (i + 1))), .int (iZ (xs (i + 2))), .ref (kadr G 50)]) (st := []) (a' := a) (b' := b) (kL_placeApart G hG hZ hC (xs (i + 1)) (xs (i + 2)) I J _ _ (st_placeApart h hn (hxs (i + 1)) (hxs (i + 2))) (fun k I J hk => hk.1)) 4 gL_law_L_placeApart rfl (by decide +kernel) (by rw [hX]; exact ⟨Nat.le_of_ble_eq_true rfl, Nat.le_of_ble_eq_true rfl⟩) rfl (Nat.le_of_ble_eq_true rfl) rfl rfl rfl dL_law_2117 (kk_sI (fun v I1 J1 h1 => ?_))
  obtain ⟨hv, h1⟩ := LQ_of (M := wp_X12_placeApart (xs (i + 1)) (xs (i + 2))) cdA_b (fun I J P P' hp hq => fr_X12_placeApart hp (fun r I2 J2 hr _ => hq r I2 J2 hr)) h1
  refine wz_istore_5 C rfl dL_law_2120 ?_
  refine wz_aload_n C rfl rfl dL_law_2122 ?_
  refine wz_aload_n C rfl rfl dL_law_2123 ?_
  refine wz_iload C rfl dL_law_2124 ?_
  refine wz_iconst C dL_law_2126 ?_
  refine wz_iadd C dL_law_2127 ?_
  refine ws_iald C (i + 1) hT (by omega) (by omega) (by omega) dL_law_2128 ?_
  refine wz_aload_n C rfl rfl dL_law_2129 ?_
  refine wz_iload C rfl dL_law_2130 ?_
  refine wz_iconst C dL_law_2132 ?_
  refine wz_iadd C dL_law_2133 ?_
  refine ws_iald C (i + 2) hT (by omega) (by omega) (by omega) dL_law_2134 ?_
  refine wm_callV C (o := 0) (As := [.int (iZ (xs (i + 1))), .int (iZ (xs (i + 2)))]) (st := []) (a' := a) (b' := b) rfl rfl (k_X12_placeApart G hG (xs (i + 1)) (xs (i + 2)) I1 J1 _ h1) 2 gL_law_X12_placeApart rfl (by decide +kernel) (by rw [hX]; exact ⟨Nat.le_of_ble_eq_true rfl, Nat.le_of_ble_eq_true rfl⟩) rfl (Nat.le_of_ble_eq_true rfl) (Nat.zero_add _) (Nat.zero_add _) rfl dL_law_2135 (kk_sI (fun r I2 J2 h2 => ?_))
  obtain ⟨e1, e2, h3⟩ := h2
  refine wz_istore_6 C rfl dL_law_2138 ?_
  refine wz_aload_n C rfl rfl dL_law_2140 ?_
  refine wm_callV C (o := 0) (As := []) (st := []) (a' := a) (b' := b) rfl rfl (k_X12_thrown G hG I2 J2 (fun t I3 J3 => t = v ∧ I3 = I2 ∧ J3 = J2) ⟨e1, rfl, rfl⟩) 0 gL_law_X12_thrown rfl (by decide +kernel) (by rw [hX]; exact ⟨Nat.le_of_ble_eq_true rfl, Nat.le_of_ble_eq_true rfl⟩) rfl (Nat.le_of_ble_eq_true rfl) (Nat.zero_add _) (Nat.zero_add _) rfl dL_law_2141 (kk_sI (fun t I3 J3 h4 => ?_))
  obtain ⟨rfl, rfl, rfl⟩ := h4
  refine wz_iload C rfl dL_law_2144 ?_
  refine wm_icmp_eq C (tgt := 2151) dL_law_2146 (by decide) (fun _ => ?_) (fun z => absurd rfl z)
  refine wz_iload C rfl dL_law_2151 ?_
  refine wz_if_ne C (tgt := 2168) (by omega) dL_law_2153 (by decide) (fun _ => ?_) (fun z => ?_)
  · refine wz_goto C dL_law_2168 (tgt := 2366) (by decide) ?_
    exact Wz.drop (k _ _ h3) (And.intro rfl (And.intro rfl (And.intro rfl (And.intro rfl (And.intro rfl trivial)))))
  · refine wz_aload_n C rfl rfl dL_law_2156 ?_
    refine wz_iconst C dL_law_2157 ?_
    refine wz_laload C 0 rfl rfl (by decide) (by decide) (e2 z) dL_law_2158 ?_
    refine wz_iload C rfl dL_law_2159 ?_
    refine wd_i2l C dL_law_2161 ?_
    refine wd_lcmp C dL_law_2162 ?_
    refine wz_if_eq C (tgt := 2168) (toInt_rg _) dL_law_2163 (by decide) (fun _ => ?_) (fun z2 => absurd (cmpL_self _) z2)
    refine wz_goto C dL_law_2168 (tgt := 2366) (by decide) ?_
    exact Wz.drop (k _ _ h3) (And.intro rfl (And.intro rfl (And.intro rfl (And.intro rfl (And.intro rfl trivial)))))
set_option maxHeartbeats 4000000 in
set_option maxRecDepth 100000 in
theorem law_setCredit (hG : Kok G) (hW : KSx G) (hZ : KZx G) (hC : KCx G) (hX : KR X = room_1) (C : Fr G X cL_law 9 RL (some .boolean) wsL_law) (hT : ∀ U : State, G.1.2 U → va_T .int b0 L (fun j => .int (iZ (xs j))) (KFr G) U U.heap) (hxs : ∀ j, rg (xs j)) (h : Inv n I J) (hn : n ≤ 600) (hi : i + 6 ≤ L) (hL : L ≤ 3072)
    (k : ∀ (I2 : Ii) (J2 : Jj), Inv (n + 1) I2 J2 → Wz G X 9 Qs a b 2366 [some (.ref b0), some (.ref (kadr G 100)), some (.ref (kadr G 0)), some (.ref (kadr G 50)), some (.int (iZ i)), none, none, none, none] [] I2 J2) : Wz G X 9 Qs (1 + a) (6 + b) 2171 [some (.ref b0), some (.ref (kadr G 100)), some (.ref (kadr G 0)), some (.ref (kadr G 50)), some (.int (iZ i)), none, none, none, none] [] I J := by
  refine wz_aload_n C rfl rfl dL_law_2171 ?_
  refine wz_aload_n C rfl rfl dL_law_2172 ?_
  refine wz_iload C rfl dL_law_2173 ?_
  refine wz_iconst C dL_law_2175 ?_
  refine wz_iadd C dL_law_2176 ?_
  refine ws_iald C (i + 1) hT (by omega) (by omega) (by omega) dL_law_2177 ?_
  refine wz_aload_n C rfl rfl dL_law_2178 ?_
  refine wl_callSW C (As := [.ref (kadr G 100), .int (iZ (xs (i + 1))), .ref (kadr G 50)]) (st := []) (a' := a) (b' := b) (kL_setCredit G hG hZ hC (xs (i + 1)) I J _ _ (st_setCredit h hn (hxs (i + 1))) (fun k I J hk => hk.1)) 3 gL_law_L_setCredit rfl (by decide +kernel) (by rw [hX]; exact ⟨Nat.le_of_ble_eq_true rfl, Nat.le_of_ble_eq_true rfl⟩) rfl (Nat.le_of_ble_eq_true rfl) rfl rfl rfl dL_law_2179 (kk_sI (fun v I1 J1 h1 => ?_))
  obtain ⟨hv, h1⟩ := LQ_of (M := wp_X12_setCredit (xs (i + 1))) cdI_b (fun I J P P' hp hq => fr_X12_setCredit hp (fun r I2 J2 hr _ => hq r I2 J2 hr)) h1
  refine wz_istore_5 C rfl dL_law_2182 ?_
  refine wz_aload_n C rfl rfl dL_law_2184 ?_
  refine wz_aload_n C rfl rfl dL_law_2185 ?_
  refine wz_iload C rfl dL_law_2186 ?_
  refine wz_iconst C dL_law_2188 ?_
  refine wz_iadd C dL_law_2189 ?_
  refine ws_iald C (i + 1) hT (by omega) (by omega) (by omega) dL_law_2190 ?_
  refine wm_callV C (o := 0) (As := [.int (iZ (xs (i + 1)))]) (st := []) (a' := a) (b' := b) rfl rfl (k_X12_setCredit G hG (xs (i + 1)) I1 J1 _ h1) 1 gL_law_X12_setCredit rfl (by decide +kernel) (by rw [hX]; exact ⟨Nat.le_of_ble_eq_true rfl, Nat.le_of_ble_eq_true rfl⟩) rfl (Nat.le_of_ble_eq_true rfl) (Nat.zero_add _) (Nat.zero_add _) rfl dL_law_2191 (kk_sI (fun r I2 J2 h2 => ?_))
  obtain ⟨e1, e2, h3⟩ := h2
  refine wz_istore_6 C rfl dL_law_2194 ?_
  refine wz_aload_n C rfl rfl dL_law_2196 ?_
  refine wm_callV C (o := 0) (As := []) (st := []) (a' := a) (b' := b) rfl rfl (k_X12_thrown G hG I2 J2 (fun t I3 J3 => t = v ∧ I3 = I2 ∧ J3 = J2) ⟨e1, rfl, rfl⟩) 0 gL_law_X12_thrown rfl (by decide +kernel) (by rw [hX]; exact ⟨Nat.le_of_ble_eq_true rfl, Nat.le_of_ble_eq_true rfl⟩) rfl (Nat.le_of_ble_eq_true rfl) (Nat.zero_add _) (Nat.zero_add _) rfl dL_law_2197 (kk_sI (fun t I3 J3 h4 => ?_))
  obtain ⟨rfl, rfl, rfl⟩ := h4
  refine wz_iload C rfl dL_law_2200 ?_
  refine wm_icmp_eq C (tgt := 2207) dL_law_2202 (by decide) (fun _ => ?_) (fun z => absurd rfl z)
  refine wz_iload C rfl dL_law_2207 ?_
  refine wz_if_ne C (tgt := 2224) (by omega) dL_law_2209 (by decide) (fun _ => ?_) (fun z => ?_)
  · refine wz_goto C dL_law_2224 (tgt := 2366) (by decide) ?_
    exact Wz.drop (k _ _ h3) (And.intro rfl (And.intro rfl (And.intro rfl (And.intro rfl (And.intro rfl trivial)))))
  · refine wz_aload_n C rfl rfl dL_law_2212 ?_
    refine wz_iconst C dL_law_2213 ?_
    refine wz_laload C 0 rfl rfl (by decide) (by decide) (e2 z) dL_law_2214 ?_
    refine wz_iload C rfl dL_law_2215 ?_
    refine wd_i2l C dL_law_2217 ?_
    refine wd_lcmp C dL_law_2218 ?_
    refine wz_if_eq C (tgt := 2224) (toInt_rg _) dL_law_2219 (by decide) (fun _ => ?_) (fun z2 => absurd (cmpL_self _) z2)
    refine wz_goto C dL_law_2224 (tgt := 2366) (by decide) ?_
    exact Wz.drop (k _ _ h3) (And.intro rfl (And.intro rfl (And.intro rfl (And.intro rfl (And.intro rfl trivial)))))
set_option maxHeartbeats 4000000 in
set_option maxRecDepth 100000 in
theorem law_report (hG : Kok G) (hW : KSx G) (hZ : KZx G) (hC : KCx G) (hX : KR X = room_1) (C : Fr G X cL_law 9 RL (some .boolean) wsL_law) (hT : ∀ U : State, G.1.2 U → va_T .int b0 L (fun j => .int (iZ (xs j))) (KFr G) U U.heap) (hxs : ∀ j, rg (xs j)) (h : Inv n I J) (hn : n ≤ 600) (hi : i + 6 ≤ L) (hL : L ≤ 3072)
    (k : ∀ (I2 : Ii) (J2 : Jj), Inv (n + 1) I2 J2 → Wz G X 9 Qs a b 2366 [some (.ref b0), some (.ref (kadr G 100)), some (.ref (kadr G 0)), some (.ref (kadr G 50)), some (.int (iZ i)), none, none, none, none] [] I2 J2) : Wz G X 9 Qs (0 + a) (0 + b) 2227 [some (.ref b0), some (.ref (kadr G 100)), some (.ref (kadr G 0)), some (.ref (kadr G 50)), some (.int (iZ i)), none, none, none, none] [] I J := by
  refine wz_aload_n C rfl rfl dL_law_2227 ?_
  refine wm_callV C (o := 100) (As := []) (st := []) (a' := a) (b' := b) rfl rfl (k_X11_report G hG I J _ (st_report h hn)) 0 gL_law_X11_report rfl (by decide +kernel) (by rw [hX]; exact ⟨Nat.le_of_ble_eq_true rfl, Nat.le_of_ble_eq_true rfl⟩) rfl (Nat.le_of_ble_eq_true rfl) rfl rfl rfl dL_law_2228 (kk_sI (fun r I1 J1 h1 => ?_))
  refine wz_aload_n C rfl rfl dL_law_2231 ?_
  refine wm_callV C (o := 0) (As := []) (st := [.int (iZ r)]) (a' := a) (b' := b) rfl rfl (k_X12_report G hG I1 J1 _ h1) 0 gL_law_X12_report rfl (by decide +kernel) (by rw [hX]; exact ⟨Nat.le_of_ble_eq_true rfl, Nat.le_of_ble_eq_true rfl⟩) rfl (Nat.le_of_ble_eq_true rfl) (Nat.zero_add _) (Nat.zero_add _) rfl dL_law_2232 (kk_sI (fun t I2 J2 h2 => ?_))
  obtain ⟨rfl, h3⟩ := h2
  exact wm_icmp_eq C (tgt := 2366) dL_law_2235 (by decide) (fun _ => k _ _ h3) (fun z => absurd rfl z)
set_option maxHeartbeats 4000000 in
set_option maxRecDepth 100000 in
theorem law_reportByte (hG : Kok G) (hW : KSx G) (hZ : KZx G) (hC : KCx G) (hX : KR X = room_1) (C : Fr G X cL_law 9 RL (some .boolean) wsL_law) (hT : ∀ U : State, G.1.2 U → va_T .int b0 L (fun j => .int (iZ (xs j))) (KFr G) U U.heap) (hxs : ∀ j, rg (xs j)) (h : Inv n I J) (hn : n ≤ 600) (hi : i + 6 ≤ L) (hL : L ≤ 3072)
    (k : ∀ (I2 : Ii) (J2 : Jj), Inv (n + 1) I2 J2 → Wz G X 9 Qs a b 2366 [some (.ref b0), some (.ref (kadr G 100)), some (.ref (kadr G 0)), some (.ref (kadr G 50)), some (.int (iZ i)), none, none, none, none] [] I2 J2) : Wz G X 9 Qs (1 + a) (6 + b) 2240 [some (.ref b0), some (.ref (kadr G 100)), some (.ref (kadr G 0)), some (.ref (kadr G 50)), some (.int (iZ i)), none, none, none, none] [] I J := by
  refine wz_aload_n C rfl rfl dL_law_2240 ?_
  refine wz_aload_n C rfl rfl dL_law_2241 ?_
  refine wz_iload C rfl dL_law_2242 ?_
  refine wz_iconst C dL_law_2244 ?_
  refine wz_iadd C dL_law_2245 ?_
  refine ws_iald C (i + 1) hT (by omega) (by omega) (by omega) dL_law_2246 ?_
  refine wz_aload_n C rfl rfl dL_law_2247 ?_
  refine wl_callSW C (As := [.ref (kadr G 100), .int (iZ (xs (i + 1))), .ref (kadr G 50)]) (st := []) (a' := a) (b' := b) (kL_reportByte G hG hZ hC (xs (i + 1)) I J _ _ (st_reportByte h (hxs (i + 1))) (fun k I J hk => hk.1)) 3 gL_law_L_reportByte rfl (by decide +kernel) (by rw [hX]; exact ⟨Nat.le_of_ble_eq_true rfl, Nat.le_of_ble_eq_true rfl⟩) rfl (Nat.le_of_ble_eq_true rfl) rfl rfl rfl dL_law_2248 (kk_sI (fun v I1 J1 h1 => ?_))
  obtain ⟨hv, h1⟩ := LQ_of (M := wp_X12_reportByte (xs (i + 1))) cdV_b (fun I J P P' hp hq => fr_X12_reportByte hp (fun r I2 J2 hr _ => hq r I2 J2 hr)) h1
  refine wz_istore_5 C rfl dL_law_2251 ?_
  refine wz_aload_n C rfl rfl dL_law_2253 ?_
  refine wz_aload_n C rfl rfl dL_law_2254 ?_
  refine wz_iload C rfl dL_law_2255 ?_
  refine wz_iconst C dL_law_2257 ?_
  refine wz_iadd C dL_law_2258 ?_
  refine ws_iald C (i + 1) hT (by omega) (by omega) (by omega) dL_law_2259 ?_
  refine wm_callV C (o := 0) (As := [.int (iZ (xs (i + 1)))]) (st := []) (a' := a) (b' := b) rfl rfl (k_X12_reportByte G hG (xs (i + 1)) I1 J1 _ h1) 1 gL_law_X12_reportByte rfl (by decide +kernel) (by rw [hX]; exact ⟨Nat.le_of_ble_eq_true rfl, Nat.le_of_ble_eq_true rfl⟩) rfl (Nat.le_of_ble_eq_true rfl) (Nat.zero_add _) (Nat.zero_add _) rfl dL_law_2260 (kk_sI (fun r I2 J2 h2 => ?_))
  obtain ⟨e1, e2, h3⟩ := h2
  refine wz_istore_6 C rfl dL_law_2263 ?_
  refine wz_aload_n C rfl rfl dL_law_2265 ?_
  refine wm_callV C (o := 0) (As := []) (st := []) (a' := a) (b' := b) rfl rfl (k_X12_thrown G hG I2 J2 (fun t I3 J3 => t = v ∧ I3 = I2 ∧ J3 = J2) ⟨e1, rfl, rfl⟩) 0 gL_law_X12_thrown rfl (by decide +kernel) (by rw [hX]; exact ⟨Nat.le_of_ble_eq_true rfl, Nat.le_of_ble_eq_true rfl⟩) rfl (Nat.le_of_ble_eq_true rfl) (Nat.zero_add _) (Nat.zero_add _) rfl dL_law_2266 (kk_sI (fun t I3 J3 h4 => ?_))
  obtain ⟨rfl, rfl, rfl⟩ := h4
  refine wz_iload C rfl dL_law_2269 ?_
  refine wm_icmp_eq C (tgt := 2276) dL_law_2271 (by decide) (fun _ => ?_) (fun z => absurd rfl z)
  refine wz_iload C rfl dL_law_2276 ?_
  refine wz_if_ne C (tgt := 2293) (by omega) dL_law_2278 (by decide) (fun _ => ?_) (fun z => ?_)
  · refine wz_goto C dL_law_2293 (tgt := 2366) (by decide) ?_
    exact Wz.drop (k _ _ h3) (And.intro rfl (And.intro rfl (And.intro rfl (And.intro rfl (And.intro rfl trivial)))))
  · refine wz_aload_n C rfl rfl dL_law_2281 ?_
    refine wz_iconst C dL_law_2282 ?_
    refine wz_laload C 0 rfl rfl (by decide) (by decide) (e2 z) dL_law_2283 ?_
    refine wz_iload C rfl dL_law_2284 ?_
    refine wd_i2l C dL_law_2286 ?_
    refine wd_lcmp C dL_law_2287 ?_
    refine wz_if_eq C (tgt := 2293) (toInt_rg _) dL_law_2288 (by decide) (fun _ => ?_) (fun z2 => absurd (cmpL_self _) z2)
    refine wz_goto C dL_law_2293 (tgt := 2366) (by decide) ?_
    exact Wz.drop (k _ _ h3) (And.intro rfl (And.intro rfl (And.intro rfl (And.intro rfl (And.intro rfl trivial)))))
set_option maxHeartbeats 4000000 in
set_option maxRecDepth 100000 in
theorem law_undo (hG : Kok G) (hW : KSx G) (hZ : KZx G) (hC : KCx G) (hX : KR X = room_1) (C : Fr G X cL_law 9 RL (some .boolean) wsL_law) (hT : ∀ U : State, G.1.2 U → va_T .int b0 L (fun j => .int (iZ (xs j))) (KFr G) U U.heap) (hxs : ∀ j, rg (xs j)) (h : Inv n I J) (hn : n ≤ 600) (hi : i + 6 ≤ L) (hL : L ≤ 3072)
    (k : ∀ (I2 : Ii) (J2 : Jj), Inv (n + 1) I2 J2 → Wz G X 9 Qs a b 2366 [some (.ref b0), some (.ref (kadr G 100)), some (.ref (kadr G 0)), some (.ref (kadr G 50)), some (.int (iZ i)), none, none, none, none] [] I2 J2) : Wz G X 9 Qs (0 + a) (0 + b) 2296 [some (.ref b0), some (.ref (kadr G 100)), some (.ref (kadr G 0)), some (.ref (kadr G 50)), some (.int (iZ i)), none, none, none, none] [] I J := by
  refine wz_aload_n C rfl rfl dL_law_2296 ?_
  refine wm_callV C (o := 100) (As := []) (st := []) (a' := a) (b' := b) rfl rfl (k_X11_undo G hG I J _ (st_undo h hn)) 0 gL_law_X11_undo rfl (by decide +kernel) (by rw [hX]; exact ⟨Nat.le_of_ble_eq_true rfl, Nat.le_of_ble_eq_true rfl⟩) rfl (Nat.le_of_ble_eq_true rfl) rfl rfl rfl dL_law_2297 (kk_sI (fun r I1 J1 h1 => ?_))
  refine wz_aload_n C rfl rfl dL_law_2300 ?_
  refine wm_callV C (o := 0) (As := []) (st := [.int (iZ r)]) (a' := a) (b' := b) rfl rfl (k_X12_undo G hG I1 J1 _ h1) 0 gL_law_X12_undo rfl (by decide +kernel) (by rw [hX]; exact ⟨Nat.le_of_ble_eq_true rfl, Nat.le_of_ble_eq_true rfl⟩) rfl (Nat.le_of_ble_eq_true rfl) (Nat.zero_add _) (Nat.zero_add _) rfl dL_law_2301 (kk_sI (fun t I2 J2 h2 => ?_))
  obtain ⟨rfl, h3⟩ := h2
  exact wm_icmp_eq C (tgt := 2366) dL_law_2304 (by decide) (fun _ => k _ _ h3) (fun z => absurd rfl z)
set_option maxHeartbeats 4000000 in
set_option maxRecDepth 100000 in
theorem law_save (hG : Kok G) (hW : KSx G) (hZ : KZx G) (hC : KCx G) (hX : KR X = room_1) (C : Fr G X cL_law 9 RL (some .boolean) wsL_law) (hT : ∀ U : State, G.1.2 U → va_T .int b0 L (fun j => .int (iZ (xs j))) (KFr G) U U.heap) (hxs : ∀ j, rg (xs j)) (h : Inv n I J) (hn : n ≤ 600) (hi : i + 6 ≤ L) (hL : L ≤ 3072)
    (k : ∀ (I2 : Ii) (J2 : Jj), Inv (n + 1) I2 J2 → Wz G X 9 Qs a b 2366 [some (.ref b0), some (.ref (kadr G 100)), some (.ref (kadr G 0)), some (.ref (kadr G 50)), some (.int (iZ i)), none, none, none, none] [] I2 J2) : Wz G X 9 Qs (0 + a) (0 + b) 2309 [some (.ref b0), some (.ref (kadr G 100)), some (.ref (kadr G 0)), some (.ref (kadr G 50)), some (.int (iZ i)), none, none, none, none] [] I J := by
  refine wz_aload_n C rfl rfl dL_law_2309 ?_
  refine wm_callV C (o := 100) (As := []) (st := []) (a' := a) (b' := b) rfl rfl (k_X11_save G hG I J _ (st_save h hn)) 0 gL_law_X11_save rfl (by decide +kernel) (by rw [hX]; exact ⟨Nat.le_of_ble_eq_true rfl, Nat.le_of_ble_eq_true rfl⟩) rfl (Nat.le_of_ble_eq_true rfl) rfl rfl rfl dL_law_2310 (kk_sI (fun r I1 J1 h1 => ?_))
  refine wz_aload_n C rfl rfl dL_law_2313 ?_
  refine wm_callV C (o := 0) (As := []) (st := [.int (iZ r)]) (a' := a) (b' := b) rfl rfl (k_X12_save G hG I1 J1 _ h1) 0 gL_law_X12_save rfl (by decide +kernel) (by rw [hX]; exact ⟨Nat.le_of_ble_eq_true rfl, Nat.le_of_ble_eq_true rfl⟩) rfl (Nat.le_of_ble_eq_true rfl) (Nat.zero_add _) (Nat.zero_add _) rfl dL_law_2314 (kk_sI (fun t I2 J2 h2 => ?_))
  obtain ⟨rfl, h3⟩ := h2
  exact wm_icmp_eq C (tgt := 2366) dL_law_2317 (by decide) (fun _ => k _ _ h3) (fun z => absurd rfl z)
set_option maxHeartbeats 4000000 in
set_option maxRecDepth 100000 in
theorem law_restore (hG : Kok G) (hW : KSx G) (hZ : KZx G) (hC : KCx G) (hX : KR X = room_1) (C : Fr G X cL_law 9 RL (some .boolean) wsL_law) (hT : ∀ U : State, G.1.2 U → va_T .int b0 L (fun j => .int (iZ (xs j))) (KFr G) U U.heap) (hxs : ∀ j, rg (xs j)) (h : Inv n I J) (hn : n ≤ 600) (hi : i + 6 ≤ L) (hL : L ≤ 3072)
    (k : ∀ (I2 : Ii) (J2 : Jj), Inv (n + 1) I2 J2 → Wz G X 9 Qs a b 2366 [some (.ref b0), some (.ref (kadr G 100)), some (.ref (kadr G 0)), some (.ref (kadr G 50)), some (.int (iZ i)), none, none, none, none] [] I2 J2) : Wz G X 9 Qs (1 + a) (6 + b) 2322 [some (.ref b0), some (.ref (kadr G 100)), some (.ref (kadr G 0)), some (.ref (kadr G 50)), some (.int (iZ i)), none, none, none, none] [] I J := by
  refine wz_aload_n C rfl rfl dL_law_2322 ?_
  refine wz_aload_n C rfl rfl dL_law_2323 ?_
  refine wl_callSW C (As := [.ref (kadr G 100), .ref (kadr G 50)]) (st := []) (a' := a) (b' := b) (kL_restore G hG hZ hC I J _ _ (st_restore h hn) (fun k I J hk => hk.1)) 2 gL_law_L_restore rfl (by decide +kernel) (by rw [hX]; exact ⟨Nat.le_of_ble_eq_true rfl, Nat.le_of_ble_eq_true rfl⟩) rfl (Nat.le_of_ble_eq_true rfl) rfl rfl rfl dL_law_2324 (kk_sI (fun v I1 J1 h1 => ?_))
  obtain ⟨hv, h1⟩ := LQ_of (M := wp_X12_restore) cdS_b (fun I J P P' hp hq => fr_X12_restore hp (fun r I2 J2 hr _ => hq r I2 J2 hr)) h1
  refine wz_istore_5 C rfl dL_law_2327 ?_
  refine wz_aload_n C rfl rfl dL_law_2329 ?_
  refine wm_callV C (o := 0) (As := []) (st := []) (a' := a) (b' := b) rfl rfl (k_X12_restore G hG I1 J1 _ h1) 0 gL_law_X12_restore rfl (by decide +kernel) (by rw [hX]; exact ⟨Nat.le_of_ble_eq_true rfl, Nat.le_of_ble_eq_true rfl⟩) rfl (Nat.le_of_ble_eq_true rfl) (Nat.zero_add _) (Nat.zero_add _) rfl dL_law_2330 (kk_sI (fun r I2 J2 h2 => ?_))
  obtain ⟨e1, e2, h3⟩ := h2
  refine wz_istore_6 C rfl dL_law_2333 ?_
  refine wz_aload_n C rfl rfl dL_law_2335 ?_
  refine wm_callV C (o := 0) (As := []) (st := []) (a' := a) (b' := b) rfl rfl (k_X12_thrown G hG I2 J2 (fun t I3 J3 => t = v ∧ I3 = I2 ∧ J3 = J2) ⟨e1, rfl, rfl⟩) 0 gL_law_X12_thrown rfl (by decide +kernel) (by rw [hX]; exact ⟨Nat.le_of_ble_eq_true rfl, Nat.le_of_ble_eq_true rfl⟩) rfl (Nat.le_of_ble_eq_true rfl) (Nat.zero_add _) (Nat.zero_add _) rfl dL_law_2336 (kk_sI (fun t I3 J3 h4 => ?_))
  obtain ⟨rfl, rfl, rfl⟩ := h4
  refine wz_iload C rfl dL_law_2339 ?_
  refine wm_icmp_eq C (tgt := 2346) dL_law_2341 (by decide) (fun _ => ?_) (fun z => absurd rfl z)
  refine wz_iload C rfl dL_law_2346 ?_
  refine wz_if_ne C (tgt := 2363) (by omega) dL_law_2348 (by decide) (fun _ => ?_) (fun z => ?_)
  · refine wz_goto C dL_law_2363 (tgt := 2366) (by decide) ?_
    exact Wz.drop (k _ _ h3) (And.intro rfl (And.intro rfl (And.intro rfl (And.intro rfl (And.intro rfl trivial)))))
  · refine wz_aload_n C rfl rfl dL_law_2351 ?_
    refine wz_iconst C dL_law_2352 ?_
    refine wz_laload C 0 rfl rfl (by decide) (by decide) (e2 z) dL_law_2353 ?_
    refine wz_iload C rfl dL_law_2354 ?_
    refine wd_i2l C dL_law_2356 ?_
    refine wd_lcmp C dL_law_2357 ?_
    refine wz_if_eq C (tgt := 2363) (toInt_rg _) dL_law_2358 (by decide) (fun _ => ?_) (fun z2 => absurd (cmpL_self _) z2)
    refine wz_goto C dL_law_2363 (tgt := 2366) (by decide) ?_
    exact Wz.drop (k _ _ h3) (And.intro rfl (And.intro rfl (And.intro rfl (And.intro rfl (And.intro rfl trivial)))))
end LAW

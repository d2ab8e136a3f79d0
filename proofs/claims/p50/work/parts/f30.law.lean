/-! ===== the law's start: the graph grows, then the class' object ===== -/
theorem FrB.ofFr {G : KG} {X : KX} {cc : ByteArray} {nL : Nat} {own : String} {ret : Option FieldType} {Ts : List Cond} (C : Fr G X cc nL own ret Ts) : FrB G X cc nL own ret Ts false := by
  obtain ⟨p, e, R, s, m, args, below, meth, c⟩ := X
  obtain ⟨hx, hb, hml, hown, hts, hr, hlk, hKK, hG, hlo⟩ := C
  exact ⟨hx, hb, hml, hown, hts, hr, hlk, hKK, fun h => absurd h Bool.false_ne_true, hlo⟩
section WBS
variable {G : KG} {X : KX} {nL : Nat} {Qs : State → Prop} {a b pc n : Nat} {E : Nat → va_E} {lv : List (Option Value)} {st : List Value} {cc : ByteArray} {own : String} {ret : Option FieldType} {Ts : List Cond} {ini : Bool}
theorem wb_astore_n (C : FrB G X cc nL own ret Ts ini) {j : Fin 4} {i : Nat} (hj : (j : Nat) = i) {x : Nat} {lv' : List (Option Value)} (hi : i < lv.length) (hn : nolong lv i = true) (he : lv.set i (some (.ref x)) = lv') (d : decode cc pc = .ok (.astore_n j, 1)) (k : Wb G X nL Qs a b (pc + 1) lv' st n E) : Wb G X nL Qs a b pc lv (.ref x :: st) n E := by
  obtain ⟨p, e, R, s, m, args, below, meth, c⟩ := X
  obtain ⟨hx, hb, hml, hown, hts, hr, hlk, hKK, hin, hlo⟩ := C
  intro k9 n9 hk9 hn9 H locs ls hP hS hl
  subst he
  exact lv_astore_n (lv := lvA 0 lv) hx hb d hj hl.has (Nat.lt_of_lt_of_le hi hl.2.2.1) rfl (fun ls' hl' => k k9 n9 hk9 hn9 H locs ls' hP hS (lvD.stored hl.2.2.1 hi hn hl'))
theorem wb_to {S : Sg} (hPic : ∀ H, BH G n E H → Pic G S H) (k : Wm G X nL Qs a b pc lv st S) : Wb G X nL Qs a b pc lv st n E := by
  obtain ⟨p, e, R, s, m, args, below, meth, c⟩ := X
  intro k9 n9 hk9 hn9 H locs ls hP hS hl
  exact k k9 n9 hk9 hn9 H locs ls (hPic H hP) hS hl
/-- a call that begins with cells, and ends with a store -/
theorem wb_callS (C : Fr G X cc nL own ret Ts) {Q : Option Value → Sg → Prop} {y : MethodName} {bytes : ByteArray} {maxL idx a' b' : Nat} {yret : Option FieldType} {ws ws' : List Cond} {rm : Room} {As : List Value} (h : Met G.1.1 y ws rm (va_Pc As (fun U => BH G n E U.heap ∧ Kst G U)) (QcU G Q) rm.cells rm.slots (KFr G)) (N : Nat) (g : GoodIn Ts ws) (hlk9 : Cond.methodLink own idx y ∈ Ts) (hst9 : Cond.static y ∈ Ts) (hin9 : Cond.initialized y.cls ∈ Ts) (hw : ws = Cond.code y bytes maxL yret :: ws') (hd : y.cls ≠ "java/lang/invoke/MethodHandle" ∧ y.cls ≠ "java/lang/invoke/VarHandle" ∧ (parseMethodDescriptor y.desc).map (fun d => d.parameters.length) = some N) (hR : rm.frames + 1 ≤ (KR X).frames ∧ 8 + (maxL + 11) + rm.locals ≤ (KR X).locals) (hn : As.length = N) (hc : (st.map fun v => v.category).sum ≤ 8) (hca : rm.cells + a' = a) (hcb : rm.slots + b' = b) (d : decode cc pc = .ok (.invokestatic idx, 3)) (k : ∀ r S', Q r S' → Wm G X nL Qs a' b' (pc + 3) lv (r.toList ++ st) S') : Wb G X nL Qs a b pc lv (As.reverse ++ st) n E := by
  obtain ⟨p, e, R, s, m, args, below, meth, c⟩ := X
  obtain ⟨hx, hb, hml, hown, hts, hr, hlk, hKK, hG, hlo⟩ := C
  intro k9 n9 hk9 hn9 H locs ls hP hS hl
  have hf : k9 + rm.cells ≤ R.cells ∧ n9 + rm.slots ≤ R.slots := by constructor <;> omega
  have hR : rm.frames + 1 ≤ R.frames ∧ 8 + (maxL + 11) + rm.locals ≤ R.locals := hR
  refine va_callQ (va_runS (p := p) (As := As) (rest := st) ⟨hx, hb, hml, hown, hts⟩ h ⟨callB_of N hts g hw rfl rfl (hts _ hin9) (hts _ hlk9) hd hR, hts _ hst9⟩ ⟨frameBlind_b, fun U hU hW => ⟨rfl, by rw [hU]; exact hP, Kst.warm hW (fun a h1 h2 => by rw [hU]; exact hS.2.1 a h1 h2) hKK⟩⟩ rfl hn hl.1 rfl (lv_room hc) d hf) hS (fun r S' H1 locs1 hq hP1 hS1 => ?_)
  exact k r S' hq (k9 + rm.cells) (n9 + rm.slots) (by omega) (by omega) H1 locs1 ls hP1 hS1 hl
end WBS
theorem hfX12 : ∀ j, j < 13 → defaultValue (tyX12 j) = vp_V zX12 j := by
  intro j hj
  have : j = 0 ∨ j = 1 ∨ j = 2 ∨ j = 3 ∨ j = 4 ∨ j = 5 ∨ j = 6 ∨ j = 7 ∨ j = 8 ∨ j = 9 ∨ j = 10 ∨ j = 11 ∨ j = 12 := by omega
  rcases this with rfl | rfl | rfl | rfl | rfl | rfl | rfl | rfl | rfl | rfl | rfl | rfl | rfl <;> rfl
/-- the law's graph, new -/
def EW (G : KG) (E : Nat → va_E) : Nat → va_E := bld (bup E 0 (.inr (15, zX12))) 0 (15, oX12 G 1) 1 (nX12 G 1)
theorem k_grown (G : KG) (hG : Kok G) (hW : KWx G) {sL : Nat} {xs : Nat → Int} (hT : KScr G sL xs) {E : Nat → va_E} {I : Ii} {J : Jj} {Q : Nat → Ii → Jj → Prop} (hPic : ∀ H, BH G 22 (EW G E) H → Pic G (I, J) H) (h1000 : kadr G 1000 = G.2.1 + 0) (h : wp_X12_grown8 sL xs I J Q) : Met G.1.1 yX12_grown wsX12_grown rm_X12_grown8 (va_Pc [.ref (kadr G 998)] (fun U => BH G 0 E U.heap ∧ Kst G U)) (QcU G (QsK G Q)) rm_X12_grown8.cells rm_X12_grown8.slots (KFr G) := by
  refine Met.ofW (cc := cX12_grown) (maxL := 7) (ret := some (.object "ShareGraphLaw$World")) (by decide +kernel) rfl ?_
  intro p e s m args below meth c s₁ B hml hv
  obtain ⟨rfl, hP, hK⟩ := hv
  have hown : s.vm.findClass yX12_grown.cls = some m.cls := findClass_of_methodNamed B.named
  rw [lg_entry_eq]
  have C : Fr G (p, e, rm_X12_grown8, s, m, [Value.ref (kadr G 998)].toArray, below, meth, c) cX12_grown 7 yX12_grown.cls (some (.object "ShareGraphLaw$World")) wsX12_grown := ⟨B.exec, B.bytes, hml, hown, atoms_spec (ws := wsX12_grown) B.pre, B.returns, B.notSynchronized, hK, hG, by rw [hP.1]; omega⟩
  have CB := FrB.ofFr C
  have main : Wb G (p, e, rm_X12_grown8, s, m, [Value.ref (kadr G 998)].toArray, below, meth, c) 7 (QsU G (p, e, rm_X12_grown8, s, m, [Value.ref (kadr G 998)].toArray, below, meth, c) (QsK G Q)) 777 1046600 0 [some (.ref (kadr G 998)), none, none, none, none, none, none] [] 0 E := by
    refine wb_new CB (ci := 15) (Cn := RX12) (T := TX12) (N := 13) (fs := zX12) (a' := 776) (b' := 1046587) tyX12 rfl (by decide +kernel) tyX12_ok (by decide +kernel) (by decide +kernel) (by decide +kernel) hfX12 dX12_grown_0 rfl rfl ?_
    refine wb_dup CB dX12_grown_3 ?_
    refine wb_init CB (o := 0) (n := 1) (E := bup E 0 (.inr (15, zX12))) (a' := 755) (b' := 1046187) (c_X12 hW (o := 0) (n := 1) (by unfold bup; rw [if_pos rfl]) (by decide)) gX12_grown_X12_init (by decide +kernel) (by decide +kernel) (by decide +kernel) rfl rfl (by decide) ⟨Nat.le_of_ble_eq_true rfl, Nat.le_of_ble_eq_true rfl⟩ (Nat.le_of_ble_eq_true rfl) rfl rfl dX12_grown_4 ?_
    refine wb_astore_n CB (j := 1) rfl (Nat.le_of_ble_eq_true rfl) rfl rfl dX12_grown_7 ?_
    refine wb_to hPic ?_
    rw [← h1000]
    exact Wz.less (a0 := 755) (b0 := 1046162) (by omega) (by omega) (k_X12_grown8 G hG hW hT _ rfl C I J Q h)
  have hla : ∀ q ∈ lvA 0 [some (Value.ref (kadr G 998)), none, none, none, none, none, none], q ∈ lv_args 0 [Value.ref (kadr G 998)] := by simp [lvA, lv_args, Value.category]
  exact main 0 0 (Nat.le_of_ble_eq_true rfl) (Nat.le_of_ble_eq_true rfl) s.heap [] _ hP va_S.rf (lvD.of (lv_entry [Value.ref (kadr G 998)] (Nat.le_of_ble_eq_true rfl)) (Nat.le_of_ble_eq_true rfl) (fun i v h => hla (i, v) ((lvA_mem _ 0 (i, v)).mpr ⟨Nat.zero_le _, h⟩)))
/-! the class' object, behind what the graph took -/
/-- other addresses, a later base -/
abbrev gAd (G : KG) (n : Nat) (ad : Nat → Nat) : KG := (G.1, G.2.1 + n, G.2.2.1, G.2.2.2.1, ad)
theorem va_callB2 {p : Program} {l : Launch} {e : Env} {R : Room} {s : State} {m : MethodId} {args : Array Value} {below : List Frame} {meth : Method} {c : Code} {H : Heap} {locs : List Loc} {cells slots : Nat} {Qs : State → Prop} {pc : Nat} {ls : Array Slot} {rest st0 : List Value} {av : Array Value} {mc ms : Nat} {G Gc : KG} {n : Nat} {E : Nat → va_E} {H0 : Heap}
    (hle : ∀ q, KFr Gc q → KFr G q) (hr : va_Run p l e R s m args below meth c H locs cells slots mc ms (F0 m pc ls st0) rest (QcB Gc n E av) (KFr Gc)) (hS : va_S (KFr G) H0 H locs)
    (kk : ∀ (H1 : Heap) (locs1 : List Loc), BH Gc n E H1 → H.size ≤ H1.size → (∀ q, q < H.size → ¬ KFr Gc q → H1[q]? = H[q]?) → va_S (KFr G) H0 H1 locs1 → W p l e R s m args below meth c H1 locs1 (cells + mc) (slots + ms) Qs (F0 m (pc + 3) ls rest)) : W p l e R s m args below meth c H locs cells slots Qs (F0 m pc ls st0) := by
  intro T hT X
  obtain ⟨v, st₀, t, T', L, h0, X', hL, e1, e2, ⟨⟨hv, hb⟩, hz, hk⟩, stp⟩ := hr T hT X
  cases hv
  rw [h0] at hz hk
  obtain ⟨t2, a1, b1⟩ := kk T'.heap (locs ++ L) (by rw [e1]; exact hb) (by rw [e1]; exact hz) (fun q h1 h2 => by rw [e1]; exact hk q h1 h2)
    ⟨Nat.le_trans hS.1 (by rw [e1]; exact hz), fun q h1 h2 => by rw [e1, hk q (Nat.lt_of_lt_of_le h1 hS.1) (fun z => h2 (hle q z))]; exact hS.2.1 q h1 h2, fun q hq => by
      rcases List.mem_append.mp hq with h | h
      · exact hS.2.2 q h
      · exact hle _ (hL q h)⟩ T' rfl X'
  exact ⟨t2, stp t2 a1, b1⟩
theorem hfX11 : ∀ j, j < 18 → defaultValue (tyX11 j) = vp_V zX11 j := by
  intro j hj
  have : j = 0 ∨ j = 1 ∨ j = 2 ∨ j = 3 ∨ j = 4 ∨ j = 5 ∨ j = 6 ∨ j = 7 ∨ j = 8 ∨ j = 9 ∨ j = 10 ∨ j = 11 ∨ j = 12 ∨ j = 13 ∨ j = 14 ∨ j = 15 ∨ j = 16 ∨ j = 17 := by omega
  rcases this with rfl | rfl | rfl | rfl | rfl | rfl | rfl | rfl | rfl | rfl | rfl | rfl | rfl | rfl | rfl | rfl | rfl | rfl <;> rfl
theorem Kpm_at {G : KG} (n : Nat) (ad : Nat → Nat) (h : Kpm G) : Kpm (gAd G n ad) := ⟨fun u U hW hq hf => h.1 u U hW (fun a h1 h2 => hq a h1 (fun z => h2 (Nat.le_trans (Nat.le_add_right G.2.1 n) z))) hf, h.2⟩
/-- the class' cells, new -/
def EZ : Nat → va_E := fun _ => .inr (14, zX11)
def EC (G : KG) : Nat → va_E := bld (bup EZ 0 (.inr (14, zX11))) 0 (14, o11_16 G 1) 1 (n11_16 G 1)
theorem in_LX11 : ∀ w ∈ wsX110, w ∈ wsL_law := by decide +kernel
theorem law_obj {G : KG} {X : KX} {Qs : State → Prop} {a b n : Nat} {ad : Nat → Nat} {lv : List (Option Value)} {I I2 : Ii} {J : Jj} (C : Fr G X cL_law 4 yL_law.cls (some .boolean) wsL_law) (hX : KR X = room_1) (hn : I 999 0 = 1000 + (n : Int)) (hAO : ∀ U, G.1.2 U → va_AO "ShareGraph$Sharing" U)
    (hPic : ∀ H H2 : Heap, Pic G (I, J) H → H2.size = H.size + 96 → (∀ q : Nat, q < H.size → H2[q]? = H[q]?) → BH (gAd G n ad) 96 (EC (gAd G n ad)) H2 → Pic (gAd G 0 ad) (I2, J) H2)
    (k : Wz (gAd G 0 ad) X 4 Qs a b 12 lv [.ref (G.2.1 + n + 0)] I2 J) : Wz G X 4 Qs (96 + a) (4265 + b) 5 lv [] I J := by
  obtain ⟨p, e, R, s, m, args, below, meth, c⟩ := X
  obtain ⟨hx, hb, hml, hown, hts, hr, hlk, hKK, hG, hlo⟩ := C
  intro k9 n9 hk9 hn9 H locs ls hP hS hl
  have hz : H.size = G.2.1 + n + 0 := by
    have : (H.size : Int) + 1000 = (G.2.1 : Int) + I 999 0 := hP.1
    omega
  have hKn := hKK.1.1 14 _ rfl
  have hR9 : R = room_1 := hX
  refine W.newcK hx hb hown (hts (.classLink yL_law.cls 27 RX11) (by decide +kernel)) (hts (.instantiable RX11 18) (by decide +kernel)) (hts (.initialized RX11) (by decide +kernel)) rfl dL_law_5 (by omega) (by omega) hKn.2.1 hz fun H1 kC hkC e1 z1 o1 => ?_
  have hB0 : BH (gAd G n ad) 0 EZ H := ⟨hz, fun i hi => absurd hi (Nat.not_lt_zero _)⟩
  have hB1 : BH (gAd G n ad) 1 (bup EZ 0 (.inr (14, zX11))) H1 := hB0.push (by rw [z1, hz]) (fun q hq => o1 q (by rw [← hz]; exact hq)) ⟨_, rfl, (u_born tyX11 hts in_LX11 hKn hkC e1 tyX11_ok).to hfX11⟩
  have hS1 : va_S (KFr G) s.heap H1 locs := ⟨Nat.le_trans hS.1 (by rw [z1, hz]; omega), fun q g1 g2 => by
    rw [o1 q (by rw [← hz]; exact Nat.lt_of_lt_of_le g1 hS.1)]
    exact hS.2.1 q g1 g2, hS.2.2⟩
  refine lv_dup hx hb dL_law_8 rfl ?_
  refine va_callB2 (G := G) (Gc := gAd G n ad) (fun q h => Nat.le_trans (Nat.le_add_right G.2.1 n) h) (va_runI (p := p) (As := []) (rest := [.ref (G.2.1 + n + 0)]) ⟨hx, hb, hml, hown, hts⟩ (c_X11 (G := gAd G n ad) (fun U h => hAO U h.2.2.1) (o := 0) (n := 1) (E := bup EZ 0 (.inr (14, zX11))) (by unfold bup; rw [if_pos rfl]) (by decide)) (cwI 0 hts gL_law_X11_init rfl rfl rfl (hts _ (by decide +kernel)) (hts _ (by decide +kernel)) (hts _ (by decide +kernel)) rfl (by decide) (by rw [hR9]; exact ⟨Nat.le_of_ble_eq_true rfl, Nat.le_of_ble_eq_true rfl⟩)) ⟨frameBlind_b, fun U hU hW => ⟨rfl, by rw [hU]; exact hB1, ?_⟩⟩ rfl rfl hl.1 rfl (lv_room (Nat.le_of_ble_eq_true rfl)) dL_law_9 ⟨by show k9 + 1 + 95 ≤ R.cells; omega, by show n9 + 18 + 4247 ≤ R.slots; omega⟩) hS1 (fun H2 locs2 hB2 hz2 hk2 hS2 => ?_)
  · have hK2 : Kst G U := Kst.warm hW (fun a h1 h2 => by rw [hU]; exact hS1.2.1 a h1 h2) hKK
    exact ⟨hK2.1, hK2.2.1, hK2.2.2.1, Kpm_at n ad hK2.2.2.2⟩
  · have hP2 : Pic (gAd G 0 ad) (I2, J) H2 := hPic H H2 hP (by rw [hB2.1, hz]) (fun q hq => by
      rw [hk2 q (by rw [z1]; omega) (by show ¬ (G.2.1 + n ≤ q); omega)]
      exact o1 q (by rw [← hz]; exact hq)) hB2
    exact k (k9 + 1 + 95) (n9 + 18 + 4247) (by omega) (by omega) H2 locs2 ls hP2 hS2 hl

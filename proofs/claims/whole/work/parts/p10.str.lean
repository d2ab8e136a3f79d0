/-! ===== words: strings of the class ===== -/
/-- the words: whose constant, its entry, its text, its letters, its number -/
def kWrd : List (String × Nat × String × List Int × Int) := [("ShareGraph$TextReader", 36, "vertex", [118, 101, 114, 116, 101, 120], 744050872), ("ShareGraph$TextReader", 45, "edge", [101, 100, 103, 101], 168165), ("ShareGraph$TextReader", 50, "parts", [112, 97, 114, 116, 115], 16829075), ("ShareGraph$TextReader", 55, "slack", [115, 108, 97, 99, 107], 20317291), ("ShareGraph$TextReader", 60, "credit", [99, 114, 101, 100, 105, 116], 119705908),
  ("ShareGraph$ScriptReader", 79, "shrink", [115, 104, 114, 105, 110, 107], 646522315), ("ShareGraph$ScriptReader", 85, "grow", [103, 114, 111, 119], 248311), ("ShareGraph$ScriptReader", 87, "move", [109, 111, 118, 101], 442053), ("ShareGraph$ScriptReader", 89, "step", [115, 116, 101, 112], 643248), ("ShareGraph$ScriptReader", 91, "steps", [115, 116, 101, 112, 115], 20583955), ("ShareGraph$ScriptReader", 93, "best", [98, 101, 115, 116], 71284), ("ShareGraph$ScriptReader", 95, "apart", [97, 112, 97, 114, 116], 1574484), ("ShareGraph$ScriptReader", 97, "credit", [99, 114, 101, 100, 105, 116], 119705908), ("ShareGraph$ScriptReader", 99, "repeat", [114, 101, 112, 101, 97, 116], 609752116)]
/-- a string of these letters stands at q, its bytes at t -/
def sF (G : KG) (q : Nat × Nat) (bs : List Int) (U : State) : Prop := va_O "java/lang/String" q.1 (KFr G) U U.heap ∧ va_OF "java/lang/String" "coder" "B" (.int (iZ 0)) q.1 (KFr G) U U.heap ∧ va_OF "java/lang/String" "value" "[B" (.ref q.2) q.1 (KFr G) U U.heap ∧ va_T .byte q.2 bs.length (fun j => .int (iZ (bs.getD j 0))) (KFr G) U U.heap
/-- what of the machine's own classes stands fast -/
def sJ (G : KG) (U : State) : Prop := va_Z "java/lang/String" "COMPACT_STRINGS" "Z" (.int (iZ 1)) (KFr G) U U.heap ∧ va_Zq "jdk/internal/util/Preconditions" "SIOOBE_FORMATTER" "Ljava/util/function/BiFunction;" (KFr G) U U.heap
def KSx (G : KG) : Prop := ∃ sd : Nat → Nat × Nat, ∀ U : State, G.1.2 U → sJ G U ∧ ∀ (i : Nat) (q : String × Nat × String × List Int × Int), kWrd[i]? = some q → vk_R q.1 q.2.1 q.2.2.1 (sd i).1 U ∧ sF G (sd i) q.2.2.2.1 U
/-- the letters of a word -/
def lets (bs : List Int) : Prop := bs.length ≤ 8 ∧ ∀ j, j < bs.length → 0 ≤ bs.getD j 0 ∧ bs.getD j 0 < 128
section WS
variable {G : KG} {X : KX} {nL : Nat} {Qs : State → Prop} {a b pc : Nat} {lv : List (Option Value)} {st : List Value} {I : Ii} {J : Jj} {cc : ByteArray} {own : String} {ret : Option FieldType} {Ts : List Cond}
theorem ws_gets (C : Fr G X cc nL own ret Ts) {Cn n d : String} {v : Value} {idx : Nat} (hZ : ∀ U : State, G.1.2 U → va_Z Cn n d v (KFr G) U U.heap) (hlk : Cond.fieldLink own idx Cn n d ∈ Ts) (dd : decode cc pc = .ok (.getstatic idx, 3)) (k : Wz G X nL Qs a b (pc + 3) lv (v :: st) I J) : Wz G X nL Qs a b pc lv st I J := by
  obtain ⟨p, e, R, s, m, args, below, meth, c⟩ := X
  obtain ⟨hx, hb, hml, hown, hts, hr, hlk9, hKK, hG, hlo⟩ := C
  intro k9 n9 hk9 hn9 H locs ls hP hS hl
  exact va_gets hx hb (hZ s hKK.2.2.1) hS hown (hts _ hlk) (fun x h => h) dd (k k9 n9 hk9 hn9 H locs ls hP hS hl)
theorem ws_getsq (C : Fr G X cc nL own ret Ts) {Cn n d : String} {idx : Nat} (hZ : ∀ U : State, G.1.2 U → va_Zq Cn n d (KFr G) U U.heap) (hlk : Cond.fieldLink own idx Cn n d ∈ Ts) (dd : decode cc pc = .ok (.getstatic idx, 3)) (k : ∀ v : Value, (v = .null ∨ ∃ t, v = .ref t) → Wz G X nL Qs a b (pc + 3) lv (v :: st) I J) : Wz G X nL Qs a b pc lv st I J := by
  have C' := C
  obtain ⟨p, e, R, s, m, args, below, meth, c⟩ := X
  obtain ⟨hx, hb, hml, hown, hts, hr, hlk9, hKK, hG, hlo⟩ := C
  intro k9 n9 hk9 hn9 H locs ls hP hS hl
  rcases hZ s hKK.2.2.1 with z | ⟨t, z⟩
  · exact va_gets hx hb z hS hown (hts _ hlk) (fun x h => h) dd (k _ (Or.inl rfl) k9 n9 hk9 hn9 H locs ls hP hS hl)
  · exact va_gets hx hb z hS hown (hts _ hlk) (fun x h => h) dd (k _ (Or.inr ⟨t, rfl⟩) k9 n9 hk9 hn9 H locs ls hP hS hl)
theorem ws_getf (C : Fr G X cc nL own ret Ts) {o n d : String} {v : Value} {q idx : Nat} (hE : ∀ U : State, G.1.2 U → va_OF o n d v q (KFr G) U U.heap) (hlk : Cond.fieldLink own idx o n d ∈ Ts) (dd : decode cc pc = .ok (.getfield idx, 3)) (k : Wz G X nL Qs a b (pc + 3) lv (v :: st) I J) : Wz G X nL Qs a b pc lv (.ref q :: st) I J := by
  obtain ⟨p, e, R, s, m, args, below, meth, c⟩ := X
  obtain ⟨hx, hb, hml, hown, hts, hr, hlk9, hKK, hG, hlo⟩ := C
  intro k9 n9 hk9 hn9 H locs ls hP hS hl
  exact vk_getf hx hb (hE s hKK.2.2.1) hS hown (hts _ hlk) (fun x h => h) dd (k k9 n9 hk9 hn9 H locs ls hP hS hl)
theorem iZ_nat {n : Nat} (h : n < 2147483648) : Int32.ofNat n = iZ (n : Int) := rfl
theorem ws_blen (C : Fr G X cc nL own ret Ts) {t N : Nat} {f : Nat → Value} (hT : ∀ U : State, G.1.2 U → va_T .byte t N f (KFr G) U U.heap) (hN : N < 2147483648) (dd : decode cc pc = .ok (.arraylength, 1)) (k : Wz G X nL Qs a b (pc + 1) lv (.int (iZ (N : Int)) :: st) I J) : Wz G X nL Qs a b pc lv (.ref t :: st) I J := by
  obtain ⟨p, e, R, s, m, args, below, meth, c⟩ := X
  obtain ⟨hx, hb, hml, hown, hts, hr, hlk9, hKK, hG, hlo⟩ := C
  intro k9 n9 hk9 hn9 H locs ls hP hS hl
  exact va_tlen hx hb (hT s hKK.2.2.1) hS (iZ_nat hN) dd (k k9 n9 hk9 hn9 H locs ls hP hS hl)
theorem ws_bald (C : Fr G X cc nL own ret Ts) {t N : Nat} {f : Nat → Value} {i : Nat} {v : Value} (hT : ∀ U : State, G.1.2 U → va_T .byte t N f (KFr G) U U.heap) (hi : i < N) (hN : N < 2147483648) (hv : f i = v) (dd : decode cc pc = .ok (.baload, 1)) (k : Wz G X nL Qs a b (pc + 1) lv (v :: st) I J) : Wz G X nL Qs a b pc lv (.int (iZ (i : Int)) :: .ref t :: st) I J := by
  obtain ⟨p, e, R, s, m, args, below, meth, c⟩ := X
  obtain ⟨hx, hb, hml, hown, hts, hr, hlk9, hKK, hG, hlo⟩ := C
  intro k9 n9 hk9 hn9 H locs ls hP hS hl
  have e0 : (iZ (i : Int)).toInt = (i : Int) := iZ_toInt (by omega)
  exact va_tb hx hb (hT s hKK.2.2.1) hS (vp_in_iff.mpr (by rw [e0]; omega)) (by rw [← hv]; congr 1; show ((iZ (i : Int)).toInt).toNat = i; rw [e0]; omega) dd (k k9 n9 hk9 hn9 H locs ls hP hS hl)
theorem ws_i2c (C : Fr G X cc nL own ret Ts) {x v : Int32} (hv : (x.toUInt32 % 65536).toInt32 = v) (dd : decode cc pc = .ok (.i2c, 1)) (k : Wz G X nL Qs a b (pc + 1) lv (.int v :: st) I J) : Wz G X nL Qs a b pc lv (.int x :: st) I J := by
  obtain ⟨p, e, R, s, m, args, below, meth, c⟩ := X
  obtain ⟨hx, hb, hml, hown, hts, hr, hlk9, hKK, hG, hlo⟩ := C
  intro k9 n9 hk9 hn9 H locs ls hP hS hl
  exact lv_i2c hx hb dd hv (k k9 n9 hk9 hn9 H locs ls hP hS hl)
theorem ws_nret {ty : FieldType} {Q : Option Value → Sg → Prop} (C : Fr G X cc nL own (some ty) Ts) {x : Int32} (hn : narrow ty (.int x) = .int x) (dd : decode cc pc = .ok (.ireturn, 1)) (hq : Q (some (.int x)) (I, J)) : Wz G X nL (QsU G X Q) a b pc lv [.int x] I J := by
  obtain ⟨p, e, R, s, m, args, below, meth, c⟩ := X
  obtain ⟨hx, hb, hml, hown, hts, hr, hlk, hKK, hG, hlo⟩ := C
  intro k9 n9 hk9 hn9 H locs ls hP hS hl
  refine mq_widen (k2 := R.cells) (n2 := R.slots) (by omega) (by omega) ?_
  exact W.zret hx hb hr hn (fun t ht hW => ⟨⟨_, (I, J), rfl, hq, by rw [ht]; exact hP⟩, hS.F ht⟩) hS.2.2 dd hlk
theorem ws_ldc (C : Fr G X cc nL own ret Ts) {tx : String} {idx q : Nat} (hZ : ∀ U : State, G.1.2 U → vk_R own idx tx q U) (dd : decode cc pc = .ok (.ldc idx, 2)) (k : Wz G X nL Qs a b (pc + 2) lv (.ref q :: st) I J) : Wz G X nL Qs a b pc lv st I J := by
  obtain ⟨p, e, R, s, m, args, below, meth, c⟩ := X
  obtain ⟨hx, hb, hml, hown, hts, hr, hlk9, hKK, hG, hlo⟩ := C
  intro k9 n9 hk9 hn9 H locs ls hP hS hl
  exact va_ldcS hx hb hown (hZ s hKK.2.2.1) dd (k k9 n9 hk9 hn9 H locs ls hP hS hl)
/-- a call of a string -/
theorem ws_callV (C : Fr G X cc nL own ret Ts) {y : MethodName} {bytes : ByteArray} {maxL idx q : Nat} {yret : Option FieldType} {ws ws' : List Cond} {rm : Room} {As st0 : List Value} {Cn : String} {Q : Option Value → Sg → Prop} (hq : ∀ U : State, G.1.2 U → va_O Cn q (KFr G) U U.heap) (h : Ctr G y ws rm (.ref q :: As) (I, J) Q) (n : Nat) (g : GoodIn Ts (wsV own idx Cn y ws)) (hw : ws = Cond.code y bytes maxL yret :: ws') (hd : y.cls = Cn ∧ y.cls ≠ "java/lang/invoke/MethodHandle" ∧ y.cls ≠ "java/lang/invoke/VarHandle" ∧ (parseMethodDescriptor y.desc).map (fun d => d.parameters.length) = some n) (hR : rm.frames + 1 ≤ (KR X).frames ∧ 8 + (maxL + 11) + rm.locals ≤ (KR X).locals) (hn : As.length = n) (hc : (st.map fun v => v.category).sum ≤ 8) (hca : rm.cells = 0) (hcb : rm.slots = 0) (hst : st0 = As.reverse ++ .ref q :: st) (d : decode cc pc = .ok (.invokevirtual idx, 3)) (k : ∀ r S', Q r S' → Wm G X nL Qs a b (pc + 3) lv (r.toList ++ st) S') : Wz G X nL Qs a b pc lv st0 I J := by
  subst hst
  obtain ⟨p, e, R, s, m, args, below, meth, c⟩ := X
  obtain ⟨hx, hb, hml, hown, hts, hr, hlk, hKK, hG, hlo⟩ := C
  have hK := hKK.1
  intro k9 n9 hk9 hn9 H locs ls hP hS hl
  have hf : k9 + rm.cells ≤ R.cells ∧ n9 + rm.slots ≤ R.slots := by constructor <;> omega
  have hR : rm.frames + 1 ≤ R.frames ∧ 8 + (maxL + 11) + rm.locals ≤ R.locals := hR
  have hrc : ∃ cellB : Cell, H[q]? = some cellB ∧ cellB.vm.isStatics = false ∧ s.vm.findClass Cn = some cellB.cls := by
    obtain ⟨cell, h1, h2, h3, -⟩ := (hq s hKK.2.2.1).kept hS.2.1
    exact ⟨cell, h1, h2, h3⟩
  refine va_callQ (va_runV (p := p) (As := As) (rest := st) ⟨hx, hb, hml, hown, hts⟩ h (cwV n hts g hw rfl rfl hd hR) ⟨frameBlind_pc, hrc, kpre hP hKK hlo hS⟩ rfl hn hl.1 rfl (lv_room hc) d hf) hS (fun r S' H1 locs1 hq hP1 hS1 => ?_)
  exact k r S' hq (k9 + rm.cells) (n9 + rm.slots) (by omega) (by omega) H1 locs1 ls hP1 hS1 hl
end WS
theorem iand255 : ∀ b : Fin 128, (iZ (b.val : Int)) &&& (iZ 255) = iZ (b.val : Int) := by decide +kernel
theorem i2c128 : ∀ b : Fin 128, ((iZ (b.val : Int)).toUInt32 % 65536).toInt32 = iZ (b.val : Int) := by decide +kernel
theorem nar0 : ∀ b : Fin 128, (iZ (b.val : Int)).toUInt32.toUInt16.toUInt32.toInt32 = iZ (b.val : Int) := by decide +kernel
theorem nar128 : ∀ b : Fin 128, narrow .char (.int (iZ (b.val : Int))) = .int (iZ (b.val : Int)) := fun b => congrArg Value.int (nar0 b)
theorem ishr8 : ∀ n : Fin 9, (iZ (n.val : Int)) >>> ((iZ 0) &&& 31) = iZ (n.val : Int) := by decide +kernel
/-- an answer, and the store as before -/
def QE (v : Value) (I : Ii) (J : Jj) : Option Value → Sg → Prop := fun r S' => r = some v ∧ S' = (I, J)
def QN (I : Ii) (J : Jj) : Option Value → Sg → Prop := fun r S' => r = none ∧ S' = (I, J)
section JS
variable {G : KG} {I : Ii} {J : Jj} {q : Nat × Nat} {bs : List Int}
theorem k_J0_coder (hG : Kok G) (hJ : ∀ U : State, G.1.2 U → sJ G U) (hF : ∀ U : State, G.1.2 U → sF G q bs U) : Ctr G yJ0_coder_7d493 wsJ0_coder_7d493 { frames := 0, cells := 0, slots := 0, locals := 0 } [.ref q.1] (I, J) (QE (.int (iZ 0)) I J) := by
  refine Ctr.ofZ (cc := cJ0_coder_7d493) (nL := 1) (ret := (some .byte)) [some (.ref q.1)] hG (by decide +kernel) rfl (Nat.le_of_ble_eq_true rfl) (Nat.le_of_ble_eq_true rfl) (by simp [lvA, lv_args, Value.category]) ?_
  intro X hX C
  refine ws_gets C (fun U hU => (hJ U hU).1) (by decide +kernel) dJ0_coder_7d493_0 ?_
  refine wz_if_eq C (tgt := 13) (by decide) dJ0_coder_7d493_3 (by decide) (fun c => absurd c (by decide)) (fun c => ?_)
  refine wz_aload_n C rfl rfl dJ0_coder_7d493_6 ?_
  refine ws_getf C (fun U hU => (hF U hU).2.1) (by decide +kernel) dJ0_coder_7d493_7 ?_
  refine wz_goto C dJ0_coder_7d493_10 (tgt := 14) (by decide) ?_
  exact ws_nret C (by decide) dJ0_coder_7d493_14 ⟨rfl, rfl⟩
theorem k_J0_isLatin1 (hG : Kok G) (hJ : ∀ U : State, G.1.2 U → sJ G U) (hF : ∀ U : State, G.1.2 U → sF G q bs U) : Ctr G yJ0_isLatin1_aae02 wsJ0_isLatin1_aae02 { frames := 0, cells := 0, slots := 0, locals := 0 } [.ref q.1] (I, J) (QE (.int (iZ 1)) I J) := by
  refine Ctr.ofZ (cc := cJ0_isLatin1_aae02) (nL := 1) (ret := (some .boolean)) [some (.ref q.1)] hG (by decide +kernel) rfl (Nat.le_of_ble_eq_true rfl) (Nat.le_of_ble_eq_true rfl) (by simp [lvA, lv_args, Value.category]) ?_
  intro X hX C
  refine ws_gets C (fun U hU => (hJ U hU).1) (by decide +kernel) dJ0_isLatin1_aae02_0 ?_
  refine wz_if_eq C (tgt := 17) (by decide) dJ0_isLatin1_aae02_3 (by decide) (fun c => absurd c (by decide)) (fun c => ?_)
  refine wz_aload_n C rfl rfl dJ0_isLatin1_aae02_6 ?_
  refine ws_getf C (fun U hU => (hF U hU).2.1) (by decide +kernel) dJ0_isLatin1_aae02_7 ?_
  refine wz_if_ne C (tgt := 17) (by decide) dJ0_isLatin1_aae02_10 (by decide) (fun c => absurd rfl c) (fun c => ?_)
  refine wz_iconst C dJ0_isLatin1_aae02_13 ?_
  refine wz_goto C dJ0_isLatin1_aae02_14 (tgt := 18) (by decide) ?_
  exact wz_zret C (Or.inr rfl) dJ0_isLatin1_aae02_18 ⟨rfl, rfl⟩
theorem k_J0_length (hG : Kok G) (hb : lets bs) (hJ : ∀ U : State, G.1.2 U → sJ G U) (hF : ∀ U : State, G.1.2 U → sF G q bs U) : Ctr G yJ0_length_8abf5 wsJ0_length_8abf5 { frames := 1, cells := 0, slots := 0, locals := 30 } [.ref q.1] (I, J) (QE (.int (iZ (bs.length : Int))) I J) := by
  have h8 := hb.1
  refine Ctr.ofZ (cc := cJ0_length_8abf5) (nL := 1) (ret := (some .int)) [some (.ref q.1)] hG (by decide +kernel) rfl (Nat.le_of_ble_eq_true rfl) (Nat.le_of_ble_eq_true rfl) (by simp [lvA, lv_args, Value.category]) ?_
  intro X hX C
  refine wz_aload_n C rfl rfl dJ0_length_8abf5_0 ?_
  refine ws_getf C (fun U hU => (hF U hU).2.2.1) (by decide +kernel) dJ0_length_8abf5_1 ?_
  refine ws_blen C (fun U hU => (hF U hU).2.2.2) (by omega) dJ0_length_8abf5_4 ?_
  refine wz_aload_n C rfl rfl dJ0_length_8abf5_5 ?_
  refine ws_callV C (As := []) (st := [.int (iZ (bs.length : Int))]) (fun U hU => (hF U hU).1) (k_J0_coder hG hJ hF) 0 gJ0_length_8abf5_J0_coder_7d493 rfl (by decide +kernel) (by rw [hX]; exact ⟨Nat.le_of_ble_eq_true rfl, Nat.le_of_ble_eq_true rfl⟩) rfl (Nat.le_of_ble_eq_true rfl) rfl rfl rfl dJ0_length_8abf5_6 (fun r S' hr => ?_)
  obtain ⟨rfl, rfl⟩ := hr
  refine wm_ishr C dJ0_length_8abf5_9 ?_
  rw [ishr8 ⟨bs.length, by omega⟩]
  exact wz_iret C dJ0_length_8abf5_10 ⟨rfl, rfl⟩
theorem k_J3_checkIndex {x n : Int} {v : Value} (hG : Kok G) (hv : v = .null ∨ ∃ t, v = .ref t) (hx : 0 ≤ x ∧ x < n) (hn : n ≤ 8) : Ctr G yJ3_checkIndex_8e157 wsJ3_checkIndex_8e157 { frames := 0, cells := 0, slots := 0, locals := 0 } [.int (iZ x), .int (iZ n), v] (I, J) (QE (.int (iZ x)) I J) := by
  have hl : (lg_sl [Value.int (iZ x), .int (iZ n), v]).length ≤ 3 := by rcases hv with rfl | ⟨t, rfl⟩ <;> exact Nat.le_of_ble_eq_true rfl
  refine Ctr.ofZ (cc := cJ3_checkIndex_8e157) (nL := 3) (ret := (some .int)) [some (.int (iZ x)), some (.int (iZ n)), none] hG (by decide +kernel) rfl hl (Nat.le_of_ble_eq_true rfl) (by simp [lvA, lv_args, Value.category]) ?_
  intro X hX C
  refine wz_iload_n C rfl rfl dJ3_checkIndex_8e157_0 ?_
  refine wz_if_lt C (tgt := 9) (by omega) dJ3_checkIndex_8e157_1 (by decide) (fun c => by omega) (fun c => ?_)
  refine wz_iload_n C rfl rfl dJ3_checkIndex_8e157_4 ?_
  refine wz_iload_n C rfl rfl dJ3_checkIndex_8e157_5 ?_
  refine wz_icmp_lt C (tgt := 16) (by omega) (by omega) dJ3_checkIndex_8e157_6 (by decide) (fun c => ?_) (fun c => absurd hx.2 c)
  refine wz_iload_n C rfl rfl dJ3_checkIndex_8e157_16 ?_
  exact wz_iret C dJ3_checkIndex_8e157_17 ⟨rfl, rfl⟩
theorem k_J0_checkIndex {x n : Int} (hG : Kok G) (hJ : ∀ U : State, G.1.2 U → sJ G U) (hx : 0 ≤ x ∧ x < n) (hn : n ≤ 8) : Ctr G yJ0_checkIndex_df160 wsJ0_checkIndex_df160 { frames := 1, cells := 0, slots := 0, locals := 30 } [.int (iZ x), .int (iZ n)] (I, J) (QN I J) := by
  refine Ctr.ofZ (cc := cJ0_checkIndex_df160) (nL := 2) (ret := none) [some (.int (iZ x)), some (.int (iZ n))] hG (by decide +kernel) rfl (Nat.le_of_ble_eq_true rfl) (Nat.le_of_ble_eq_true rfl) (by simp [lvA, lv_args, Value.category]) ?_
  intro X hX C
  refine wz_iload_n C rfl rfl dJ0_checkIndex_df160_0 ?_
  refine wz_iload_n C rfl rfl dJ0_checkIndex_df160_1 ?_
  refine ws_getsq C (fun U hU => (hJ U hU).2) (by decide +kernel) dJ0_checkIndex_df160_2 (fun v hv => ?_)
  refine wm_callSo C (As := [.int (iZ x), .int (iZ n), v]) (st := []) (a' := 0) (b' := 0) (k_J3_checkIndex hG hv hx hn) 3 (goodIn_wsS gJ0_checkIndex_df160_J3_checkIndex_8e157) (by decide +kernel) (by decide +kernel) (by decide +kernel) rfl (by decide +kernel) (by rw [hX]; exact ⟨Nat.le_of_ble_eq_true rfl, Nat.le_of_ble_eq_true rfl⟩) rfl (Nat.le_of_ble_eq_true rfl) rfl rfl rfl dJ0_checkIndex_df160_5 (fun r S' hr => ?_)
  obtain ⟨rfl, rfl⟩ := hr
  refine wz_pop C rfl dJ0_checkIndex_df160_8 ?_
  exact wz_vret C dJ0_checkIndex_df160_9 ⟨rfl, rfl⟩
theorem k_J1_charAt {i : Nat} (hG : Kok G) (hb : lets bs) (hi : i < bs.length) (hJ : ∀ U : State, G.1.2 U → sJ G U) (hF : ∀ U : State, G.1.2 U → sF G q bs U) : Ctr G yJ1_charAt_3b067 wsJ1_charAt_3b067 { frames := 2, cells := 0, slots := 0, locals := 60 } [.ref q.2, .int (iZ (i : Int))] (I, J) (QE (.int (iZ (bs.getD i 0))) I J) := by
  have h8 := hb.1
  obtain ⟨c0, c1⟩ := hb.2 i hi
  have ce : ((⟨(bs.getD i 0).toNat, by omega⟩ : Fin 128).val : Int) = bs.getD i 0 := by show (((bs.getD i 0).toNat : Nat) : Int) = _; omega
  have e1 := iand255 ⟨(bs.getD i 0).toNat, by omega⟩
  have e2 := i2c128 ⟨(bs.getD i 0).toNat, by omega⟩
  have e3 := nar128 ⟨(bs.getD i 0).toNat, by omega⟩
  rw [ce] at e1 e2 e3
  refine Ctr.ofZ (cc := cJ1_charAt_3b067) (nL := 2) (ret := (some .char)) [some (.ref q.2), some (.int (iZ (i : Int)))] hG (by decide +kernel) rfl (Nat.le_of_ble_eq_true rfl) (Nat.le_of_ble_eq_true rfl) (by simp [lvA, lv_args, Value.category]) ?_
  intro X hX C
  refine wz_iload_n C rfl rfl dJ1_charAt_3b067_0 ?_
  refine wz_aload_n C rfl rfl dJ1_charAt_3b067_1 ?_
  refine ws_blen C (fun U hU => (hF U hU).2.2.2) (by omega) dJ1_charAt_3b067_2 ?_
  refine wm_callSo C (As := [.int (iZ (i : Int)), .int (iZ (bs.length : Int))]) (st := []) (a' := 0) (b' := 0) (k_J0_checkIndex hG hJ (x := (i : Int)) (n := (bs.length : Int)) (by omega) (by omega)) 2 (goodIn_wsS gJ1_charAt_3b067_J0_checkIndex_df160) (by decide +kernel) (by decide +kernel) (by decide +kernel) rfl (by decide +kernel) (by rw [hX]; exact ⟨Nat.le_of_ble_eq_true rfl, Nat.le_of_ble_eq_true rfl⟩) rfl (Nat.le_of_ble_eq_true rfl) rfl rfl rfl dJ1_charAt_3b067_3 (fun r S' hr => ?_)
  obtain ⟨rfl, rfl⟩ := hr
  refine wz_aload_n C rfl rfl dJ1_charAt_3b067_6 ?_
  refine wz_iload_n C rfl rfl dJ1_charAt_3b067_7 ?_
  refine ws_bald C (fun U hU => (hF U hU).2.2.2) hi (by omega) rfl dJ1_charAt_3b067_8 ?_
  refine wz_sipush C (by decide) dJ1_charAt_3b067_9 ?_
  refine wz_iandG C e1 dJ1_charAt_3b067_12 ?_
  refine ws_i2c C e2 dJ1_charAt_3b067_13 ?_
  exact ws_nret C e3 dJ1_charAt_3b067_14 ⟨rfl, rfl⟩
theorem k_J0_charAt {i : Nat} (hG : Kok G) (hb : lets bs) (hi : i < bs.length) (hJ : ∀ U : State, G.1.2 U → sJ G U) (hF : ∀ U : State, G.1.2 U → sF G q bs U) : Ctr G yJ0_charAt_5068e wsJ0_charAt_5068e { frames := 3, cells := 0, slots := 0, locals := 90 } [.ref q.1, .int (iZ (i : Int))] (I, J) (QE (.int (iZ (bs.getD i 0))) I J) := by
  obtain ⟨c0, c1⟩ := hb.2 i hi
  have ce : ((⟨(bs.getD i 0).toNat, by omega⟩ : Fin 128).val : Int) = bs.getD i 0 := by show (((bs.getD i 0).toNat : Nat) : Int) = _; omega
  have e3 := nar128 ⟨(bs.getD i 0).toNat, by omega⟩
  rw [ce] at e3
  refine Ctr.ofZ (cc := cJ0_charAt_5068e) (nL := 2) (ret := (some .char)) [some (.ref q.1), some (.int (iZ (i : Int)))] hG (by decide +kernel) rfl (Nat.le_of_ble_eq_true rfl) (Nat.le_of_ble_eq_true rfl) (by simp [lvA, lv_args, Value.category]) ?_
  intro X hX C
  refine wz_aload_n C rfl rfl dJ0_charAt_5068e_0 ?_
  refine ws_callV C (As := []) (st := []) (fun U hU => (hF U hU).1) (k_J0_isLatin1 hG hJ hF) 0 gJ0_charAt_5068e_J0_isLatin1_aae02 rfl (by decide +kernel) (by rw [hX]; exact ⟨Nat.le_of_ble_eq_true rfl, Nat.le_of_ble_eq_true rfl⟩) rfl (Nat.le_of_ble_eq_true rfl) rfl rfl rfl dJ0_charAt_5068e_1 (fun r S' hr => ?_)
  obtain ⟨rfl, rfl⟩ := hr
  refine wz_if_eq C (tgt := 16) (by decide) dJ0_charAt_5068e_4 (by decide) (fun c => absurd c (by decide)) (fun c => ?_)
  refine wz_aload_n C rfl rfl dJ0_charAt_5068e_7 ?_
  refine ws_getf C (fun U hU => (hF U hU).2.2.1) (by decide +kernel) dJ0_charAt_5068e_8 ?_
  refine wz_iload_n C rfl rfl dJ0_charAt_5068e_11 ?_
  refine wm_callSo C (As := [.ref q.2, .int (iZ (i : Int))]) (st := []) (a' := 0) (b' := 0) (k_J1_charAt hG hb hi hJ hF) 2 (goodIn_wsS gJ0_charAt_5068e_J1_charAt_3b067) (by decide +kernel) (by decide +kernel) (by decide +kernel) rfl (by decide +kernel) (by rw [hX]; exact ⟨Nat.le_of_ble_eq_true rfl, Nat.le_of_ble_eq_true rfl⟩) rfl (Nat.le_of_ble_eq_true rfl) rfl rfl rfl dJ0_charAt_5068e_12 (fun r S' hr => ?_)
  obtain ⟨rfl, rfl⟩ := hr
  exact ws_nret C e3 dJ0_charAt_5068e_15 ⟨rfl, rfl⟩
end JS

/-! ===== the machine's own objects: their places ===== -/
theorem KWx.cs {G : KG} (h : KWx G) : ∀ U : State, G.1.2 U → va_Z "java/lang/String" "COMPACT_STRINGS" "Z" (.int (iZ 1)) (KFr G) U U.heap := by
  obtain ⟨mi, h⟩ := h
  exact fun U hU => (h U hU).1.1
theorem KWx.sf {G : KG} (h : KWx G) : ∀ U : State, G.1.2 U → va_Zq "jdk/internal/util/Preconditions" "SIOOBE_FORMATTER" "Ljava/util/function/BiFunction;" (KFr G) U U.heap := by
  obtain ⟨mi, h⟩ := h
  exact fun U hU => (h U hU).1.2
theorem KWx.dt {G : KG} (h : KWx G) : ∀ U : State, G.1.2 U → va_Z "java/lang/Integer" "DigitTens" "[B" (.ref (kadr G 932)) (KFr G) U U.heap := by
  obtain ⟨mi, h⟩ := h
  exact fun U hU => (h U hU).2.2.1.1.1
theorem KWx.do {G : KG} (h : KWx G) : ∀ U : State, G.1.2 U → va_Z "java/lang/Integer" "DigitOnes" "[B" (.ref (kadr G 933)) (KFr G) U U.heap := by
  obtain ⟨mi, h⟩ := h
  exact fun U hU => (h U hU).2.2.1.2.1
theorem KWx.de {G : KG} (h : KWx G) : ∀ U : State, G.1.2 U → va_Z "java/util/ArrayList" "DEFAULTCAPACITY_EMPTY_ELEMENTDATA" "[Ljava/lang/Object;" (.ref (kadr G 930)) (KFr G) U U.heap := by
  obtain ⟨mi, h⟩ := h
  exact fun U hU => (h U hU).2.2.2.1.1
theorem KWx.fadd {G : KG} (h : KWx G) : ∀ U : State, G.1.2 U → va_Fw RJx4a65c ⟨"java/util/List", "add", "(Ljava/lang/Object;)Z"⟩ yJx4a65c_add_9ea2d U := by
  obtain ⟨mi, h⟩ := h
  exact fun U hU => (h U hU).2.2.2.2.2.1.1
theorem KWx.fsize {G : KG} (h : KWx G) : ∀ U : State, G.1.2 U → va_Fw RJx4a65c ⟨"java/util/List", "size", "()I"⟩ yJx4a65c_size_8abf5 U := by
  obtain ⟨mi, h⟩ := h
  exact fun U hU => (h U hU).2.2.2.2.2.1.2.1
theorem KWx.fget {G : KG} (h : KWx G) : ∀ U : State, G.1.2 U → va_Fw RJx4a65c ⟨"java/util/List", "get", "(I)Ljava/lang/Object;"⟩ yJx4a65c_get_915e3 U := by
  obtain ⟨mi, h⟩ := h
  exact fun U hU => (h U hU).2.2.2.2.2.1.2.2.1
theorem KWx.frem {G : KG} (h : KWx G) : ∀ U : State, G.1.2 U → va_Fw RJx4a65c ⟨"java/util/List", "remove", "(I)Ljava/lang/Object;"⟩ yJx4a65c_remove_915e3 U := by
  obtain ⟨mi, h⟩ := h
  exact fun U hU => (h U hU).2.2.2.2.2.1.2.2.2
/-- the lists of the world -/
def isAL (k : Nat) : Prop := k = 1020 ∨ k = 1021
theorem sAL_0 {G : KG} {S : Sg} {k : Nat} (h : isAL k) : sOG G S k 0 2 0 := by rcases h with rfl | rfl <;> exact sOw rfl (by decide)
theorem sAL_1 {G : KG} {S : Sg} {k : Nat} (h : isAL k) : sOG G S k 1 2 5000 := by rcases h with rfl | rfl <;> exact sOw rfl (by decide)
theorem sAL_2 {G : KG} {S : Sg} {k : Nat} (h : isAL k) : sOG G S k 2 2 0 := by rcases h with rfl | rfl <;> exact sOw rfl (by decide)
theorem spAL {G : KG} {S : Sg} {k : Nat} (h : isAL k) : shK G S k = some (.inl (2, [0, 5000, 0])) := by rcases h with rfl | rfl <;> exact shK_w (by decide) rfl
theorem sRw_tab {G : KG} {S : Sg} {z : Int} (h : 0 ≤ z ∧ z < 14) : sRG G S (1006 + z.toNat) 0 14 := by
  have h2 : ∀ j : Nat, j < 14 → shR (1006 + j) = some (0, 14) := by decide
  exact sRw (h2 z.toNat (by omega)) (by omega)
theorem dfJ4 : ∀ j, j < 4 → defaultValue (tyJ4 j) = vp_V [.null, .int (iZ 0), .int (iZ 0), .int (iZ 0)] j := by
  intro j hj
  match j, hj with
  | 0, _ => rfl
  | 1, _ => rfl
  | 2, _ => rfl
  | 3, _ => rfl
theorem dfJ0 : ∀ j, j < 4 → defaultValue (tyJ0 j) = vp_V [.null, .int (iZ 0), .int (iZ 0), .int (iZ 0)] j := by
  intro j hj
  match j, hj with
  | 0, _ => rfl
  | 1, _ => rfl
  | 2, _ => rfl
  | 3, _ => rfl
section WYF
variable {G : KG} {X : KX} {nL : Nat} {Qs : State → Prop} {a b pc : Nat} {lv : List (Option Value)} {st : List Value} {I : Ii} {J : Jj} {cc : ByteArray} {own : String} {ret : Option FieldType} {Ts : List Cond}
theorem sB_0 (hs : SHD G I) (hl : LTP I) {o : Nat} (g : dS I o = 6) : sOG G (I, J) o 0 1 5000 := ⟨_, sK6 hs hl g, rfl⟩
theorem sB_1 (hs : SHD G I) (hl : LTP I) {o : Nat} (g : dS I o = 6) : sOG G (I, J) o 1 1 0 := ⟨_, sK6 hs hl g, rfl⟩
theorem sB_2 (hs : SHD G I) (hl : LTP I) {o : Nat} (g : dS I o = 6) : sOG G (I, J) o 2 1 0 := ⟨_, sK6 hs hl g, rfl⟩
theorem sB_3 (hs : SHD G I) (hl : LTP I) {o : Nat} (g : dS I o = 6) : sOG G (I, J) o 3 1 0 := ⟨_, sK6 hs hl g, rfl⟩
/-- fields of a text under way -/
theorem wy_getB0 (C : Fr G X cc nL own ret Ts) {idx o : Nat} (f : FLk Ts own idx 1 0) (g : dS I o = 6 ∧ 0 ≤ I o 0) (d : decode cc pc = .ok (.getfield idx, 3)) (k : Wz G X nL Qs a b (pc + 3) lv (.ref (kadr G (I o 0).toNat) :: st) I J) : Wz G X nL Qs a b pc lv (.ref (kadr G o) :: st) I J :=
  Wz.know (fun hs hl => wy_getM C f (sB_0 hs hl g.1) g.2 d k)
theorem wy_getB1 (C : Fr G X cc nL own ret Ts) {idx o : Nat} (f : FLk Ts own idx 1 1) (g : dS I o = 6) (d : decode cc pc = .ok (.getfield idx, 3)) (k : Wz G X nL Qs a b (pc + 3) lv (.int (iZ (I o 1)) :: st) I J) : Wz G X nL Qs a b pc lv (.ref (kadr G o) :: st) I J :=
  Wz.know (fun hs hl => wz_getI C rfl f (sB_1 hs hl g) d k)
theorem wy_getB3 (C : Fr G X cc nL own ret Ts) {idx o : Nat} (f : FLk Ts own idx 1 3) (g : dS I o = 6) (d : decode cc pc = .ok (.getfield idx, 3)) (k : Wz G X nL Qs a b (pc + 3) lv (.int (iZ (I o 3)) :: st) I J) : Wz G X nL Qs a b pc lv (.ref (kadr G o) :: st) I J :=
  Wz.know (fun hs hl => wz_getI C rfl f (sB_3 hs hl g) d k)
theorem wy_putB0 (C : Fr G X cc nL own ret Ts) {idx o j : Nat} (f : FLk Ts own idx 1 0) (fp : FPk 1 0 (.array .byte)) (g : dS I o = 6) (d : decode cc pc = .ok (.putfield idx, 3)) (k : ∀ I2 : Ii, I2 = up2 I o 0 (j : Int) → Wz G X nL Qs a b (pc + 3) lv st I2 J) : Wz G X nL Qs a b pc lv (.ref (kadr G j) :: .ref (kadr G o) :: st) I J :=
  Wz.know (fun hs hl => wy_putM C f fp ⟨rfl, rfl⟩ (sB_0 hs hl g) d k)
theorem wy_putB3 (C : Fr G X cc nL own ret Ts) {idx o : Nat} {x : Int} (f : FLk Ts own idx 1 3) (fp : FPk 1 3 .int) (g : dS I o = 6) (d : decode cc pc = .ok (.putfield idx, 3)) (k : ∀ I2 : Ii, I2 = up2 I o 3 x → Wz G X nL Qs a b (pc + 3) lv st I2 J) : Wz G X nL Qs a b pc lv (.int (iZ x) :: .ref (kadr G o) :: st) I J :=
  Wz.know (fun hs hl => wd_putI C f fp (sB_3 hs hl g) d k)
theorem wy_putB1 (C : Fr G X cc nL own ret Ts) {idx o : Nat} {x : Int} (f : FLk Ts own idx 1 1) (fp : FPk 1 1 .byte) (g : dS I o = 6 ∧ 0 ≤ x ∧ x < 128) (d : decode cc pc = .ok (.putfield idx, 3)) (k : ∀ I2 : Ii, I2 = up2 I o 1 x → Wz G X nL Qs a b (pc + 3) lv st I2 J) : Wz G X nL Qs a b pc lv (.int (iZ x) :: .ref (kadr G o) :: st) I J :=
  Wz.know (fun hs hl => wm_putI (S := (I, J)) C f (sB_1 hs hl g.1) (fun C9 T N h => (fp C9 T N h).1) (fun C9 T N h => ⟨.byte, (fp C9 T N h).2, nar7 .byte (Or.inr rfl) g.2, fitB g.2⟩) d (k _ rfl))
/-- the final fields of a text, in its constructor -/
theorem wy_putS0 (C : Fr G X cc nL own ret Ts) (hN : KN X = "<init>") {idx o j : Nat} (f : FLk Ts own idx 0 0) (fq : FQk 0 0 own (.array .byte)) (g : dS I o = 5 ∧ 1022 ≤ o) (d : decode cc pc = .ok (.putfield idx, 3)) (k : ∀ I2 : Ii, I2 = up2 I o 0 (j : Int) → Wz G X nL Qs a b (pc + 3) lv st I2 J) : Wz G X nL Qs a b pc lv (.ref (kadr G j) :: .ref (kadr G o) :: st) I J :=
  wy_putF C hN f fq rfl rfl (kd := 5000) ⟨_, sK5 g.1 g.2, rfl⟩ (by
    rw [fldv_M]
    show refZ G.2.2.2.2 (up2 I o 0 (j : Int) o 0) = _
    rw [up2_self]
    unfold refZ
    rw [if_neg (by omega), Int.toNat_natCast]) d k
theorem wy_putS1 (C : Fr G X cc nL own ret Ts) (hN : KN X = "<init>") {idx o : Nat} {x : Int} (f : FLk Ts own idx 0 1) (fq : FQk 0 1 own .byte) (g : (dS I o = 5 ∧ 1022 ≤ o) ∧ 0 ≤ x ∧ x < 128) (d : decode cc pc = .ok (.putfield idx, 3)) (k : ∀ I2 : Ii, I2 = up2 I o 1 x → Wz G X nL Qs a b (pc + 3) lv st I2 J) : Wz G X nL Qs a b pc lv (.int (iZ x) :: .ref (kadr G o) :: st) I J :=
  wy_putF C hN f fq (nar7 .byte (Or.inr rfl) g.2) (fitB g.2) (kd := 0) ⟨_, sK5 g.1.1 g.1.2, rfl⟩ (by
    show Value.int (iZ (up2 I o 1 x o 1)) = _
    rw [up2_self]) d k
theorem wy_putM1 (C : Fr G X cc nL own ret Ts) {idx o j : Nat} (f : FLk Ts own idx 2 1) (fp : FPk 2 1 (.array (.object "java/lang/Object"))) (g : isAL o) (d : decode cc pc = .ok (.putfield idx, 3)) (k : ∀ I2 : Ii, I2 = up2 I o 1 (j : Int) → Wz G X nL Qs a b (pc + 3) lv st I2 J) : Wz G X nL Qs a b pc lv (.ref (kadr G j) :: .ref (kadr G o) :: st) I J := wy_putM C f fp ⟨rfl, rfl⟩ (sAL_1 g) d k
theorem wy_putT (C : Fr G X cc nL own ret Ts) {idx j : Nat} (f : FLk Ts own idx 15 12) (fp : FPk 15 12 (.object "java/lang/String")) (d : decode cc pc = .ok (.putfield idx, 3)) (k : ∀ I2 : Ii, I2 = up2 I 1000 12 (j : Int) → Wz G X nL Qs a b (pc + 3) lv st I2 J) : Wz G X nL Qs a b pc lv (.ref (kadr G j) :: .ref (kadr G 1000) :: st) I J := wy_putM C f fp ⟨rfl, rfl⟩ (sOw rfl (by decide)) d k
end WYF
theorem nwI_old {I : Ii} {t z : Int} {d : Nat → Int} {k : Nat} (hN : 1022 ≤ I 999 0 ∧ I 999 0 ≤ 900000) (hk : (k : Int) < I 999 0) (h9 : k ≠ 999) : nwI I t z d k = I k ∧ nwI I t z d (1000000 + k) = I (1000000 + k) := ⟨nwI_o h9 (by omega) (by omega), nwI_o (by omega) (by omega) (by omega)⟩
/-! ===== contracts by hand: bounds, the script, a longer row of objects ===== -/
def wp_J3_checkIndex_8e157 (l0 l1 : Int) (I : Ii) (J : Jj) (Q : Int → Ii → Jj → Prop) : Prop := ((0 ≤ l0 ∧ l0 < l1) ∧ l1 < 2147483648) ∧ Q l0 I J
def wp_J0_checkIndex_df160 (l0 l1 : Int) (I : Ii) (J : Jj) (Q : Ii → Jj → Prop) : Prop := ((0 ≤ l0 ∧ l0 < l1) ∧ l1 < 2147483648) ∧ Q I J
def wp_J15_checkIndex_7cf53 (l0 l1 : Int) (I : Ii) (J : Jj) (Q : Int → Ii → Jj → Prop) : Prop := ((0 ≤ l0 ∧ l0 < l1) ∧ l1 < 2147483648) ∧ Q l0 I J
/-- the numbers that the law reads -/
def clZ (sL : Nat) (xs : Nat → Int) (k : Int) : Int := if k < (sL : Int) then xs k.toNat else 1664525 * k + 40018
def wp_L_cell (sL : Nat) (xs : Nat → Int) (l1 : Int) (I : Ii) (J : Jj) (Q : Int → Ii → Jj → Prop) : Prop := (0 ≤ l1 ∧ l1 < 1000) ∧ Q (clZ sL xs l1) I J
def KScr (G : KG) (sL : Nat) (xs : Nat → Int) : Prop := sL ≤ 100000 ∧ ∀ U : State, G.1.2 U → va_T .int (kadr G 998) sL (fun j => .int (iZ (xs j))) (KFr G) U U.heap
def wp_J7_copyOf_1904c (k0 : Nat) (l1 : Int) (I : Ii) (J : Jj) (Q : Nat → Ii → Jj → Prop) : Prop := ((dS I k0 = 3 ∧ (0 < dL I k0 ∧ dL I k0 ≤ l1)) ∧ (l1 ≤ 300 ∧ I 999 0 < 900000) ∧ ∀ j : Nat, (j : Int) < dL I k0 → I k0 j < 0 ∨ dS I (I k0 j).toNat = 1) ∧
  ∀ I2 : Ii, I2 = nwI I 3 l1 (fun _ => -1) → ∀ I3 : Ii, I3 = upr I2 (I 999 0).toNat (va_cpy (I2 k0) (I2 (I 999 0).toNat) 0 0 (dL I2 k0).toNat) → Q (I 999 0).toNat I3 J
def rm_J3_checkIndex_8e157 : Room := { frames := 0, cells := 0, slots := 0, locals := 0 }
def rm_J0_checkIndex_df160 : Room := { frames := 1, cells := 0, slots := 0, locals := 30 }
def rm_J15_checkIndex_7cf53 : Room := { frames := 1, cells := 0, slots := 0, locals := 30 }
def rm_L_cell : Room := { frames := 0, cells := 0, slots := 0, locals := 0 }
def rm_J7_copyOf_6403c : Room := { frames := 1, cells := 1, slots := 300, locals := 80 }
def rm_J7_copyOf_1904c : Room := { frames := 2, cells := 1, slots := 300, locals := 120 }
theorem k_J3_checkIndex_8e157 (G : KG) (hG : Kok G) (hW : KWx G) {v : Value} (hv : v = .null ∨ ∃ t, v = .ref t) (l0 l1 : Int) (I : Ii) (J : Jj) (Q : Int → Ii → Jj → Prop) (h : wp_J3_checkIndex_8e157 l0 l1 I J Q) : Ctr G yJ3_checkIndex_8e157 wsJ3_checkIndex_8e157 rm_J3_checkIndex_8e157 [.int (iZ l0), .int (iZ l1), v] (I, J) (QsI Q) := by
  obtain ⟨⟨hx, hn⟩, hq⟩ := h
  have hl : (lg_sl [Value.int (iZ l0), .int (iZ l1), v]).length ≤ 3 := by rcases hv with rfl | ⟨t, rfl⟩ <;> exact Nat.le_of_ble_eq_true rfl
  refine Ctr.ofZ (cc := cJ3_checkIndex_8e157) (nL := 3) (ret := (some .int)) [some (.int (iZ l0)), some (.int (iZ l1)), none] hG (by decide +kernel) rfl hl (Nat.le_of_ble_eq_true rfl) (by simp [lvA, lv_args, Value.category]) ?_
  intro X hX C
  refine wz_iload_n C rfl rfl dJ3_checkIndex_8e157_0 ?_
  refine wz_if_lt C (tgt := 9) (by omega) dJ3_checkIndex_8e157_1 (by decide) (fun c => by omega) (fun c => ?_)
  refine wz_iload_n C rfl rfl dJ3_checkIndex_8e157_4 ?_
  refine wz_iload_n C rfl rfl dJ3_checkIndex_8e157_5 ?_
  refine wz_icmp_lt C (tgt := 16) (by omega) (by omega) dJ3_checkIndex_8e157_6 (by decide) (fun c => ?_) (fun c => absurd hx.2 c)
  refine wz_iload_n C rfl rfl dJ3_checkIndex_8e157_16 ?_
  exact wz_iret C dJ3_checkIndex_8e157_17 ⟨_, rfl, hq⟩
theorem k_J0_checkIndex_df160 (G : KG) (hG : Kok G) (hW : KWx G) (l0 l1 : Int) (I : Ii) (J : Jj) (Q : Ii → Jj → Prop) (h : wp_J0_checkIndex_df160 l0 l1 I J Q) : Ctr G yJ0_checkIndex_df160 wsJ0_checkIndex_df160 rm_J0_checkIndex_df160 [.int (iZ l0), .int (iZ l1)] (I, J) (QsV Q) := by
  refine Ctr.ofZ (cc := cJ0_checkIndex_df160) (nL := 2) (ret := none) [some (.int (iZ l0)), some (.int (iZ l1))] hG (by decide +kernel) rfl (Nat.le_of_ble_eq_true rfl) (Nat.le_of_ble_eq_true rfl) (by simp [lvA, lv_args, Value.category]) ?_
  intro X hX C
  refine wz_iload_n C rfl rfl dJ0_checkIndex_df160_0 ?_
  refine wz_iload_n C rfl rfl dJ0_checkIndex_df160_1 ?_
  refine wy_getsq C hW.sf (by decide +kernel) dJ0_checkIndex_df160_2 (fun v hv => ?_)
  refine wm_callSo C (As := [.int (iZ l0), .int (iZ l1), v]) (st := []) (a' := 0) (b' := 0) (k_J3_checkIndex_8e157 G hG hW hv l0 l1 I J (fun _ I' J' => Q I' J') h) 3 (goodIn_wsS gJ0_checkIndex_df160_J3_checkIndex_8e157) (by decide +kernel) (by decide +kernel) (by decide +kernel) rfl (by decide +kernel) (by rw [hX]; exact ⟨Nat.le_of_ble_eq_true rfl, Nat.le_of_ble_eq_true rfl⟩) rfl (Nat.le_of_ble_eq_true rfl) rfl rfl rfl dJ0_checkIndex_df160_5 (kk_sI (fun v I1 J1 h => ?_))
  refine wz_pop C rfl dJ0_checkIndex_df160_8 ?_
  exact wz_vret C dJ0_checkIndex_df160_9 ⟨rfl, h⟩
theorem k_J15_checkIndex_7cf53 (G : KG) (hG : Kok G) (hW : KWx G) (l0 l1 : Int) (I : Ii) (J : Jj) (Q : Int → Ii → Jj → Prop) (h : wp_J15_checkIndex_7cf53 l0 l1 I J Q) : Ctr G yJ15_checkIndex_7cf53 wsJ15_checkIndex_7cf53 rm_J15_checkIndex_7cf53 [.int (iZ l0), .int (iZ l1)] (I, J) (QsI Q) := by
  refine Ctr.ofZ (cc := cJ15_checkIndex_7cf53) (nL := 2) (ret := (some .int)) [some (.int (iZ l0)), some (.int (iZ l1))] hG (by decide +kernel) rfl (Nat.le_of_ble_eq_true rfl) (Nat.le_of_ble_eq_true rfl) (by simp [lvA, lv_args, Value.category]) ?_
  intro X hX C
  refine wz_iload_n C rfl rfl dJ15_checkIndex_7cf53_0 ?_
  refine wz_iload_n C rfl rfl dJ15_checkIndex_7cf53_1 ?_
  refine wy_null C dJ15_checkIndex_7cf53_2 ?_
  refine wm_callSo C (As := [.int (iZ l0), .int (iZ l1), .null]) (st := []) (a' := 0) (b' := 0) (k_J3_checkIndex_8e157 G hG hW (Or.inl rfl) l0 l1 I J Q h) 3 (goodIn_wsS gJ15_checkIndex_7cf53_J3_checkIndex_8e157) (by decide +kernel) (by decide +kernel) (by decide +kernel) rfl (by decide +kernel) (by rw [hX]; exact ⟨Nat.le_of_ble_eq_true rfl, Nat.le_of_ble_eq_true rfl⟩) rfl (Nat.le_of_ble_eq_true rfl) rfl rfl rfl dJ15_checkIndex_7cf53_3 (kk_sI (fun v I1 J1 h => ?_))
  exact wz_iret C dJ15_checkIndex_7cf53_6 ⟨_, rfl, h⟩
set_option maxHeartbeats 4000000 in
theorem k_J7_copyOf_6403c (G : KG) (hG : Kok G) (hW : KWx G) {mi : Nat} (hM : ∀ U : State, G.1.2 U → va_Mi "[Ljava/lang/Object;" mi U) (k0 : Nat) (l1 : Int) (I : Ii) (J : Jj) (Q : Nat → Ii → Jj → Prop) (h : wp_J7_copyOf_1904c k0 l1 I J Q) : Ctr G yJ7_copyOf_6403c wsJ7_copyOf_6403c rm_J7_copyOf_6403c [.ref (kadr G k0), .int (iZ l1), .ref mi] (I, J) (QsK G Q) := by
  obtain ⟨⟨⟨g1, g2, g3⟩, ⟨g4, g5⟩, g6⟩, h⟩ := h
  refine Ctr.ofZ (cc := cJ7_copyOf_6403c) (nL := 4) (ret := (some (.array (.object "java/lang/Object")))) [some (.ref (kadr G k0)), some (.int (iZ l1)), some (.ref mi), none] hG (by decide +kernel) rfl (Nat.le_of_ble_eq_true rfl) (Nat.le_of_ble_eq_true rfl) (by simp [lvA, lv_args, Value.category]) ?_
  intro X hX C
  refine wz_aload_n C rfl rfl dJ7_copyOf_6403c_0 ?_
  refine Wz.know (fun hsh hlt => ?_)
  have h22 := dS_3 hsh hlt g1 g2
  have hk0 := (hsh.1 k0 h22 (by show dS I k0 ≠ 0; rw [g1]; decide)).1
  have hb0 := dL_b hsh h22 (by rw [g1]; decide)
  have h9 : 1022 ≤ I 999 0 ∧ I 999 0 ≤ 900000 := hsh.2.2.2
  have hld : ∀ (k : Wz G X 4 (QsU G X (QsK G Q)) 1 300 3 [some (.ref (kadr G k0)), some (.int (iZ l1)), some (.ref mi), none] (.ref mi :: .ref mi :: []) I J), Wz G X 4 (QsU G X (QsK G Q)) 1 300 1 [some (.ref (kadr G k0)), some (.int (iZ l1)), some (.ref mi), none] (.ref mi :: []) I J := by
    intro k
    have hlk : Cond.classLink RJ7 110 "[Ljava/lang/Object;" ∈ wsJ7_copyOf_6403c := by decide +kernel
    obtain ⟨p, e, R, s, m, args, below, meth, c⟩ := X
    obtain ⟨hx, hb, hml, hown, hts, hr, hlk9, hKK, hG, hlo⟩ := C
    intro k9 n9 hk9 hn9 H locs ls hP hS hl
    exact va_ldcM hx hb hown (hts _ hlk) (hM s hKK.2.2.1) dJ7_copyOf_6403c_1 (k k9 n9 hk9 hn9 H locs ls hP hS hl)
  refine hld ?_
  have hcm : ∀ (k : Wz G X 4 (QsU G X (QsK G Q)) 1 300 6 [some (.ref (kadr G k0)), some (.int (iZ l1)), some (.ref mi), none] [] I J), Wz G X 4 (QsU G X (QsK G Q)) 1 300 3 [some (.ref (kadr G k0)), some (.int (iZ l1)), some (.ref mi), none] (.ref mi :: .ref mi :: []) I J := by
    intro k
    obtain ⟨p, e, R, s, m, args, below, meth, c⟩ := X
    obtain ⟨hx, hb, hml, hown, hts, hr, hlk9, hKK, hG, hlo⟩ := C
    intro k9 n9 hk9 hn9 H locs ls hP hS hl
    exact lv_acmp_ne (rx := some mi) (ry := some mi) (tgt := 13) hx hb dJ7_copyOf_6403c_3 (by decide) (fun e => absurd rfl e) (fun e => k k9 n9 hk9 hn9 H locs ls hP hS hl)
  refine hcm ?_
  refine wz_iload_n C rfl rfl dJ7_copyOf_6403c_6 ?_
  refine wy_newO C hW 300 ⟨⟨by omega, g4⟩, g5⟩ (by decide) (by decide +kernel) dJ7_copyOf_6403c_7 (a' := 0) (b' := 0) rfl rfl (fun I2 e2 => ?_)
  replace h := h I2 e2
  have ok : I2 k0 = I k0 ∧ I2 (1000000 + k0) = I (1000000 + k0) := by rw [e2]; exact nwI_old h9 hk0 (by omega)
  have d3 : dS I2 k0 = 3 := by show I2 (1000000 + k0) 0 = 3; rw [ok.2]; exact g1
  have dl : dL I2 k0 = dL I k0 := by show I2 (1000000 + k0) 1 = _; rw [ok.2]
  have dN : dS I2 (I 999 0).toNat = 3 := by show I2 (1000000 + (I 999 0).toNat) 0 = 3; rw [e2, nwI_s0]
  have dlN : dL I2 (I 999 0).toNat = l1 := by show I2 (1000000 + (I 999 0).toNat) 1 = l1; rw [e2, nwI_s1]
  refine wz_goto C dJ7_copyOf_6403c_10 (tgt := 24) (by decide) ?_
  refine wz_astore_3 C rfl dJ7_copyOf_6403c_24 ?_
  refine wz_aload_n C rfl rfl dJ7_copyOf_6403c_25 ?_
  refine wz_iconst C dJ7_copyOf_6403c_26 ?_
  refine wz_aload_n C rfl rfl dJ7_copyOf_6403c_27 ?_
  refine wz_iconst C dJ7_copyOf_6403c_28 ?_
  refine wz_aload_n C rfl rfl dJ7_copyOf_6403c_29 ?_
  refine wy_alen3 C hW d3 dJ7_copyOf_6403c_30 ?_
  refine wz_iload_n C rfl rfl dJ7_copyOf_6403c_31 ?_
  refine wd_min C (Q := fun v I1 J1 => v = dL I2 k0 ∧ I1 = I2 ∧ J1 = J) ⟨⟨by omega, by omega⟩, ⟨by omega, by omega⟩, fun c => by omega, fun _ => ⟨rfl, rfl, rfl⟩⟩ (by decide +kernel) (by decide +kernel) (by decide +kernel) (by decide +kernel) (by rw [hX]; exact ⟨Nat.le_of_ble_eq_true rfl, Nat.le_of_ble_eq_true rfl⟩) dJ7_copyOf_6403c_32 (fun v I1 J1 hv => ?_)
  obtain ⟨rfl, rfl, rfl⟩ := hv
  refine wy_copyO C hW ⟨⟨d3, dN⟩, ⟨by omega, by omega⟩, ⟨by omega, by omega⟩, by omega, fun j hj => ?_⟩ (by decide +kernel) (by decide +kernel) (by decide +kernel) (by decide +kernel) (by rw [hX]; exact ⟨Nat.le_of_ble_eq_true rfl, Nat.le_of_ble_eq_true rfl⟩) dJ7_copyOf_6403c_35 (fun I3 e3 => ?_)
  · rw [ok.1]
    rcases g6 j (by omega) with q | q
    · exact Or.inl q
    · by_cases q0 : I k0 j < 0
      · exact Or.inl q0
      · right
        have hkk := (hsh.1 (I k0 j).toNat (dS_1 hsh hlt q (Or.inl rfl)) (by show dS I _ ≠ 0; rw [q]; decide)).1
        have := dS_1 hsh hlt q (Or.inl rfl)
        show I1 (1000000 + (I k0 j).toNat) 0 = 1
        rw [e2, (nwI_old h9 hkk (by omega)).2]
        exact q
  replace h := h I3 e3
  refine wz_aload_n C rfl rfl dJ7_copyOf_6403c_38 ?_
  exact wy_aret C (Or.inr ⟨_, rfl⟩) dJ7_copyOf_6403c_39 ⟨_, rfl, h⟩
theorem k_J7_copyOf_1904c (G : KG) (hG : Kok G) (hW : KWx G) (k0 : Nat) (l1 : Int) (I : Ii) (J : Jj) (Q : Nat → Ii → Jj → Prop) (h : wp_J7_copyOf_1904c k0 l1 I J Q) : Ctr G yJ7_copyOf_1904c wsJ7_copyOf_1904c rm_J7_copyOf_1904c [.ref (kadr G k0), .int (iZ l1)] (I, J) (QsK G Q) := by
  have hW2 := hW
  obtain ⟨mi, hW0⟩ := hW2
  refine Ctr.ofZ (cc := cJ7_copyOf_1904c) (nL := 2) (ret := (some (.array (.object "java/lang/Object")))) [some (.ref (kadr G k0)), some (.int (iZ l1))] hG (by decide +kernel) rfl (Nat.le_of_ble_eq_true rfl) (Nat.le_of_ble_eq_true rfl) (by simp [lvA, lv_args, Value.category]) ?_
  intro X hX C
  refine wz_aload_n C rfl rfl dJ7_copyOf_1904c_0 ?_
  refine wz_iload_n C rfl rfl dJ7_copyOf_1904c_1 ?_
  refine wz_aload_n C rfl rfl dJ7_copyOf_1904c_2 ?_
  refine Wz.know (fun hsh hlt => ?_)
  have hrow := sK3 (G := G) (J := J) hsh hlt h.1.1.1 h.1.1.2.1
  have hgc : ∀ (k : Wz G X 2 (QsU G X (QsK G Q)) 1 300 6 [some (.ref (kadr G k0)), some (.int (iZ l1))] (.ref mi :: .int (iZ l1) :: .ref (kadr G k0) :: []) I J), Wz G X 2 (QsU G X (QsK G Q)) 1 300 3 [some (.ref (kadr G k0)), some (.int (iZ l1))] (.ref (kadr G k0) :: .int (iZ l1) :: .ref (kadr G k0) :: []) I J := by
    intro k
    have w1 : Cond.methodLink RJ7 86 ⟨"java/lang/Object", "getClass", "()Ljava/lang/Class;"⟩ ∈ wsJ7_copyOf_1904c := by decide +kernel
    have w2 : Cond.selects "[Ljava/lang/Object;" ⟨"java/lang/Object", "getClass", "()Ljava/lang/Class;"⟩ ⟨"java/lang/Object", "getClass", "()Ljava/lang/Class;"⟩ ∈ wsJ7_copyOf_1904c := by decide +kernel
    have w3 : Cond.instanceMethod ⟨"java/lang/Object", "getClass", "()Ljava/lang/Class;"⟩ ∈ wsJ7_copyOf_1904c := by decide +kernel
    have w4 : Cond.native ⟨"java/lang/Object", "getClass", "()Ljava/lang/Class;"⟩ ∈ wsJ7_copyOf_1904c := by decide +kernel
    have hR9 : 1 ≤ (KR X).frames ∧ 14 + 14 ≤ (KR X).locals := by rw [hX]; exact ⟨Nat.le_of_ble_eq_true rfl, Nat.le_of_ble_eq_true rfl⟩
    obtain ⟨p, e, R, s, m, args, below, meth, c⟩ := X
    obtain ⟨hx, hb, hml, hown, hts, hr, hlk9, hKK, hG, hlo⟩ := C
    have hR9 : 1 ≤ R.frames ∧ 14 + 14 ≤ R.locals := hR9
    intro k9 n9 hk9 hn9 H locs ls hP hS hl
    have hU := hW0 s hKK.2.2.1
    have hcell : H[kadr G k0]? = some (vp_cell G.2.2.2.1.2.2.2.2.1 ((dL I k0).toNat, .inr (.inr (.inr (.inr (fun i => refQ G.2.2.2.2 (I k0 i))))))) := hP.row hrow
    have hfc : s.vm.findClass "[Ljava/lang/Object;" = some G.2.2.2.1.2.2.2.2.1 := va_nmO (hKK.1.2 4 _ rfl).2 (by decide +kernel)
    exact va_getC hx hb (hml.trans hl.1.symm) hown (hts _ w1) (va_Dc.use hU.2.2.2.2.1.2.2.2.2.1) (hts _ w2) (hts _ w3) (hts _ w4) hU.2.2.2.2.1.2.2.2.2.2 ⟨_, hcell, rfl, hfc⟩ hR9.1 (by show 2 + 14 ≤ _; omega) dJ7_copyOf_1904c_3 (k k9 n9 hk9 hn9 H locs ls hP hS hl)
  refine hgc ?_
  refine wm_callSo C (As := [.ref (kadr G k0), .int (iZ l1), .ref mi]) (st := []) (a' := 0) (b' := 0) (k_J7_copyOf_6403c G hG hW (fun U hU => (hW0 U hU).2.2.2.2.1.2.2.2.2.2) k0 l1 I J Q h) 3 (goodIn_wsS gJ7_copyOf_1904c_J7_copyOf_6403c) (by decide +kernel) (by decide +kernel) (by decide +kernel) rfl (by decide +kernel) (by rw [hX]; exact ⟨Nat.le_of_ble_eq_true rfl, Nat.le_of_ble_eq_true rfl⟩) rfl (Nat.le_of_ble_eq_true rfl) rfl rfl rfl dJ7_copyOf_1904c_6 (kk_sK (fun v I1 J1 h => ?_))
  exact wy_aret C (Or.inr ⟨_, rfl⟩) dJ7_copyOf_1904c_9 ⟨_, rfl, h⟩

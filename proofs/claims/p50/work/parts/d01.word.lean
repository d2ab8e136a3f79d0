/-! ===== whether the token is a word ===== -/
def lets (bs : List Int) : Prop := bs.length ≤ 8 ∧ ∀ j, j < bs.length → 0 ≤ bs.getD j 0 ∧ bs.getD j 0 < 128
/-- a word's number, letter by letter -/
def wF : List Int → Int64 → Int64
  | [], w => w
  | c :: l, w => wF l ((shlL w 5) ||| (i2lZ (c - 96)))
theorem wF_drop {bs : List Int} {j : Nat} (h : j < bs.length) (w : Int64) : wF (bs.drop j) w = wF (bs.drop (j + 1)) ((shlL w 5) ||| (i2lZ (bs.getD j 0 - 96))) := by
  have e : bs.getD j 0 = bs[j] := by simp [h]
  rw [List.drop_eq_getElem_cons h, e]
  rfl
/-- a text that stands fast -/
theorem lit_facts {I : Ii} (hl : LTP I) {i : Nat} {w : List Int} (hi : kLit[i]? = some w) : dS I (900 + 2 * i) = 5 ∧ I (900 + 2 * i) 0 = ((901 + 2 * i : Nat) : Int) ∧ I (900 + 2 * i) 1 = 0 ∧ dS I (901 + 2 * i) = 2 ∧ dL I (901 + 2 * i) = (w.length : Int) ∧ ∀ j, j < w.length → I (901 + 2 * i) j = w.getD j 0 := by
  have hi15 : i < 15 := (List.getElem?_eq_some_iff.mp hi).1
  have e9 : kLit.getD i [] = w := by rw [List.getD_eq_getElem?_getD, hi]; rfl
  obtain ⟨a1, a2, a3, a4⟩ := hl (900 + 2 * i) (by omega) (by omega)
  obtain ⟨b1, b2, b3, b4⟩ := hl (901 + 2 * i) (by omega) (by omega)
  have l2 : llen (901 + 2 * i) = (w.length : Int) := by
    unfold llen
    rw [if_pos (by omega), if_neg (by omega), show (901 + 2 * i - 901) / 2 = i by omega, e9]
  refine ⟨?_, ?_, ?_, ?_, ?_, fun j hj => ?_⟩
  · show I (1000000 + (900 + 2 * i)) 0 = 5
    rw [a1]
    unfold lsort
    rw [if_pos (by omega), if_pos (by omega)]
  · rw [(a3 (by omega) (by omega)).1]
    unfold lval
    rw [if_pos (by omega), if_pos (by omega), if_pos rfl]
    omega
  · exact (a3 (by omega) (by omega)).2
  · show I (1000000 + (901 + 2 * i)) 0 = 2
    rw [b1]
    unfold lsort
    rw [if_pos (by omega), if_neg (by omega)]
  · show I (1000000 + (901 + 2 * i)) 1 = _
    rw [b2, l2]
  · rw [b4 j (by rw [l2]; omega)]
    unfold lval
    rw [if_pos (by omega), if_neg (by omega), show (901 + 2 * i - 901) / 2 = i by omega, e9]
theorem i2c128 : ∀ b : Fin 128, i2cZ (andZ (b.val : Int) 255) = (b.val : Int) := by decide +kernel
theorem i2c_ok {x : Int} (h : 0 ≤ x ∧ x < 128) : i2cZ (andZ x 255) = x := by
  have e : (((⟨x.toNat, by omega⟩ : Fin 128).val : Nat) : Int) = x := by show ((x.toNat : Nat) : Int) = x; omega
  have := i2c128 ⟨x.toNat, by omega⟩
  rw [e] at this
  exact this
theorem shr0 {x : Int} (h : 0 ≤ x ∧ x < 100000) : shrZ x 0 = x := by
  have := shrZ_nat (a := x.toNat) (k := 0) (by omega) (by omega)
  rw [Int.toNat_of_nonneg h.1] at this
  rw [show (0 : Int) = ((0 : Nat) : Int) from rfl, this]
  show ((x.toNat / 1 : Nat) : Int) = x
  omega
/-- a text: its bytes' key, its length -/
def TXr (I : Ii) (k b : Nat) (n : Nat) : Prop := dS I k = 5 ∧ I k 0 = (b : Int) ∧ I k 1 = 0 ∧ dS I b = 2 ∧ dL I b = (n : Int) ∧ n ≤ 90000
theorem TXr.lit {I : Ii} (hl : LTP I) {i : Nat} {w : List Int} (hi : kLit[i]? = some w) (hn : w.length ≤ 90000) : TXr I (900 + 2 * i) (901 + 2 * i) w.length := by
  obtain ⟨a, b, c, d, e, -⟩ := lit_facts hl hi
  exact ⟨a, b, c, d, e, hn⟩
section TXS
variable {I : Ii} {J : Jj} {k b n : Nat} {Q : Int → Ii → Jj → Prop}
theorem TX_coder (h : TXr I k b n) (hq : Q 0 I J) : wp_J0_coder_7d493 k I J Q := by
  unfold wp_J0_coder_7d493
  rw [h.2.2.1]
  exact ⟨h.1, ⟨by decide, by decide⟩, hq⟩
theorem TX_lat (h : TXr I k b n) (hq : Q 1 I J) : wp_J0_isLatin1_aae02 k I J Q := by
  unfold wp_J0_isLatin1_aae02
  rw [h.2.2.1]
  exact ⟨h.1, ⟨by decide, by decide⟩, fun c => absurd rfl c, fun _ => hq⟩
theorem TX_len (h : TXr I k b n) (hq : Q (n : Int) I J) : wp_J0_length_8abf5 k I J Q := by
  have h9 := h
  obtain ⟨a1, a2, a3, a4, a5, a6⟩ := h
  unfold wp_J0_length_8abf5
  rw [a2, Int.toNat_natCast]
  refine ⟨⟨a1, by omega⟩, ⟨a4, by omega⟩, a1, TX_coder h9 ?_⟩
  rw [a5, shr0 (by omega)]
  exact hq
theorem TX_emp (h : TXr I k b n) (hq : Q (if n = 0 then 1 else 0) I J) : wp_J0_isEmpty_aae02 k I J Q := by
  obtain ⟨a1, a2, a3, a4, a5, a6⟩ := h
  unfold wp_J0_isEmpty_aae02
  rw [a2, Int.toNat_natCast]
  refine ⟨⟨a1, by omega⟩, ⟨a4, by omega⟩, ⟨by omega, by omega⟩, fun c => ?_, fun c => ?_⟩
  · rw [if_neg (by omega)] at hq; exact hq
  · rw [if_pos (by omega)] at hq; exact hq
theorem TX_chr (h : TXr I k b n) {j : Int} (hj : 0 ≤ j ∧ j < (n : Int)) (hc : 0 ≤ I b j.toNat ∧ I b j.toNat < 128) (hq : Q (I b j.toNat) I J) : wp_J0_charAt_5068e k j I J Q := by
  have h9 := h
  obtain ⟨a1, a2, a3, a4, a5, a6⟩ := h
  unfold wp_J0_charAt_5068e
  refine ⟨a1, TX_lat h9 ⟨fun c => absurd c (by decide), fun _ => ⟨⟨a1, by omega⟩, ?_⟩⟩⟩
  rw [a2, Int.toNat_natCast]
  unfold wp_J1_charAt_3b067 wp_J0_checkIndex_df160
  have e9 := i2c_ok hc
  refine ⟨⟨a4, by omega⟩, ⟨⟨hj.1, by omega⟩, by omega⟩, ⟨⟨a4, hj.1, by omega⟩, by omega⟩, ?_⟩
  rw [e9]
  exact ⟨hc, hc, hq⟩
end TXS
theorem in_X10_isWord_X10 : ∀ w ∈ wsX100, w ∈ wsX10_isWord := by decide +kernel
theorem f_X10_isWord_38 : FLk wsX10_isWord RX10 38 13 5 := flk 13 5 rfl tyX10_ok nmX10 in_X10_isWord_X10 (by decide) (by decide +kernel)
theorem f_X10_isWord_71 : FLk wsX10_isWord RX10 71 13 6 := flk 13 6 rfl tyX10_ok nmX10 in_X10_isWord_X10 (by decide) (by decide +kernel)
def rm_X10_isWord : Room := { frames := 4, cells := 0, slots := 0, locals := 130 }
section WRD
variable {G : KG} {I : Ii} {J : Jj} {i : Nat} {bs : List Int}
theorem lk_X10_isWord (hG : KokC G) (hW : KWx G) (hi : kLit[i]? = some bs) (hb : lets bs) (hl : LTP I) (X : KX) (hX : KR X = rm_X10_isWord) (C : Fr G X cX10_isWord 5 yX10_isWord.cls (some .boolean) wsX10_isWord) {Qs : State → Prop} {W : Int64}
    (k31 : ∀ x : Int32, Wz G X 5 Qs 0 0 31 [some (.ref (kadr G 101)), some (.ref (kadr G (900 + 2 * i))), some (.long W), none, some (.int x)] [] I J) : ∀ (n j : Nat) (w : Int64), j + n = bs.length → wF (bs.drop j) w = W → Wz G X 5 Qs 0 0 5 [some (.ref (kadr G 101)), some (.ref (kadr G (900 + 2 * i))), some (.long w), none, some (.int (iZ (j : Int)))] [] I J := by
  have h8 := hb.1
  have ht := TXr.lit hl hi (by omega)
  have hlf := lit_facts hl hi
  intro n
  induction n with
  | zero =>
    intro j w hj hw
    refine wz_iload C rfl dX10_isWord_5 ?_
    refine wz_aload_n C rfl rfl dX10_isWord_7 ?_
    refine wy_callT C hW (o := 900 + 2 * i) (As := []) (st := [.int (iZ (j : Int))]) (a' := 0) (b' := 0) ht.1 (k_J0_length_8abf5 G hG.1 hW (900 + 2 * i) I J (fun v I1 J1 => v = (bs.length : Int) ∧ I1 = I ∧ J1 = J) (TX_len ht ⟨rfl, rfl, rfl⟩)) 0 gX10_isWord_J0_length_8abf5 rfl (by decide +kernel) (by rw [hX]; exact ⟨Nat.le_of_ble_eq_true rfl, Nat.le_of_ble_eq_true rfl⟩) rfl (Nat.le_of_ble_eq_true rfl) rfl rfl rfl dX10_isWord_8 (kk_sI (fun v I1 J1 h => ?_))
    obtain ⟨rfl, rfl, rfl⟩ := h
    refine wz_icmp_ge C (tgt := 31) (by omega) (by omega) dX10_isWord_11 (by decide) (fun c => ?_) (fun c => by omega)
    rw [show j = bs.length by omega, List.drop_length] at hw
    have hw : w = W := hw
    rw [hw]
    exact k31 _
  | succ n ih =>
    intro j w hj hw
    refine wz_iload C rfl dX10_isWord_5 ?_
    refine wz_aload_n C rfl rfl dX10_isWord_7 ?_
    refine wy_callT C hW (o := 900 + 2 * i) (As := []) (st := [.int (iZ (j : Int))]) (a' := 0) (b' := 0) ht.1 (k_J0_length_8abf5 G hG.1 hW (900 + 2 * i) I J (fun v I1 J1 => v = (bs.length : Int) ∧ I1 = I ∧ J1 = J) (TX_len ht ⟨rfl, rfl, rfl⟩)) 0 gX10_isWord_J0_length_8abf5 rfl (by decide +kernel) (by rw [hX]; exact ⟨Nat.le_of_ble_eq_true rfl, Nat.le_of_ble_eq_true rfl⟩) rfl (Nat.le_of_ble_eq_true rfl) rfl rfl rfl dX10_isWord_8 (kk_sI (fun v I1 J1 h => ?_))
    obtain ⟨rfl, rfl, rfl⟩ := h
    refine wz_icmp_ge C (tgt := 31) (by omega) (by omega) dX10_isWord_11 (by decide) (fun c => by omega) (fun c => ?_)
    refine wz_lload_n C rfl rfl dX10_isWord_14 ?_
    refine wz_aload_n C rfl rfl dX10_isWord_15 ?_
    refine wz_iload C rfl dX10_isWord_16 ?_
    have hc := hb.2 j (by omega)
    have ec : I1 (901 + 2 * i) ((j : Int).toNat) = bs.getD j 0 := by rw [Int.toNat_natCast]; exact hlf.2.2.2.2.2 j (by omega)
    refine wy_callT C hW (o := 900 + 2 * i) (As := [.int (iZ (j : Int))]) (st := [.long w]) (a' := 0) (b' := 0) ht.1 (k_J0_charAt_5068e G hG.1 hW (900 + 2 * i) (j : Int) I1 J1 (fun v I2 J2 => v = bs.getD j 0 ∧ I2 = I1 ∧ J2 = J1) (TX_chr ht ⟨by omega, by omega⟩ (by rw [ec]; exact hc) ⟨ec, rfl, rfl⟩)) 1 gX10_isWord_J0_charAt_5068e rfl (by decide +kernel) (by rw [hX]; exact ⟨Nat.le_of_ble_eq_true rfl, Nat.le_of_ble_eq_true rfl⟩) rfl (Nat.le_of_ble_eq_true rfl) rfl rfl rfl dX10_isWord_18 (kk_sI (fun v I2 J2 h => ?_))
    obtain ⟨rfl, rfl, rfl⟩ := h
    refine wm_callSo C (As := [.long w, .int (iZ (bs.getD j 0))]) (st := []) (a' := 0) (b' := 0) (k_X10_withLetter G hG w (bs.getD j 0) I2 J2 (fun v I1 J1 => v = ((shlL w 5) ||| (i2lZ (bs.getD j 0 - 96))) ∧ I1 = I2 ∧ J1 = J2) ⟨rfl, rfl, rfl⟩) 2 (goodIn_wsS gX10_isWord_X10_withLetter) (by decide +kernel) (by decide +kernel) (by decide +kernel) rfl (by decide +kernel) (by rw [hX]; exact ⟨Nat.le_of_ble_eq_true rfl, Nat.le_of_ble_eq_true rfl⟩) rfl (Nat.le_of_ble_eq_true rfl) rfl rfl rfl dX10_isWord_21 (kk_sJ (fun v I1 J1 h => ?_))
    obtain ⟨rfl, rfl, rfl⟩ := h
    refine wz_lstore_2 C rfl dX10_isWord_24 ?_
    refine wz_iinc_4 C rfl dX10_isWord_25 ?_
    refine wz_goto C dX10_isWord_28 (tgt := 5) (by decide) ?_
    have e1 : ((j : Int) + 1) = ((j + 1 : Nat) : Int) := by omega
    rw [e1]
    exact ih (j + 1) _ (by omega) (by rw [← wF_drop (by omega)]; exact hw)
theorem k_X10_isWord (hG : KokC G) (hW : KWx G) (hi : kLit[i]? = some bs) (hb : lets bs) (hr : rg (I 101 5)) {W : Int64} (hWd : wF bs 0 = W) (P : Int → Ii → Jj → Prop) (h : wp_X10_isWordL W I J P) : Ctr G yX10_isWord wsX10_isWord rm_X10_isWord [.ref (kadr G 101), .ref (kadr G (900 + 2 * i))] (I, J) (QsB (fun v I1 J1 => rg (I1 101 5) ∧ P v I1 J1)) := by
  refine Ctr.ofZ (cc := cX10_isWord) (nL := 5) (ret := (some .boolean)) [some (.ref (kadr G 101)), some (.ref (kadr G (900 + 2 * i))), none, none, none] hG.1 (by decide +kernel) rfl (Nat.le_of_ble_eq_true rfl) (Nat.le_of_ble_eq_true rfl) (by simp [lvA, lv_args, Value.category]) ?_
  intro X hX C
  have hz := hG.2
  refine Wz.know (fun _ hl => ?_)
  refine wz_lconst C (v := 0) (by decide) dX10_isWord_0 ?_
  refine wz_lstore_2 C rfl dX10_isWord_1 ?_
  refine wz_iconst C dX10_isWord_2 ?_
  refine wz_istore_4 C rfl dX10_isWord_3 ?_
  refine lk_X10_isWord hG hW hi hb hl X hX C (W := W) (fun x => ?_) bs.length 0 0 (by omega) hWd
  have no : ¬ (I 101 5 = 1 ∧ J 101 6 = W) → ∀ x : Int32, Wz G X 5 (QsU G X (QsB (fun v I1 J1 => rg (I1 101 5) ∧ P v I1 J1))) 0 0 52 [some (.ref (kadr G 101)), some (.ref (kadr G (900 + 2 * i))), some (.long W), none, some (.int x)] [] I J := fun c x => by
    refine wz_iconst C dX10_isWord_52 ?_
    exact wz_zret C (Or.inl rfl) dX10_isWord_53 ⟨_, rfl, Or.inl rfl, hr, h.2 c⟩
  refine wz_aload_n C rfl rfl dX10_isWord_31 ?_
  refine wz_getI C rfl f_X10_isWord_38 (sOc hz rfl) dX10_isWord_32 ?_
  refine wz_iconst C dX10_isWord_35 ?_
  refine wz_icmp_ne C (tgt := 52) hr (by decide) dX10_isWord_36 (by decide) (fun c => no (fun z => c z.1) x) (fun c => ?_)
  refine wz_aload_n C rfl rfl dX10_isWord_39 ?_
  refine wz_getJ C rfl f_X10_isWord_71 (sOc hz rfl) dX10_isWord_40 ?_
  refine wz_lload_n C rfl rfl dX10_isWord_43 ?_
  refine wd_lcmp C dX10_isWord_44 ?_
  refine wz_if_ne C (tgt := 52) (toInt_rg _) dX10_isWord_45 (by decide) (fun c2 => no (fun z => c2 (cmpL_eq.mpr z.2)) x) (fun c2 => ?_)
  refine wz_iconst C dX10_isWord_48 ?_
  refine wz_goto C dX10_isWord_49 (tgt := 53) (by decide) ?_
  exact wz_zret C (Or.inr rfl) dX10_isWord_53 ⟨_, rfl, Or.inr rfl, hr, h.1 ⟨c, cmpL_eq.mp c2⟩⟩
end WRD
section WSW
variable {G : KG} {X : KX} {nL : Nat} {Qs : State → Prop} {pc : Nat} {lv : List (Option Value)} {I : Ii} {J : Jj} {cc : ByteArray} {own : String} {ret : Option FieldType} {Ts : List Cond}
/-- a word's constant, and whether the token is it -/
theorem wd_isw (C : Fr G X cc nL own ret Ts) (hG : KokC G) (hW : KWx G) (hr : rg (I 101 5)) (i : Nat) (tx : String) (n : Int) {idx im a b : Nat} {bs : List Int} (hi : kLit[i]? = some bs) (hq : (own, idx, tx, 900 + 2 * i) ∈ kLdc) (hb : lets bs) (hn : wF bs 0 = lZ n) {P : Int → Ii → Jj → Prop} (h : wp_X10_isWordL (lZ n) I J P) (g : GoodIn Ts (wsV own im RX10 yX10_isWord wsX10_isWord)) (hR : 5 ≤ (KR X).frames ∧ 160 ≤ (KR X).locals) (dl : decode cc pc = .ok (.ldc idx, 2)) (dv : decode cc (pc + 2) = .ok (.invokevirtual im, 3))
    (k : ∀ (v : Int) (I1 : Ii) (J1 : Jj), (v = 0 ∨ v = 1) → rg (I1 101 5) → P v I1 J1 → Wz G X nL Qs a b (pc + 5) lv [.int (iZ v)] I1 J1) : Wz G X nL Qs a b pc lv [.ref (kadr G 101)] I J := by
  refine wy_ldcS C hW (q := 900 + 2 * i) hq dl ?_
  exact wm_callV C (S := (I, J)) (o := 101) (As := [.ref (kadr G (900 + 2 * i))]) (st := []) (a' := a) (b' := b) (shK_c hG.2 rfl) rfl (k_X10_isWord hG hW hi hb hr hn P h) 1 g rfl (by decide +kernel) ⟨hR.1, Nat.le_trans (show 8 + (5 + 11) + rm_X10_isWord.locals ≤ 160 from by decide) hR.2⟩ rfl (Nat.le_of_ble_eq_true rfl) (Nat.zero_add _) (Nat.zero_add _) rfl dv (kk_sB (fun v I1 J1 hv h => k v I1 J1 hv h.1 h.2))
end WSW

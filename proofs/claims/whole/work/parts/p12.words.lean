/-! ===== whether the token is a word ===== -/
/-- a word's number, letter by letter -/
def wF : List Int → Int64 → Int64
  | [], w => w
  | c :: l, w => wF l ((shlL w 5) ||| (i2lZ (c - 96)))
theorem wF_drop {bs : List Int} {j : Nat} (h : j < bs.length) (w : Int64) : wF (bs.drop j) w = wF (bs.drop (j + 1)) ((shlL w 5) ||| (i2lZ (bs.getD j 0 - 96))) := by
  have e : bs.getD j 0 = bs[j] := by simp [h]
  rw [List.drop_eq_getElem_cons h, e]
  rfl
theorem in_X10_isWord_X10 : ∀ w ∈ wsX100, w ∈ wsX10_isWord := by decide +kernel
theorem f_X10_isWord_38 : FLk wsX10_isWord RX10 38 10 5 := flk 10 5 rfl tyX10_ok nmX10 in_X10_isWord_X10 (by decide) (by decide +kernel)
theorem f_X10_isWord_71 : FLk wsX10_isWord RX10 71 10 6 := flk 10 6 rfl tyX10_ok nmX10 in_X10_isWord_X10 (by decide) (by decide +kernel)
def rm_X10_isWord : Room := { frames := 4, cells := 0, slots := 0, locals := 130 }
section WRD
variable {G : KG} {I : Ii} {J : Jj} {q : Nat × Nat} {bs : List Int}
theorem lk_X10_isWord (hG : Kok G) (hb : lets bs) (hJ : ∀ U : State, G.1.2 U → sJ G U) (hF : ∀ U : State, G.1.2 U → sF G q bs U) (X : KX) (hX : KR X = rm_X10_isWord) (C : Fr G X cX10_isWord 5 yX10_isWord.cls (some .boolean) wsX10_isWord) {Qs : State → Prop} {W : Int64}
    (k31 : ∀ x : Int32, Wz G X 5 Qs 0 0 31 [some (.ref (kadr G 101)), some (.ref q.1), some (.long W), none, some (.int x)] [] I J) : ∀ (n j : Nat) (w : Int64), j + n = bs.length → wF (bs.drop j) w = W → Wz G X 5 Qs 0 0 5 [some (.ref (kadr G 101)), some (.ref q.1), some (.long w), none, some (.int (iZ (j : Int)))] [] I J := by
  have h8 := hb.1
  intro n
  induction n with
  | zero =>
    intro j w hj hw
    refine wz_iload C rfl dX10_isWord_5 ?_
    refine wz_aload_n C rfl rfl dX10_isWord_7 ?_
    refine ws_callV C (As := []) (st := [.int (iZ (j : Int))]) (fun U hU => (hF U hU).1) (k_J0_length hG hb hJ hF) 0 gX10_isWord_J0_length_8abf5 rfl (by decide +kernel) (by rw [hX]; exact ⟨Nat.le_of_ble_eq_true rfl, Nat.le_of_ble_eq_true rfl⟩) rfl (Nat.le_of_ble_eq_true rfl) rfl rfl rfl dX10_isWord_8 (fun r S' hr => ?_)
    obtain ⟨rfl, rfl⟩ := hr
    refine wz_icmp_ge C (tgt := 31) (by omega) (by omega) dX10_isWord_11 (by decide) (fun c => ?_) (fun c => by omega)
    rw [show j = bs.length by omega, List.drop_length] at hw
    have hw : w = W := hw
    rw [hw]
    exact k31 _
  | succ n ih =>
    intro j w hj hw
    refine wz_iload C rfl dX10_isWord_5 ?_
    refine wz_aload_n C rfl rfl dX10_isWord_7 ?_
    refine ws_callV C (As := []) (st := [.int (iZ (j : Int))]) (fun U hU => (hF U hU).1) (k_J0_length hG hb hJ hF) 0 gX10_isWord_J0_length_8abf5 rfl (by decide +kernel) (by rw [hX]; exact ⟨Nat.le_of_ble_eq_true rfl, Nat.le_of_ble_eq_true rfl⟩) rfl (Nat.le_of_ble_eq_true rfl) rfl rfl rfl dX10_isWord_8 (fun r S' hr => ?_)
    obtain ⟨rfl, rfl⟩ := hr
    refine wz_icmp_ge C (tgt := 31) (by omega) (by omega) dX10_isWord_11 (by decide) (fun c => by omega) (fun c => ?_)
    refine wz_lload_n C rfl rfl dX10_isWord_14 ?_
    refine wz_aload_n C rfl rfl dX10_isWord_15 ?_
    refine wz_iload C rfl dX10_isWord_16 ?_
    refine ws_callV C (As := [.int (iZ (j : Int))]) (st := [.long w]) (fun U hU => (hF U hU).1) (k_J0_charAt hG hb (i := j) (by omega) hJ hF) 1 gX10_isWord_J0_charAt_5068e rfl (by decide +kernel) (by rw [hX]; exact ⟨Nat.le_of_ble_eq_true rfl, Nat.le_of_ble_eq_true rfl⟩) rfl (Nat.le_of_ble_eq_true rfl) rfl rfl rfl dX10_isWord_18 (fun r S' hr => ?_)
    obtain ⟨rfl, rfl⟩ := hr
    refine wm_callSo C (As := [.long w, .int (iZ (bs.getD j 0))]) (st := []) (a' := 0) (b' := 0) (k_X10_withLetter G hG w (bs.getD j 0) I J (fun v I1 J1 => v = ((shlL w 5) ||| (i2lZ (bs.getD j 0 - 96))) ∧ I1 = I ∧ J1 = J) ⟨rfl, rfl, rfl⟩) 2 (goodIn_wsS gX10_isWord_X10_withLetter) (by decide +kernel) (by decide +kernel) (by decide +kernel) rfl (by decide +kernel) (by rw [hX]; exact ⟨Nat.le_of_ble_eq_true rfl, Nat.le_of_ble_eq_true rfl⟩) rfl (Nat.le_of_ble_eq_true rfl) rfl rfl rfl dX10_isWord_21 (kk_sJ (fun v I1 J1 h => ?_))
    obtain ⟨rfl, rfl, rfl⟩ := h
    refine wz_lstore_2 C rfl dX10_isWord_24 ?_
    refine wz_iinc_4 C rfl dX10_isWord_25 ?_
    refine wz_goto C dX10_isWord_28 (tgt := 5) (by decide) ?_
    have e1 : ((j : Int) + 1) = ((j + 1 : Nat) : Int) := by omega
    rw [e1]
    exact ih (j + 1) _ (by omega) (by rw [← wF_drop (by omega)]; exact hw)
theorem k_X10_isWord (hG : Kok G) (hb : lets bs) (hJ : ∀ U : State, G.1.2 U → sJ G U) (hF : ∀ U : State, G.1.2 U → sF G q bs U) (hr : rg (I 101 5)) {W : Int64} (hW : wF bs 0 = W) (P : Int → Ii → Jj → Prop) (h : wp_X10_isWordL W I J P) : Ctr G yX10_isWord wsX10_isWord rm_X10_isWord [.ref (kadr G 101), .ref q.1] (I, J) (QsB (fun v I1 J1 => rg (I1 101 5) ∧ P v I1 J1)) := by
  refine Ctr.ofZ (cc := cX10_isWord) (nL := 5) (ret := (some .boolean)) [some (.ref (kadr G 101)), some (.ref q.1), none, none, none] hG (by decide +kernel) rfl (Nat.le_of_ble_eq_true rfl) (Nat.le_of_ble_eq_true rfl) (by simp [lvA, lv_args, Value.category]) ?_
  intro X hX C
  refine wz_lconst C (v := 0) (by decide) dX10_isWord_0 ?_
  refine wz_lstore_2 C rfl dX10_isWord_1 ?_
  refine wz_iconst C dX10_isWord_2 ?_
  refine wz_istore_4 C rfl dX10_isWord_3 ?_
  refine lk_X10_isWord hG hb hJ hF X hX C (W := W) (fun x => ?_) bs.length 0 0 (by omega) hW
  have no : ¬ (I 101 5 = 1 ∧ J 101 6 = W) → ∀ x : Int32, Wz G X 5 (QsU G X (QsB (fun v I1 J1 => rg (I1 101 5) ∧ P v I1 J1))) 0 0 52 [some (.ref (kadr G 101)), some (.ref q.1), some (.long W), none, some (.int x)] [] I J := fun c x => by
    refine wz_iconst C dX10_isWord_52 ?_
    exact wz_zret C (Or.inl rfl) dX10_isWord_53 ⟨_, rfl, Or.inl rfl, hr, h.2 c⟩
  refine wz_aload_n C rfl rfl dX10_isWord_31 ?_
  refine wz_getI C rfl f_X10_isWord_38 rfl dX10_isWord_32 ?_
  refine wz_iconst C dX10_isWord_35 ?_
  refine wz_icmp_ne C (tgt := 52) hr (by decide) dX10_isWord_36 (by decide) (fun c => no (fun z => c z.1) x) (fun c => ?_)
  refine wz_aload_n C rfl rfl dX10_isWord_39 ?_
  refine wz_getJ C rfl f_X10_isWord_71 rfl dX10_isWord_40 ?_
  refine wz_lload_n C rfl rfl dX10_isWord_43 ?_
  refine wd_lcmp C dX10_isWord_44 ?_
  refine wz_if_ne C (tgt := 52) (toInt_rg _) dX10_isWord_45 (by decide) (fun c2 => no (fun z => c2 (cmpL_eq.mpr z.2)) x) (fun c2 => ?_)
  refine wz_iconst C dX10_isWord_48 ?_
  refine wz_goto C dX10_isWord_49 (tgt := 53) (by decide) ?_
  exact wz_zret C (Or.inr rfl) dX10_isWord_53 ⟨_, rfl, Or.inr rfl, hr, h.1 ⟨c, cmpL_eq.mp c2⟩⟩
end WRD
/-- the letters of the words, and their numbers -/
theorem kWrd_ok : ∀ (i : Nat) (q : String × Nat × String × List Int × Int), kWrd[i]? = some q → lets q.2.2.2.1 ∧ wF q.2.2.2.1 0 = lZ q.2.2.2.2 := by
  have h : ∀ q ∈ kWrd, lets q.2.2.2.1 ∧ wF q.2.2.2.1 0 = lZ q.2.2.2.2 := by unfold lets; decide +kernel
  exact fun i q hq => h q (List.mem_of_getElem? hq)
section WSW
variable {G : KG} {X : KX} {nL : Nat} {Qs : State → Prop} {pc : Nat} {lv : List (Option Value)} {I : Ii} {J : Jj} {cc : ByteArray} {own : String} {ret : Option FieldType} {Ts : List Cond}
/-- a word's constant, and whether the token is it -/
theorem wd_isw (C : Fr G X cc nL own ret Ts) (hG : Kok G) (hW : KSx G) (hr : rg (I 101 5)) (i : Nat) {idx im a b : Nat} {tx : String} {bs : List Int} {n : Int} (hi : kWrd[i]? = some (own, idx, tx, bs, n)) {P : Int → Ii → Jj → Prop} (h : wp_X10_isWordL (lZ n) I J P) (g : GoodIn Ts (wsV own im RX10 yX10_isWord wsX10_isWord)) (hR : 5 ≤ (KR X).frames ∧ 160 ≤ (KR X).locals) (dl : decode cc pc = .ok (.ldc idx, 2)) (dv : decode cc (pc + 2) = .ok (.invokevirtual im, 3))
    (k : ∀ (v : Int) (I1 : Ii) (J1 : Jj), (v = 0 ∨ v = 1) → rg (I1 101 5) → P v I1 J1 → Wz G X nL Qs a b (pc + 5) lv [.int (iZ v)] I1 J1) : Wz G X nL Qs a b pc lv [.ref (kadr G 101)] I J := by
  obtain ⟨sd, hS⟩ := hW
  obtain ⟨hb, hn⟩ := kWrd_ok i _ hi
  refine ws_ldc C (q := (sd i).1) (fun U hU => ((hS U hU).2 i _ hi).1) dl ?_
  refine wm_callV C (o := 101) (As := [.ref (sd i).1]) (st := []) (a' := a) (b' := b) rfl rfl (k_X10_isWord (q := sd i) hG hb (fun U hU => (hS U hU).1) (fun U hU => ((hS U hU).2 i _ hi).2) hr hn P h) 1 g rfl (by decide +kernel) ⟨hR.1, Nat.le_trans (show 8 + (5 + 11) + rm_X10_isWord.locals ≤ 160 from by decide) hR.2⟩ rfl (Nat.le_of_ble_eq_true rfl) (Nat.zero_add _) (Nat.zero_add _) rfl dv (kk_sB (fun v I1 J1 hv h => k v I1 J1 hv h.1 h.2))
end WSW

/-! ===== building: the law's own graph ===== -/
theorem bup_bup {E : Nat → va_E} {o : Nat} {x y : va_E} : bup (bup E o x) o y = bup E o y := by
  funext j
  unfold bup
  by_cases c : j = o
  · rw [if_pos c, if_pos c]
  · rw [if_neg c, if_neg c, if_neg c]
theorem bup_bld {E : Nat → va_E} {o n : Nat} {x : Nat × List Value} : bup E o (.inr x) = bld E o x n [] := by
  funext j
  unfold bup bld
  by_cases c : j = o
  · rw [if_pos c, if_pos c]
  · rw [if_neg c, if_neg c, if_neg (by intro z; have := z.2; simp at this; omega)]
theorem BH.cong {G : KG} {n : Nat} {E E' : Nat → va_E} {H : Heap} (h : BH G n E H) (e : ∀ i, i < n → E' i = E i) : BH G n E' H := ⟨h.1, fun i hi => by rw [e i hi]; exact h.2 i hi⟩
/-- cells more, behind what an object made -/
theorem BH.more {G : KG} {n o k : Nat} {E : Nat → va_E} {x : Nat × List Value} {l m : List va_E} {H H1 : Heap} (ho : o < n) (hk : l.length = k) (h : BH G (n + k) (bld E o x n l) H) (hz : H1.size = H.size + m.length) (hq : ∀ q : Nat, q < H.size → H1[q]? = H[q]?) (he : ∀ (i : Nat) (e : va_E), m[i]? = some e → va_at G.2.2.1 vwCl (G.2.1 + (n + k + i), e) H1) : BH G (n + k + m.length) (bld E o x n (l ++ m)) H1 := by
  subst hk
  refine ⟨by rw [hz, h.1]; omega, fun i hi => ?_⟩
  by_cases c : i < n + l.length
  · have h1 := h.2 i c
    have e : bld E o x n (l ++ m) i = bld E o x n l i := by
      unfold bld
      by_cases d : i = o
      · rw [if_pos d, if_pos d]
      · rw [if_neg d, if_neg d]
        by_cases f : n ≤ i ∧ i < n + l.length
        · rw [if_pos f, if_pos ⟨f.1, by rw [List.length_append]; omega⟩, gd_l (by omega)]
        · rw [if_neg f, if_neg (by rw [List.length_append]; omega)]
    rw [e]
    exact h1.kept (hq _ (by rw [h.1]; show G.2.1 + i < _; omega))
  · have e : bld E o x n (l ++ m) i = m.getD (i - n - l.length) (.inr x) := by
      unfold bld
      rw [if_neg (by omega), if_pos ⟨by omega, by rw [List.length_append]; omega⟩, gd_r (by omega)]
    have hl : i - n - l.length < m.length := by omega
    rw [e, show G.2.1 + i = G.2.1 + (n + l.length + (i - n - l.length)) by omega]
    exact he _ _ (by rw [List.getD_eq_getElem?_getD, List.getElem?_eq_getElem hl]; rfl)
def tabL (G : KG) (m : Nat) : List va_E := .inl (G.2.2.2.1.2.2.2.2.2, (14, .inr (.inr (.inr (.inr (fun i => if i < 14 then some (G.2.1 + (m + 1 + i)) else none)))))) :: List.replicate 14 (.inl (G.2.2.2.1.1, (14, .inl (fun _ => iZ 0))))
section WBM
variable {G : KG} {X : KX} {nL : Nat} {Qs : State → Prop} {a b a' b' pc n o k : Nat} {E : Nat → va_E} {x : Nat × List Value} {l : List va_E} {lv : List (Option Value)} {st : List Value} {cc : ByteArray} {own : String} {ret : Option FieldType} {Ts : List Cond} {ini : Bool}
/-- a static that stands fast -/
theorem wb_gets (C : FrB G X cc nL own ret Ts ini) {Cn m d : String} {v : Value} {idx : Nat} (hZ : ∀ U : State, G.1.2 U → va_Z Cn m d v (KFr G) U U.heap) (hlk : Cond.fieldLink own idx Cn m d ∈ Ts) (dd : decode cc pc = .ok (.getstatic idx, 3)) (kk : Wb G X nL Qs a b (pc + 3) lv (v :: st) n E) : Wb G X nL Qs a b pc lv st n E := by
  obtain ⟨p, e, R, s, m, args, below, meth, c⟩ := X
  obtain ⟨hx, hb, hml, hown, hts, hr, hlk9, hKK, hin, hlo⟩ := C
  intro k9 n9 hk9 hn9 H locs ls hP hS hl
  exact va_gets hx hb (hZ s hKK.2.2.1) hS hown (hts _ hlk) (fun x h => h) dd (kk k9 n9 hk9 hn9 H locs ls hP hS hl)
theorem wb_ldcS (C : FrB G X cc nL own ret Ts ini) (hW : KWx G) {tx : String} {idx q : Nat} (hq : (own, idx, tx, q) ∈ kLdc) (dd : decode cc pc = .ok (.ldc idx, 2)) (kk : Wb G X nL Qs a b (pc + 2) lv (.ref (kadr G q) :: st) n E) : Wb G X nL Qs a b pc lv st n E := by
  obtain ⟨mi, hW⟩ := hW
  obtain ⟨p, e, R, s, m, args, below, meth, c⟩ := X
  obtain ⟨hx, hb, hml, hown, hts, hr, hlk9, hKK, hin, hlo⟩ := C
  intro k9 n9 hk9 hn9 H locs ls hP hS hl
  exact va_ldcS hx hb hown ((hW s hKK.2.2.1).2.2.2.2.2.2 _ hq) dd (kk k9 n9 hk9 hn9 H locs ls hP hS hl)
/-- new int[14][14] -/
theorem wl_mna (C : FrB G X cc nL own ret Ts ini) (hW : KWx G) (ho : o < n) (hk : l.length = k) {idx : Nat} (hw : Cond.classLink own idx "[[I" ∈ Ts) (hw2 : Cond.arrayClass .int ∈ Ts) (d : decode cc pc = .ok (.multianewarray idx 2, 4)) (ha : 15 + a' = a) (hb9 : 210 + b' = b) (kk : Wb G X nL Qs a' b' (pc + 4) lv (.ref (G.2.1 + (n + k)) :: st) (n + k + 15) (bld E o x n (l ++ tabL G (n + k)))) : Wb G X nL Qs a b pc lv (.int (iZ 14) :: .int (iZ 14) :: st) (n + k) (bld E o x n l) := by
  obtain ⟨mi, hW⟩ := hW
  obtain ⟨p, e, R, s, m, args, below, meth, c⟩ := X
  obtain ⟨hx, hb, hml, hown, hts, hr, hlk, hKK, hin, hlo⟩ := C
  have hK := hKK.1
  intro k9 n9 hk9 hn9 H locs ls hP hS hl
  have en : (iZ 14).toNatClampNeg = 14 := iZ_cN (z := 14) (by decide) (by decide)
  intro T hT Xs
  obtain ⟨vm₁, cA, comp, -, fA, fC, hO, -, X', step⟩ := Xs.multianewarray2F hx hown (hts _ hw) (wAOA.use (hW s hKK.2.2.1).2.2.2.2.1.2.1) (hts _ hw2) (g := F0 m pc ls (.int (iZ 14) :: .int (iZ 14) :: st)) rfl (by rw [hb]; exact d) rfl (iZ_ng (by decide) (by decide)) (iZ_ng (by decide) (by decide)) (by rw [en]; omega) (by rw [en]; show 14 * 4 ≤ _; omega) (by rw [en]; omega) rfl rfl (by rw [en]; omega) (by rw [en]; omega)
  rw [en] at X' step
  have eA : cA = G.2.2.2.1.2.2.2.2.2 := Option.some.inj (fA.symm.trans (hK.2 5 _ rfl).2)
  have eC : comp = G.2.2.2.1.1 := Option.some.inj (fC.symm.trans (hK.2 0 _ rfl).2)
  subst eA
  subst eC
  have hTh : (T.setVm vm₁).heap = H := hT
  obtain ⟨f1, f2, -, -⟩ := Jvm.Free.Multi.fill_facts (T.setVm vm₁) G.2.2.2.1.2.2.2.2.2 G.2.2.2.1.1 14 14 (defaultValue .int) 14
  have f3 := fun (x : Nat) (hx : x < (T.setVm vm₁).heap.size) => Jvm.Free.Multi.fill_old (T.setVm vm₁) G.2.2.2.1.2.2.2.2.2 G.2.2.2.1.1 14 14 (defaultValue .int) (a := x) hx 14
  have f4 := Jvm.Free.Multi.fill_inner (T.setVm vm₁) G.2.2.2.1.2.2.2.2.2 G.2.2.2.1.1 14 14 (defaultValue .int) 14
  generalize Jvm.Free.Multi.fill (T.setVm vm₁) G.2.2.2.1.2.2.2.2.2 G.2.2.2.1.1 14 14 (defaultValue .int) 14 = F at f1 f2 f3 f4 X' step
  rw [hTh] at f1 f2 f3 f4
  rw [vr_outer] at f2
  have p1 := hP.1
  have hall : BH G (n + k + (tabL G (n + k)).length) (bld E o x n (l ++ tabL G (n + k))) F.heap := by
    refine hP.more ho hk (by rw [f1]; rfl) f3 (fun i e9 he => ?_)
    match i, he with
    | 0, he =>
      have he : some (Sum.inl (G.2.2.2.1.2.2.2.2.2, (14, Sum.inr (Sum.inr (Sum.inr (Sum.inr (fun i => if i < 14 then some (G.2.1 + (n + k + 1 + i)) else none))))))) = some e9 := he
      cases he
      show F.heap[G.2.1 + (n + k + 0)]? = some (vp_cell G.2.2.2.1.2.2.2.2.2 (14, .inr (.inr (.inr (.inr (fun i => if i < 14 then some (G.2.1 + (n + k + 1 + i)) else none))))))
      rw [show G.2.1 + (n + k + 0) = H.size by omega, f2, vp_cell_q]
      refine congrArg some (congrArg (arrV _ _) (funext fun j => congrArg va_rf ?_))
      by_cases c1 : j < 14
      · rw [if_pos c1, if_pos c1]; exact congrArg some (by omega)
      · rw [if_neg c1, if_neg c1]
    | i + 1, he =>
      have he : (List.replicate 14 (Sum.inl (G.2.2.2.1.1, (14, Sum.inl (fun _ => iZ 0)))) : List va_E)[i]? = some e9 := he
      rw [List.getElem?_replicate] at he
      split at he
      · rename_i hi
        cases he
        show F.heap[G.2.1 + (n + k + (i + 1))]? = some (vp_cell G.2.2.2.1.1 (14, .inl (fun _ => iZ 0)))
        rw [show G.2.1 + (n + k + (i + 1)) = H.size + 1 + i by omega, f4 i hi]
        show some (Jvm.Free.Multi.innerC G.2.2.2.1.1 14 (.int 0)) = some (arrV G.2.2.2.1.1 14 (fun _ => .int (iZ 0)))
        exact congrArg some (arrV_new _ _ _)
      · exact absurd he (by simp)
  have ad : G.2.1 + (n + k) = T.heap.size := by rw [hT, p1]
  rw [ad] at kk
  obtain ⟨t, b1, b2⟩ := kk (k9 + 1 + 14) (n9 + 14 + 14 * 14) (by omega) (by omega) F.heap locs ls hall ⟨Nat.le_trans hS.1 (by rw [f1]; omega), fun q h1 h2 => by rw [f3 q (Nat.lt_of_lt_of_le h1 hS.1)]; exact hS.2.1 q h1 h2, hS.2.2⟩ hl F rfl X'
  exact ⟨t, step t b1, b2⟩
end WBM
/-! the lists -/
def zAL : List Value := [.int 0, .null, .int 0]
def oAL (G : KG) : List Value := [.int (iZ 0), .ref (kadr G 930), .int 0]
def rbAC : Room := { frames := 1, cells := 0, slots := 0, locals := 20 }
def rbAL : Room := { frames := 2, cells := 0, slots := 0, locals := 40 }
def rbAR : Room := { frames := 3, cells := 0, slots := 0, locals := 60 }
theorem c_JAC {G : KG} {o n : Nat} {E : Nat → va_E} : CtrB G yJxa1e45_init_da8c8 wsJxa1e45_init_da8c8 rbAC [.ref (G.2.1 + o)] n E n E := by
  refine CtrB.of (cc := cJxa1e45_init_da8c8) (nL := 1) (ret := none) [some (.ref (G.2.1 + o))] (by decide +kernel) rfl rfl (Nat.le_of_ble_eq_true rfl) (Nat.le_of_ble_eq_true rfl) (by rintro q (_ | ⟨_, _ | ⟨⟩⟩); exact List.Mem.head _) (fun X hX C => ?_)
  refine wb_aload_n C (j := 0) rfl rfl dJxa1e45_init_da8c8_0 ?_
  refine wb_obj C (by decide +kernel) (by decide +kernel) (by decide +kernel) (by rw [hX]; exact ⟨by decide, by decide⟩) dJxa1e45_init_da8c8_1 ?_
  exact wb_vret C dJxa1e45_init_da8c8_4
theorem in_bJL : ∀ w ∈ wsJx4a65c0, w ∈ wsJxc12de_init_da8c8 := by decide +kernel
theorem bf_JL_7 : FLk wsJxc12de_init_da8c8 RJxc12de 7 2 0 := flk 2 0 rfl tyJx4a65c_ok nmJx4a65c in_bJL (by decide) (by decide +kernel)
theorem c_JL {G : KG} {o n : Nat} {E : Nat → va_E} (h : E o = .inr (2, zAL)) (ho : o < n) : CtrB G yJxc12de_init_da8c8 wsJxc12de_init_da8c8 rbAL [.ref (G.2.1 + o)] n E n (bup E o (.inr (2, [.int (iZ 0), .null, .int 0]))) := by
  refine CtrB.of (cc := cJxc12de_init_da8c8) (nL := 1) (ret := none) [some (.ref (G.2.1 + o))] (by decide +kernel) rfl rfl (Nat.le_of_ble_eq_true rfl) (Nat.le_of_ble_eq_true rfl) (by rintro q (_ | ⟨_, _ | ⟨⟩⟩); exact List.Mem.head _) (fun X hX C => ?_)
  refine wb_aload_n C (j := 0) rfl rfl dJxc12de_init_da8c8_0 ?_
  refine wb_init C (o := o) (n := n) (E := E) (a' := 0) (b' := 0) c_JAC gJxc12de_init_da8c8_Jxa1e45_init_da8c8 (by decide +kernel) (by decide +kernel) (by decide +kernel) rfl rfl (by decide) (by rw [hX]; exact ⟨by decide, by decide⟩) (Nat.le_of_ble_eq_true rfl) rfl rfl dJxc12de_init_da8c8_1 ?_
  refine wb_aload_n C (j := 0) rfl rfl dJxc12de_init_da8c8_4 ?_
  refine wb_iconst C dJxc12de_init_da8c8_5 ?_
  refine wb_put C bf_JL_7 fp_Jx4a65c_0 h ho rfl rfl (Nat.le_of_ble_eq_true rfl) dJxc12de_init_da8c8_6 ?_
  exact wb_vret C dJxc12de_init_da8c8_9
theorem in_bJR : ∀ w ∈ wsJx4a65c0, w ∈ wsJx4a65c_init_da8c8 := by decide +kernel
theorem bf_JR_9 : FLk wsJx4a65c_init_da8c8 RJx4a65c 9 2 1 := flk 2 1 rfl tyJx4a65c_ok nmJx4a65c in_bJR (by decide) (by decide +kernel)
theorem c_JR {G : KG} (hW : KWx G) {o n : Nat} {E : Nat → va_E} (h : E o = .inr (2, zAL)) (ho : o < n) : CtrB G yJx4a65c_init_da8c8 wsJx4a65c_init_da8c8 rbAR [.ref (G.2.1 + o)] n E (n + 0) (bld E o (2, oAL G) n []) := by
  have hZ : ∀ U : State, G.1.2 U → va_Z "java/util/ArrayList" "DEFAULTCAPACITY_EMPTY_ELEMENTDATA" "[Ljava/lang/Object;" (.ref (kadr G 930)) (KFr G) U U.heap := by
    obtain ⟨mi, hW⟩ := hW
    exact fun U hU => (hW U hU).2.2.2.1.1
  refine CtrB.of (cc := cJx4a65c_init_da8c8) (nL := 1) (ret := none) [some (.ref (G.2.1 + o))] (by decide +kernel) rfl rfl (Nat.le_of_ble_eq_true rfl) (Nat.le_of_ble_eq_true rfl) (by rintro q (_ | ⟨_, _ | ⟨⟩⟩); exact List.Mem.head _) (fun X hX C => ?_)
  refine wb_aload_n C (j := 0) rfl rfl dJx4a65c_init_da8c8_0 ?_
  refine wb_init C (o := o) (n := n) (E := E) (a' := 0) (b' := 0) (c_JL h ho) gJx4a65c_init_da8c8_Jxc12de_init_da8c8 (by decide +kernel) (by decide +kernel) (by decide +kernel) rfl rfl (by decide) (by rw [hX]; exact ⟨by decide, by decide⟩) (Nat.le_of_ble_eq_true rfl) rfl rfl dJx4a65c_init_da8c8_1 ?_
  refine wb_aload_n C (j := 0) rfl rfl dJx4a65c_init_da8c8_4 ?_
  refine wb_gets C hZ (by decide +kernel) dJx4a65c_init_da8c8_5 ?_
  refine wb_put C (fs := [.int (iZ 0), .null, .int 0]) bf_JR_9 fp_Jx4a65c_1 (by unfold bup; rw [if_pos rfl]) ho rfl rfl (Nat.le_of_ble_eq_true rfl) dJx4a65c_init_da8c8_8 ?_
  rw [bup_bup, bup_bld (n := n)]
  exact wb_vret C dJx4a65c_init_da8c8_11

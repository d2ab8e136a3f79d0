/-! ===== cutShare and imbalance ===== -/
def csZ (σ : Nat → Int) : UInt32 := if allE σ = 0 then FP.fconst0 else FP.fdiv (FP.i2f (iZ (cutZ σ))) (FP.i2f (iZ (allE σ)))
def ibZ (σ : Nat → Int) : UInt64 := if allW σ = 0 then FP.dconst0 else FP.ddiv (FP.i2d (iZ (wOf σ ((hvZ σ ((σ 2).toNat - 1) : Nat) : Int) * σ 2))) (FP.i2d (iZ (allW σ)))
theorem csZ_ok {σ : Nat → Int} (hM : MS σ) : Jvm.FP.Core.val32 (csZ σ) ≠ .nan := by
  have b1 := allE_b hM
  have b2 := cutZ_b hM
  unfold csZ
  split
  · exact fl_f0
  · exact fl_fdiv (by omega) (by omega)
theorem wp_bd {σ : Nat → Int} (hM : MS σ) (p : Int) : 0 ≤ wOf σ p * σ 2 ∧ wOf σ p * σ 2 ≤ 5544 := by
  have b1 := wOf_b hM p
  have b2 := ms_2 hM
  have : σ 2 = 2 ∨ σ 2 = 3 ∨ σ 2 = 4 := by omega
  rcases this with e | e | e <;> rw [e] <;> omega
theorem ibZ_ok {σ : Nat → Int} (hM : MS σ) : Jvm.FP.Core.val64 (ibZ σ) ≠ .nan := by
  have b1 := allW_b hM
  have b2 := wp_bd hM ((hvZ σ ((σ 2).toNat - 1) : Nat) : Int)
  unfold ibZ
  split
  · exact fl_d0
  · exact fl_ddiv (by omega) (by omega)
section WFL
variable {G : KG} {X : KX} {nL : Nat} {Qs : State → Prop} {a b pc : Nat} {lv : List (Option Value)} {st : List Value} {I : Ii} {J : Jj} {cc : ByteArray} {own : String} {ret : Option FieldType} {Ts : List Cond} {Q : Option Value → Sg → Prop}
theorem wf_fconst0 (C : Fr G X cc nL own ret Ts) (d : decode cc pc = .ok (.fconst 0, 1)) (k : Wz G X nL Qs a b (pc + 1) lv (.float FP.fconst0 :: st) I J) : Wz G X nL Qs a b pc lv st I J := by
  obtain ⟨p, e, R, s, m, args, below, meth, c⟩ := X
  obtain ⟨hx, hb, hml, hown, hts, hr, hlk, hKK, hG, hlo⟩ := C
  intro k9 n9 hk9 hn9 H locs ls hP hS hl
  exact lv_fconst0 hx hb d (k k9 n9 hk9 hn9 H locs ls hP hS hl)
theorem wf_dconst0 (C : Fr G X cc nL own ret Ts) (d : decode cc pc = .ok (.dconst 0, 1)) (k : Wz G X nL Qs a b (pc + 1) lv (.double FP.dconst0 :: st) I J) : Wz G X nL Qs a b pc lv st I J := by
  obtain ⟨p, e, R, s, m, args, below, meth, c⟩ := X
  obtain ⟨hx, hb, hml, hown, hts, hr, hlk, hKK, hG, hlo⟩ := C
  intro k9 n9 hk9 hn9 H locs ls hP hS hl
  exact lv_dconst0 hx hb d (k k9 n9 hk9 hn9 H locs ls hP hS hl)
theorem wf_i2f (C : Fr G X cc nL own ret Ts) {x : Int32} (d : decode cc pc = .ok (.i2f, 1)) (k : Wz G X nL Qs a b (pc + 1) lv (.float (FP.i2f x) :: st) I J) : Wz G X nL Qs a b pc lv (.int x :: st) I J := by
  obtain ⟨p, e, R, s, m, args, below, meth, c⟩ := X
  obtain ⟨hx, hb, hml, hown, hts, hr, hlk, hKK, hG, hlo⟩ := C
  intro k9 n9 hk9 hn9 H locs ls hP hS hl
  exact lv_i2f hx hb d (k k9 n9 hk9 hn9 H locs ls hP hS hl)
theorem wf_i2d (C : Fr G X cc nL own ret Ts) {x : Int32} (d : decode cc pc = .ok (.i2d, 1)) (k : Wz G X nL Qs a b (pc + 1) lv (.double (FP.i2d x) :: st) I J) : Wz G X nL Qs a b pc lv (.int x :: st) I J := by
  obtain ⟨p, e, R, s, m, args, below, meth, c⟩ := X
  obtain ⟨hx, hb, hml, hown, hts, hr, hlk, hKK, hG, hlo⟩ := C
  intro k9 n9 hk9 hn9 H locs ls hP hS hl
  exact lv_i2d hx hb d (k k9 n9 hk9 hn9 H locs ls hP hS hl)
theorem wf_fdiv (C : Fr G X cc nL own ret Ts) {x y : UInt32} (h : Jvm.FP.Core.val32 (FP.fdiv x y) ≠ .nan) (d : decode cc pc = .ok (.fdiv, 1)) (k : Wz G X nL Qs a b (pc + 1) lv (.float (FP.fdiv x y) :: st) I J) : Wz G X nL Qs a b pc lv (.float y :: .float x :: st) I J := by
  obtain ⟨p, e, R, s, m, args, below, meth, c⟩ := X
  obtain ⟨hx, hb, hml, hown, hts, hr, hlk, hKK, hG, hlo⟩ := C
  intro k9 n9 hk9 hn9 H locs ls hP hS hl
  exact lv_fdiv hx hb d (fl_n32 h) (k k9 n9 hk9 hn9 H locs ls hP hS hl)
theorem wf_ddiv (C : Fr G X cc nL own ret Ts) {x y : UInt64} (h : Jvm.FP.Core.val64 (FP.ddiv x y) ≠ .nan) (d : decode cc pc = .ok (.ddiv, 1)) (k : Wz G X nL Qs a b (pc + 1) lv (.double (FP.ddiv x y) :: st) I J) : Wz G X nL Qs a b pc lv (.double y :: .double x :: st) I J := by
  obtain ⟨p, e, R, s, m, args, below, meth, c⟩ := X
  obtain ⟨hx, hb, hml, hown, hts, hr, hlk, hKK, hG, hlo⟩ := C
  intro k9 n9 hk9 hn9 H locs ls hP hS hl
  exact lv_ddiv hx hb d (fl_n64 h) (k k9 n9 hk9 hn9 H locs ls hP hS hl)
theorem wf_f2d (C : Fr G X cc nL own ret Ts) {x : UInt32} (h : Jvm.FP.Core.val32 x ≠ .nan) (d : decode cc pc = .ok (.f2d, 1)) (k : Wz G X nL Qs a b (pc + 1) lv (.double (FP.f2d x) :: st) I J) : Wz G X nL Qs a b pc lv (.float x :: st) I J := by
  obtain ⟨p, e, R, s, m, args, below, meth, c⟩ := X
  obtain ⟨hx, hb, hml, hown, hts, hr, hlk, hKK, hG, hlo⟩ := C
  intro k9 n9 hk9 hn9 H locs ls hP hS hl
  exact lv_f2d hx hb d (fl_n64 (fl_f2d h)) (k k9 n9 hk9 hn9 H locs ls hP hS hl)
theorem wf_dcmp (C : Fr G X cc nL own ret Ts) {x : UInt64} (h : Jvm.FP.Core.val64 x ≠ .nan) (d : decode cc pc = .ok (.dcmp .l, 1)) (k : Wz G X nL Qs a b (pc + 1) lv (.int (iZ 0) :: st) I J) : Wz G X nL Qs a b pc lv (.double x :: .double x :: st) I J := by
  obtain ⟨p, e, R, s, m, args, below, meth, c⟩ := X
  obtain ⟨hx, hb, hml, hown, hts, hr, hlk, hKK, hG, hlo⟩ := C
  intro k9 n9 hk9 hn9 H locs ls hP hS hl
  exact lv_dcmp hx hb d (by rw [fl_cmp h]; exact k k9 n9 hk9 hn9 H locs ls hP hS hl)
theorem wf_dload (C : Fr G X cc nL own ret Ts) {i : Nat} {x : UInt64} (h : lv[i]? = some (some (.double x))) (d : decode cc pc = .ok (.dload i, 2)) (k : Wz G X nL Qs a b (pc + 2) lv (.double x :: st) I J) : Wz G X nL Qs a b pc lv st I J := by
  obtain ⟨p, e, R, s, m, args, below, meth, c⟩ := X
  obtain ⟨hx, hb, hml, hown, hts, hr, hlk, hKK, hG, hlo⟩ := C
  intro k9 n9 hk9 hn9 H locs ls hP hS hl
  exact lv_dload hx hb d (hl.2.2.2 _ _ h) (k k9 n9 hk9 hn9 H locs ls hP hS hl)
theorem wf_dstore (C : Fr G X cc nL own ret Ts) {i : Nat} {x : UInt64} {lv' : List (Option Value)} (hi : i + 1 < lv.length) (hn : nolong lv i = true) (he : (lv.set i (some (.double x))).set (i + 1) none = lv') (d : decode cc pc = .ok (.dstore i, 2)) (k : Wz G X nL Qs a b (pc + 2) lv' st I J) : Wz G X nL Qs a b pc lv (.double x :: st) I J := by
  obtain ⟨p, e, R, s, m, args, below, meth, c⟩ := X
  obtain ⟨hx, hb, hml, hown, hts, hr, hlk, hKK, hG, hlo⟩ := C
  intro k9 n9 hk9 hn9 H locs ls hP hS hl
  subst he
  exact lv_dstore (lv := lvA 0 lv) hx hb d hl.has (Nat.lt_of_lt_of_le hi hl.2.2.1) rfl (fun ls' hl' => k k9 n9 hk9 hn9 H locs ls' hP hS (lvD.stored2 hl.2.2.1 hi hn hl'))
theorem wf_fret (C : Fr G X cc nL own (some .float) Ts) {x : UInt32} (d : decode cc pc = .ok (.freturn, 1)) (hq : Q (some (.float x)) (I, J)) : Wz G X nL (QsU G X Q) a b pc lv [.float x] I J := by
  obtain ⟨p, e, R, s, m, args, below, meth, c⟩ := X
  obtain ⟨hx, hb, hml, hown, hts, hr, hlk, hKK, hG, hlo⟩ := C
  intro k9 n9 hk9 hn9 H locs ls hP hS hl
  refine mq_widen (k2 := R.cells) (n2 := R.slots) (by omega) (by omega) ?_
  exact W.fret hx hb hr (fun t ht hW => ⟨⟨_, (I, J), rfl, hq, by rw [ht]; exact hP⟩, hS.F ht⟩) hS.2.2 d hlk
theorem wf_dret (C : Fr G X cc nL own (some .double) Ts) {x : UInt64} (d : decode cc pc = .ok (.dreturn, 1)) (hq : Q (some (.double x)) (I, J)) : Wz G X nL (QsU G X Q) a b pc lv [.double x] I J := by
  obtain ⟨p, e, R, s, m, args, below, meth, c⟩ := X
  obtain ⟨hx, hb, hml, hown, hts, hr, hlk, hKK, hG, hlo⟩ := C
  intro k9 n9 hk9 hn9 H locs ls hP hS hl
  refine mq_widen (k2 := R.cells) (n2 := R.slots) (by omega) (by omega) ?_
  exact W.dret hx hb hr (fun t ht hW => ⟨⟨_, (I, J), rfl, hq, by rw [ht]; exact hP⟩, hS.F ht⟩) hS.2.2 d hlk
end WFL
/-- an answer, and a store of which P holds -/
def QP (v : Value) (P : Ii → Jj → Prop) : Option Value → Sg → Prop := fun r S' => r = some v ∧ P S'.1 S'.2
theorem in_X11_cutShare_X11 : ∀ w ∈ wsX110, w ∈ wsX11_cutShare := by decide +kernel
theorem in_X11_cutShare_X2 : ∀ w ∈ wsX20, w ∈ wsX11_cutShare := by decide +kernel
theorem f_X11_cutShare_40 : FLk wsX11_cutShare RX11 40 11 4 := flk 11 4 rfl tyX11_ok nmX11 in_X11_cutShare_X11 (by decide) (by decide +kernel)
theorem f_X11_cutShare_274 : FLk wsX11_cutShare RX11 274 2 6 := flk 2 6 rfl tyX2_ok nmX2 in_X11_cutShare_X2 (by decide) (by decide +kernel)
theorem in_X11_imbalance_X11 : ∀ w ∈ wsX110, w ∈ wsX11_imbalance := by decide +kernel
theorem in_X11_imbalance_X2 : ∀ w ∈ wsX20, w ∈ wsX11_imbalance := by decide +kernel
theorem in_X11_imbalance_X4 : ∀ w ∈ wsX40, w ∈ wsX11_imbalance := by decide +kernel
theorem f_X11_imbalance_40 : FLk wsX11_imbalance RX11 40 11 4 := flk 11 4 rfl tyX11_ok nmX11 in_X11_imbalance_X11 (by decide) (by decide +kernel)
theorem f_X11_imbalance_53 : FLk wsX11_imbalance RX11 53 11 7 := flk 11 7 rfl tyX11_ok nmX11 in_X11_imbalance_X11 (by decide) (by decide +kernel)
theorem f_X11_imbalance_73 : FLk wsX11_imbalance RX11 73 11 12 := flk 11 12 rfl tyX11_ok nmX11 in_X11_imbalance_X11 (by decide) (by decide +kernel)
theorem f_X11_imbalance_271 : FLk wsX11_imbalance RX11 271 2 5 := flk 2 5 rfl tyX2_ok nmX2 in_X11_imbalance_X2 (by decide) (by decide +kernel)
theorem f_X11_imbalance_262 : FLk wsX11_imbalance RX11 262 2 2 := flk 2 2 rfl tyX2_ok nmX2 in_X11_imbalance_X2 (by decide) (by decide +kernel)
theorem f_X11_imbalance_337 : FLk wsX11_imbalance RX11 337 4 10 := flk 4 10 rfl tyX4_ok nmX4 in_X11_imbalance_X4 (by decide) (by decide +kernel)
theorem in_X12_cutShare_X12 : ∀ w ∈ wsX120, w ∈ wsX12_cutShare := by decide +kernel
theorem f_X12_cutShare_90 : FLk wsX12_cutShare RX12 90 12 0 := flk 12 0 rfl tyX12_ok nmX12 in_X12_cutShare_X12 (by decide) (by decide +kernel)
theorem in_X12_imbalance_X12 : ∀ w ∈ wsX120, w ∈ wsX12_imbalance := by decide +kernel
theorem f_X12_imbalance_90 : FLk wsX12_imbalance RX12 90 12 0 := flk 12 0 rfl tyX12_ok nmX12 in_X12_imbalance_X12 (by decide) (by decide +kernel)
theorem f_X12_imbalance_26 : FLk wsX12_imbalance RX12 26 12 15 := flk 12 15 rfl tyX12_ok nmX12 in_X12_imbalance_X12 (by decide) (by decide +kernel)
def rmF : Room := { frames := 9, cells := 0, slots := 0, locals := 300 }
section KFL
variable {G : KG} {n : Nat} {I : Ii} {J : Jj}
set_option maxHeartbeats 4000000 in
set_option maxRecDepth 100000 in
theorem k_X11_cutShare (hG : Kok G) (h : Inv n I J) : Ctr G yX11_cutShare wsX11_cutShare rmF [.ref (kadr G 100)] (I, J) (QP (.float (csZ (I 2))) (fun I1 J1 => Inv n I1 J1 ∧ I1 2 = I 2)) := by
  obtain ⟨hV, hT, hT7, hD, hNm, hE, hR, hS⟩ := h.1
  have bE := allE_b hV.M
  have bC := cutZ_b hV.M
  have e6 : I 200 6 = allE (I 2) := hR.2.2.2.2.2.1
  refine Ctr.ofZ (cc := cX11_cutShare) (nL := 1) (ret := (some .float)) [some (.ref (kadr G 100))] hG (by decide +kernel) rfl (Nat.le_of_ble_eq_true rfl) (Nat.le_of_ble_eq_true rfl) (by simp [lvA, lv_args, Value.category]) ?_
  intro X hX C
  refine wz_aload_n C rfl rfl dX11_cutShare_0 ?_
  refine wz_getR C (j := 200) f_X11_cutShare_40 rfl dX11_cutShare_1 ?_
  refine wz_getI C e6 f_X11_cutShare_274 rfl dX11_cutShare_4 ?_
  refine wz_if_ne C (tgt := 12) (by omega) dX11_cutShare_7 (by decide) (fun c => ?_) (fun c => ?_)
  · refine wz_aload_n C rfl rfl dX11_cutShare_12 ?_
    refine wm_callV C (o := 100) (As := []) (st := []) (a' := 0) (b' := 0) rfl rfl (k_X11_cut G hG I J (fun r I1 J1 => r = cutZ (I 2) ∧ Inv n I1 J1 ∧ I1 2 = I 2 ∧ I1 200 6 = allE (I 2)) (fr_X11_cut (c_cut hV hR hS) (fun r I1 J1 hr s1 => ⟨hr, h.fr s1, s1.k, (show I1 200 6 = I 200 6 from s1.i).trans e6⟩))) 0 gX11_cutShare_X11_cut rfl (by decide +kernel) (by rw [hX]; exact ⟨Nat.le_of_ble_eq_true rfl, Nat.le_of_ble_eq_true rfl⟩) rfl (Nat.le_of_ble_eq_true rfl) rfl rfl rfl dX11_cutShare_13 (kk_sI (fun r I1 J1 h1 => ?_))
    obtain ⟨rfl, h2, h3, h4⟩ := h1
    refine wf_i2f C dX11_cutShare_16 ?_
    refine wz_aload_n C rfl rfl dX11_cutShare_17 ?_
    refine wz_getR C (j := 200) f_X11_cutShare_40 rfl dX11_cutShare_18 ?_
    refine wz_getI C h4 f_X11_cutShare_274 rfl dX11_cutShare_21 ?_
    refine wf_i2f C dX11_cutShare_24 ?_
    refine wf_fdiv C (fl_fdiv (by omega) (by omega)) dX11_cutShare_25 ?_
    exact wf_fret C dX11_cutShare_26 ⟨by unfold csZ; rw [if_neg c], h2, h3⟩
  · refine wf_fconst0 C dX11_cutShare_10 ?_
    exact wf_fret C dX11_cutShare_11 ⟨by unfold csZ; rw [if_pos c], h, rfl⟩
set_option maxHeartbeats 4000000 in
set_option maxRecDepth 100000 in
theorem k_X12_cutShare (hG : Kok G) (h : Inv n I J) : Ctr G yX12_cutShare wsX12_cutShare rmF [.ref (kadr G 0)] (I, J) (QP (.float (csZ (I 2))) (fun I1 J1 => Inv n I1 J1)) := by
  have hM := h.1.1.M
  have bE := allE_b hM
  have bC := cutZ_b hM
  refine Ctr.ofZ (cc := cX12_cutShare) (nL := 2) (ret := (some .float)) [some (.ref (kadr G 0)), none] hG (by decide +kernel) rfl (Nat.le_of_ble_eq_true rfl) (Nat.le_of_ble_eq_true rfl) (by simp [lvA, lv_args, Value.category]) ?_
  intro X hX C
  refine wz_aload_n C rfl rfl dX12_cutShare_0 ?_
  refine wz_iconst C dX12_cutShare_1 ?_
  refine wd_putI C f_X12_cutShare_90 fp_X12_0 rfl dX12_cutShare_2 (fun I1 e => ?_)
  have h1 : Inv n I1 J := h.up00 e
  have e2 : I1 2 = I 2 := by rw [e, up2_key (by omega)]
  refine wz_aload_n C rfl rfl dX12_cutShare_5 ?_
  refine wm_callV C (o := 0) (As := []) (st := []) (a' := 0) (b' := 0) rfl rfl (k_X12_allEdges G hG I1 J (fun r I2 J2 => r = allE (I 2) ∧ Inv n I2 J2 ∧ I2 2 = I 2) (fr_X12_allEdges (s_allEdges h1.1.1.M) (fun v hv => ⟨by rw [hv, e2], h1, e2⟩))) 0 gX12_cutShare_X12_allEdges rfl (by decide +kernel) (by rw [hX]; exact ⟨Nat.le_of_ble_eq_true rfl, Nat.le_of_ble_eq_true rfl⟩) rfl (Nat.le_of_ble_eq_true rfl) rfl rfl rfl dX12_cutShare_6 (kk_sI (fun r I2 J2 h2 => ?_))
  obtain ⟨rfl, h3, e3⟩ := h2
  refine wz_istore_1 C rfl dX12_cutShare_9 ?_
  refine wz_iload_n C rfl rfl dX12_cutShare_10 ?_
  refine wz_if_ne C (tgt := 18) (by omega) dX12_cutShare_11 (by decide) (fun c => ?_) (fun c => ?_)
  · refine wz_aload_n C rfl rfl dX12_cutShare_18 ?_
    refine wm_callV C (o := 0) (As := []) (st := []) (a' := 0) (b' := 0) rfl rfl (k_X12_cutNow G hG I2 J2 (fun r I4 J4 => r = cutZ (I 2) ∧ Inv n I4 J4) (fr_X12_cutNow (s_cutNow h3.1.1.M) (fun v hv => ⟨by rw [hv, e3], h3⟩))) 0 gX12_cutShare_X12_cutNow rfl (by decide +kernel) (by rw [hX]; exact ⟨Nat.le_of_ble_eq_true rfl, Nat.le_of_ble_eq_true rfl⟩) rfl (Nat.le_of_ble_eq_true rfl) rfl rfl rfl dX12_cutShare_19 (kk_sI (fun r I4 J4 h4 => ?_))
    obtain ⟨rfl, h5⟩ := h4
    refine wf_i2f C dX12_cutShare_22 ?_
    refine wz_iload_n C rfl rfl dX12_cutShare_23 ?_
    refine wf_i2f C dX12_cutShare_24 ?_
    refine wf_fdiv C (fl_fdiv (by omega) (by omega)) dX12_cutShare_25 ?_
    exact wf_fret C dX12_cutShare_26 ⟨by unfold csZ; rw [if_neg c], h5⟩
  · refine wf_fconst0 C dX12_cutShare_14 ?_
    refine wz_goto C dX12_cutShare_15 (tgt := 26) (by decide) ?_
    exact wf_fret C dX12_cutShare_26 ⟨by unfold csZ; rw [if_pos c], h3⟩
set_option maxHeartbeats 4000000 in
set_option maxRecDepth 100000 in
theorem k_X11_imbalance (hG : Kok G) (h : Inv n I J) : Ctr G yX11_imbalance wsX11_imbalance rmF [.ref (kadr G 100)] (I, J) (QP (.double (ibZ (I 2))) (fun I1 J1 => Inv n I1 J1 ∧ I1 2 = I 2)) := by
  obtain ⟨hV, hT, hT7, hD, hNm, hE, hR, hS⟩ := h.1
  have bE := allW_b hV.M
  have b2 := ms_2 hV.M
  have bv := hvZ_le (I 2) ((I 2 2).toNat - 1)
  have bC := wp_bd hV.M ((hvZ (I 2) ((I 2 2).toNat - 1) : Nat) : Int)
  have bw := wOf_b hV.M ((hvZ (I 2) ((I 2 2).toNat - 1) : Nat) : Int)
  have e5 : I 200 5 = allW (I 2) := hR.2.2.2.2.1
  have e2 : I 200 2 = I 2 2 := hR.2.2.1
  refine Ctr.ofZ (cc := cX11_imbalance) (nL := 2) (ret := (some .double)) [some (.ref (kadr G 100)), none] hG (by decide +kernel) rfl (Nat.le_of_ble_eq_true rfl) (Nat.le_of_ble_eq_true rfl) (by simp [lvA, lv_args, Value.category]) ?_
  intro X hX C
  refine wz_aload_n C rfl rfl dX11_imbalance_0 ?_
  refine wz_getR C (j := 200) f_X11_imbalance_40 rfl dX11_imbalance_1 ?_
  refine wz_getI C e5 f_X11_imbalance_271 rfl dX11_imbalance_4 ?_
  refine wz_if_ne C (tgt := 12) (by omega) dX11_imbalance_7 (by decide) (fun c => ?_) (fun c => ?_)
  · refine wz_aload_n C rfl rfl dX11_imbalance_12 ?_
    refine wz_getR C (j := 113) f_X11_imbalance_73 rfl dX11_imbalance_13 ?_
    refine wz_aload_n C rfl rfl dX11_imbalance_16 ?_
    refine wz_getR C (j := 200) f_X11_imbalance_40 rfl dX11_imbalance_17 ?_
    refine wz_aload_n C rfl rfl dX11_imbalance_20 ?_
    refine wz_getR C (j := 300) f_X11_imbalance_53 rfl dX11_imbalance_21 ?_
    refine wm_callV C (o := 113) (As := [.ref (kadr G 200), .ref (kadr G 300)]) (st := []) (a' := 0) (b' := 0) rfl rfl (k_X4_take G hG 200 300 I J (fun I1 J1 => ME (I 2) I1 ∧ Inv n I1 J1 ∧ I1 2 = I 2 ∧ I1 200 = I 200) (fr_X4_take (c_take sK300 hV hR hS) (fun I1 J1 hm s1 => ⟨hm, h.fr s1, s1.k, s1.k⟩))) 2 gX11_imbalance_X4_take rfl (by decide +kernel) (by rw [hX]; exact ⟨Nat.le_of_ble_eq_true rfl, Nat.le_of_ble_eq_true rfl⟩) rfl (Nat.le_of_ble_eq_true rfl) rfl rfl rfl dX11_imbalance_24 (kk_sV (fun I1 J1 h1 => ?_))
    obtain ⟨hm, h2, h3, h4⟩ := h1
    have ew : I1 118 (hvZ (I 2) ((I 2 2).toNat - 1)) = wOf (I 2) ((hvZ (I 2) ((I 2 2).toNat - 1) : Nat) : Int) := (hm.2.2.2.2.2.2.2.1 _ (by omega)).2
    refine wz_aload_n C rfl rfl dX11_imbalance_27 ?_
    refine wz_getR C (j := 113) f_X11_imbalance_73 rfl dX11_imbalance_28 ?_
    refine wz_getR C (j := 118) f_X11_imbalance_337 rfl dX11_imbalance_31 ?_
    refine wz_aload_n C rfl rfl dX11_imbalance_34 ?_
    refine wz_getR C (j := 113) f_X11_imbalance_73 rfl dX11_imbalance_35 ?_
    refine wm_callV C (o := 113) (As := []) (st := [.ref (kadr G 118)]) (a' := 0) (b' := 0) rfl rfl (k_X4_heaviestPart G hG I1 J1 (fun r I2 J2 => r = ((hvZ (I 2) ((I 2 2).toNat - 1) : Nat) : Int) ∧ I2 = I1 ∧ J2 = J1) (heaviestPart_of hV hm ⟨rfl, rfl, rfl⟩)) 0 gX11_imbalance_X4_heaviestPart rfl (by decide +kernel) (by rw [hX]; exact ⟨Nat.le_of_ble_eq_true rfl, Nat.le_of_ble_eq_true rfl⟩) rfl (Nat.le_of_ble_eq_true rfl) rfl rfl rfl dX11_imbalance_38 (kk_sI (fun r I2 J2 h5 => ?_))
    obtain ⟨rfl, rfl, rfl⟩ := h5
    refine wm_callS C (As := [.ref (kadr G 118), .int (iZ ((hvZ (I 2) ((I 2 2).toNat - 1) : Nat) : Int))]) (st := []) (a' := 0) (b' := 0) (k_X11_at G hG 118 _ I2 J2 (fun r I3 J3 => r = wOf (I 2) ((hvZ (I 2) ((I 2 2).toNat - 1) : Nat) : Int) ∧ I3 = I2 ∧ J3 = J2) (at_of (n := 4) (i := hvZ (I 2) ((I 2 2).toNat - 1)) rfl rfl (by omega) ⟨ew, rfl, rfl⟩)) 2 gX11_imbalance_X11_at rfl (by decide +kernel) (by rw [hX]; exact ⟨Nat.le_of_ble_eq_true rfl, Nat.le_of_ble_eq_true rfl⟩) rfl (Nat.le_of_ble_eq_true rfl) rfl rfl rfl dX11_imbalance_41 (kk_sI (fun r I3 J3 h6 => ?_))
    obtain ⟨rfl, rfl, rfl⟩ := h6
    refine wz_istore_1 C rfl dX11_imbalance_44 ?_
    refine wz_iload_n C rfl rfl dX11_imbalance_45 ?_
    refine wz_aload_n C rfl rfl dX11_imbalance_46 ?_
    refine wz_getR C (j := 200) f_X11_imbalance_40 rfl dX11_imbalance_47 ?_
    refine wz_getI C (v := I 2 2) (by rw [h4]; exact e2) f_X11_imbalance_262 rfl dX11_imbalance_50 ?_
    refine wz_imul C dX11_imbalance_53 ?_
    refine wf_i2d C dX11_imbalance_54 ?_
    refine wz_aload_n C rfl rfl dX11_imbalance_55 ?_
    refine wz_getR C (j := 200) f_X11_imbalance_40 rfl dX11_imbalance_56 ?_
    refine wz_getI C (v := allW (I 2)) (by rw [h4]; exact e5) f_X11_imbalance_271 rfl dX11_imbalance_59 ?_
    refine wf_i2d C dX11_imbalance_62 ?_
    refine wf_ddiv C (fl_ddiv (by omega) (by omega)) dX11_imbalance_63 ?_
    exact wf_dret C dX11_imbalance_64 ⟨by unfold ibZ; rw [if_neg c], h2, h3⟩
  · refine wf_dconst0 C dX11_imbalance_10 ?_
    exact wf_dret C dX11_imbalance_11 ⟨by unfold ibZ; rw [if_pos c], h, rfl⟩
set_option maxHeartbeats 4000000 in
set_option maxRecDepth 100000 in
theorem k_X12_imbalance (hG : Kok G) (h : Inv n I J) : Ctr G yX12_imbalance wsX12_imbalance rmF [.ref (kadr G 0)] (I, J) (QP (.double (ibZ (I 2))) (fun I1 J1 => Inv n I1 J1)) := by
  have hM := h.1.1.M
  have bE := allW_b hM
  have b2 := ms_2 hM
  have bv := hvZ_le (I 2) ((I 2 2).toNat - 1)
  have bC := wp_bd hM ((hvZ (I 2) ((I 2 2).toNat - 1) : Nat) : Int)
  refine Ctr.ofZ (cc := cX12_imbalance) (nL := 2) (ret := (some .double)) [some (.ref (kadr G 0)), none] hG (by decide +kernel) rfl (Nat.le_of_ble_eq_true rfl) (Nat.le_of_ble_eq_true rfl) (by simp [lvA, lv_args, Value.category]) ?_
  intro X hX C
  refine wz_aload_n C rfl rfl dX12_imbalance_0 ?_
  refine wz_iconst C dX12_imbalance_1 ?_
  refine wd_putI C f_X12_imbalance_90 fp_X12_0 rfl dX12_imbalance_2 (fun I1 e => ?_)
  have h1 : Inv n I1 J := h.up00 e
  have e2 : I1 2 = I 2 := by rw [e, up2_key (by omega)]
  refine wz_aload_n C rfl rfl dX12_imbalance_5 ?_
  refine wm_callV C (o := 0) (As := []) (st := []) (a' := 0) (b' := 0) rfl rfl (k_X12_allWeight G hG I1 J (fun r I2 J2 => r = allW (I 2) ∧ Inv n I2 J2 ∧ I2 2 = I 2) (fr_X12_allWeight (s_allWeight h1.1.1.M) (fun v hv => ⟨by rw [hv, e2], h1, e2⟩))) 0 gX12_imbalance_X12_allWeight rfl (by decide +kernel) (by rw [hX]; exact ⟨Nat.le_of_ble_eq_true rfl, Nat.le_of_ble_eq_true rfl⟩) rfl (Nat.le_of_ble_eq_true rfl) rfl rfl rfl dX12_imbalance_6 (kk_sI (fun r I2 J2 h2 => ?_))
  obtain ⟨rfl, h3, e3⟩ := h2
  refine wz_istore_1 C rfl dX12_imbalance_9 ?_
  refine wz_iload_n C rfl rfl dX12_imbalance_10 ?_
  refine wz_if_ne C (tgt := 18) (by omega) dX12_imbalance_11 (by decide) (fun c => ?_) (fun c => ?_)
  · refine wz_aload_n C rfl rfl dX12_imbalance_18 ?_
    refine wz_aload_n C rfl rfl dX12_imbalance_19 ?_
    refine wm_callV C (o := 0) (As := []) (st := [.ref (kadr G 0)]) (a' := 0) (b' := 0) rfl rfl (k_X12_heaviestNow G hG I2 J2 (fun r I4 J4 => r = ((hvZ (I 2) ((I 2 2).toNat - 1) : Nat) : Int) ∧ Inv n I4 J4 ∧ I4 2 = I 2) (fr_X12_heaviestNow (s_heaviestNow h3.1.1.M) (fun v hv => ⟨by rw [hv, e3], h3, e3⟩))) 0 gX12_imbalance_X12_heaviestNow rfl (by decide +kernel) (by rw [hX]; exact ⟨Nat.le_of_ble_eq_true rfl, Nat.le_of_ble_eq_true rfl⟩) rfl (Nat.le_of_ble_eq_true rfl) rfl rfl rfl dX12_imbalance_20 (kk_sI (fun r I4 J4 h4 => ?_))
    obtain ⟨rfl, h5, e5⟩ := h4
    refine wm_callV C (o := 0) (As := [.int (iZ ((hvZ (I 2) ((I 2 2).toNat - 1) : Nat) : Int))]) (st := []) (a' := 0) (b' := 0) rfl rfl (k_X12_weightOf G hG _ I4 J4 (fun r I6 J6 => r = wOf (I 2) ((hvZ (I 2) ((I 2 2).toNat - 1) : Nat) : Int) ∧ Inv n I6 J6 ∧ I6 2 = I 2) (fr_X12_weightOf (s_weightOf h5.1.1.M (rgK (by omega))) (fun v hv => ⟨by rw [hv, e5], h5, e5⟩))) 1 gX12_imbalance_X12_weightOf rfl (by decide +kernel) (by rw [hX]; exact ⟨Nat.le_of_ble_eq_true rfl, Nat.le_of_ble_eq_true rfl⟩) rfl (Nat.le_of_ble_eq_true rfl) rfl rfl rfl dX12_imbalance_23 (kk_sI (fun r I6 J6 h6 => ?_))
    obtain ⟨rfl, h7, e7⟩ := h6
    refine wz_aload_n C rfl rfl dX12_imbalance_26 ?_
    refine wz_getR C (j := 2) f_X12_imbalance_26 rfl dX12_imbalance_27 ?_
    refine wz_iconst C dX12_imbalance_30 ?_
    refine wz_iaload C 2 rfl rfl (by decide) (by decide) (by rw [e7]) dX12_imbalance_31 ?_
    refine wz_imul C dX12_imbalance_32 ?_
    refine wf_i2d C dX12_imbalance_33 ?_
    refine wz_iload_n C rfl rfl dX12_imbalance_34 ?_
    refine wf_i2d C dX12_imbalance_35 ?_
    refine wf_ddiv C (fl_ddiv (by omega) (by omega)) dX12_imbalance_36 ?_
    exact wf_dret C dX12_imbalance_37 ⟨by unfold ibZ; rw [if_neg c], h7⟩
  · refine wf_dconst0 C dX12_imbalance_14 ?_
    refine wz_goto C dX12_imbalance_15 (tgt := 37) (by decide) ?_
    exact wf_dret C dX12_imbalance_37 ⟨by unfold ibZ; rw [if_pos c], h3⟩
end KFL

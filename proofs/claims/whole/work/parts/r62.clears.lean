/-! ===== building: the reference's clears, where not every key stands yet ===== -/
theorem CtrB.ofM {G : KG} {y : MethodName} {ws ws' : List Cond} {rm : Room} {Av : List Value} {n n' : Nat} {E E' : Nat → va_E} {cc : ByteArray} {nL : Nat} {ret : Option FieldType} (lv : List (Option Value)) (hy : plainName y.cls = true) (hw : ws = Cond.code y cc nL ret :: ws') (hlen : (lg_sl Av).length ≤ nL) (hlv : lv.length ≤ nL) (hla : ∀ q ∈ lvA 0 lv, q ∈ lv_args 0 Av)
    (body : ∀ X : KX, KR X = rm → FrB G X cc nL y.cls ret ws false → Wb G X nL (QsB9 G X n' E') rm.cells rm.slots 0 lv [] n E) : CtrB G y ws rm Av n E n' E' := by
  refine Met.ofW (cc := cc) (maxL := nL) (ret := ret) hy hw ?_
  intro p e s m args below meth c s₁ B hml hv
  obtain ⟨rfl, hP, hK⟩ := hv
  have hown : s.vm.findClass y.cls = some m.cls := findClass_of_methodNamed B.named
  rw [lg_entry_eq]
  exact body (p, e, rm, s, m, Av.toArray, below, meth, c) rfl ⟨B.exec, B.bytes, hml, hown, atoms_spec (ws := ws) B.pre, B.returns, B.notSynchronized, hK, fun h => absurd h (by decide), by rw [hP.1]; omega⟩ 0 0 (by show 0 + rm.cells ≤ rm.cells; omega) (by show 0 + rm.slots ≤ rm.slots; omega) s.heap [] _ hP va_S.rf (lvD.of (lv_entry Av hlen) hlv (fun i v h => hla (i, v) ((lvA_mem lv 0 (i, v)).mpr ⟨Nat.zero_le _, h⟩)))
section WBC
variable {G : KG} {X : KX} {nL : Nat} {Qs : State → Prop} {a b pc n o k : Nat} {E : Nat → va_E} {lv : List (Option Value)} {st : List Value} {cc : ByteArray} {own : String} {ret : Option FieldType} {Ts : List Cond} {ini : Bool}
theorem wb_iast (C : FrB G X cc nL own ret Ts ini) {i0 N : Nat} {f : Nat → Int32} (hA : E i0 = .inl (G.2.2.2.1.1, (N, .inl f))) (hi : i0 < n) {z : Nat} {x : Int32} (hz : z < N) (hN : N ≤ 100000) (d : decode cc pc = .ok (.iastore, 1)) (k : Wb G X nL Qs a b (pc + 1) lv st n (bup E i0 (.inl (G.2.2.2.1.1, (N, .inl (fun q => if q = z then x else f q)))))) : Wb G X nL Qs a b pc lv (.int x :: .int (iZ (z : Int)) :: .ref (G.2.1 + i0) :: st) n E := by
  obtain ⟨p, e, R, s, m, args, below, meth, c⟩ := X
  obtain ⟨hx, hb, hml, hown, hts, hr, hlk, hKK, hin0, hlo⟩ := C
  intro k9 n9 hk9 hn9 H locs ls hP hS hl
  have e0 : (iZ (z : Int)).toInt = (z : Int) := iZ_toInt (by omega)
  have e2 : (iZ (z : Int)).toNatClampNeg = z := by show ((iZ (z : Int)).toInt).toNat = z; rw [e0]; omega
  have h0 : ¬ iZ (z : Int) < 0 := by rw [Int32.lt_iff_toInt_lt, e0]; show ¬ (z : Int) < 0; omega
  have hA1 : H[G.2.1 + i0]? = some (vp_cell G.2.2.2.1.1 (N, .inl f)) := by
    have := hP.2 i0 hi
    rw [hA] at this
    exact this
  refine W.iast hx hb hA1 ((hKK.1.2 0 _ rfl).1 N (fun j => .int (f j))) (fun q => by cases q) (by show ¬ (iZ (z : Int) < 0 ∨ (arrV _ _ _).slots.size ≤ _); rw [arrV_size, e2]; rintro (q | q); exact h0 q; omega) rfl rfl d fun H1 e zz oq => ?_
  refine k k9 n9 hk9 hn9 H1 _ ls (hP.put zz oq ?_) (hS.put zz oq (by show G.2.1 ≤ _; exact Nat.le_add_right _ _)) hl
  show H1[G.2.1 + i0]? = some (vp_cell _ _)
  rw [e]
  rw [vp_cell_i, vp_cell_i, arrV_store, e2]
  congr 2
  funext q
  by_cases hq : q = z
  · subst hq
    simp [updV]
  · simp [updV, hq]
theorem wb_callV (C : FrB G X cc nL own ret Ts ini) {y : MethodName} {bytes : ByteArray} {maxL idx a' b' q ci n' : Nat} {fs : List Value} {E' : Nat → va_E} {ws ws' : List Cond} {rm : Room} {Cn : String} {T : u_T} {N : Nat} (hE : E q = .inr (ci, fs)) (hq : q < n) (hcl : vwCl[ci]? = some (Cn, T, N)) (h : CtrB G y ws rm [.ref (G.2.1 + q)] n E n' E') (g : GoodIn Ts (wsV own idx Cn y ws)) (hw : ws = Cond.code y bytes maxL none :: ws') (hd : y.cls = Cn ∧ y.cls ≠ "java/lang/invoke/MethodHandle" ∧ y.cls ≠ "java/lang/invoke/VarHandle" ∧ (parseMethodDescriptor y.desc).map (fun d => d.parameters.length) = some 0) (hR : rm.frames + 1 ≤ (KR X).frames ∧ 8 + (maxL + 11) + rm.locals ≤ (KR X).locals) (hc : (st.map fun v => v.category).sum ≤ 8) (hca : rm.cells + a' = a) (hcb : rm.slots + b' = b) (d : decode cc pc = .ok (.invokevirtual idx, 3)) (k : Wb G X nL Qs a' b' (pc + 3) lv st n' E') : Wb G X nL Qs a b pc lv (.ref (G.2.1 + q) :: st) n E := by
  obtain ⟨p, e, R, s, m, args, below, meth, c⟩ := X
  obtain ⟨hx, hb, hml, hown, hts, hr, hlk, hKK, hin, hlo⟩ := C
  intro k9 n9 hk9 hn9 H locs ls hP hS hl
  have hf : k9 + rm.cells ≤ R.cells ∧ n9 + rm.slots ≤ R.slots := by constructor <;> omega
  have hR : rm.frames + 1 ≤ R.frames ∧ 8 + (maxL + 11) + rm.locals ≤ R.locals := hR
  have hrec : ∃ cellB : Cell, H[G.2.1 + q]? = some cellB ∧ cellB.vm.isStatics = false ∧ s.vm.findClass Cn = some cellB.cls :=
    va_recv (D := G.2.2.1) (cl := vwCl) (tys := ktys G) hKK.1 (va_P1 (hE ▸ hP.2 q hq)) (ci := ci) (q0 := 0) hcl rfl
  refine va_callB (va_runV (p := p) (As := []) (rest := st) ⟨hx, hb, hml, hown, hts⟩ h (cwV 0 hts g hw rfl rfl hd hR) ⟨frameBlind_b, hrec, fun U hU hW => ⟨rfl, by rw [hU]; exact hP, Kst.warm hW (fun a h1 h2 => by rw [hU]; exact hS.2.1 a h1 h2) hKK⟩⟩ rfl rfl hl.1 rfl (lv_room hc) d hf) hS (fun H1 locs1 hP1 hS1 => ?_)
  exact k (k9 + rm.cells) (n9 + rm.slots) (by omega) (by omega) H1 locs1 ls hP1 hS1 hl
end WBC
theorem bup_self {E : Nat → va_E} {i : Nat} {e : va_E} (h : E i = e) : bup E i e = E := by
  funext j
  unfold bup
  by_cases c : j = i
  · rw [if_pos c, c, h]
  · rw [if_neg c]
theorem cl_X12 {G : KG} {X : KX} {Qs : State → Prop} {o p n : Nat} {E : Nat → va_E} {fs : List Value} (C : FrB G X cX12_clears 2 RX12 none wsX12_clears false) (hE : E o = .inr (12, fs)) (ho : o < n) (hf : fs[15]? = some (.ref (G.2.1 + p))) (hp : p < n) (hA : E p = .inl (G.2.2.2.1.1, (350, .inl (fun _ => iZ 0)))) (k : Wb G X 2 Qs 0 0 2 [some (.ref (G.2.1 + o)), some (.int (iZ 350))] [] n E) : ∀ j t : Nat, j + t = 350 → Wb G X 2 Qs 0 0 2 [some (.ref (G.2.1 + o)), some (.int (iZ (t : Int)))] [] n E := by
  intro j
  induction j with
  | zero => intro t ht; have : t = 350 := by omega
            subst this; exact k
  | succ j ih =>
    intro t ht
    refine wb_iload_n C (j := 1) rfl rfl dX12_clears_2 ?_
    refine wb_sipush C rfl dX12_clears_3 ?_
    refine wb_geF C dX12_clears_6 (by rw [iZ_le (by omega) (by omega)]; omega) (tgt := 22) rfl ?_
    refine wb_aload_n C (j := 0) rfl rfl dX12_clears_9 ?_
    refine wb_get C f_X12_clears_26 hE ho hf dX12_clears_10 ?_
    refine wb_iload_n C (j := 1) rfl rfl dX12_clears_13 ?_
    refine wb_iconst C dX12_clears_14 ?_
    refine wb_iast C hA hp (z := t) (by omega) (by decide) dX12_clears_15 ?_
    rw [bup_self (by rw [hA]; congr 4; funext q; split <;> rfl)]
    refine wb_iinc C rfl rfl (by show iZ (t : Int) + iZ 1 = iZ ((t + 1 : Nat) : Int); rw [iZ_add]; rfl) rfl dX12_clears_16 ?_
    refine wb_goto C dX12_clears_19 (tgt := 2) rfl ?_
    exact ih (t + 1) (by omega)
def sA2 : Nat → Int32 := fun q => if q = 2 then iZ 2 else iZ 0
theorem c_clears {G : KG} {o p n : Nat} {E : Nat → va_E} {fs : List Value} (hE : E o = .inr (12, fs)) (ho : o < n) (hf : fs[15]? = some (.ref (G.2.1 + p))) (hp : p < n) (hA : E p = .inl (G.2.2.2.1.1, (350, .inl (fun _ => iZ 0)))) : CtrB G yX12_clears wsX12_clears rm_X12_clears [.ref (G.2.1 + o)] n E n (bup E p (.inl (G.2.2.2.1.1, (350, .inl sA2)))) := by
  refine CtrB.ofM (cc := cX12_clears) (nL := 2) [some (.ref (G.2.1 + o)), none] (by decide +kernel) rfl (Nat.le_of_ble_eq_true rfl) (Nat.le_of_ble_eq_true rfl) (by rintro q (_ | ⟨_, _ | ⟨⟩⟩); exact List.Mem.head _) (fun X hX C => ?_)
  refine wb_iconst C dX12_clears_0 ?_
  refine wb_istore_n C (j := 1) rfl (Nat.le_of_ble_eq_true rfl) rfl rfl dX12_clears_1 ?_
  refine cl_X12 C hE ho hf hp hA ?_ 350 0 rfl
  refine wb_iload_n C (j := 1) rfl rfl dX12_clears_2 ?_
  refine wb_sipush C rfl dX12_clears_3 ?_
  refine wb_geT C dX12_clears_6 (by rw [iZ_le (by decide) (by decide)]; omega) (tgt := 22) rfl ?_
  refine wb_aload_n C (j := 0) rfl rfl dX12_clears_22 ?_
  refine wb_get C f_X12_clears_26 hE ho hf dX12_clears_23 ?_
  refine wb_iconst C dX12_clears_26 ?_
  refine wb_iconst C dX12_clears_27 ?_
  refine wb_iast C hA hp (z := 2) (by decide) (by decide) dX12_clears_28 ?_
  exact wb_vret C dX12_clears_29

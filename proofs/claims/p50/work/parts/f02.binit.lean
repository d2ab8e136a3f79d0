/-! ===== building: constructors that are called, and an object with what it makes ===== -/
theorem frameBlind_b {G : KG} {Av : List Value} {n : Nat} {E : Nat → va_E} : FrameBlind (va_Pc Av (fun U => BH G n E U.heap ∧ Kst G U)) := fun a U g mk q => by
  obtain ⟨q0, q1, q2⟩ := q
  exact ⟨q0, q1, Kst.same (u := U) (U := U.calling g mk a) rfl rfl q2⟩
theorem va_callB {p : Program} {l : Launch} {e : Env} {R : Room} {s : State} {m : MethodId} {args : Array Value} {below : List Frame} {meth : Method} {c : Code} {H : Heap} {locs : List Loc} {cells slots : Nat} {Qs : State → Prop} {pc : Nat} {ls : Array Slot} {rest st0 : List Value} {av : Array Value} {mc ms : Nat} {G : KG} {n : Nat} {E : Nat → va_E} {H0 : Heap}
    (hr : va_Run p l e R s m args below meth c H locs cells slots mc ms (F0 m pc ls st0) rest (QcB G n E av) (KFr G)) (hS : va_S (KFr G) H0 H locs)
    (kk : ∀ (H1 : Heap) (locs1 : List Loc), BH G n E H1 → va_S (KFr G) H0 H1 locs1 → W p l e R s m args below meth c H1 locs1 (cells + mc) (slots + ms) Qs (F0 m (pc + 3) ls rest)) : W p l e R s m args below meth c H locs cells slots Qs (F0 m pc ls st0) := by
  intro T hT X
  obtain ⟨v, st₀, t, T', L, h0, X', hL, e1, e2, ⟨⟨hv, hb⟩, hz, hk⟩, stp⟩ := hr T hT X
  cases hv
  rw [h0] at hz hk
  obtain ⟨t2, a1, b1⟩ := kk T'.heap (locs ++ L) (by rw [e1]; exact hb)
    ⟨Nat.le_trans hS.1 (by rw [e1]; exact hz), fun q h1 h2 => by rw [e1, hk q (Nat.lt_of_lt_of_le h1 hS.1) h2]; exact hS.2.1 q h1 h2, fun q hq => by
      rcases List.mem_append.mp hq with h | h
      · exact hS.2.2 q h
      · exact hL q h⟩ T' rfl X'
  exact ⟨t2, stp t2 a1, b1⟩
section WBI
variable {G : KG} {X : KX} {nL : Nat} {Qs : State → Prop} {a b pc n : Nat} {E : Nat → va_E} {lv : List (Option Value)} {st : List Value} {cc : ByteArray} {own : String} {ret : Option FieldType} {Ts : List Cond} {ini : Bool}
theorem wb_initN (C : FrB G X cc nL own ret Ts ini) {y : MethodName} {bytes : ByteArray} {maxL idx a' b' o n' : Nat} {E' : Nat → va_E} {ws ws' : List Cond} {rm : Room} {host : String} (h : CtrB G y ws rm [.ref (G.2.1 + o)] n E n' E') (g : GoodIn Ts ws) (hlk9 : (own, idx, y, host) ∈ kNest) (hst9 : Cond.instanceMethod y ∈ Ts) (hin9 : Cond.initialized y.cls ∈ Ts) (hy1 : y.name = "<init>") (hw : ws = Cond.code y bytes maxL none :: ws') (hd : y.cls ≠ "java/lang/invoke/MethodHandle" ∧ y.cls ≠ "java/lang/invoke/VarHandle" ∧ (parseMethodDescriptor y.desc).map (fun d => d.parameters.length) = some 0) (hR : rm.frames + 1 ≤ (KR X).frames ∧ 8 + (maxL + 11) + rm.locals ≤ (KR X).locals) (hc : (st.map fun v => v.category).sum ≤ 8) (hca : rm.cells + a' = a) (hcb : rm.slots + b' = b) (d : decode cc pc = .ok (.invokespecial idx, 3)) (k : Wb G X nL Qs a' b' (pc + 3) lv st n' E') : Wb G X nL Qs a b pc lv (.ref (G.2.1 + o) :: st) n E := by
  obtain ⟨p, e, R, s, m, args, below, meth, c⟩ := X
  obtain ⟨hx, hb, hml, hown, hts, hr, hlk, hKK, hin, hlo⟩ := C
  intro k9 n9 hk9 hn9 H locs ls hP hS hl
  have hf : k9 + rm.cells ≤ R.cells ∧ n9 + rm.slots ≤ R.slots := by constructor <;> omega
  have hR : rm.frames + 1 ≤ R.frames ∧ 8 + (maxL + 11) + rm.locals ≤ R.locals := hR
  refine va_callB (va_runIN (p := p) (As := []) (rest := st) ⟨hx, hb, hml, hown, hts⟩ h ⟨va_cnB 0 hts g hw rfl rfl (hKK.2.1 _ hlk9) (hts _ hin9) hd hR, hy1, hts _ hst9⟩ ⟨frameBlind_b, fun U hU hW => ⟨rfl, by rw [hU]; exact hP, Kst.warm hW (fun a h1 h2 => by rw [hU]; exact hS.2.1 a h1 h2) hKK⟩⟩ rfl rfl hl.1 rfl (lv_room hc) d hf) hS (fun H1 locs1 hP1 hS1 => ?_)
  exact k (k9 + rm.cells) (n9 + rm.slots) (by omega) (by omega) H1 locs1 ls hP1 hS1 hl
theorem wb_init (C : FrB G X cc nL own ret Ts ini) {y : MethodName} {bytes : ByteArray} {maxL idx a' b' o n' : Nat} {E' : Nat → va_E} {ws ws' : List Cond} {rm : Room} (h : CtrB G y ws rm [.ref (G.2.1 + o)] n E n' E') (g : GoodIn Ts ws) (hlk9 : Cond.methodLink own idx y ∈ Ts) (hst9 : Cond.instanceMethod y ∈ Ts) (hin9 : Cond.initialized y.cls ∈ Ts) (hy1 : y.name = "<init>") (hw : ws = Cond.code y bytes maxL none :: ws') (hd : y.cls ≠ "java/lang/invoke/MethodHandle" ∧ y.cls ≠ "java/lang/invoke/VarHandle" ∧ (parseMethodDescriptor y.desc).map (fun d => d.parameters.length) = some 0) (hR : rm.frames + 1 ≤ (KR X).frames ∧ 8 + (maxL + 11) + rm.locals ≤ (KR X).locals) (hc : (st.map fun v => v.category).sum ≤ 8) (hca : rm.cells + a' = a) (hcb : rm.slots + b' = b) (d : decode cc pc = .ok (.invokespecial idx, 3)) (k : Wb G X nL Qs a' b' (pc + 3) lv st n' E') : Wb G X nL Qs a b pc lv (.ref (G.2.1 + o) :: st) n E := by
  obtain ⟨p, e, R, s, m, args, below, meth, c⟩ := X
  obtain ⟨hx, hb, hml, hown, hts, hr, hlk, hKK, hin, hlo⟩ := C
  intro k9 n9 hk9 hn9 H locs ls hP hS hl
  have hf : k9 + rm.cells ≤ R.cells ∧ n9 + rm.slots ≤ R.slots := by constructor <;> omega
  have hR : rm.frames + 1 ≤ R.frames ∧ 8 + (maxL + 11) + rm.locals ≤ R.locals := hR
  refine va_callB (va_runI (p := p) (As := []) (rest := st) ⟨hx, hb, hml, hown, hts⟩ h (cwI 0 hts g hw rfl rfl (hts _ hin9) (hts _ hlk9) (hts _ hst9) hy1 hd hR) ⟨frameBlind_b, fun U hU hW => ⟨rfl, by rw [hU]; exact hP, Kst.warm hW (fun a h1 h2 => by rw [hU]; exact hS.2.1 a h1 h2) hKK⟩⟩ rfl rfl hl.1 rfl (lv_room hc) d hf) hS (fun H1 locs1 hP1 hS1 => ?_)
  exact k (k9 + rm.cells) (n9 + rm.slots) (by omega) (by omega) H1 locs1 ls hP1 hS1 hl
end WBI
/-- cells with the object at o, and behind n what it made -/
def bld (E : Nat → va_E) (o : Nat) (x : Nat × List Value) (n : Nat) (l : List va_E) : Nat → va_E := fun j => if j = o then .inr x else if n ≤ j ∧ j < n + l.length then l.getD (j - n) (.inr x) else E j
theorem bld_o {E : Nat → va_E} {o n : Nat} {x : Nat × List Value} {l : List va_E} : bld E o x n l o = .inr x := by unfold bld; rw [if_pos rfl]
theorem bld_put {E : Nat → va_E} {o n : Nat} {x y : Nat × List Value} {l : List va_E} : bup (bld E o x n l) o (.inr y) = bld E o y n l := by
  funext j
  unfold bup bld
  by_cases c : j = o
  · rw [if_pos c, if_pos c]
  · rw [if_neg c, if_neg c, if_neg c]
    by_cases d : n ≤ j ∧ j < n + l.length
    · rw [if_pos d, if_pos d]
      have h : j - n < l.length := by omega
      rw [List.getD_eq_getElem?_getD, List.getD_eq_getElem?_getD, List.getElem?_eq_getElem h]
      rfl
    · rw [if_neg d, if_neg d]
theorem bld_push {E : Nat → va_E} {o n k : Nat} {x : Nat × List Value} {l : List va_E} {e : va_E} (ho : o < n) (hk : l.length = k) : bup (bld E o x n l) (n + k) e = bld E o x n (l ++ [e]) := by
  subst hk
  funext j
  unfold bup bld
  by_cases c : j = n + l.length
  · have hj : ¬ j = o := by omega
    have hd : n ≤ j ∧ j < n + (l ++ [e]).length := by rw [List.length_append]; show n ≤ j ∧ j < n + (l.length + 1); omega
    rw [if_pos c, if_neg hj, if_pos hd, List.getD_eq_getElem?_getD, show j - n = l.length by omega]
    simp
  · rw [if_neg c]
    by_cases d : j = o
    · rw [if_pos d, if_pos d]
    · rw [if_neg d, if_neg d]
      by_cases f : n ≤ j ∧ j < n + l.length
      · have f2 : n ≤ j ∧ j < n + (l ++ [e]).length := by rw [List.length_append]; show n ≤ j ∧ j < n + (l.length + 1); omega
        rw [if_pos f, if_pos f2, List.getD_eq_getElem?_getD, List.getD_eq_getElem?_getD, List.getElem?_append_left (by omega)]
      · have f2 : ¬ (n ≤ j ∧ j < n + (l ++ [e]).length) := by rw [List.length_append]; show ¬ (n ≤ j ∧ j < n + (l.length + 1)); omega
        rw [if_neg f, if_neg f2]
theorem bld_nil {E : Nat → va_E} {o n : Nat} {x : Nat × List Value} (h : E o = .inr x) : bld E o x n [] = E := by
  funext j
  unfold bld
  by_cases c : j = o
  · rw [if_pos c, c, h]
  · rw [if_neg c, if_neg (by intro z; have := z.2; simp at this; omega)]
section WBL
variable {G : KG} {X : KX} {nL : Nat} {Qs : State → Prop} {a b pc n o k : Nat} {E : Nat → va_E} {x : Nat × List Value} {l : List va_E} {lv : List (Option Value)} {st : List Value} {cc : ByteArray} {own : String} {ret : Option FieldType} {Ts : List Cond} {ini : Bool}
theorem wl_newI (C : FrB G X cc nL own ret Ts ini) (ho : o < n) (hk : l.length = k) {z : Int} {N : Nat} (hz : z = (N : Int)) (hN : N ≤ 100000) (hw : Cond.arrayClass .int ∈ Ts) (d : decode cc pc = .ok (.newarray .int, 2)) {a' b' : Nat} (ha : 1 + a' = a) (hb9 : N + b' = b) (kk : Wb G X nL Qs a' b' (pc + 2) lv (.ref (G.2.1 + (n + k)) :: st) (n + k + 1) (bld E o x n (l ++ [.inl (G.2.2.2.1.1, (N, .inl (fun _ => iZ 0)))]))) : Wb G X nL Qs a b pc lv (.int (iZ z) :: st) (n + k) (bld E o x n l) :=
  wb_newI C hz hN hw d ha hb9 (by rw [bld_push ho hk]; exact kk)
theorem wl_newJ (C : FrB G X cc nL own ret Ts ini) (ho : o < n) (hk : l.length = k) {z : Int} {N : Nat} (hz : z = (N : Int)) (hN : N ≤ 50000) (hw : Cond.arrayClass .long ∈ Ts) (d : decode cc pc = .ok (.newarray .long, 2)) {a' b' : Nat} (ha : 1 + a' = a) (hb9 : N + b' = b) (kk : Wb G X nL Qs a' b' (pc + 2) lv (.ref (G.2.1 + (n + k)) :: st) (n + k + 1) (bld E o x n (l ++ [.inl (G.2.2.2.1.2.1, (N, .inr (.inl (fun _ => 0))))]))) : Wb G X nL Qs a b pc lv (.int (iZ z) :: st) (n + k) (bld E o x n l) :=
  wb_newJ C hz hN hw d ha hb9 (by rw [bld_push ho hk]; exact kk)
theorem wl_putF (C : FrB G X cc nL own ret Ts true) {ci i idx : Nat} {fs : List Value} {v : Value} {fty : FieldType} (f : FLk Ts own idx ci i) (fq : FQk ci i own fty) (ho : o < n) (hnar : narrow fty v = v) (hfit : fits fty v = true) (hlen : i < fs.length) (d : decode cc pc = .ok (.putfield idx, 3)) (kk : Wb G X nL Qs a b (pc + 3) lv st (n + k) (bld E o (ci, fs.set i v) n l)) : Wb G X nL Qs a b pc lv (v :: .ref (G.2.1 + o) :: st) (n + k) (bld E o (ci, fs) n l) :=
  wb_putF C f fq bld_o (by omega) hnar hfit hlen d (by rw [bld_put]; exact kk)
theorem wl_put (C : FrB G X cc nL own ret Ts ini) {ci i idx : Nat} {fs : List Value} {v : Value} {fty : FieldType} (f : FLk Ts own idx ci i) (fp : FPk ci i fty) (ho : o < n) (hnar : narrow fty v = v) (hfit : fits fty v = true) (hlen : i < fs.length) (d : decode cc pc = .ok (.putfield idx, 3)) (kk : Wb G X nL Qs a b (pc + 3) lv st (n + k) (bld E o (ci, fs.set i v) n l)) : Wb G X nL Qs a b pc lv (v :: .ref (G.2.1 + o) :: st) (n + k) (bld E o (ci, fs) n l) :=
  wb_put C f fp bld_o (by omega) hnar hfit hlen d (by rw [bld_put]; exact kk)
end WBL

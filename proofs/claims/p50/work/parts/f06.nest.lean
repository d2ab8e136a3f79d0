/-! ===== building: what is made inside what is made, and the rules for an array of objects ===== -/
theorem bld_at {E : Nat → va_E} {o n i : Nat} {x : Nat × List Value} {l : List va_E} {e : va_E} (ho : o < n) (h : l[i]? = some e) : bld E o x n l (n + i) = e := by
  have hi := (List.getElem?_eq_some_iff.mp h).1
  unfold bld
  rw [if_neg (by omega), if_pos (by omega), show n + i - n = i by omega, List.getD_eq_getElem?_getD, h]
  rfl
theorem bld_set {E : Nat → va_E} {o n i : Nat} {x : Nat × List Value} {l : List va_E} {e : va_E} (ho : o < n) (hi : i < l.length) : bup (bld E o x n l) (n + i) e = bld E o x n (l.set i e) := by
  funext j
  unfold bup bld
  by_cases c : j = n + i
  · subst c
    rw [if_pos rfl, if_neg (by omega), if_pos ⟨by omega, by rw [List.length_set]; omega⟩, show n + i - n = i by omega, List.getD_eq_getElem?_getD, List.getElem?_set_self hi]
    rfl
  · rw [if_neg c]
    by_cases d : j = o
    · rw [if_pos d, if_pos d]
    · rw [if_neg d, if_neg d, List.length_set]
      by_cases f : n ≤ j ∧ j < n + l.length
      · rw [if_pos f, if_pos f, List.getD_eq_getElem?_getD, List.getD_eq_getElem?_getD, List.getElem?_set_ne (by omega)]
      · rw [if_neg f, if_neg f]
theorem bld_nest {E : Nat → va_E} {o n k : Nat} {x y z : Nat × List Value} {l news : List va_E} (ho : o < n) (hk : l.length = k) : bld (bld E o x n (l ++ [.inr z])) (n + k) y (n + k + 1) news = bld E o x n (l ++ [.inr y] ++ news) := by
  subst hk
  have hL : (l ++ [.inr y] ++ news : List va_E).length = l.length + 1 + news.length := by rw [List.length_append, List.length_append]; rfl
  have hM : (l ++ [.inr z] : List va_E).length = l.length + 1 := by rw [List.length_append]; rfl
  funext j
  unfold bld
  rw [hL, hM]
  by_cases c : j = n + l.length
  · rw [if_pos c, if_neg (by omega), if_pos (by omega), show j - n = l.length by omega, List.getD_eq_getElem?_getD]
    simp
  · rw [if_neg c]
    by_cases d : n + l.length + 1 ≤ j ∧ j < n + l.length + 1 + news.length
    · have h1 : j - (n + l.length + 1) < news.length := by omega
      rw [if_pos d, if_neg (by omega), if_pos (by omega), List.getD_eq_getElem?_getD, List.getD_eq_getElem?_getD, List.getElem?_append_right (by rw [List.length_append]; show l.length + 1 ≤ _; omega)]
      rw [show j - n - (l ++ [Sum.inr y] : List va_E).length = j - (n + l.length + 1) by rw [List.length_append]; show j - n - (l.length + 1) = _; omega, List.getElem?_eq_getElem h1]
      rfl
    · rw [if_neg d]
      by_cases f : j = o
      · rw [if_pos f, if_pos f]
      · rw [if_neg f, if_neg f]
        by_cases g : n ≤ j ∧ j < n + (l.length + 1)
        · have h1 : j - n < l.length := by omega
          rw [if_pos g, if_pos (by omega), List.getD_eq_getElem?_getD, List.getD_eq_getElem?_getD, List.getElem?_append_left h1, List.getElem?_append_left (by rw [List.length_append]; omega), List.getElem?_append_left h1]
        · rw [if_neg g, if_neg (by omega)]
section WBN
variable {G : KG} {X : KX} {nL : Nat} {Qs : State → Prop} {a b pc n o k : Nat} {E : Nat → va_E} {x : Nat × List Value} {l : List va_E} {lv : List (Option Value)} {st : List Value} {cc : ByteArray} {own : String} {ret : Option FieldType} {Ts : List Cond} {ini : Bool}
theorem wl_newO (C : FrB G X cc nL own ret Ts ini) (ho : o < n) (hk : l.length = k) {ci idx N : Nat} {Cn : String} {T : u_T} {fs : List Value} (ty : Nat → FieldType) (hc : vwCl[ci]? = some (Cn, T, N)) (hin : ∀ w ∈ u_ws Cn T N, w ∈ Ts) (hty : ∀ k, k < N → parseFieldDescriptor (T k).2.2.1 = some (ty k)) (h1 : Cond.classLink own idx Cn ∈ Ts) (h2 : Cond.instantiable Cn N ∈ Ts) (h3 : Cond.initialized Cn ∈ Ts) (hfs : ∀ j, j < N → defaultValue (ty j) = vp_V fs j) (d : decode cc pc = .ok (.new idx, 3)) {a' b' : Nat} (ha : 1 + a' = a) (hb9 : N + b' = b) (kk : Wb G X nL Qs a' b' (pc + 3) lv (.ref (G.2.1 + (n + k)) :: st) (n + k + 1) (bld E o x n (l ++ [.inr (ci, fs)]))) : Wb G X nL Qs a b pc lv st (n + k) (bld E o x n l) :=
  wb_new C ty hc hin hty h1 h2 h3 hfs d ha hb9 (by rw [bld_push ho hk]; exact kk)
theorem wl_initN (C : FrB G X cc nL own ret Ts ini) (ho : o < n) (hk : l.length = k) {y : MethodName} {bytes : ByteArray} {maxL idx a' b' K : Nat} {z y' : Nat × List Value} {news : List va_E} {ws ws' : List Cond} {rm : Room} {host : String} (h : CtrB G y ws rm [.ref (G.2.1 + (n + k))] (n + k + 1) (bld E o x n (l ++ [.inr z])) (n + k + 1 + K) (bld (bld E o x n (l ++ [.inr z])) (n + k) y' (n + k + 1) news)) (g : GoodIn Ts ws) (hlk9 : (own, idx, y, host) ∈ kNest) (hst9 : Cond.instanceMethod y ∈ Ts) (hin9 : Cond.initialized y.cls ∈ Ts) (hy1 : y.name = "<init>") (hw : ws = Cond.code y bytes maxL none :: ws') (hd : y.cls ≠ "java/lang/invoke/MethodHandle" ∧ y.cls ≠ "java/lang/invoke/VarHandle" ∧ (parseMethodDescriptor y.desc).map (fun d => d.parameters.length) = some 0) (hR : rm.frames + 1 ≤ (KR X).frames ∧ 8 + (maxL + 11) + rm.locals ≤ (KR X).locals) (hc : (st.map fun v => v.category).sum ≤ 8) (hca : rm.cells + a' = a) (hcb : rm.slots + b' = b) (d : decode cc pc = .ok (.invokespecial idx, 3)) (kk : Wb G X nL Qs a' b' (pc + 3) lv st (n + k + 1 + K) (bld E o x n (l ++ [.inr y'] ++ news))) : Wb G X nL Qs a b pc lv (.ref (G.2.1 + (n + k)) :: st) (n + k + 1) (bld E o x n (l ++ [.inr z])) :=
  wb_initN C h g hlk9 hst9 hin9 hy1 hw hd hR hc hca hcb d (by rw [bld_nest ho hk]; exact kk)
theorem wl_init (C : FrB G X cc nL own ret Ts ini) (ho : o < n) (hk : l.length = k) {y : MethodName} {bytes : ByteArray} {maxL idx a' b' K : Nat} {z y' : Nat × List Value} {news : List va_E} {ws ws' : List Cond} {rm : Room} (h : CtrB G y ws rm [.ref (G.2.1 + (n + k))] (n + k + 1) (bld E o x n (l ++ [.inr z])) (n + k + 1 + K) (bld (bld E o x n (l ++ [.inr z])) (n + k) y' (n + k + 1) news)) (g : GoodIn Ts ws) (hlk9 : Cond.methodLink own idx y ∈ Ts) (hst9 : Cond.instanceMethod y ∈ Ts) (hin9 : Cond.initialized y.cls ∈ Ts) (hy1 : y.name = "<init>") (hw : ws = Cond.code y bytes maxL none :: ws') (hd : y.cls ≠ "java/lang/invoke/MethodHandle" ∧ y.cls ≠ "java/lang/invoke/VarHandle" ∧ (parseMethodDescriptor y.desc).map (fun d => d.parameters.length) = some 0) (hR : rm.frames + 1 ≤ (KR X).frames ∧ 8 + (maxL + 11) + rm.locals ≤ (KR X).locals) (hc : (st.map fun v => v.category).sum ≤ 8) (hca : rm.cells + a' = a) (hcb : rm.slots + b' = b) (d : decode cc pc = .ok (.invokespecial idx, 3)) (kk : Wb G X nL Qs a' b' (pc + 3) lv st (n + k + 1 + K) (bld E o x n (l ++ [.inr y'] ++ news))) : Wb G X nL Qs a b pc lv (.ref (G.2.1 + (n + k)) :: st) (n + k + 1) (bld E o x n (l ++ [.inr z])) :=
  wb_init C h g hlk9 hst9 hin9 hy1 hw hd hR hc hca hcb d (by rw [bld_nest ho hk]; exact kk)
theorem wb_iload_n (C : FrB G X cc nL own ret Ts ini) {j : Fin 4} {i : Nat} {v : Int32} (hi : (j : Nat) = i) (h : lv[i]? = some (some (.int v))) (d : decode cc pc = .ok (.iload_n j, 1)) (k : Wb G X nL Qs a b (pc + 1) lv (.int v :: st) n E) : Wb G X nL Qs a b pc lv st n E := by
  obtain ⟨p, e, R, s, m, args, below, meth, c⟩ := X
  obtain ⟨hx, hb, hml, hown, hts, hr, hlk, hKK, hin, hlo⟩ := C
  intro k9 n9 hk9 hn9 H locs ls hP hS hl
  exact lv_iload_n hx hb d hi (hl.2.2.2 _ _ h) (k k9 n9 hk9 hn9 H locs ls hP hS hl)
theorem wb_istore_n (C : FrB G X cc nL own ret Ts ini) {j : Fin 4} {i : Nat} (hj : (j : Nat) = i) {v : Int32} {lv' : List (Option Value)} (hi : i < lv.length) (hn : nolong lv i = true) (he : lv.set i (some (.int v)) = lv') (d : decode cc pc = .ok (.istore_n j, 1)) (k : Wb G X nL Qs a b (pc + 1) lv' st n E) : Wb G X nL Qs a b pc lv (.int v :: st) n E := by
  obtain ⟨p, e, R, s, m, args, below, meth, c⟩ := X
  obtain ⟨hx, hb, hml, hown, hts, hr, hlk, hKK, hin, hlo⟩ := C
  intro k9 n9 hk9 hn9 H locs ls hP hS hl
  subst he
  exact lv_istore_n (lv := lvA 0 lv) hx hb d hj hl.has (Nat.lt_of_lt_of_le hi hl.2.2.1) rfl (fun ls' hl' => k k9 n9 hk9 hn9 H locs ls' hP hS (lvD.stored hl.2.2.1 hi hn hl'))
theorem wb_iinc (C : FrB G X cc nL own ret Ts ini) {i : Nat} {z : Int} {v v' : Int32} {lv' : List (Option Value)} (h : lv[i]? = some (some (.int v))) (hn : nolong lv i = true) (hv : v + Int32.ofInt z = v') (he : lv.set i (some (.int v')) = lv') (d : decode cc pc = .ok (.iinc i z, 3)) (k : Wb G X nL Qs a b (pc + 3) lv' st n E) : Wb G X nL Qs a b pc lv st n E := by
  obtain ⟨p, e, R, s, m, args, below, meth, c⟩ := X
  obtain ⟨hx, hb, hml, hown, hts, hr, hlk, hKK, hin, hlo⟩ := C
  intro k9 n9 hk9 hn9 H locs ls hP hS hl
  subst he
  have hi : i < lv.length := (List.getElem?_eq_some_iff.mp h).1
  obtain ⟨j, hj⟩ := lvA_at h
  exact lv_iinc (lv := lvA 0 lv) (k := j) hx hb d hl.has hj hv (Nat.lt_of_lt_of_le hi hl.2.2.1) rfl (fun ls' hl' => k k9 n9 hk9 hn9 H locs ls' hP hS (lvD.stored hl.2.2.1 hi hn hl'))
theorem wb_goto (C : FrB G X cc nL own ret Ts ini) {off : Int} {tgt : Nat} (d : decode cc pc = .ok (.goto off, 3)) (ht : (pc : Int) + off = (tgt : Int)) (k : Wb G X nL Qs a b tgt lv st n E) : Wb G X nL Qs a b pc lv st n E := by
  obtain ⟨p, e, R, s, m, args, below, meth, c⟩ := X
  obtain ⟨hx, hb, hml, hown, hts, hr, hlk, hKK, hin, hlo⟩ := C
  intro k9 n9 hk9 hn9 H locs ls hP hS hl
  exact lv_goto hx hb d ht (k k9 n9 hk9 hn9 H locs ls hP hS hl)
theorem wb_geF (C : FrB G X cc nL own ret Ts ini) {u v : Int32} {off : Int} (d : decode cc pc = .ok (.if_icmp .ge off, 3)) (h : ¬ v ≤ u) {tgt : Nat} (ht : (pc : Int) + off = (tgt : Int)) (k : Wb G X nL Qs a b (pc + 3) lv st n E) : Wb G X nL Qs a b pc lv (.int v :: .int u :: st) n E := by
  obtain ⟨p, e, R, s, m, args, below, meth, c⟩ := X
  obtain ⟨hx, hb, hml, hown, hts, hr, hlk, hKK, hin, hlo⟩ := C
  intro k9 n9 hk9 hn9 H locs ls hP hS hl
  exact lv_icmp_ge hx hb d ht (fun q => absurd q h) (fun _ => k k9 n9 hk9 hn9 H locs ls hP hS hl)
theorem wb_geT (C : FrB G X cc nL own ret Ts ini) {u v : Int32} {off : Int} (d : decode cc pc = .ok (.if_icmp .ge off, 3)) (h : v ≤ u) {tgt : Nat} (ht : (pc : Int) + off = (tgt : Int)) (k : Wb G X nL Qs a b tgt lv st n E) : Wb G X nL Qs a b pc lv (.int v :: .int u :: st) n E := by
  obtain ⟨p, e, R, s, m, args, below, meth, c⟩ := X
  obtain ⟨hx, hb, hml, hown, hts, hr, hlk, hKK, hin, hlo⟩ := C
  intro k9 n9 hk9 hn9 H locs ls hP hS hl
  exact lv_icmp_ge hx hb d ht (fun _ => k k9 n9 hk9 hn9 H locs ls hP hS hl) (fun q => absurd h q)
theorem wb_get (C : FrB G X cc nL own ret Ts ini) {q ci i idx : Nat} {fs : List Value} {v : Value} (f : FLk Ts own idx ci i) (hE : E q = .inr (ci, fs)) (hq : q < n) (hv : fs[i]? = some v) (d : decode cc pc = .ok (.getfield idx, 3)) (k : Wb G X nL Qs a b (pc + 3) lv (v :: st) n E) : Wb G X nL Qs a b pc lv (.ref (G.2.1 + q) :: st) n E := by
  obtain ⟨p, e, R, s, m, args, below, meth, c⟩ := X
  obtain ⟨hx, hb, hml, hown, hts, hr, hlk, hKK, hin0, hlo⟩ := C
  have hK := hKK.1
  intro k9 n9 hk9 hn9 H locs ls hP hS hl
  obtain ⟨Cn, T, N, ty, hc, hi, hin, hw, hty, hnm⟩ := f
  have hP1 : va_P G.2.2.1 vwCl [(G.2.1 + q, .inr (ci, fs))] H := by
    intro k' z hz
    cases k' with
    | zero => cases hz; exact hE ▸ hP.2 q hq
    | succ k' => simp at hz
  exact va_get (D := G.2.2.1) (cl := vwCl) (v := v) hx hb hts hin hown hK hP1 0 rfl hc i hi (hts _ hw) (fun _ h9 => h9) hv d (k k9 n9 hk9 hn9 H locs ls hP hS hl)
theorem wb_alenR (C : FrB G X cc nL own ret Ts ini) {q N : Nat} {f : Nat → Option Nat} {v : Int32} (hE : E q = .inl (G.2.2.2.1.2.2.1, (N, .inr (.inr (.inr (.inr f)))))) (hq : q < n) (hv : Int32.ofNat N = v) (d : decode cc pc = .ok (.arraylength, 1)) (k : Wb G X nL Qs a b (pc + 1) lv (.int v :: st) n E) : Wb G X nL Qs a b pc lv (.ref (G.2.1 + q) :: st) n E := by
  obtain ⟨p, e, R, s, m, args, below, meth, c⟩ := X
  obtain ⟨hx, hb, hml, hown, hts, hr, hlk, hKK, hin0, hlo⟩ := C
  have hK := hKK.1
  intro k9 n9 hk9 hn9 H locs ls hP hS hl
  have hP1 : va_P G.2.2.1 vwCl [(G.2.1 + q, .inl (G.2.2.2.1.2.2.1, (N, .inr (.inr (.inr (.inr f))))))] H := by
    intro k' z hz
    cases k' with
    | zero => cases hz; exact hE ▸ hP.2 q hq
    | succ k' => simp at hz
  exact va_alen (D := G.2.2.1) (cl := vwCl) (tys := ktys G) hx hb hK hP1 0 2 rfl rfl hv d (k k9 n9 hk9 hn9 H locs ls hP hS hl)
/-- a new array of sharings -/
theorem wb_newR (C : FrB G X cc nL own ret Ts ini) (hAO : ∀ U, Kst G U → va_AO "ShareGraph$Sharing" U) {z : Int} {N idx : Nat} (hz : z = (N : Int)) (hN : N ≤ 1000) (hw : Cond.classLink own idx "ShareGraph$Sharing" ∈ Ts) (d : decode cc pc = .ok (.anewarray idx, 3)) {a' b' : Nat} (ha : 1 + a' = a) (hb9 : N + b' = b) (k : Wb G X nL Qs a' b' (pc + 3) lv (.ref (G.2.1 + n) :: st) (n + 1) (bup E n (.inl (G.2.2.2.1.2.2.1, (N, .inr (.inr (.inr (.inr (fun _ => none)))))))) ) : Wb G X nL Qs a b pc lv (.int (iZ z) :: st) n E := by
  subst hz
  obtain ⟨p, e, R, s, m, args, below, meth, c⟩ := X
  obtain ⟨hx, hb, hml, hown, hts, hr, hlk, hKK, hin0, hlo⟩ := C
  intro k9 n9 hk9 hn9 H locs ls hP hS hl
  have e0 : (iZ (N : Int)).toInt = (N : Int) := iZ_toInt (by omega)
  have e2 : (iZ (N : Int)).toNatClampNeg = N := by show ((iZ (N : Int)).toInt).toNat = N; rw [e0]; omega
  refine W.anew (C := "ShareGraph$Sharing") hx hb hown (hts _ hw) (va_AO.use (hAO s hKK)) rfl d rfl (by rw [Int32.lt_iff_toInt_lt, e0]; show ¬ (N : Int) < 0; omega) (by rw [e2]; omega) (by omega) (by rw [e2]; omega) fun cA kA comp f1 f2 f3 f4 => ?_
  obtain ⟨kA', comp', g2, g3, g4, g1⟩ := (hKK.1.2 2 _ rfl).2
  have hc : cA = G.2.2.2.1.2.2.1 := Option.some.inj (f1.symm.trans g1)
  subst hc
  rw [e2]
  generalize hH1 : H.push ({ cls := G.2.2.2.1.2.2.1, slots := Array.replicate N .null, vm := .none } : Cell) = H1
  have z1 : H1.size = H.size + 1 := by rw [← hH1, Array.size_push]
  have e1 : H1[H.size]? = some (arrV G.2.2.2.1.2.2.1 N (fun _ => .null)) := by rw [← hH1, Array.getElem?_push_size, ← arrV_new]
  have o1 : ∀ q : Nat, q < H.size → H1[q]? = H[q]? := fun q hq => by rw [← hH1, Array.getElem?_push, if_neg (Nat.ne_of_lt hq)]
  have hsz := hP.1
  rw [show (Value.ref H.size) = .ref (G.2.1 + n) by rw [hsz]]
  refine k (k9 + 1) (n9 + N) (by omega) (by omega) H1 locs ls (hP.push z1 o1 ?_) ⟨Nat.le_trans hS.1 (by rw [z1]; omega), fun q h1 h2 => ?_, hS.2.2⟩ hl
  · show H1[G.2.1 + n]? = some (vp_cell _ _)
    rw [← hsz, e1]
    rfl
  · rw [o1 q (Nat.lt_of_lt_of_le h1 hS.1)]
    exact hS.2.1 q h1 h2
/-- a sharing into the array -/
theorem wb_aast (C : FrB G X cc nL own ret Ts ini) {i0 j0 N : Nat} {f : Nat → Option Nat} {vs : List Value} (hA : E i0 = .inl (G.2.2.2.1.2.2.1, (N, .inr (.inr (.inr (.inr f)))))) (hi : i0 < n) (hO : E j0 = .inr (11, vs)) (hj : j0 < n) {z : Nat} (hz : z < N) (hN : N ≤ 1000) (d : decode cc pc = .ok (.aastore, 1)) (k : Wb G X nL Qs a b (pc + 1) lv st n (bup E i0 (.inl (G.2.2.2.1.2.2.1, (N, .inr (.inr (.inr (.inr (va_up f z (some (G.2.1 + j0)))))))))) ) : Wb G X nL Qs a b pc lv (.ref (G.2.1 + j0) :: .int (iZ (z : Int)) :: .ref (G.2.1 + i0) :: st) n E := by
  obtain ⟨p, e, R, s, m, args, below, meth, c⟩ := X
  obtain ⟨hx, hb, hml, hown, hts, hr, hlk, hKK, hin0, hlo⟩ := C
  intro k9 n9 hk9 hn9 H locs ls hP hS hl
  have e0 : (iZ (z : Int)).toInt = (z : Int) := iZ_toInt (by omega)
  have e2 : (iZ (z : Int)).toNatClampNeg = z := by show ((iZ (z : Int)).toInt).toNat = z; rw [e0]; omega
  have h0 : ¬ iZ (z : Int) < 0 := by rw [Int32.lt_iff_toInt_lt, e0]; show ¬ (z : Int) < 0; omega
  have hA1 : H[G.2.1 + i0]? = some (vp_cell G.2.2.2.1.2.2.1 (N, .inr (.inr (.inr (.inr f))))) := by
    have := hP.2 i0 hi
    rw [hA] at this
    exact this
  have hO1 := hP.2 j0 hj
  rw [hO] at hO1
  obtain ⟨r', hr', cellV, g1, g2, g3, -⟩ := hO1
  have hcls := (hKK.1.1 11 (RX8, TX8, 7) rfl).2
  obtain ⟨kA, comp, k1, k2, k3, -⟩ := (hKK.1.2 2 _ rfl).2
  have hcomp : comp = G.2.2.1.1 11 := Option.some.inj (k3.symm.trans hcls.1)
  subst hcomp
  obtain ⟨kC, hkC, -⟩ := hcls.2
  refine W.aast hx hb hA1 (fun q h => by cases h) (fun h => by cases h) k1 k2 rfl hkC ⟨h0, by show _ < (arrV _ _ _).slots.size; rw [arrV_size, e2]; exact hz⟩ g1 (fun q h => by rw [g3] at h; cases h) (by rw [g2]; exact hkC) (by rw [g2]; exact va_assign hcls) rfl rfl d fun H1 e zz oq => ?_
  refine k k9 n9 hk9 hn9 H1 _ ls (hP.put zz oq ?_) (hS.put zz oq (by show G.2.1 ≤ _; exact Nat.le_add_right _ _)) hl
  show H1[G.2.1 + i0]? = some (vp_cell _ _)
  rw [e]
  rw [vp_cell_q, vp_cell_q, arrV_store, e2]
  congr 2
  funext q
  by_cases hq : q = z
  · subst hq
    simp [updV, va_up, va_rf]
  · simp [updV, va_up, hq]
end WBN

/-- the links of nest mates: class, entry, method, host -/
def kNest : List (String × Nat × MethodName × String) := [
  ("ShareGraph", 11, ⟨"ShareGraph$Tokens", "<init>", "()V"⟩, "ShareGraph"),
  ("ShareGraph", 18, ⟨"ShareGraph$TextReader", "<init>", "()V"⟩, "ShareGraph"),
  ("ShareGraph", 25, ⟨"ShareGraph$ScriptReader", "<init>", "()V"⟩, "ShareGraph"),
  ("ShareGraph", 32, ⟨"ShareGraph$Script", "<init>", "()V"⟩, "ShareGraph"),
  ("ShareGraph", 39, ⟨"ShareGraph$Graph", "<init>", "()V"⟩, "ShareGraph"),
  ("ShareGraph", 52, ⟨"ShareGraph$Sharing", "<init>", "()V"⟩, "ShareGraph"),
  ("ShareGraph", 72, ⟨"ShareGraph$Measures", "<init>", "()V"⟩, "ShareGraph"),
  ("ShareGraph", 79, ⟨"ShareGraph$Pairs", "<init>", "()V"⟩, "ShareGraph"),
  ("ShareGraph", 86, ⟨"ShareGraph$Best", "<init>", "()V"⟩, "ShareGraph"),
  ("ShareGraph", 93, ⟨"ShareGraph$Flows", "<init>", "()V"⟩, "ShareGraph"),
  ("ShareGraph$Best", 48, ⟨"ShareGraph", "copy", "([I[I)V"⟩, "ShareGraph"),
  ("ShareGraph$Best", 56, ⟨"ShareGraph", "at", "([II)I"⟩, "ShareGraph"),
  ("ShareGraph$Best", 63, ⟨"ShareGraph", "add", "([III)V"⟩, "ShareGraph"),
  ("ShareGraph$Best", 88, ⟨"ShareGraph", "put", "([III)V"⟩, "ShareGraph"),
  ("ShareGraph$Flows", 56, ⟨"ShareGraph", "at", "([II)I"⟩, "ShareGraph"),
  ("ShareGraph$Flows", 66, ⟨"ShareGraph", "add", "([III)V"⟩, "ShareGraph"),
  ("ShareGraph$Flows", 73, ⟨"ShareGraph", "put", "([III)V"⟩, "ShareGraph"),
  ("ShareGraph$Flows", 76, ⟨"ShareGraph", "isIn", "(II)Z"⟩, "ShareGraph"),
  ("ShareGraph$Graph", 56, ⟨"ShareGraph", "copy", "([I[I)V"⟩, "ShareGraph"),
  ("ShareGraph$Graph", 60, ⟨"ShareGraph", "put", "([III)V"⟩, "ShareGraph"),
  ("ShareGraph$Graph", 72, ⟨"ShareGraph", "at", "([II)I"⟩, "ShareGraph"),
  ("ShareGraph$Graph", 76, ⟨"ShareGraph", "isIn", "(II)Z"⟩, "ShareGraph"),
  ("ShareGraph$History", 17, ⟨"ShareGraph$Sharing", "<init>", "()V"⟩, "ShareGraph"),
  ("ShareGraph$Measures", 65, ⟨"ShareGraph", "at", "([II)I"⟩, "ShareGraph"),
  ("ShareGraph$Measures", 90, ⟨"ShareGraph", "add", "([III)V"⟩, "ShareGraph"),
  ("ShareGraph$Measures", 97, ⟨"ShareGraph", "put", "([III)V"⟩, "ShareGraph"),
  ("ShareGraph$Pairs", 45, ⟨"ShareGraph", "at", "([II)I"⟩, "ShareGraph"),
  ("ShareGraph$Pairs", 55, ⟨"ShareGraph", "add", "([III)V"⟩, "ShareGraph"),
  ("ShareGraph$Pairs", 72, ⟨"ShareGraph", "put", "([III)V"⟩, "ShareGraph"),
  ("ShareGraph$Sharing", 46, ⟨"ShareGraph", "put", "([III)V"⟩, "ShareGraph"),
  ("ShareGraph$Sharing", 50, ⟨"ShareGraph", "copy", "([I[I)V"⟩, "ShareGraph"),
  ("ShareGraph$Sharing", 54, ⟨"ShareGraph", "at", "([II)I"⟩, "ShareGraph"),
  ("ShareGraph$Sharing", 70, ⟨"ShareGraph", "isIn", "(II)Z"⟩, "ShareGraph"),
  ("ShareGraph$Tokens", 25, ⟨"ShareGraph", "put", "([III)V"⟩, "ShareGraph"),
  ("ShareGraph$Tokens", 47, ⟨"ShareGraph", "at", "([II)I"⟩, "ShareGraph"),
  ("ShareGraphLaw$World", 64, ⟨"ShareGraphLaw", "pick", "([III)I"⟩, "ShareGraphLaw")]

/-- a reference that is kept as a number: -1 for none -/
def refZ (ad : Nat → Nat) (z : Int) : Value := if z < 0 then .null else .ref (ad z.toNat)
def refQ (ad : Nat → Nat) (z : Int) : Option Nat := if z < 0 then none else some (ad z.toNat)
theorem refQ_rf (ad : Nat → Nat) (z : Int) : va_rf (refQ ad z) = refZ ad z := by
  unfold refQ refZ
  split <;> rfl
abbrev KA : Type := ClassId × ClassId × ClassId × ClassId × ClassId × ClassId
def fldv (ad : Nat → Nat) (S : Sg) (k i kd : Nat) : Value := match kd with
  | 0 => .int (iZ (S.1 k i))
  | 1 => .long (S.2 k i)
  | j + 2 => if j = 4998 then refZ ad (S.1 k i) else .ref (ad j)
def rowe (cA : KA) (ad : Nat → Nat) (S : Sg) (k t n : Nat) : ClassId × vp_A := match t with
  | 0 => (cA.1, n, .inl (fun i => iZ (S.1 k i)))
  | 1 => (cA.2.1, n, .inr (.inl (S.2 k)))
  | 2 => (cA.2.2.1, n, .inr (.inr (.inr (.inr (fun i => some (ad (330 + 10 * i)))))))
  | 3 => (cA.2.2.2.1, n, .inl (fun i => iZ (S.1 k i)))
  | 4 => (cA.2.2.2.2.1, n, .inr (.inr (.inr (.inr (fun i => refQ ad (S.1 k i))))))
  | 5 => (cA.2.2.2.2.2, n, .inr (.inr (.inr (.inr (fun i => refQ ad (S.1 k i))))))
  | _ => (cA.2.2.2.2.2, n, .inr (.inr (.inr (.inr (fun i => some (ad (1006 + i)))))))
/-- what a call makes is told a million keys behind: its sort (1 a row of ints, 2 of bytes, 3 of objects, 4 of rows, 5 a text, 6 a text under way), its length -/
def dsh (I : Ii) (k : Nat) : Option ShE :=
  if I (1000000 + k) 0 = 1 then some (.inr (0, (I (1000000 + k) 1).toNat))
  else if I (1000000 + k) 0 = 2 then some (.inr (3, (I (1000000 + k) 1).toNat))
  else if I (1000000 + k) 0 = 3 then some (.inr (4, (I (1000000 + k) 1).toNat))
  else if I (1000000 + k) 0 = 4 then some (.inr (5, (I (1000000 + k) 1).toNat))
  else if I (1000000 + k) 0 = 5 then some (.inl (0, [5000, 0, 0, 0]))
  else if I (1000000 + k) 0 = 6 then some (.inl (1, [5000, 0, 0, 0])) else none
/-- the shape of a key now; ad 0 tells whether the class's object is there -/
def shG (ad : Nat → Nat) (I : Ii) (k : Nat) : Option ShE := if k < 900 then (if ad 0 = 1 then shp k else none) else if k < 1000 then none else if k < 1022 then shp k else dsh I k
def entS (cA : KA) (ad : Nat → Nat) (S : Sg) (k : Nat) (sh : ShE) : va_E := match sh with
  | .inl (ci, ks) => .inr (ci, ks.mapIdx (fun i kd => fldv ad S k i kd))
  | .inr (t, n) => .inl (rowe cA ad S k t n)
theorem rowe_other {cA : KA} {ad : Nat → Nat} {S S' : Sg} {k t n : Nat} (h1 : S'.1 k = S.1 k) (h2 : S'.2 k = S.2 k) : rowe cA ad S' k t n = rowe cA ad S k t n := by
  unfold rowe
  rw [h1, h2]
theorem fldv_other {ad : Nat → Nat} {S S' : Sg} {k i kd : Nat} (h1 : S'.1 k i = S.1 k i) (h2 : S'.2 k i = S.2 k i) : fldv ad S' k i kd = fldv ad S k i kd := by
  match kd with
  | 0 => show Value.int (iZ _) = Value.int (iZ _); rw [h1]
  | 1 => show Value.long _ = Value.long _; rw [h2]
  | j + 2 => show (if j = 4998 then refZ ad (S'.1 k i) else .ref (ad j)) = _; rw [h1]; rfl
theorem entS_other {cA : KA} {ad : Nat → Nat} {S S' : Sg} {k : Nat} {sh : ShE} (h1 : S'.1 k = S.1 k) (h2 : S'.2 k = S.2 k) : entS cA ad S' k sh = entS cA ad S k sh := by
  match sh with
  | .inl (ci, ks) =>
    have e : (fun i kd => fldv ad S' k i kd) = (fun i kd => fldv ad S k i kd) := funext fun i => funext fun kd => fldv_other (congrFun h1 i) (congrFun h2 i)
    show Sum.inr (ci, ks.mapIdx (fun i kd => fldv ad S' k i kd)) = Sum.inr (ci, ks.mapIdx (fun i kd => fldv ad S k i kd))
    rw [e]
  | .inr (t, n) => exact congrArg Sum.inl (rowe_other h1 h2)
/-! ===== the texts that stand fast: key 900 + 2 i a text, 901 + 2 i its bytes; 930 the empty row of lists; 932, 933 digits ===== -/
def kLit : List (List Int) := [[112, 97, 114, 116, 115, 32], [59], [115, 108, 97, 99, 107, 32], [99, 114, 101, 100, 105, 116, 32], [118, 101, 114, 116, 101, 120, 32], [32], [32, 59, 10], [101, 100, 103, 101, 32], [118], [], [118, 101, 114, 116, 101, 120], [101, 100, 103, 101], [112, 97, 114, 116, 115], [115, 108, 97, 99, 107], [99, 114, 101, 100, 105, 116]]
def lsort (k : Nat) : Int := if k < 930 then (if k % 2 = 0 then 5 else 2) else if k = 930 then 3 else if k = 931 then 0 else 2
def llen (k : Nat) : Int := if k < 930 then (if k % 2 = 0 then 0 else (((kLit.getD ((k - 901) / 2) []).length : Nat) : Int)) else if k < 932 then 0 else 100
def lval (k i : Nat) : Int := if k < 930 then (if k % 2 = 0 then (if i = 0 then (k : Int) + 1 else 0) else (kLit.getD ((k - 901) / 2) []).getD i 0) else if k = 932 then 48 + (i : Int) / 10 else if k = 933 then 48 + (i : Int) % 10 else 0
/-- the texts' numbers -/
def LTP (I : Ii) : Prop := ∀ k, 900 ≤ k → k < 934 → I (1000000 + k) 0 = lsort k ∧ I (1000000 + k) 1 = llen k ∧ (k < 930 → k % 2 = 0 → I k 0 = lval k 0 ∧ I k 1 = 0) ∧ ∀ i : Nat, (i : Int) < llen k → I k i = lval k i
/-- what is fixed for a run: the launch, what stands fast below the first address, the first address, the classes' numbers, the arrays' classes, the addresses of the keys (at 0: 1 if the class's object is there, at 1 its place behind the first address) -/
abbrev KG : Type := (Launch × (State → Prop)) × Nat × va_G × KA × (Nat → Nat)
abbrev kadr (G : KG) (k : Nat) : Nat := G.2.2.2.2 k
abbrev shK (G : KG) (S : Sg) (k : Nat) : Option ShE := shG G.2.2.2.2 S.1 k
/-- where what is made has its shape -/
def SHD (G : KG) (I : Ii) : Prop := (∀ k, 1022 ≤ k → I (1000000 + k) 0 ≠ 0 → (k : Int) < I 999 0 ∧ (kadr G 0 = 1 → k < 1000 + kadr G 1 ∨ 1096 + kadr G 1 ≤ k) ∧ 0 ≤ I (1000000 + k) 1 ∧ I (1000000 + k) 1 ≤ 100000) ∧ (∀ k, k < 1022 → (k < 900 ∨ 934 ≤ k) → I (1000000 + k) 0 = 0) ∧ (kadr G 0 = 1 → ((1096 + kadr G 1 : Nat) : Int) ≤ I 999 0) ∧ 1022 ≤ I 999 0 ∧ I 999 0 ≤ 900000
def PicE (G : KG) (S : Sg) (H : Heap) : Prop := ∀ k sh, shK G S k = some sh → va_at G.2.2.1 vwCl (kadr G k, entS G.2.2.2.1 G.2.2.2.2 S k sh) H
def Pic (G : KG) (S : Sg) (H : Heap) : Prop := (H.size : Int) + 1000 = (G.2.1 : Int) + S.1 999 0 ∧ SHD G S.1 ∧ LTP S.1 ∧ PicE G S H
abbrev ktys (G : KG) : List (ClassId × FieldType) := [(G.2.2.2.1.1, .int), (G.2.2.2.1.2.1, .long), (G.2.2.2.1.2.2.1, .object "ShareGraph$Sharing"), (G.2.2.2.1.2.2.2.1, .byte), (G.2.2.2.1.2.2.2.2.1, .object "java/lang/Object"), (G.2.2.2.1.2.2.2.2.2, .array .int)]
def kNw (U : State) : Prop := ∀ q ∈ kNest, va_Nw (.methodLinkNest q.1 q.2.1 q.2.2.1 q.2.2.2) U
/-- what stands fast stays, where nothing below the first address is written -/
def Kpm (G : KG) : Prop := (∀ u U : State, u.WarmedH U.vm → (∀ a, a < u.heap.size → ¬ G.2.1 ≤ a → U.heap[a]? = u.heap[a]?) → G.1.2 u → G.1.2 U) ∧ (∀ u U : State, u.vm = U.vm → u.heap = U.heap → G.1.2 u → G.1.2 U)
def Kst (G : KG) (U : State) : Prop := va_K G.2.2.1 vwCl (ktys G) U ∧ kNw U ∧ G.1.2 U ∧ Kpm G
def Kok (G : KG) : Prop := (∀ k, 1000 ≤ k → kadr G k + 1000 = G.2.1 + k) ∧ (kadr G 0 = 1 → (∀ k k', k < 900 → k' < 900 → shp k ≠ none → shp k' ≠ none → kadr G k = kadr G k' → k = k') ∧ (∀ k, k < 900 → shp k ≠ none → G.2.1 + kadr G 1 ≤ kadr G k ∧ kadr G k < G.2.1 + kadr G 1 + 96) ∧ 22 ≤ kadr G 1) ∧ (∀ k, 900 ≤ k → k < 1000 → kadr G k < G.2.1)
/-- the class's object is there too -/
def KokC (G : KG) : Prop := Kok G ∧ kadr G 0 = 1
abbrev KFr (G : KG) : Nat → Prop := fun q => G.2.1 ≤ q
theorem shO_spec {k i ci kd : Nat} (h : shO k i = some (ci, kd)) : ∃ ks, shp k = some (.inl (ci, ks)) ∧ ks[i]? = some kd := by
  unfold shO at h
  split at h
  · rename_i ci' ks hk
    split at h
    · rename_i kd' hi
      cases h
      exact ⟨ks, hk, hi⟩
    · cases h
  · cases h
theorem shR_spec {k : Nat} {q : Nat × Nat} (h : shR k = some q) : shp k = some (.inr q) := by
  unfold shR at h
  split at h
  · rename_i q' hk
    cases h
    exact hk
  · cases h
/-- a place of a key's object now, a key's row now -/
def sOG (G : KG) (S : Sg) (o i ci kd : Nat) : Prop := ∃ ks : List Nat, shK G S o = some (.inl (ci, ks)) ∧ ks[i]? = some kd
def sRG (G : KG) (S : Sg) (o t n : Nat) : Prop := shK G S o = some (.inr (t, n))
theorem shp_mid {k : Nat} (h : shp k ≠ none) : k < 900 ∨ (1000 ≤ k ∧ k < 1022) := by
  unfold shp shWorld at h
  by_cases c1 : k < 900
  · exact Or.inl c1
  · right
    rw [if_neg (by omega), if_neg (by omega), if_neg (by omega), if_neg (by omega), if_neg (by omega)] at h
    by_cases c2 : k < 1000
    · rw [if_pos c2] at h; exact absurd rfl h
    · rw [if_neg c2] at h
      refine ⟨by omega, ?_⟩
      by_cases c3 : k < 1022
      · exact c3
      · rw [if_neg (by omega), if_neg (by omega), if_neg (by omega), if_neg (by omega), if_neg (by omega), if_neg (by omega)] at h
        exact absurd rfl h
theorem shK_c {G : KG} {S : Sg} {k : Nat} {sh : ShE} (hz : kadr G 0 = 1) (h : shp k = some sh) : shK G S k = some sh := by
  have hz : G.2.2.2.2 0 = 1 := hz
  unfold shK shG
  rcases shp_mid (k := k) (by rw [h]; intro z; cases z) with c | c
  · rw [if_pos c, if_pos hz, h]
  · rw [if_neg (by omega), if_neg (by omega), if_pos c.2, h]
theorem shK_w {G : KG} {S : Sg} {k : Nat} {sh : ShE} (hk : 1000 ≤ k) (h : shp k = some sh) : shK G S k = some sh := by
  unfold shK shG
  rcases shp_mid (k := k) (by rw [h]; intro z; cases z) with c | c
  · omega
  · rw [if_neg (by omega), if_neg (by omega), if_pos c.2, h]
theorem shK_d {G : KG} {S : Sg} {k : Nat} (hk : 1022 ≤ k) : shK G S k = dsh S.1 k := by
  unfold shK shG
  rw [if_neg (by omega), if_neg (by omega), if_neg (by omega)]
theorem sOc {G : KG} {S : Sg} {o i ci kd : Nat} (hz : kadr G 0 = 1) (h : shO o i = some (ci, kd)) : sOG G S o i ci kd := by
  obtain ⟨ks, h1, h2⟩ := shO_spec h
  exact ⟨ks, shK_c hz h1, h2⟩
theorem sRc {G : KG} {S : Sg} {o t n : Nat} (hz : kadr G 0 = 1) (h : shR o = some (t, n)) : sRG G S o t n := shK_c hz (shR_spec h)
theorem sOw {G : KG} {S : Sg} {o i ci kd : Nat} (h : shO o i = some (ci, kd)) (hk : 1000 ≤ o) : sOG G S o i ci kd := by
  obtain ⟨ks, h1, h2⟩ := shO_spec h
  exact ⟨ks, shK_w hk h1, h2⟩
theorem sRw {G : KG} {S : Sg} {o t n : Nat} (h : shR o = some (t, n)) (hk : 1000 ≤ o) : sRG G S o t n := shK_w hk (shR_spec h)
theorem dsh_ne {I : Ii} {k : Nat} (h : dsh I k ≠ none) : I (1000000 + k) 0 ≠ 0 := by
  intro z
  unfold dsh at h
  rw [z] at h
  exact h rfl
/-- a key with a shape is none of the texts that stand fast, and below the next one -/
theorem shK_rg {G : KG} {S : Sg} {k : Nat} (hs : SHD G S.1) (h : shK G S k ≠ none) : (k < 900 ∨ 1000 ≤ k) ∧ k < 1000000 := by
  unfold shK shG at h
  by_cases c1 : k < 900
  · exact ⟨Or.inl c1, by omega⟩
  · rw [if_neg c1] at h
    by_cases c2 : k < 1000
    · rw [if_pos c2] at h; exact absurd rfl h
    · rw [if_neg c2] at h
      refine ⟨Or.inr (by omega), ?_⟩
      by_cases c3 : k < 1022
      · omega
      · rw [if_neg c3] at h
        have := (hs.1 k (by omega) (dsh_ne h)).1
        have := hs.2.2.2.2
        omega
theorem shK_low {G : KG} {S : Sg} {k : Nat} (hG : Kok G) (h : shK G S k ≠ none) : G.2.1 ≤ kadr G k := by
  unfold shK shG at h
  by_cases c1 : k < 900
  · rw [if_pos c1] at h
    by_cases c0 : G.2.2.2.2 0 = 1
    · rw [if_pos c0] at h
      have := ((hG.2.1 c0).2.1 k c1 h).1
      omega
    · rw [if_neg c0] at h; exact absurd rfl h
  · rw [if_neg c1] at h
    by_cases c2 : k < 1000
    · rw [if_pos c2] at h; exact absurd rfl h
    · have := hG.1 k (by omega)
      omega
/-- different keys, different addresses -/
theorem shK_inj {G : KG} {S : Sg} {k k' : Nat} (hG : Kok G) (hs : SHD G S.1) (h : shK G S k ≠ none) (h' : shK G S k' ≠ none) (e : kadr G k = kadr G k') : k = k' := by
  have key : ∀ a b : Nat, shK G S a ≠ none → shK G S b ≠ none → a < 900 → 1000 ≤ b → kadr G a ≠ kadr G b := by
    intro a b ha hb ca cb e
    unfold shK shG at ha
    rw [if_pos ca] at ha
    by_cases c0 : G.2.2.2.2 0 = 1
    · rw [if_pos c0] at ha
      have h1 := (hG.2.1 c0).2.1 a ca ha
      have h22 := (hG.2.1 c0).2.2
      have h2 := hG.1 b cb
      by_cases c3 : b < 1022
      · omega
      · rw [shK_d (by omega)] at hb
        have := (hs.1 b (by omega) (dsh_ne hb)).2.1 c0
        omega
    · rw [if_neg c0] at ha; exact absurd rfl ha
  rcases (shK_rg hs h).1 with c | c
  · rcases (shK_rg hs h').1 with c' | c'
    · unfold shK shG at h h'
      rw [if_pos c] at h
      rw [if_pos c'] at h'
      by_cases c0 : G.2.2.2.2 0 = 1
      · rw [if_pos c0] at h h'
        exact (hG.2.1 c0).1 k k' c c' h h' e
      · rw [if_neg c0] at h; exact absurd rfl h
    · exact absurd e (key k k' h h' c c')
  · rcases (shK_rg hs h').1 with c' | c'
    · exact absurd e.symm (key k' k h' h c' c)
    · have h1 := hG.1 k c
      have h2 := hG.1 k' c'
      omega
theorem Pic.at {G : KG} {S : Sg} {H : Heap} (h : Pic G S H) {k : Nat} {sh : ShE} (hs : shK G S k = some sh) : va_at G.2.2.1 vwCl (kadr G k, entS G.2.2.2.1 G.2.2.2.2 S k sh) H := h.2.2.2 k sh hs
theorem Pic.obj {G : KG} {S : Sg} {H : Heap} (h : Pic G S H) {k i ci kd : Nat} (hs : sOG G S k i ci kd) : ∃ ks : List Nat, shK G S k = some (.inl (ci, ks)) ∧ ks[i]? = some kd ∧ va_at G.2.2.1 vwCl (kadr G k, .inr (ci, ks.mapIdx (fun i kd => fldv G.2.2.2.2 S k i kd))) H := by
  obtain ⟨ks, h1, h2⟩ := hs
  exact ⟨ks, h1, h2, h.at h1⟩
theorem shK_up {G : KG} {S S' : Sg} {k k' : Nat} (hk : k < 1000000) (o1 : ∀ k', k' ≠ k → S'.1 k' = S.1 k') : shK G S' k' = shK G S k' := by
  unfold shK shG dsh
  rw [o1 (1000000 + k') (by omega)]
/-- the picture behind a write to one key -/
theorem Pic.upd {G : KG} {S S' : Sg} {H H1 : Heap} {k : Nat} {sh : ShE} (hG : Kok G) (h : Pic G S H) (hk : shK G S k = some sh) (o1 : ∀ k', k' ≠ k → S'.1 k' = S.1 k') (o2 : ∀ k', k' ≠ k → S'.2 k' = S.2 k')
    (hz : H1.size = H.size) (hq : ∀ q : Nat, q ≠ kadr G k → H1[q]? = H[q]?) (he : va_at G.2.2.1 vwCl (kadr G k, entS G.2.2.2.1 G.2.2.2.2 S' k sh) H1) : Pic G S' H1 := by
  obtain ⟨p1, p2, p3, p4⟩ := h
  have hne : shK G S k ≠ none := by rw [hk]; intro z; cases z
  obtain ⟨r1, r2⟩ := shK_rg p2 hne
  have e9 : S'.1 999 = S.1 999 := o1 999 (by omega)
  refine ⟨by rw [hz, e9]; exact p1, ?_, ?_, ?_⟩
  · unfold SHD
    rw [e9]
    refine ⟨fun k' h1 h2 => ?_, fun k' h1 h2 => ?_, p2.2.2⟩
    · rw [o1 (1000000 + k') (by omega)] at h2 ⊢
      exact p2.1 k' h1 h2
    · rw [o1 (1000000 + k') (by omega)]
      exact p2.2.1 k' h1 h2
  · intro k' h1 h2
    have e1 := o1 (1000000 + k') (by omega)
    have e2 := o1 k' (by omega)
    rw [e1, e2]
    exact p3 k' h1 h2
  · intro k' sh' hs
    rw [shK_up r2 o1] at hs
    by_cases q : k' = k
    · subst q
      rw [hk] at hs
      cases hs
      exact he
    · rw [entS_other (o1 k' q) (o2 k' q)]
      exact (p4 k' sh' hs).kept (hq _ (fun z => q (shK_inj hG p2 (by rw [hs]; intro z; cases z) hne z)))
theorem mapIdx_set {S S' : Sg} {ad : Nat → Nat} {k i : Nat} {ks : List Nat} {v : Value} {kd : Nat} (hi : ks[i]? = some kd) (hv : fldv ad S' k i kd = v) (ho : ∀ j kd', j ≠ i → fldv ad S' k j kd' = fldv ad S k j kd') :
    (ks.mapIdx (fun i kd => fldv ad S k i kd)).set i v = ks.mapIdx (fun i kd => fldv ad S' k i kd) := by
  apply List.ext_getElem?
  intro j
  by_cases q : j = i
  · subst q
    rw [List.getElem?_set_self (by rw [List.length_mapIdx]; exact (List.getElem?_eq_some_iff.mp hi).1), List.getElem?_mapIdx, hi]
    show some v = some (fldv ad S' k j kd)
    rw [hv]
  · rw [List.getElem?_set_ne (Ne.symm q), List.getElem?_mapIdx, List.getElem?_mapIdx]
    cases ks[j]? with
    | none => rfl
    | some z => exact congrArg some (ho j z q).symm
/-! ===== what a call makes ===== -/
/-- something new: its sort, its length, its numbers -/
def nwI (I : Ii) (t z : Int) (d : Nat → Int) : Ii := fun k i => if k = 999 then (if i = 0 then I 999 0 + 1 else I 999 i) else if k = (I 999 0).toNat then d i else if k = 1000000 + (I 999 0).toNat then (if i = 0 then t else if i = 1 then z else I k i) else I k i
theorem nwI_o {I : Ii} {t z : Int} {d : Nat → Int} {k : Nat} (h1 : k ≠ 999) (h2 : k ≠ (I 999 0).toNat) (h3 : k ≠ 1000000 + (I 999 0).toNat) : nwI I t z d k = I k := by
  funext i
  unfold nwI
  rw [if_neg h1, if_neg h2, if_neg h3]
theorem nwI_9 (I : Ii) (t z : Int) (d : Nat → Int) : nwI I t z d 999 0 = I 999 0 + 1 := rfl
theorem nwI_k {I : Ii} {t z : Int} {d : Nat → Int} (h : 1022 ≤ I 999 0) : nwI I t z d (I 999 0).toNat = d := by
  funext i
  unfold nwI
  rw [if_neg (by omega), if_pos rfl]
theorem nwI_s0 {I : Ii} {t z : Int} {d : Nat → Int} : nwI I t z d (1000000 + (I 999 0).toNat) 0 = t := by
  unfold nwI
  rw [if_neg (by omega), if_neg (by omega), if_pos rfl, if_pos rfl]
theorem nwI_s1 {I : Ii} {t z : Int} {d : Nat → Int} : nwI I t z d (1000000 + (I 999 0).toNat) 1 = z := by
  unfold nwI
  rw [if_neg (by omega), if_neg (by omega), if_pos rfl, if_neg (by decide), if_pos rfl]
theorem nwI_s {I : Ii} {t z : Int} {d : Nat → Int} : nwI I t z d (1000000 + (I 999 0).toNat) 0 = t ∧ nwI I t z d (1000000 + (I 999 0).toNat) 1 = z := ⟨nwI_s0, nwI_s1⟩
/-- the picture behind a cell that was made -/
theorem Pic.push {G : KG} {I : Ii} {J : Jj} {H H1 : Heap} {t z : Int} {d : Nat → Int} {sh : ShE} (hG : Kok G) (h : Pic G (I, J) H) (hm : I 999 0 < 900000) (hzb : 0 ≤ z ∧ z ≤ 100000) (hz : H1.size = H.size + 1) (hq : ∀ q : Nat, q < H.size → H1[q]? = H[q]?) (ht : t ≠ 0) (hsh : dsh (nwI I t z d) (I 999 0).toNat = some sh) (he : va_at G.2.2.1 vwCl (H.size, entS G.2.2.2.1 G.2.2.2.2 (nwI I t z d, J) (I 999 0).toNat sh) H1) : Pic G (nwI I t z d, J) H1 ∧ H.size = kadr G (I 999 0).toNat := by
  obtain ⟨p1, p2, p3, p4⟩ := h
  have p1 : (H.size : Int) + 1000 = (G.2.1 : Int) + I 999 0 := p1
  have h22 : 1022 ≤ I 999 0 := p2.2.2.2.1
  have hka := hG.1 (I 999 0).toNat (by omega)
  have ead : H.size = kadr G (I 999 0).toNat := by omega
  have oo : ∀ k, k ≠ 999 → k ≠ (I 999 0).toNat → k ≠ 1000000 + (I 999 0).toNat → nwI I t z d k = I k := fun k a b c => nwI_o a b c
  refine ⟨⟨?_, ?_, ?_, ?_⟩, ead⟩
  · show (H1.size : Int) + 1000 = (G.2.1 : Int) + nwI I t z d 999 0
    rw [nwI_9, hz]
    omega
  · refine ⟨fun k h1 h2 => ?_, fun k h1 h2 => ?_, fun c => ?_, ?_, ?_⟩
    · show (k : Int) < nwI I t z d 999 0 ∧ _
      rw [nwI_9]
      by_cases q : k = (I 999 0).toNat
      · subst q
        refine ⟨by omega, fun c => Or.inr ?_, ?_⟩
        · have := p2.2.2.1 c
          have : ((1096 + kadr G 1 : Nat) : Int) ≤ I 999 0 := this
          omega
        · show 0 ≤ nwI I t z d (1000000 + (I 999 0).toNat) 1 ∧ nwI I t z d (1000000 + (I 999 0).toNat) 1 ≤ 100000
          rw [nwI_s1]
          exact hzb
      · have e1 := oo (1000000 + k) (by clear h2; omega) (by clear h2; omega) (by clear h2; omega)
        have h2 : nwI I t z d (1000000 + k) 0 ≠ 0 := h2
        rw [e1] at h2
        have := p2.1 k h1 h2
        show _ ∧ _ ∧ 0 ≤ nwI I t z d (1000000 + k) 1 ∧ nwI I t z d (1000000 + k) 1 ≤ 100000
        rw [e1]
        exact ⟨by have : (k : Int) < I 999 0 := this.1; omega, this.2⟩
    · show nwI I t z d (1000000 + k) 0 = 0
      rw [oo (1000000 + k) (by omega) (by omega) (by omega)]
      exact p2.2.1 k h1 h2
    · show _ ≤ nwI I t z d 999 0
      rw [nwI_9]
      have : ((1096 + kadr G 1 : Nat) : Int) ≤ I 999 0 := p2.2.2.1 c
      omega
    · show 1022 ≤ nwI I t z d 999 0
      rw [nwI_9]; omega
    · show nwI I t z d 999 0 ≤ 900000
      rw [nwI_9]; omega
  · intro k h1 h2
    show nwI I t z d (1000000 + k) 0 = lsort k ∧ nwI I t z d (1000000 + k) 1 = llen k ∧ (k < 930 → k % 2 = 0 → nwI I t z d k 0 = lval k 0 ∧ nwI I t z d k 1 = 0) ∧ ∀ i : Nat, (i : Int) < llen k → nwI I t z d k i = lval k i
    rw [oo (1000000 + k) (by omega) (by omega) (by omega), oo k (by omega) (by omega) (by omega)]
    exact p3 k h1 h2
  · intro k sh' hs
    by_cases q : k = (I 999 0).toNat
    · subst q
      rw [shK_d (by omega)] at hs
      have hs : dsh (nwI I t z d) (I 999 0).toNat = some sh' := hs
      rw [hsh] at hs
      cases hs
      rw [← ead]
      exact he
    · have hs0 : shK G (I, J) k = some sh' := by
        rw [← hs]
        unfold shK shG
        have e9 : dsh (nwI I t z d) k = dsh I k := by
          unfold dsh
          rw [oo (1000000 + k) (by omega) (by omega) (by omega)]
        by_cases c : k < 1022
        · split <;> (first | rfl | (split <;> (first | rfl | rw [if_pos c, if_pos c])))
        · rw [if_neg (by omega), if_neg (by omega), if_neg c, if_neg (by omega), if_neg (by omega), if_neg c]
          exact e9.symm
      have hne : shK G (I, J) k ≠ none := by rw [hs0]; intro z; cases z
      obtain ⟨r1, r2⟩ := shK_rg p2 hne
      have hlt : k ≠ 1000000 + (I 999 0).toNat := by omega
      have e1 := oo k (by omega) q hlt
      rw [entS_other (S := (I, J)) (S' := (nwI I t z d, J)) e1 rfl]
      have h3 := p4 k sh' hs0
      refine h3.kept (hq _ ?_)
      have hl : kadr G k < H.size := by
        have := va_at.lt h3
        exact this
      exact hl
/-! ===== the locals as a dense list ===== -/
def lvD (ls : Array Slot) (nL : Nat) (lv : List (Option Value)) : Prop := ls.size = nL ∧ lv_wf ls ∧ lv.length ≤ nL ∧ ∀ (i : Nat) (v : Value), lv[i]? = some (some v) → ls[i]? = some (.val v)
def lvA : Nat → List (Option Value) → List (Nat × Value)
  | _, [] => []
  | n, none :: t => lvA (n + 1) t
  | n, some v :: t => (n, v) :: lvA (n + 1) t
theorem lvA_mem : ∀ (lv : List (Option Value)) (n : Nat) (q : Nat × Value), q ∈ lvA n lv ↔ n ≤ q.1 ∧ lv[q.1 - n]? = some (some q.2) := by
  intro lv
  induction lv with
  | nil => intro n q; simp [lvA]
  | cons a t ih =>
    intro n q
    have key : ∀ (P : Prop), (P ↔ (n = q.1 ∧ a = some q.2)) → ((P ∨ q ∈ lvA (n + 1) t) ↔ n ≤ q.1 ∧ (a :: t)[q.1 - n]? = some (some q.2)) := by
      intro P hP
      rw [hP, ih]
      constructor
      · rintro (⟨h1, h2⟩ | ⟨h1, h2⟩)
        · refine ⟨by omega, ?_⟩
          rw [h1, Nat.sub_self, List.getElem?_cons_zero, h2]
        · refine ⟨by omega, ?_⟩
          rw [show q.1 - n = (q.1 - (n + 1)) + 1 by omega, List.getElem?_cons_succ]
          exact h2
      · rintro ⟨h1, h2⟩
        by_cases e : n = q.1
        · left
          rw [e, Nat.sub_self, List.getElem?_cons_zero] at h2
          exact ⟨e, Option.some.inj h2⟩
        · right
          refine ⟨by omega, ?_⟩
          rw [show q.1 - n = (q.1 - (n + 1)) + 1 by omega, List.getElem?_cons_succ] at h2
          exact h2
    cases a with
    | none =>
      show q ∈ lvA (n + 1) t ↔ _
      rw [← key False ⟨fun h => h.elim, fun h => by cases h.2⟩]
      exact ⟨Or.inr, fun h => h.elim (fun f => f.elim) id⟩
    | some v =>
      show q ∈ (n, v) :: lvA (n + 1) t ↔ _
      rw [List.mem_cons, ← key (q = (n, v)) ⟨fun h => by rw [h]; exact ⟨rfl, rfl⟩, fun h => by obtain ⟨h1, h2⟩ := h; cases h2; rw [h1]⟩]
theorem lvD.has {ls : Array Slot} {nL : Nat} {lv : List (Option Value)} (h : lvD ls nL lv) : lv_has ls nL (lvA 0 lv) := by
  refine ⟨h.1, h.2.1, fun q hq => ?_⟩
  have := (lvA_mem lv 0 q).mp hq
  exact h.2.2.2 q.1 q.2 this.2
theorem lvD.of {ls : Array Slot} {nL : Nat} {l : List (Nat × Value)} {lv : List (Option Value)} (h : lv_has ls nL l) (hn : lv.length ≤ nL) (hl : ∀ (i : Nat) (v : Value), lv[i]? = some (some v) → (i, v) ∈ l) : lvD ls nL lv := ⟨h.1, h.2.1, hn, fun i v q => h.2.2 (i, v) (hl i v q)⟩
/-- no long in front -/
def nolong (lv : List (Option Value)) (i : Nat) : Bool := match i with
  | 0 => true
  | j + 1 => match lv[j]? with
    | some (some v) => v.category == 1
    | _ => true
theorem lvD.stored {ls' : Array Slot} {nL i : Nat} {lv : List (Option Value)} {v : Value} (hn : lv.length ≤ nL) (hi : i < lv.length) (hnl : nolong lv i = true) (h : lv_has ls' nL ((i, v) :: (lvA 0 lv).filter (fun q => !(q.1 == i) && !(q.1 + 1 == i && q.2.category == 2)))) : lvD ls' nL (lv.set i (some v)) := by
  refine lvD.of h (by rw [List.length_set]; exact hn) fun j w hw => ?_
  by_cases q : j = i
  · subst q
    rw [List.getElem?_set_self hi] at hw
    cases hw
    exact List.mem_cons_self
  · rw [List.getElem?_set_ne (Ne.symm q)] at hw
    refine List.mem_cons_of_mem _ (List.mem_filter.mpr ⟨(lvA_mem lv 0 (j, w)).mpr ⟨Nat.zero_le _, hw⟩, ?_⟩)
    have h1 : (j == i) = false := beq_eq_false_iff_ne.mpr q
    simp only [h1, Bool.not_false, Bool.true_and, Bool.not_eq_true', Bool.and_eq_false_iff]
    by_cases q2 : j + 1 = i
    · right
      subst q2
      simp only [nolong, hw] at hnl
      have : w.category = 1 := beq_iff_eq.mp hnl
      rw [this]; rfl
    · left
      exact beq_eq_false_iff_ne.mpr q2
theorem lvD.stored2 {ls' : Array Slot} {nL i : Nat} {lv : List (Option Value)} {v : Value} (hn : lv.length ≤ nL) (hi : i + 1 < lv.length) (hnl : nolong lv i = true) (h : lv_has ls' nL ((i, v) :: (lvA 0 lv).filter (fun q => !(q.1 == i) && (!(q.1 == i + 1) && !(q.1 + 1 == i && q.2.category == 2))))) : lvD ls' nL ((lv.set i (some v)).set (i + 1) none) := by
  refine lvD.of h (by rw [List.length_set, List.length_set]; exact hn) fun j w hw => ?_
  by_cases q9 : j = i + 1
  · subst q9
    rw [List.getElem?_set_self (by rw [List.length_set]; exact hi)] at hw
    cases hw
  rw [List.getElem?_set_ne (Ne.symm q9)] at hw
  by_cases q : j = i
  · subst q
    rw [List.getElem?_set_self (by omega)] at hw
    cases hw
    exact List.mem_cons_self
  · rw [List.getElem?_set_ne (Ne.symm q)] at hw
    refine List.mem_cons_of_mem _ (List.mem_filter.mpr ⟨(lvA_mem lv 0 (j, w)).mpr ⟨Nat.zero_le _, hw⟩, ?_⟩)
    have h1 : (j == i) = false := beq_eq_false_iff_ne.mpr q
    have h2 : (j == i + 1) = false := beq_eq_false_iff_ne.mpr q9
    simp only [h1, h2, Bool.not_false, Bool.true_and, Bool.not_eq_true', Bool.and_eq_false_iff]
    by_cases q2 : j + 1 = i
    · right
      subst q2
      simp only [nolong, hw] at hnl
      have : w.category = 1 := beq_iff_eq.mp hnl
      rw [this]; rfl
    · left
      exact beq_eq_false_iff_ne.mpr q2
/-! ===== a point of a method's run ===== -/
abbrev KX : Type := Program × Env × Room × State × MethodId × Array Value × List Frame × Method × Code
/-- what is fixed in a method's run -/
def Fr (G : KG) (X : KX) (cc : ByteArray) (nL : Nat) (own : String) (ret : Option FieldType) (Ts : List Cond) : Prop := match X with
  | (p, _, _, s, m, args, _, meth, c) => p.tables.exec = Jvm.exec ∧ c.code = cc ∧ c.maxLocals = nL ∧ s.vm.findClass own = some m.cls ∧ (∀ w ∈ Ts, w.before args s = true) ∧ meth.sig.returnType = ret ∧ meth.locks = false ∧ Kst G s ∧ Kok G ∧ G.2.1 ≤ s.heap.size
/-- the room of this run -/
def KR (X : KX) : Room := X.2.2.1
def Wm (G : KG) (X : KX) (nL : Nat) (Qs : State → Prop) (a b pc : Nat) (lv : List (Option Value)) (st : List Value) (S : Sg) : Prop := match X with
  | (p, e, R, s, m, args, below, meth, c) => ∀ (k n : Nat), k + a ≤ R.cells → n + b ≤ R.slots → ∀ (H : Heap) (locs : List Loc) (ls : Array Slot), Pic G S H → va_S (KFr G) s.heap H locs → lvD ls nL lv → W p G.1.1 e R s m args below meth c H locs k n Qs (F0 m pc ls st)
section WMR
variable {G : KG} {X : KX} {nL : Nat} {Qs : State → Prop} {a b pc : Nat} {lv : List (Option Value)} {st : List Value} {S : Sg} {cc : ByteArray} {own : String} {ret : Option FieldType} {Ts : List Cond}

theorem wm_iconst (C : Fr G X cc nL own ret Ts) {n : Int} {v : Int32} (hv : Int32.ofInt n = v) (d : decode cc pc = .ok (.iconst n, 1)) (k : Wm G X nL Qs a b (pc + 1) lv (.int v :: st) S) : Wm G X nL Qs a b pc lv st S := by
  obtain ⟨p, e, R, s, m, args, below, meth, c⟩ := X
  obtain ⟨hx, hb, hml, hown, hts, hr, hlk, hKK, hG, hlo⟩ := C
  have hK := hKK.1
  intro k9 n9 hk9 hn9 H locs ls hP hS hl
  exact lv_iconst hx hb d hv (k k9 n9 hk9 hn9 H locs ls hP hS hl)
theorem wm_bipush (C : Fr G X cc nL own ret Ts) {n : Int} {v : Int32} (hv : (Int8.ofInt n).toInt32 = v) (d : decode cc pc = .ok (.bipush n, 2)) (k : Wm G X nL Qs a b (pc + 2) lv (.int v :: st) S) : Wm G X nL Qs a b pc lv st S := by
  obtain ⟨p, e, R, s, m, args, below, meth, c⟩ := X
  obtain ⟨hx, hb, hml, hown, hts, hr, hlk, hKK, hG, hlo⟩ := C
  have hK := hKK.1
  intro k9 n9 hk9 hn9 H locs ls hP hS hl
  exact lv_bipush hx hb d hv (k k9 n9 hk9 hn9 H locs ls hP hS hl)
theorem wm_sipush (C : Fr G X cc nL own ret Ts) {n : Int} {v : Int32} (hv : (Int16.ofInt n).toInt32 = v) (d : decode cc pc = .ok (.sipush n, 3)) (k : Wm G X nL Qs a b (pc + 3) lv (.int v :: st) S) : Wm G X nL Qs a b pc lv st S := by
  obtain ⟨p, e, R, s, m, args, below, meth, c⟩ := X
  obtain ⟨hx, hb, hml, hown, hts, hr, hlk, hKK, hG, hlo⟩ := C
  have hK := hKK.1
  intro k9 n9 hk9 hn9 H locs ls hP hS hl
  exact lv_sipush hx hb d hv (k k9 n9 hk9 hn9 H locs ls hP hS hl)
theorem wm_lconst (C : Fr G X cc nL own ret Ts) {n : Fin 2} {v : Int64} (hv : Int64.ofNat (n : Nat) = v) (d : decode cc pc = .ok (.lconst n, 1)) (k : Wm G X nL Qs a b (pc + 1) lv (.long v :: st) S) : Wm G X nL Qs a b pc lv st S := by
  obtain ⟨p, e, R, s, m, args, below, meth, c⟩ := X
  obtain ⟨hx, hb, hml, hown, hts, hr, hlk, hKK, hG, hlo⟩ := C
  have hK := hKK.1
  intro k9 n9 hk9 hn9 H locs ls hP hS hl
  exact lv_lconst hx hb d hv (k k9 n9 hk9 hn9 H locs ls hP hS hl)
theorem wm_ldc (C : Fr G X cc nL own ret Ts) {index : Nat} {v : Int32} (hw : Cond.constant own index v ∈ Ts) (d : decode cc pc = .ok (.ldc index, 2)) (k : Wm G X nL Qs a b (pc + 2) lv (.int v :: st) S) : Wm G X nL Qs a b pc lv st S := by
  obtain ⟨p, e, R, s, m, args, below, meth, c⟩ := X
  obtain ⟨hx, hb, hml, hown, hts, hr, hlk, hKK, hG, hlo⟩ := C
  have hK := hKK.1
  intro k9 n9 hk9 hn9 H locs ls hP hS hl
  exact lv_ldc hx hb hown (hts _ hw) d (k k9 n9 hk9 hn9 H locs ls hP hS hl)
theorem wm_ldc_w (C : Fr G X cc nL own ret Ts) {index : Nat} {v : Int32} (hw : Cond.constant own index v ∈ Ts) (d : decode cc pc = .ok (.ldc_w index, 3)) (k : Wm G X nL Qs a b (pc + 3) lv (.int v :: st) S) : Wm G X nL Qs a b pc lv st S := by
  obtain ⟨p, e, R, s, m, args, below, meth, c⟩ := X
  obtain ⟨hx, hb, hml, hown, hts, hr, hlk, hKK, hG, hlo⟩ := C
  have hK := hKK.1
  intro k9 n9 hk9 hn9 H locs ls hP hS hl
  exact lv_ldcw hx hb hown (hts _ hw) d (k k9 n9 hk9 hn9 H locs ls hP hS hl)
theorem wm_ldc2_w (C : Fr G X cc nL own ret Ts) {index : Nat} {v : Int64} (hw : Cond.constantLong own index v ∈ Ts) (d : decode cc pc = .ok (.ldc2_w index, 3)) (k : Wm G X nL Qs a b (pc + 3) lv (.long v :: st) S) : Wm G X nL Qs a b pc lv st S := by
  obtain ⟨p, e, R, s, m, args, below, meth, c⟩ := X
  obtain ⟨hx, hb, hml, hown, hts, hr, hlk, hKK, hG, hlo⟩ := C
  have hK := hKK.1
  intro k9 n9 hk9 hn9 H locs ls hP hS hl
  exact lv_ldc2 hx hb hown (hts _ hw) d (k k9 n9 hk9 hn9 H locs ls hP hS hl)
theorem wm_iload_n (C : Fr G X cc nL own ret Ts) {j : Fin 4} {i : Nat} {x : Int32} (hi : (j : Nat) = i) (h : lv[i]? = some (some (.int x))) (d : decode cc pc = .ok (.iload_n j, 1)) (k : Wm G X nL Qs a b (pc + 1) lv (.int x :: st) S) : Wm G X nL Qs a b pc lv st S := by
  obtain ⟨p, e, R, s, m, args, below, meth, c⟩ := X
  obtain ⟨hx, hb, hml, hown, hts, hr, hlk, hKK, hG, hlo⟩ := C
  have hK := hKK.1
  intro k9 n9 hk9 hn9 H locs ls hP hS hl
  exact lv_iload_n hx hb d hi (hl.2.2.2 _ _ h) (k k9 n9 hk9 hn9 H locs ls hP hS hl)
theorem wm_iload (C : Fr G X cc nL own ret Ts) {i : Nat} {x : Int32} (h : lv[i]? = some (some (.int x))) (d : decode cc pc = .ok (.iload i, 2)) (k : Wm G X nL Qs a b (pc + 2) lv (.int x :: st) S) : Wm G X nL Qs a b pc lv st S := by
  obtain ⟨p, e, R, s, m, args, below, meth, c⟩ := X
  obtain ⟨hx, hb, hml, hown, hts, hr, hlk, hKK, hG, hlo⟩ := C
  have hK := hKK.1
  intro k9 n9 hk9 hn9 H locs ls hP hS hl
  exact lv_iload hx hb d (hl.2.2.2 _ _ h) (k k9 n9 hk9 hn9 H locs ls hP hS hl)
theorem wm_aload_n (C : Fr G X cc nL own ret Ts) {j : Fin 4} {i : Nat} {x : Nat} (hi : (j : Nat) = i) (h : lv[i]? = some (some (.ref x))) (d : decode cc pc = .ok (.aload_n j, 1)) (k : Wm G X nL Qs a b (pc + 1) lv (.ref x :: st) S) : Wm G X nL Qs a b pc lv st S := by
  obtain ⟨p, e, R, s, m, args, below, meth, c⟩ := X
  obtain ⟨hx, hb, hml, hown, hts, hr, hlk, hKK, hG, hlo⟩ := C
  have hK := hKK.1
  intro k9 n9 hk9 hn9 H locs ls hP hS hl
  exact lv_aload_n hx hb d hi (hl.2.2.2 _ _ h) (k k9 n9 hk9 hn9 H locs ls hP hS hl)
theorem wm_aload (C : Fr G X cc nL own ret Ts) {i : Nat} {x : Nat} (h : lv[i]? = some (some (.ref x))) (d : decode cc pc = .ok (.aload i, 2)) (k : Wm G X nL Qs a b (pc + 2) lv (.ref x :: st) S) : Wm G X nL Qs a b pc lv st S := by
  obtain ⟨p, e, R, s, m, args, below, meth, c⟩ := X
  obtain ⟨hx, hb, hml, hown, hts, hr, hlk, hKK, hG, hlo⟩ := C
  have hK := hKK.1
  intro k9 n9 hk9 hn9 H locs ls hP hS hl
  exact lv_aload hx hb d (hl.2.2.2 _ _ h) (k k9 n9 hk9 hn9 H locs ls hP hS hl)
theorem wm_lload_n (C : Fr G X cc nL own ret Ts) {j : Fin 4} {i : Nat} {x : Int64} (hi : (j : Nat) = i) (h : lv[i]? = some (some (.long x))) (d : decode cc pc = .ok (.lload_n j, 1)) (k : Wm G X nL Qs a b (pc + 1) lv (.long x :: st) S) : Wm G X nL Qs a b pc lv st S := by
  obtain ⟨p, e, R, s, m, args, below, meth, c⟩ := X
  obtain ⟨hx, hb, hml, hown, hts, hr, hlk, hKK, hG, hlo⟩ := C
  have hK := hKK.1
  intro k9 n9 hk9 hn9 H locs ls hP hS hl
  exact lv_lload_n hx hb d hi (hl.2.2.2 _ _ h) (k k9 n9 hk9 hn9 H locs ls hP hS hl)
theorem wm_lload (C : Fr G X cc nL own ret Ts) {i : Nat} {x : Int64} (h : lv[i]? = some (some (.long x))) (d : decode cc pc = .ok (.lload i, 2)) (k : Wm G X nL Qs a b (pc + 2) lv (.long x :: st) S) : Wm G X nL Qs a b pc lv st S := by
  obtain ⟨p, e, R, s, m, args, below, meth, c⟩ := X
  obtain ⟨hx, hb, hml, hown, hts, hr, hlk, hKK, hG, hlo⟩ := C
  have hK := hKK.1
  intro k9 n9 hk9 hn9 H locs ls hP hS hl
  exact lv_lload hx hb d (hl.2.2.2 _ _ h) (k k9 n9 hk9 hn9 H locs ls hP hS hl)
theorem wm_istore_n_g (C : Fr G X cc nL own ret Ts) {j : Fin 4} {i : Nat} (hj : (j : Nat) = i) {x : Int32} {lv' : List (Option Value)} (hi : i < lv.length) (hn : nolong lv i = true) (he : lv.set i (some (.int x)) = lv') (d : decode cc pc = .ok (.istore_n j, 1)) (k : Wm G X nL Qs a b (pc + 1) lv' st S) : Wm G X nL Qs a b pc lv (.int x :: st) S := by
  obtain ⟨p, e, R, s, m, args, below, meth, c⟩ := X
  obtain ⟨hx, hb, hml, hown, hts, hr, hlk, hKK, hG, hlo⟩ := C
  have hK := hKK.1
  intro k9 n9 hk9 hn9 H locs ls hP hS hl
  subst he
  exact lv_istore_n (lv := lvA 0 lv) hx hb d hj hl.has (Nat.lt_of_lt_of_le hi hl.2.2.1) rfl (fun ls' hl' => k k9 n9 hk9 hn9 H locs ls' hP hS (lvD.stored hl.2.2.1 hi hn hl'))
theorem wm_istore_g (C : Fr G X cc nL own ret Ts) {i : Nat} {x : Int32} {lv' : List (Option Value)} (hi : i < lv.length) (hn : nolong lv i = true) (he : lv.set i (some (.int x)) = lv') (d : decode cc pc = .ok (.istore i, 2)) (k : Wm G X nL Qs a b (pc + 2) lv' st S) : Wm G X nL Qs a b pc lv (.int x :: st) S := by
  obtain ⟨p, e, R, s, m, args, below, meth, c⟩ := X
  obtain ⟨hx, hb, hml, hown, hts, hr, hlk, hKK, hG, hlo⟩ := C
  have hK := hKK.1
  intro k9 n9 hk9 hn9 H locs ls hP hS hl
  subst he
  exact lv_istore (lv := lvA 0 lv) hx hb d hl.has (Nat.lt_of_lt_of_le hi hl.2.2.1) rfl (fun ls' hl' => k k9 n9 hk9 hn9 H locs ls' hP hS (lvD.stored hl.2.2.1 hi hn hl'))
theorem wm_astore_n_g (C : Fr G X cc nL own ret Ts) {j : Fin 4} {i : Nat} (hj : (j : Nat) = i) {x : Nat} {lv' : List (Option Value)} (hi : i < lv.length) (hn : nolong lv i = true) (he : lv.set i (some (.ref x)) = lv') (d : decode cc pc = .ok (.astore_n j, 1)) (k : Wm G X nL Qs a b (pc + 1) lv' st S) : Wm G X nL Qs a b pc lv (.ref x :: st) S := by
  obtain ⟨p, e, R, s, m, args, below, meth, c⟩ := X
  obtain ⟨hx, hb, hml, hown, hts, hr, hlk, hKK, hG, hlo⟩ := C
  have hK := hKK.1
  intro k9 n9 hk9 hn9 H locs ls hP hS hl
  subst he
  exact lv_astore_n (lv := lvA 0 lv) hx hb d hj hl.has (Nat.lt_of_lt_of_le hi hl.2.2.1) rfl (fun ls' hl' => k k9 n9 hk9 hn9 H locs ls' hP hS (lvD.stored hl.2.2.1 hi hn hl'))
theorem wm_astore_g (C : Fr G X cc nL own ret Ts) {i : Nat} {x : Nat} {lv' : List (Option Value)} (hi : i < lv.length) (hn : nolong lv i = true) (he : lv.set i (some (.ref x)) = lv') (d : decode cc pc = .ok (.astore i, 2)) (k : Wm G X nL Qs a b (pc + 2) lv' st S) : Wm G X nL Qs a b pc lv (.ref x :: st) S := by
  obtain ⟨p, e, R, s, m, args, below, meth, c⟩ := X
  obtain ⟨hx, hb, hml, hown, hts, hr, hlk, hKK, hG, hlo⟩ := C
  have hK := hKK.1
  intro k9 n9 hk9 hn9 H locs ls hP hS hl
  subst he
  exact lv_astore (lv := lvA 0 lv) hx hb d hl.has (Nat.lt_of_lt_of_le hi hl.2.2.1) rfl (fun ls' hl' => k k9 n9 hk9 hn9 H locs ls' hP hS (lvD.stored hl.2.2.1 hi hn hl'))
theorem wm_lstore_n_g (C : Fr G X cc nL own ret Ts) {j : Fin 4} {i : Nat} (hj : (j : Nat) = i) {x : Int64} {lv' : List (Option Value)} (hi : i + 1 < lv.length) (hn : nolong lv i = true) (he : (lv.set i (some (.long x))).set (i + 1) none = lv') (d : decode cc pc = .ok (.lstore_n j, 1)) (k : Wm G X nL Qs a b (pc + 1) lv' st S) : Wm G X nL Qs a b pc lv (.long x :: st) S := by
  obtain ⟨p, e, R, s, m, args, below, meth, c⟩ := X
  obtain ⟨hx, hb, hml, hown, hts, hr, hlk, hKK, hG, hlo⟩ := C
  have hK := hKK.1
  intro k9 n9 hk9 hn9 H locs ls hP hS hl
  subst he
  exact lv_lstore_n (lv := lvA 0 lv) hx hb d hj hl.has (Nat.lt_of_lt_of_le hi hl.2.2.1) rfl (fun ls' hl' => k k9 n9 hk9 hn9 H locs ls' hP hS (lvD.stored2 hl.2.2.1 hi hn hl'))
theorem wm_lstore_g (C : Fr G X cc nL own ret Ts) {i : Nat} {x : Int64} {lv' : List (Option Value)} (hi : i + 1 < lv.length) (hn : nolong lv i = true) (he : (lv.set i (some (.long x))).set (i + 1) none = lv') (d : decode cc pc = .ok (.lstore i, 2)) (k : Wm G X nL Qs a b (pc + 2) lv' st S) : Wm G X nL Qs a b pc lv (.long x :: st) S := by
  obtain ⟨p, e, R, s, m, args, below, meth, c⟩ := X
  obtain ⟨hx, hb, hml, hown, hts, hr, hlk, hKK, hG, hlo⟩ := C
  have hK := hKK.1
  intro k9 n9 hk9 hn9 H locs ls hP hS hl
  subst he
  exact lv_lstore (lv := lvA 0 lv) hx hb d hl.has (Nat.lt_of_lt_of_le hi hl.2.2.1) rfl (fun ls' hl' => k k9 n9 hk9 hn9 H locs ls' hP hS (lvD.stored2 hl.2.2.1 hi hn hl'))
theorem lvA_at {lv : List (Option Value)} {i : Nat} {v : Value} (h : lv[i]? = some (some v)) : ∃ k : Nat, (lvA 0 lv)[k]? = some (i, v) := by
  have : (i, v) ∈ lvA 0 lv := (lvA_mem lv 0 (i, v)).mpr ⟨Nat.zero_le _, h⟩
  obtain ⟨k, hk⟩ := List.getElem?_of_mem this
  exact ⟨k, hk⟩
theorem wm_iinc_g (C : Fr G X cc nL own ret Ts) {i : Nat} {n : Int} {x v : Int32} {lv' : List (Option Value)} (h : lv[i]? = some (some (.int x))) (hn : nolong lv i = true) (hv : x + Int32.ofInt n = v) (he : lv.set i (some (.int v)) = lv') (d : decode cc pc = .ok (.iinc i n, 3)) (k : Wm G X nL Qs a b (pc + 3) lv' st S) : Wm G X nL Qs a b pc lv st S := by
  obtain ⟨p, e, R, s, m, args, below, meth, c⟩ := X
  obtain ⟨hx, hb, hml, hown, hts, hr, hlk, hKK, hG, hlo⟩ := C
  have hK := hKK.1
  intro k9 n9 hk9 hn9 H locs ls hP hS hl
  subst he
  have hi : i < lv.length := (List.getElem?_eq_some_iff.mp h).1
  obtain ⟨j, hj⟩ := lvA_at h
  exact lv_iinc (lv := lvA 0 lv) (k := j) hx hb d hl.has hj hv (Nat.lt_of_lt_of_le hi hl.2.2.1) rfl (fun ls' hl' => k k9 n9 hk9 hn9 H locs ls' hP hS (lvD.stored hl.2.2.1 hi hn hl'))
theorem wm_istore_0 (C : Fr G X cc nL own ret Ts) {z : Option Value} {t : List (Option Value)} {x : Int32} (hn : nolong (z :: t) 0 = true := by first | rfl | assumption) (d : decode cc pc = .ok (.istore_n 0, 1)) (k : Wm G X nL Qs a b (pc + 1) (some (.int x) :: t) st S) : Wm G X nL Qs a b pc (z :: t) (.int x :: st) S := wm_istore_n_g (i := 0) C rfl (by simp) hn rfl d k
theorem wm_istore_1 (C : Fr G X cc nL own ret Ts) {y0 : Option Value} {z : Option Value} {t : List (Option Value)} {x : Int32} (hn : nolong (y0 :: z :: t) 1 = true := by first | rfl | assumption) (d : decode cc pc = .ok (.istore_n 1, 1)) (k : Wm G X nL Qs a b (pc + 1) (y0 :: some (.int x) :: t) st S) : Wm G X nL Qs a b pc (y0 :: z :: t) (.int x :: st) S := wm_istore_n_g (i := 1) C rfl (by simp) hn rfl d k
theorem wm_istore_2 (C : Fr G X cc nL own ret Ts) {y0 y1 : Option Value} {z : Option Value} {t : List (Option Value)} {x : Int32} (hn : nolong (y0 :: y1 :: z :: t) 2 = true := by first | rfl | assumption) (d : decode cc pc = .ok (.istore_n 2, 1)) (k : Wm G X nL Qs a b (pc + 1) (y0 :: y1 :: some (.int x) :: t) st S) : Wm G X nL Qs a b pc (y0 :: y1 :: z :: t) (.int x :: st) S := wm_istore_n_g (i := 2) C rfl (by simp) hn rfl d k
theorem wm_istore_3 (C : Fr G X cc nL own ret Ts) {y0 y1 y2 : Option Value} {z : Option Value} {t : List (Option Value)} {x : Int32} (hn : nolong (y0 :: y1 :: y2 :: z :: t) 3 = true := by first | rfl | assumption) (d : decode cc pc = .ok (.istore_n 3, 1)) (k : Wm G X nL Qs a b (pc + 1) (y0 :: y1 :: y2 :: some (.int x) :: t) st S) : Wm G X nL Qs a b pc (y0 :: y1 :: y2 :: z :: t) (.int x :: st) S := wm_istore_n_g (i := 3) C rfl (by simp) hn rfl d k
theorem wm_istore_4 (C : Fr G X cc nL own ret Ts) {y0 y1 y2 y3 : Option Value} {z : Option Value} {t : List (Option Value)} {x : Int32} (hn : nolong (y0 :: y1 :: y2 :: y3 :: z :: t) 4 = true := by first | rfl | assumption) (d : decode cc pc = .ok (.istore 4, 2)) (k : Wm G X nL Qs a b (pc + 2) (y0 :: y1 :: y2 :: y3 :: some (.int x) :: t) st S) : Wm G X nL Qs a b pc (y0 :: y1 :: y2 :: y3 :: z :: t) (.int x :: st) S := wm_istore_g (i := 4) C (by simp) hn rfl d k
theorem wm_istore_5 (C : Fr G X cc nL own ret Ts) {y0 y1 y2 y3 y4 : Option Value} {z : Option Value} {t : List (Option Value)} {x : Int32} (hn : nolong (y0 :: y1 :: y2 :: y3 :: y4 :: z :: t) 5 = true := by first | rfl | assumption) (d : decode cc pc = .ok (.istore 5, 2)) (k : Wm G X nL Qs a b (pc + 2) (y0 :: y1 :: y2 :: y3 :: y4 :: some (.int x) :: t) st S) : Wm G X nL Qs a b pc (y0 :: y1 :: y2 :: y3 :: y4 :: z :: t) (.int x :: st) S := wm_istore_g (i := 5) C (by simp) hn rfl d k
theorem wm_istore_6 (C : Fr G X cc nL own ret Ts) {y0 y1 y2 y3 y4 y5 : Option Value} {z : Option Value} {t : List (Option Value)} {x : Int32} (hn : nolong (y0 :: y1 :: y2 :: y3 :: y4 :: y5 :: z :: t) 6 = true := by first | rfl | assumption) (d : decode cc pc = .ok (.istore 6, 2)) (k : Wm G X nL Qs a b (pc + 2) (y0 :: y1 :: y2 :: y3 :: y4 :: y5 :: some (.int x) :: t) st S) : Wm G X nL Qs a b pc (y0 :: y1 :: y2 :: y3 :: y4 :: y5 :: z :: t) (.int x :: st) S := wm_istore_g (i := 6) C (by simp) hn rfl d k
theorem wm_istore_7 (C : Fr G X cc nL own ret Ts) {y0 y1 y2 y3 y4 y5 y6 : Option Value} {z : Option Value} {t : List (Option Value)} {x : Int32} (hn : nolong (y0 :: y1 :: y2 :: y3 :: y4 :: y5 :: y6 :: z :: t) 7 = true := by first | rfl | assumption) (d : decode cc pc = .ok (.istore 7, 2)) (k : Wm G X nL Qs a b (pc + 2) (y0 :: y1 :: y2 :: y3 :: y4 :: y5 :: y6 :: some (.int x) :: t) st S) : Wm G X nL Qs a b pc (y0 :: y1 :: y2 :: y3 :: y4 :: y5 :: y6 :: z :: t) (.int x :: st) S := wm_istore_g (i := 7) C (by simp) hn rfl d k
theorem wm_istore_8 (C : Fr G X cc nL own ret Ts) {y0 y1 y2 y3 y4 y5 y6 y7 : Option Value} {z : Option Value} {t : List (Option Value)} {x : Int32} (hn : nolong (y0 :: y1 :: y2 :: y3 :: y4 :: y5 :: y6 :: y7 :: z :: t) 8 = true := by first | rfl | assumption) (d : decode cc pc = .ok (.istore 8, 2)) (k : Wm G X nL Qs a b (pc + 2) (y0 :: y1 :: y2 :: y3 :: y4 :: y5 :: y6 :: y7 :: some (.int x) :: t) st S) : Wm G X nL Qs a b pc (y0 :: y1 :: y2 :: y3 :: y4 :: y5 :: y6 :: y7 :: z :: t) (.int x :: st) S := wm_istore_g (i := 8) C (by simp) hn rfl d k
theorem wm_istore_9 (C : Fr G X cc nL own ret Ts) {y0 y1 y2 y3 y4 y5 y6 y7 y8 : Option Value} {z : Option Value} {t : List (Option Value)} {x : Int32} (hn : nolong (y0 :: y1 :: y2 :: y3 :: y4 :: y5 :: y6 :: y7 :: y8 :: z :: t) 9 = true := by first | rfl | assumption) (d : decode cc pc = .ok (.istore 9, 2)) (k : Wm G X nL Qs a b (pc + 2) (y0 :: y1 :: y2 :: y3 :: y4 :: y5 :: y6 :: y7 :: y8 :: some (.int x) :: t) st S) : Wm G X nL Qs a b pc (y0 :: y1 :: y2 :: y3 :: y4 :: y5 :: y6 :: y7 :: y8 :: z :: t) (.int x :: st) S := wm_istore_g (i := 9) C (by simp) hn rfl d k
theorem wm_istore_10 (C : Fr G X cc nL own ret Ts) {y0 y1 y2 y3 y4 y5 y6 y7 y8 y9 : Option Value} {z : Option Value} {t : List (Option Value)} {x : Int32} (hn : nolong (y0 :: y1 :: y2 :: y3 :: y4 :: y5 :: y6 :: y7 :: y8 :: y9 :: z :: t) 10 = true := by first | rfl | assumption) (d : decode cc pc = .ok (.istore 10, 2)) (k : Wm G X nL Qs a b (pc + 2) (y0 :: y1 :: y2 :: y3 :: y4 :: y5 :: y6 :: y7 :: y8 :: y9 :: some (.int x) :: t) st S) : Wm G X nL Qs a b pc (y0 :: y1 :: y2 :: y3 :: y4 :: y5 :: y6 :: y7 :: y8 :: y9 :: z :: t) (.int x :: st) S := wm_istore_g (i := 10) C (by simp) hn rfl d k
theorem wm_istore_11 (C : Fr G X cc nL own ret Ts) {y0 y1 y2 y3 y4 y5 y6 y7 y8 y9 y10 : Option Value} {z : Option Value} {t : List (Option Value)} {x : Int32} (hn : nolong (y0 :: y1 :: y2 :: y3 :: y4 :: y5 :: y6 :: y7 :: y8 :: y9 :: y10 :: z :: t) 11 = true := by first | rfl | assumption) (d : decode cc pc = .ok (.istore 11, 2)) (k : Wm G X nL Qs a b (pc + 2) (y0 :: y1 :: y2 :: y3 :: y4 :: y5 :: y6 :: y7 :: y8 :: y9 :: y10 :: some (.int x) :: t) st S) : Wm G X nL Qs a b pc (y0 :: y1 :: y2 :: y3 :: y4 :: y5 :: y6 :: y7 :: y8 :: y9 :: y10 :: z :: t) (.int x :: st) S := wm_istore_g (i := 11) C (by simp) hn rfl d k
theorem wm_istore_12 (C : Fr G X cc nL own ret Ts) {y0 y1 y2 y3 y4 y5 y6 y7 y8 y9 y10 y11 : Option Value} {z : Option Value} {t : List (Option Value)} {x : Int32} (hn : nolong (y0 :: y1 :: y2 :: y3 :: y4 :: y5 :: y6 :: y7 :: y8 :: y9 :: y10 :: y11 :: z :: t) 12 = true := by first | rfl | assumption) (d : decode cc pc = .ok (.istore 12, 2)) (k : Wm G X nL Qs a b (pc + 2) (y0 :: y1 :: y2 :: y3 :: y4 :: y5 :: y6 :: y7 :: y8 :: y9 :: y10 :: y11 :: some (.int x) :: t) st S) : Wm G X nL Qs a b pc (y0 :: y1 :: y2 :: y3 :: y4 :: y5 :: y6 :: y7 :: y8 :: y9 :: y10 :: y11 :: z :: t) (.int x :: st) S := wm_istore_g (i := 12) C (by simp) hn rfl d k
theorem wm_istore_13 (C : Fr G X cc nL own ret Ts) {y0 y1 y2 y3 y4 y5 y6 y7 y8 y9 y10 y11 y12 : Option Value} {z : Option Value} {t : List (Option Value)} {x : Int32} (hn : nolong (y0 :: y1 :: y2 :: y3 :: y4 :: y5 :: y6 :: y7 :: y8 :: y9 :: y10 :: y11 :: y12 :: z :: t) 13 = true := by first | rfl | assumption) (d : decode cc pc = .ok (.istore 13, 2)) (k : Wm G X nL Qs a b (pc + 2) (y0 :: y1 :: y2 :: y3 :: y4 :: y5 :: y6 :: y7 :: y8 :: y9 :: y10 :: y11 :: y12 :: some (.int x) :: t) st S) : Wm G X nL Qs a b pc (y0 :: y1 :: y2 :: y3 :: y4 :: y5 :: y6 :: y7 :: y8 :: y9 :: y10 :: y11 :: y12 :: z :: t) (.int x :: st) S := wm_istore_g (i := 13) C (by simp) hn rfl d k
theorem wm_astore_0 (C : Fr G X cc nL own ret Ts) {z : Option Value} {t : List (Option Value)} {x : Nat} (hn : nolong (z :: t) 0 = true := by first | rfl | assumption) (d : decode cc pc = .ok (.astore_n 0, 1)) (k : Wm G X nL Qs a b (pc + 1) (some (.ref x) :: t) st S) : Wm G X nL Qs a b pc (z :: t) (.ref x :: st) S := wm_astore_n_g (i := 0) C rfl (by simp) hn rfl d k
theorem wm_astore_1 (C : Fr G X cc nL own ret Ts) {y0 : Option Value} {z : Option Value} {t : List (Option Value)} {x : Nat} (hn : nolong (y0 :: z :: t) 1 = true := by first | rfl | assumption) (d : decode cc pc = .ok (.astore_n 1, 1)) (k : Wm G X nL Qs a b (pc + 1) (y0 :: some (.ref x) :: t) st S) : Wm G X nL Qs a b pc (y0 :: z :: t) (.ref x :: st) S := wm_astore_n_g (i := 1) C rfl (by simp) hn rfl d k
theorem wm_astore_2 (C : Fr G X cc nL own ret Ts) {y0 y1 : Option Value} {z : Option Value} {t : List (Option Value)} {x : Nat} (hn : nolong (y0 :: y1 :: z :: t) 2 = true := by first | rfl | assumption) (d : decode cc pc = .ok (.astore_n 2, 1)) (k : Wm G X nL Qs a b (pc + 1) (y0 :: y1 :: some (.ref x) :: t) st S) : Wm G X nL Qs a b pc (y0 :: y1 :: z :: t) (.ref x :: st) S := wm_astore_n_g (i := 2) C rfl (by simp) hn rfl d k
theorem wm_astore_3 (C : Fr G X cc nL own ret Ts) {y0 y1 y2 : Option Value} {z : Option Value} {t : List (Option Value)} {x : Nat} (hn : nolong (y0 :: y1 :: y2 :: z :: t) 3 = true := by first | rfl | assumption) (d : decode cc pc = .ok (.astore_n 3, 1)) (k : Wm G X nL Qs a b (pc + 1) (y0 :: y1 :: y2 :: some (.ref x) :: t) st S) : Wm G X nL Qs a b pc (y0 :: y1 :: y2 :: z :: t) (.ref x :: st) S := wm_astore_n_g (i := 3) C rfl (by simp) hn rfl d k
theorem wm_astore_4 (C : Fr G X cc nL own ret Ts) {y0 y1 y2 y3 : Option Value} {z : Option Value} {t : List (Option Value)} {x : Nat} (hn : nolong (y0 :: y1 :: y2 :: y3 :: z :: t) 4 = true := by first | rfl | assumption) (d : decode cc pc = .ok (.astore 4, 2)) (k : Wm G X nL Qs a b (pc + 2) (y0 :: y1 :: y2 :: y3 :: some (.ref x) :: t) st S) : Wm G X nL Qs a b pc (y0 :: y1 :: y2 :: y3 :: z :: t) (.ref x :: st) S := wm_astore_g (i := 4) C (by simp) hn rfl d k
theorem wm_astore_5 (C : Fr G X cc nL own ret Ts) {y0 y1 y2 y3 y4 : Option Value} {z : Option Value} {t : List (Option Value)} {x : Nat} (hn : nolong (y0 :: y1 :: y2 :: y3 :: y4 :: z :: t) 5 = true := by first | rfl | assumption) (d : decode cc pc = .ok (.astore 5, 2)) (k : Wm G X nL Qs a b (pc + 2) (y0 :: y1 :: y2 :: y3 :: y4 :: some (.ref x) :: t) st S) : Wm G X nL Qs a b pc (y0 :: y1 :: y2 :: y3 :: y4 :: z :: t) (.ref x :: st) S := wm_astore_g (i := 5) C (by simp) hn rfl d k
theorem wm_astore_6 (C : Fr G X cc nL own ret Ts) {y0 y1 y2 y3 y4 y5 : Option Value} {z : Option Value} {t : List (Option Value)} {x : Nat} (hn : nolong (y0 :: y1 :: y2 :: y3 :: y4 :: y5 :: z :: t) 6 = true := by first | rfl | assumption) (d : decode cc pc = .ok (.astore 6, 2)) (k : Wm G X nL Qs a b (pc + 2) (y0 :: y1 :: y2 :: y3 :: y4 :: y5 :: some (.ref x) :: t) st S) : Wm G X nL Qs a b pc (y0 :: y1 :: y2 :: y3 :: y4 :: y5 :: z :: t) (.ref x :: st) S := wm_astore_g (i := 6) C (by simp) hn rfl d k
theorem wm_astore_7 (C : Fr G X cc nL own ret Ts) {y0 y1 y2 y3 y4 y5 y6 : Option Value} {z : Option Value} {t : List (Option Value)} {x : Nat} (hn : nolong (y0 :: y1 :: y2 :: y3 :: y4 :: y5 :: y6 :: z :: t) 7 = true := by first | rfl | assumption) (d : decode cc pc = .ok (.astore 7, 2)) (k : Wm G X nL Qs a b (pc + 2) (y0 :: y1 :: y2 :: y3 :: y4 :: y5 :: y6 :: some (.ref x) :: t) st S) : Wm G X nL Qs a b pc (y0 :: y1 :: y2 :: y3 :: y4 :: y5 :: y6 :: z :: t) (.ref x :: st) S := wm_astore_g (i := 7) C (by simp) hn rfl d k
theorem wm_astore_8 (C : Fr G X cc nL own ret Ts) {y0 y1 y2 y3 y4 y5 y6 y7 : Option Value} {z : Option Value} {t : List (Option Value)} {x : Nat} (hn : nolong (y0 :: y1 :: y2 :: y3 :: y4 :: y5 :: y6 :: y7 :: z :: t) 8 = true := by first | rfl | assumption) (d : decode cc pc = .ok (.astore 8, 2)) (k : Wm G X nL Qs a b (pc + 2) (y0 :: y1 :: y2 :: y3 :: y4 :: y5 :: y6 :: y7 :: some (.ref x) :: t) st S) : Wm G X nL Qs a b pc (y0 :: y1 :: y2 :: y3 :: y4 :: y5 :: y6 :: y7 :: z :: t) (.ref x :: st) S := wm_astore_g (i := 8) C (by simp) hn rfl d k
theorem wm_astore_9 (C : Fr G X cc nL own ret Ts) {y0 y1 y2 y3 y4 y5 y6 y7 y8 : Option Value} {z : Option Value} {t : List (Option Value)} {x : Nat} (hn : nolong (y0 :: y1 :: y2 :: y3 :: y4 :: y5 :: y6 :: y7 :: y8 :: z :: t) 9 = true := by first | rfl | assumption) (d : decode cc pc = .ok (.astore 9, 2)) (k : Wm G X nL Qs a b (pc + 2) (y0 :: y1 :: y2 :: y3 :: y4 :: y5 :: y6 :: y7 :: y8 :: some (.ref x) :: t) st S) : Wm G X nL Qs a b pc (y0 :: y1 :: y2 :: y3 :: y4 :: y5 :: y6 :: y7 :: y8 :: z :: t) (.ref x :: st) S := wm_astore_g (i := 9) C (by simp) hn rfl d k
theorem wm_astore_10 (C : Fr G X cc nL own ret Ts) {y0 y1 y2 y3 y4 y5 y6 y7 y8 y9 : Option Value} {z : Option Value} {t : List (Option Value)} {x : Nat} (hn : nolong (y0 :: y1 :: y2 :: y3 :: y4 :: y5 :: y6 :: y7 :: y8 :: y9 :: z :: t) 10 = true := by first | rfl | assumption) (d : decode cc pc = .ok (.astore 10, 2)) (k : Wm G X nL Qs a b (pc + 2) (y0 :: y1 :: y2 :: y3 :: y4 :: y5 :: y6 :: y7 :: y8 :: y9 :: some (.ref x) :: t) st S) : Wm G X nL Qs a b pc (y0 :: y1 :: y2 :: y3 :: y4 :: y5 :: y6 :: y7 :: y8 :: y9 :: z :: t) (.ref x :: st) S := wm_astore_g (i := 10) C (by simp) hn rfl d k
theorem wm_astore_11 (C : Fr G X cc nL own ret Ts) {y0 y1 y2 y3 y4 y5 y6 y7 y8 y9 y10 : Option Value} {z : Option Value} {t : List (Option Value)} {x : Nat} (hn : nolong (y0 :: y1 :: y2 :: y3 :: y4 :: y5 :: y6 :: y7 :: y8 :: y9 :: y10 :: z :: t) 11 = true := by first | rfl | assumption) (d : decode cc pc = .ok (.astore 11, 2)) (k : Wm G X nL Qs a b (pc + 2) (y0 :: y1 :: y2 :: y3 :: y4 :: y5 :: y6 :: y7 :: y8 :: y9 :: y10 :: some (.ref x) :: t) st S) : Wm G X nL Qs a b pc (y0 :: y1 :: y2 :: y3 :: y4 :: y5 :: y6 :: y7 :: y8 :: y9 :: y10 :: z :: t) (.ref x :: st) S := wm_astore_g (i := 11) C (by simp) hn rfl d k
theorem wm_astore_12 (C : Fr G X cc nL own ret Ts) {y0 y1 y2 y3 y4 y5 y6 y7 y8 y9 y10 y11 : Option Value} {z : Option Value} {t : List (Option Value)} {x : Nat} (hn : nolong (y0 :: y1 :: y2 :: y3 :: y4 :: y5 :: y6 :: y7 :: y8 :: y9 :: y10 :: y11 :: z :: t) 12 = true := by first | rfl | assumption) (d : decode cc pc = .ok (.astore 12, 2)) (k : Wm G X nL Qs a b (pc + 2) (y0 :: y1 :: y2 :: y3 :: y4 :: y5 :: y6 :: y7 :: y8 :: y9 :: y10 :: y11 :: some (.ref x) :: t) st S) : Wm G X nL Qs a b pc (y0 :: y1 :: y2 :: y3 :: y4 :: y5 :: y6 :: y7 :: y8 :: y9 :: y10 :: y11 :: z :: t) (.ref x :: st) S := wm_astore_g (i := 12) C (by simp) hn rfl d k
theorem wm_astore_13 (C : Fr G X cc nL own ret Ts) {y0 y1 y2 y3 y4 y5 y6 y7 y8 y9 y10 y11 y12 : Option Value} {z : Option Value} {t : List (Option Value)} {x : Nat} (hn : nolong (y0 :: y1 :: y2 :: y3 :: y4 :: y5 :: y6 :: y7 :: y8 :: y9 :: y10 :: y11 :: y12 :: z :: t) 13 = true := by first | rfl | assumption) (d : decode cc pc = .ok (.astore 13, 2)) (k : Wm G X nL Qs a b (pc + 2) (y0 :: y1 :: y2 :: y3 :: y4 :: y5 :: y6 :: y7 :: y8 :: y9 :: y10 :: y11 :: y12 :: some (.ref x) :: t) st S) : Wm G X nL Qs a b pc (y0 :: y1 :: y2 :: y3 :: y4 :: y5 :: y6 :: y7 :: y8 :: y9 :: y10 :: y11 :: y12 :: z :: t) (.ref x :: st) S := wm_astore_g (i := 13) C (by simp) hn rfl d k
theorem wm_lstore_0 (C : Fr G X cc nL own ret Ts) {z z2 : Option Value} {t : List (Option Value)} {x : Int64} (hn : nolong (z :: z2 :: t) 0 = true := by first | rfl | assumption) (d : decode cc pc = .ok (.lstore_n 0, 1)) (k : Wm G X nL Qs a b (pc + 1) (some (.long x) :: none :: t) st S) : Wm G X nL Qs a b pc (z :: z2 :: t) (.long x :: st) S := wm_lstore_n_g (i := 0) C rfl (by simp) hn rfl d k
theorem wm_lstore_1 (C : Fr G X cc nL own ret Ts) {y0 : Option Value} {z z2 : Option Value} {t : List (Option Value)} {x : Int64} (hn : nolong (y0 :: z :: z2 :: t) 1 = true := by first | rfl | assumption) (d : decode cc pc = .ok (.lstore_n 1, 1)) (k : Wm G X nL Qs a b (pc + 1) (y0 :: some (.long x) :: none :: t) st S) : Wm G X nL Qs a b pc (y0 :: z :: z2 :: t) (.long x :: st) S := wm_lstore_n_g (i := 1) C rfl (by simp) hn rfl d k
theorem wm_lstore_2 (C : Fr G X cc nL own ret Ts) {y0 y1 : Option Value} {z z2 : Option Value} {t : List (Option Value)} {x : Int64} (hn : nolong (y0 :: y1 :: z :: z2 :: t) 2 = true := by first | rfl | assumption) (d : decode cc pc = .ok (.lstore_n 2, 1)) (k : Wm G X nL Qs a b (pc + 1) (y0 :: y1 :: some (.long x) :: none :: t) st S) : Wm G X nL Qs a b pc (y0 :: y1 :: z :: z2 :: t) (.long x :: st) S := wm_lstore_n_g (i := 2) C rfl (by simp) hn rfl d k
theorem wm_lstore_3 (C : Fr G X cc nL own ret Ts) {y0 y1 y2 : Option Value} {z z2 : Option Value} {t : List (Option Value)} {x : Int64} (hn : nolong (y0 :: y1 :: y2 :: z :: z2 :: t) 3 = true := by first | rfl | assumption) (d : decode cc pc = .ok (.lstore_n 3, 1)) (k : Wm G X nL Qs a b (pc + 1) (y0 :: y1 :: y2 :: some (.long x) :: none :: t) st S) : Wm G X nL Qs a b pc (y0 :: y1 :: y2 :: z :: z2 :: t) (.long x :: st) S := wm_lstore_n_g (i := 3) C rfl (by simp) hn rfl d k
theorem wm_lstore_4 (C : Fr G X cc nL own ret Ts) {y0 y1 y2 y3 : Option Value} {z z2 : Option Value} {t : List (Option Value)} {x : Int64} (hn : nolong (y0 :: y1 :: y2 :: y3 :: z :: z2 :: t) 4 = true := by first | rfl | assumption) (d : decode cc pc = .ok (.lstore 4, 2)) (k : Wm G X nL Qs a b (pc + 2) (y0 :: y1 :: y2 :: y3 :: some (.long x) :: none :: t) st S) : Wm G X nL Qs a b pc (y0 :: y1 :: y2 :: y3 :: z :: z2 :: t) (.long x :: st) S := wm_lstore_g (i := 4) C (by simp) hn rfl d k
theorem wm_lstore_5 (C : Fr G X cc nL own ret Ts) {y0 y1 y2 y3 y4 : Option Value} {z z2 : Option Value} {t : List (Option Value)} {x : Int64} (hn : nolong (y0 :: y1 :: y2 :: y3 :: y4 :: z :: z2 :: t) 5 = true := by first | rfl | assumption) (d : decode cc pc = .ok (.lstore 5, 2)) (k : Wm G X nL Qs a b (pc + 2) (y0 :: y1 :: y2 :: y3 :: y4 :: some (.long x) :: none :: t) st S) : Wm G X nL Qs a b pc (y0 :: y1 :: y2 :: y3 :: y4 :: z :: z2 :: t) (.long x :: st) S := wm_lstore_g (i := 5) C (by simp) hn rfl d k
theorem wm_lstore_6 (C : Fr G X cc nL own ret Ts) {y0 y1 y2 y3 y4 y5 : Option Value} {z z2 : Option Value} {t : List (Option Value)} {x : Int64} (hn : nolong (y0 :: y1 :: y2 :: y3 :: y4 :: y5 :: z :: z2 :: t) 6 = true := by first | rfl | assumption) (d : decode cc pc = .ok (.lstore 6, 2)) (k : Wm G X nL Qs a b (pc + 2) (y0 :: y1 :: y2 :: y3 :: y4 :: y5 :: some (.long x) :: none :: t) st S) : Wm G X nL Qs a b pc (y0 :: y1 :: y2 :: y3 :: y4 :: y5 :: z :: z2 :: t) (.long x :: st) S := wm_lstore_g (i := 6) C (by simp) hn rfl d k
theorem wm_lstore_7 (C : Fr G X cc nL own ret Ts) {y0 y1 y2 y3 y4 y5 y6 : Option Value} {z z2 : Option Value} {t : List (Option Value)} {x : Int64} (hn : nolong (y0 :: y1 :: y2 :: y3 :: y4 :: y5 :: y6 :: z :: z2 :: t) 7 = true := by first | rfl | assumption) (d : decode cc pc = .ok (.lstore 7, 2)) (k : Wm G X nL Qs a b (pc + 2) (y0 :: y1 :: y2 :: y3 :: y4 :: y5 :: y6 :: some (.long x) :: none :: t) st S) : Wm G X nL Qs a b pc (y0 :: y1 :: y2 :: y3 :: y4 :: y5 :: y6 :: z :: z2 :: t) (.long x :: st) S := wm_lstore_g (i := 7) C (by simp) hn rfl d k
theorem wm_lstore_8 (C : Fr G X cc nL own ret Ts) {y0 y1 y2 y3 y4 y5 y6 y7 : Option Value} {z z2 : Option Value} {t : List (Option Value)} {x : Int64} (hn : nolong (y0 :: y1 :: y2 :: y3 :: y4 :: y5 :: y6 :: y7 :: z :: z2 :: t) 8 = true := by first | rfl | assumption) (d : decode cc pc = .ok (.lstore 8, 2)) (k : Wm G X nL Qs a b (pc + 2) (y0 :: y1 :: y2 :: y3 :: y4 :: y5 :: y6 :: y7 :: some (.long x) :: none :: t) st S) : Wm G X nL Qs a b pc (y0 :: y1 :: y2 :: y3 :: y4 :: y5 :: y6 :: y7 :: z :: z2 :: t) (.long x :: st) S := wm_lstore_g (i := 8) C (by simp) hn rfl d k
theorem wm_lstore_9 (C : Fr G X cc nL own ret Ts) {y0 y1 y2 y3 y4 y5 y6 y7 y8 : Option Value} {z z2 : Option Value} {t : List (Option Value)} {x : Int64} (hn : nolong (y0 :: y1 :: y2 :: y3 :: y4 :: y5 :: y6 :: y7 :: y8 :: z :: z2 :: t) 9 = true := by first | rfl | assumption) (d : decode cc pc = .ok (.lstore 9, 2)) (k : Wm G X nL Qs a b (pc + 2) (y0 :: y1 :: y2 :: y3 :: y4 :: y5 :: y6 :: y7 :: y8 :: some (.long x) :: none :: t) st S) : Wm G X nL Qs a b pc (y0 :: y1 :: y2 :: y3 :: y4 :: y5 :: y6 :: y7 :: y8 :: z :: z2 :: t) (.long x :: st) S := wm_lstore_g (i := 9) C (by simp) hn rfl d k
theorem wm_iinc_0 (C : Fr G X cc nL own ret Ts) {t : List (Option Value)} {n : Int} {x v : Int32} (hv : x + Int32.ofInt n = v) (hn : nolong (some (.int x) :: t) 0 = true := by first | rfl | assumption) (d : decode cc pc = .ok (.iinc 0 n, 3)) (k : Wm G X nL Qs a b (pc + 3) (some (.int v) :: t) st S) : Wm G X nL Qs a b pc (some (.int x) :: t) st S := wm_iinc_g (i := 0) C rfl hn hv rfl d k
theorem wm_iinc_1 (C : Fr G X cc nL own ret Ts) {y0 : Option Value} {t : List (Option Value)} {n : Int} {x v : Int32} (hv : x + Int32.ofInt n = v) (hn : nolong (y0 :: some (.int x) :: t) 1 = true := by first | rfl | assumption) (d : decode cc pc = .ok (.iinc 1 n, 3)) (k : Wm G X nL Qs a b (pc + 3) (y0 :: some (.int v) :: t) st S) : Wm G X nL Qs a b pc (y0 :: some (.int x) :: t) st S := wm_iinc_g (i := 1) C rfl hn hv rfl d k
theorem wm_iinc_2 (C : Fr G X cc nL own ret Ts) {y0 y1 : Option Value} {t : List (Option Value)} {n : Int} {x v : Int32} (hv : x + Int32.ofInt n = v) (hn : nolong (y0 :: y1 :: some (.int x) :: t) 2 = true := by first | rfl | assumption) (d : decode cc pc = .ok (.iinc 2 n, 3)) (k : Wm G X nL Qs a b (pc + 3) (y0 :: y1 :: some (.int v) :: t) st S) : Wm G X nL Qs a b pc (y0 :: y1 :: some (.int x) :: t) st S := wm_iinc_g (i := 2) C rfl hn hv rfl d k
theorem wm_iinc_3 (C : Fr G X cc nL own ret Ts) {y0 y1 y2 : Option Value} {t : List (Option Value)} {n : Int} {x v : Int32} (hv : x + Int32.ofInt n = v) (hn : nolong (y0 :: y1 :: y2 :: some (.int x) :: t) 3 = true := by first | rfl | assumption) (d : decode cc pc = .ok (.iinc 3 n, 3)) (k : Wm G X nL Qs a b (pc + 3) (y0 :: y1 :: y2 :: some (.int v) :: t) st S) : Wm G X nL Qs a b pc (y0 :: y1 :: y2 :: some (.int x) :: t) st S := wm_iinc_g (i := 3) C rfl hn hv rfl d k
theorem wm_iinc_4 (C : Fr G X cc nL own ret Ts) {y0 y1 y2 y3 : Option Value} {t : List (Option Value)} {n : Int} {x v : Int32} (hv : x + Int32.ofInt n = v) (hn : nolong (y0 :: y1 :: y2 :: y3 :: some (.int x) :: t) 4 = true := by first | rfl | assumption) (d : decode cc pc = .ok (.iinc 4 n, 3)) (k : Wm G X nL Qs a b (pc + 3) (y0 :: y1 :: y2 :: y3 :: some (.int v) :: t) st S) : Wm G X nL Qs a b pc (y0 :: y1 :: y2 :: y3 :: some (.int x) :: t) st S := wm_iinc_g (i := 4) C rfl hn hv rfl d k
theorem wm_iinc_5 (C : Fr G X cc nL own ret Ts) {y0 y1 y2 y3 y4 : Option Value} {t : List (Option Value)} {n : Int} {x v : Int32} (hv : x + Int32.ofInt n = v) (hn : nolong (y0 :: y1 :: y2 :: y3 :: y4 :: some (.int x) :: t) 5 = true := by first | rfl | assumption) (d : decode cc pc = .ok (.iinc 5 n, 3)) (k : Wm G X nL Qs a b (pc + 3) (y0 :: y1 :: y2 :: y3 :: y4 :: some (.int v) :: t) st S) : Wm G X nL Qs a b pc (y0 :: y1 :: y2 :: y3 :: y4 :: some (.int x) :: t) st S := wm_iinc_g (i := 5) C rfl hn hv rfl d k
theorem wm_iinc_6 (C : Fr G X cc nL own ret Ts) {y0 y1 y2 y3 y4 y5 : Option Value} {t : List (Option Value)} {n : Int} {x v : Int32} (hv : x + Int32.ofInt n = v) (hn : nolong (y0 :: y1 :: y2 :: y3 :: y4 :: y5 :: some (.int x) :: t) 6 = true := by first | rfl | assumption) (d : decode cc pc = .ok (.iinc 6 n, 3)) (k : Wm G X nL Qs a b (pc + 3) (y0 :: y1 :: y2 :: y3 :: y4 :: y5 :: some (.int v) :: t) st S) : Wm G X nL Qs a b pc (y0 :: y1 :: y2 :: y3 :: y4 :: y5 :: some (.int x) :: t) st S := wm_iinc_g (i := 6) C rfl hn hv rfl d k
theorem wm_iinc_7 (C : Fr G X cc nL own ret Ts) {y0 y1 y2 y3 y4 y5 y6 : Option Value} {t : List (Option Value)} {n : Int} {x v : Int32} (hv : x + Int32.ofInt n = v) (hn : nolong (y0 :: y1 :: y2 :: y3 :: y4 :: y5 :: y6 :: some (.int x) :: t) 7 = true := by first | rfl | assumption) (d : decode cc pc = .ok (.iinc 7 n, 3)) (k : Wm G X nL Qs a b (pc + 3) (y0 :: y1 :: y2 :: y3 :: y4 :: y5 :: y6 :: some (.int v) :: t) st S) : Wm G X nL Qs a b pc (y0 :: y1 :: y2 :: y3 :: y4 :: y5 :: y6 :: some (.int x) :: t) st S := wm_iinc_g (i := 7) C rfl hn hv rfl d k
theorem wm_iinc_8 (C : Fr G X cc nL own ret Ts) {y0 y1 y2 y3 y4 y5 y6 y7 : Option Value} {t : List (Option Value)} {n : Int} {x v : Int32} (hv : x + Int32.ofInt n = v) (hn : nolong (y0 :: y1 :: y2 :: y3 :: y4 :: y5 :: y6 :: y7 :: some (.int x) :: t) 8 = true := by first | rfl | assumption) (d : decode cc pc = .ok (.iinc 8 n, 3)) (k : Wm G X nL Qs a b (pc + 3) (y0 :: y1 :: y2 :: y3 :: y4 :: y5 :: y6 :: y7 :: some (.int v) :: t) st S) : Wm G X nL Qs a b pc (y0 :: y1 :: y2 :: y3 :: y4 :: y5 :: y6 :: y7 :: some (.int x) :: t) st S := wm_iinc_g (i := 8) C rfl hn hv rfl d k
theorem wm_iinc_9 (C : Fr G X cc nL own ret Ts) {y0 y1 y2 y3 y4 y5 y6 y7 y8 : Option Value} {t : List (Option Value)} {n : Int} {x v : Int32} (hv : x + Int32.ofInt n = v) (hn : nolong (y0 :: y1 :: y2 :: y3 :: y4 :: y5 :: y6 :: y7 :: y8 :: some (.int x) :: t) 9 = true := by first | rfl | assumption) (d : decode cc pc = .ok (.iinc 9 n, 3)) (k : Wm G X nL Qs a b (pc + 3) (y0 :: y1 :: y2 :: y3 :: y4 :: y5 :: y6 :: y7 :: y8 :: some (.int v) :: t) st S) : Wm G X nL Qs a b pc (y0 :: y1 :: y2 :: y3 :: y4 :: y5 :: y6 :: y7 :: y8 :: some (.int x) :: t) st S := wm_iinc_g (i := 9) C rfl hn hv rfl d k
theorem wm_iinc_10 (C : Fr G X cc nL own ret Ts) {y0 y1 y2 y3 y4 y5 y6 y7 y8 y9 : Option Value} {t : List (Option Value)} {n : Int} {x v : Int32} (hv : x + Int32.ofInt n = v) (hn : nolong (y0 :: y1 :: y2 :: y3 :: y4 :: y5 :: y6 :: y7 :: y8 :: y9 :: some (.int x) :: t) 10 = true := by first | rfl | assumption) (d : decode cc pc = .ok (.iinc 10 n, 3)) (k : Wm G X nL Qs a b (pc + 3) (y0 :: y1 :: y2 :: y3 :: y4 :: y5 :: y6 :: y7 :: y8 :: y9 :: some (.int v) :: t) st S) : Wm G X nL Qs a b pc (y0 :: y1 :: y2 :: y3 :: y4 :: y5 :: y6 :: y7 :: y8 :: y9 :: some (.int x) :: t) st S := wm_iinc_g (i := 10) C rfl hn hv rfl d k
theorem wm_iinc_11 (C : Fr G X cc nL own ret Ts) {y0 y1 y2 y3 y4 y5 y6 y7 y8 y9 y10 : Option Value} {t : List (Option Value)} {n : Int} {x v : Int32} (hv : x + Int32.ofInt n = v) (hn : nolong (y0 :: y1 :: y2 :: y3 :: y4 :: y5 :: y6 :: y7 :: y8 :: y9 :: y10 :: some (.int x) :: t) 11 = true := by first | rfl | assumption) (d : decode cc pc = .ok (.iinc 11 n, 3)) (k : Wm G X nL Qs a b (pc + 3) (y0 :: y1 :: y2 :: y3 :: y4 :: y5 :: y6 :: y7 :: y8 :: y9 :: y10 :: some (.int v) :: t) st S) : Wm G X nL Qs a b pc (y0 :: y1 :: y2 :: y3 :: y4 :: y5 :: y6 :: y7 :: y8 :: y9 :: y10 :: some (.int x) :: t) st S := wm_iinc_g (i := 11) C rfl hn hv rfl d k
theorem wm_iadd (C : Fr G X cc nL own ret Ts) {x y : Int32} (d : decode cc pc = .ok (.iadd, 1)) (k : Wm G X nL Qs a b (pc + 1) lv (.int (x + y) :: st) S) : Wm G X nL Qs a b pc lv (.int y :: .int x :: st) S := by
  obtain ⟨p, e, R, s, m, args, below, meth, c⟩ := X
  obtain ⟨hx, hb, hml, hown, hts, hr, hlk, hKK, hG, hlo⟩ := C
  have hK := hKK.1
  intro k9 n9 hk9 hn9 H locs ls hP hS hl
  exact lv_iadd hx hb d  (k k9 n9 hk9 hn9 H locs ls hP hS hl)
theorem wm_isub (C : Fr G X cc nL own ret Ts) {x y : Int32} (d : decode cc pc = .ok (.isub, 1)) (k : Wm G X nL Qs a b (pc + 1) lv (.int (x - y) :: st) S) : Wm G X nL Qs a b pc lv (.int y :: .int x :: st) S := by
  obtain ⟨p, e, R, s, m, args, below, meth, c⟩ := X
  obtain ⟨hx, hb, hml, hown, hts, hr, hlk, hKK, hG, hlo⟩ := C
  have hK := hKK.1
  intro k9 n9 hk9 hn9 H locs ls hP hS hl
  exact lv_isub hx hb d  (k k9 n9 hk9 hn9 H locs ls hP hS hl)
theorem wm_imul (C : Fr G X cc nL own ret Ts) {x y : Int32} (d : decode cc pc = .ok (.imul, 1)) (k : Wm G X nL Qs a b (pc + 1) lv (.int (x * y) :: st) S) : Wm G X nL Qs a b pc lv (.int y :: .int x :: st) S := by
  obtain ⟨p, e, R, s, m, args, below, meth, c⟩ := X
  obtain ⟨hx, hb, hml, hown, hts, hr, hlk, hKK, hG, hlo⟩ := C
  have hK := hKK.1
  intro k9 n9 hk9 hn9 H locs ls hP hS hl
  exact lv_imul hx hb d  (k k9 n9 hk9 hn9 H locs ls hP hS hl)
theorem wm_iand (C : Fr G X cc nL own ret Ts) {x y : Int32} (d : decode cc pc = .ok (.iand, 1)) (k : Wm G X nL Qs a b (pc + 1) lv (.int (x &&& y) :: st) S) : Wm G X nL Qs a b pc lv (.int y :: .int x :: st) S := by
  obtain ⟨p, e, R, s, m, args, below, meth, c⟩ := X
  obtain ⟨hx, hb, hml, hown, hts, hr, hlk, hKK, hG, hlo⟩ := C
  have hK := hKK.1
  intro k9 n9 hk9 hn9 H locs ls hP hS hl
  exact lv_iand hx hb d  (k k9 n9 hk9 hn9 H locs ls hP hS hl)
theorem wm_ior (C : Fr G X cc nL own ret Ts) {x y : Int32} (d : decode cc pc = .ok (.ior, 1)) (k : Wm G X nL Qs a b (pc + 1) lv (.int (x ||| y) :: st) S) : Wm G X nL Qs a b pc lv (.int y :: .int x :: st) S := by
  obtain ⟨p, e, R, s, m, args, below, meth, c⟩ := X
  obtain ⟨hx, hb, hml, hown, hts, hr, hlk, hKK, hG, hlo⟩ := C
  have hK := hKK.1
  intro k9 n9 hk9 hn9 H locs ls hP hS hl
  exact lv_ior hx hb d  (k k9 n9 hk9 hn9 H locs ls hP hS hl)
theorem wm_ixor (C : Fr G X cc nL own ret Ts) {x y : Int32} (d : decode cc pc = .ok (.ixor, 1)) (k : Wm G X nL Qs a b (pc + 1) lv (.int (x ^^^ y) :: st) S) : Wm G X nL Qs a b pc lv (.int y :: .int x :: st) S := by
  obtain ⟨p, e, R, s, m, args, below, meth, c⟩ := X
  obtain ⟨hx, hb, hml, hown, hts, hr, hlk, hKK, hG, hlo⟩ := C
  have hK := hKK.1
  intro k9 n9 hk9 hn9 H locs ls hP hS hl
  exact lv_ixor hx hb d  (k k9 n9 hk9 hn9 H locs ls hP hS hl)
theorem wm_ishl (C : Fr G X cc nL own ret Ts) {x y : Int32} (d : decode cc pc = .ok (.ishl, 1)) (k : Wm G X nL Qs a b (pc + 1) lv (.int (x <<< (y &&& 31)) :: st) S) : Wm G X nL Qs a b pc lv (.int y :: .int x :: st) S := by
  obtain ⟨p, e, R, s, m, args, below, meth, c⟩ := X
  obtain ⟨hx, hb, hml, hown, hts, hr, hlk, hKK, hG, hlo⟩ := C
  have hK := hKK.1
  intro k9 n9 hk9 hn9 H locs ls hP hS hl
  exact lv_ishl hx hb d  (k k9 n9 hk9 hn9 H locs ls hP hS hl)
theorem wm_ishr (C : Fr G X cc nL own ret Ts) {x y : Int32} (d : decode cc pc = .ok (.ishr, 1)) (k : Wm G X nL Qs a b (pc + 1) lv (.int (x >>> (y &&& 31)) :: st) S) : Wm G X nL Qs a b pc lv (.int y :: .int x :: st) S := by
  obtain ⟨p, e, R, s, m, args, below, meth, c⟩ := X
  obtain ⟨hx, hb, hml, hown, hts, hr, hlk, hKK, hG, hlo⟩ := C
  have hK := hKK.1
  intro k9 n9 hk9 hn9 H locs ls hP hS hl
  exact lv_ishr hx hb d  (k k9 n9 hk9 hn9 H locs ls hP hS hl)
theorem wm_iushr (C : Fr G X cc nL own ret Ts) {x y v : Int32} (hv : (x.toUInt32 >>> (y.toUInt32 &&& Int32.toUInt32 31)).toInt32 = v) (d : decode cc pc = .ok (.iushr, 1)) (k : Wm G X nL Qs a b (pc + 1) lv (.int v :: st) S) : Wm G X nL Qs a b pc lv (.int y :: .int x :: st) S := by
  obtain ⟨p, e, R, s, m, args, below, meth, c⟩ := X
  obtain ⟨hx, hb, hml, hown, hts, hr, hlk, hKK, hG, hlo⟩ := C
  have hK := hKK.1
  intro k9 n9 hk9 hn9 H locs ls hP hS hl
  exact lv_iushr hx hb d hv (k k9 n9 hk9 hn9 H locs ls hP hS hl)
theorem wm_ineg (C : Fr G X cc nL own ret Ts) {x : Int32} (d : decode cc pc = .ok (.ineg, 1)) (k : Wm G X nL Qs a b (pc + 1) lv (.int (-x) :: st) S) : Wm G X nL Qs a b pc lv (.int x :: st) S := by
  obtain ⟨p, e, R, s, m, args, below, meth, c⟩ := X
  obtain ⟨hx, hb, hml, hown, hts, hr, hlk, hKK, hG, hlo⟩ := C
  have hK := hKK.1
  intro k9 n9 hk9 hn9 H locs ls hP hS hl
  exact lv_ineg hx hb d  (k k9 n9 hk9 hn9 H locs ls hP hS hl)
theorem wm_idiv (C : Fr G X cc nL own ret Ts) {x y : Int32} (hy : ¬ y = 0) (d : decode cc pc = .ok (.idiv, 1)) (k : Wm G X nL Qs a b (pc + 1) lv (.int (x / y) :: st) S) : Wm G X nL Qs a b pc lv (.int y :: .int x :: st) S := by
  obtain ⟨p, e, R, s, m, args, below, meth, c⟩ := X
  obtain ⟨hx, hb, hml, hown, hts, hr, hlk, hKK, hG, hlo⟩ := C
  have hK := hKK.1
  intro k9 n9 hk9 hn9 H locs ls hP hS hl
  exact lv_idiv hx hb d hy (k k9 n9 hk9 hn9 H locs ls hP hS hl)
theorem wm_irem (C : Fr G X cc nL own ret Ts) {x y : Int32} (hy : ¬ y = 0) (d : decode cc pc = .ok (.irem, 1)) (k : Wm G X nL Qs a b (pc + 1) lv (.int (x - x / y * y) :: st) S) : Wm G X nL Qs a b pc lv (.int y :: .int x :: st) S := by
  obtain ⟨p, e, R, s, m, args, below, meth, c⟩ := X
  obtain ⟨hx, hb, hml, hown, hts, hr, hlk, hKK, hG, hlo⟩ := C
  have hK := hKK.1
  intro k9 n9 hk9 hn9 H locs ls hP hS hl
  exact lv_irem hx hb d hy (k k9 n9 hk9 hn9 H locs ls hP hS hl)
theorem wm_lor (C : Fr G X cc nL own ret Ts) {x y : Int64} (d : decode cc pc = .ok (.lor, 1)) (k : Wm G X nL Qs a b (pc + 1) lv (.long (x ||| y) :: st) S) : Wm G X nL Qs a b pc lv (.long y :: .long x :: st) S := by
  obtain ⟨p, e, R, s, m, args, below, meth, c⟩ := X
  obtain ⟨hx, hb, hml, hown, hts, hr, hlk, hKK, hG, hlo⟩ := C
  have hK := hKK.1
  intro k9 n9 hk9 hn9 H locs ls hP hS hl
  exact lv_lor hx hb d  (k k9 n9 hk9 hn9 H locs ls hP hS hl)
theorem wm_land (C : Fr G X cc nL own ret Ts) {x y : Int64} (d : decode cc pc = .ok (.land, 1)) (k : Wm G X nL Qs a b (pc + 1) lv (.long (x &&& y) :: st) S) : Wm G X nL Qs a b pc lv (.long y :: .long x :: st) S := by
  obtain ⟨p, e, R, s, m, args, below, meth, c⟩ := X
  obtain ⟨hx, hb, hml, hown, hts, hr, hlk, hKK, hG, hlo⟩ := C
  have hK := hKK.1
  intro k9 n9 hk9 hn9 H locs ls hP hS hl
  exact lv_land hx hb d  (k k9 n9 hk9 hn9 H locs ls hP hS hl)
theorem wm_lshr (C : Fr G X cc nL own ret Ts) {x v : Int64} {y : Int32} (hv : x >>> (y.toInt64 &&& 63) = v) (d : decode cc pc = .ok (.lshr, 1)) (k : Wm G X nL Qs a b (pc + 1) lv (.long v :: st) S) : Wm G X nL Qs a b pc lv (.int y :: .long x :: st) S := by
  obtain ⟨p, e, R, s, m, args, below, meth, c⟩ := X
  obtain ⟨hx, hb, hml, hown, hts, hr, hlk, hKK, hG, hlo⟩ := C
  have hK := hKK.1
  intro k9 n9 hk9 hn9 H locs ls hP hS hl
  exact lv_lshr hx hb d hv (k k9 n9 hk9 hn9 H locs ls hP hS hl)
theorem wm_lshl (C : Fr G X cc nL own ret Ts) {x v : Int64} {y : Int32} (hv : x <<< (y.toInt64 &&& 63) = v) (d : decode cc pc = .ok (.lshl, 1)) (k : Wm G X nL Qs a b (pc + 1) lv (.long v :: st) S) : Wm G X nL Qs a b pc lv (.int y :: .long x :: st) S := by
  obtain ⟨p, e, R, s, m, args, below, meth, c⟩ := X
  obtain ⟨hx, hb, hml, hown, hts, hr, hlk, hKK, hG, hlo⟩ := C
  have hK := hKK.1
  intro k9 n9 hk9 hn9 H locs ls hP hS hl
  exact lv_lshl hx hb d hv (k k9 n9 hk9 hn9 H locs ls hP hS hl)
theorem wm_lushr (C : Fr G X cc nL own ret Ts) {x v : Int64} {y : Int32} (hv : (x.toUInt64 >>> (y.toInt64.toUInt64 &&& Int64.toUInt64 63)).toInt64 = v) (d : decode cc pc = .ok (.lushr, 1)) (k : Wm G X nL Qs a b (pc + 1) lv (.long v :: st) S) : Wm G X nL Qs a b pc lv (.int y :: .long x :: st) S := by
  obtain ⟨p, e, R, s, m, args, below, meth, c⟩ := X
  obtain ⟨hx, hb, hml, hown, hts, hr, hlk, hKK, hG, hlo⟩ := C
  have hK := hKK.1
  intro k9 n9 hk9 hn9 H locs ls hP hS hl
  exact lv_lushr hx hb d hv (k k9 n9 hk9 hn9 H locs ls hP hS hl)
theorem wm_i2l (C : Fr G X cc nL own ret Ts) {x : Int32} (d : decode cc pc = .ok (.i2l, 1)) (k : Wm G X nL Qs a b (pc + 1) lv (.long x.toInt64 :: st) S) : Wm G X nL Qs a b pc lv (.int x :: st) S := by
  obtain ⟨p, e, R, s, m, args, below, meth, c⟩ := X
  obtain ⟨hx, hb, hml, hown, hts, hr, hlk, hKK, hG, hlo⟩ := C
  have hK := hKK.1
  intro k9 n9 hk9 hn9 H locs ls hP hS hl
  exact lv_i2l hx hb d rfl (k k9 n9 hk9 hn9 H locs ls hP hS hl)
theorem wm_l2i (C : Fr G X cc nL own ret Ts) {x : Int64} (d : decode cc pc = .ok (.l2i, 1)) (k : Wm G X nL Qs a b (pc + 1) lv (.int x.toInt32 :: st) S) : Wm G X nL Qs a b pc lv (.long x :: st) S := by
  obtain ⟨p, e, R, s, m, args, below, meth, c⟩ := X
  obtain ⟨hx, hb, hml, hown, hts, hr, hlk, hKK, hG, hlo⟩ := C
  have hK := hKK.1
  intro k9 n9 hk9 hn9 H locs ls hP hS hl
  exact lv_l2i hx hb d rfl (k k9 n9 hk9 hn9 H locs ls hP hS hl)
theorem wm_dup (C : Fr G X cc nL own ret Ts) {va : Value} (hc : va.category = 1) (d : decode cc pc = .ok (.dup, 1)) (k : Wm G X nL Qs a b (pc + 1) lv (va :: va :: st) S) : Wm G X nL Qs a b pc lv (va :: st) S := by
  obtain ⟨p, e, R, s, m, args, below, meth, c⟩ := X
  obtain ⟨hx, hb, hml, hown, hts, hr, hlk, hKK, hG, hlo⟩ := C
  have hK := hKK.1
  intro k9 n9 hk9 hn9 H locs ls hP hS hl
  exact lv_dup hx hb d hc (k k9 n9 hk9 hn9 H locs ls hP hS hl)
theorem wm_dup2 (C : Fr G X cc nL own ret Ts) {va vb : Value} (hc : va.category = 1) (hc2 : vb.category = 1) (d : decode cc pc = .ok (.dup2, 1)) (k : Wm G X nL Qs a b (pc + 1) lv (va :: vb :: va :: vb :: st) S) : Wm G X nL Qs a b pc lv (va :: vb :: st) S := by
  obtain ⟨p, e, R, s, m, args, below, meth, c⟩ := X
  obtain ⟨hx, hb, hml, hown, hts, hr, hlk, hKK, hG, hlo⟩ := C
  have hK := hKK.1
  intro k9 n9 hk9 hn9 H locs ls hP hS hl
  exact lv_dup2_11 hx hb d hc hc2 (k k9 n9 hk9 hn9 H locs ls hP hS hl)
theorem wm_pop (C : Fr G X cc nL own ret Ts) {va : Value} (hc : va.category = 1) (d : decode cc pc = .ok (.pop, 1)) (k : Wm G X nL Qs a b (pc + 1) lv st S) : Wm G X nL Qs a b pc lv (va :: st) S := by
  obtain ⟨p, e, R, s, m, args, below, meth, c⟩ := X
  obtain ⟨hx, hb, hml, hown, hts, hr, hlk, hKK, hG, hlo⟩ := C
  have hK := hKK.1
  intro k9 n9 hk9 hn9 H locs ls hP hS hl
  exact lv_pop hx hb d hc (k k9 n9 hk9 hn9 H locs ls hP hS hl)
theorem wm_if_eq (C : Fr G X cc nL own ret Ts) {x : Int32} {off : Int} {tgt : Nat} (d : decode cc pc = .ok (.ifCond .eq off, 3)) (ht : (pc : Int) + off = (tgt : Int)) (kt : x = 0 → Wm G X nL Qs a b tgt lv st S) (kf : ¬ (x = 0) → Wm G X nL Qs a b (pc + 3) lv st S) : Wm G X nL Qs a b pc lv (.int x :: st) S := by
  obtain ⟨p, e, R, s, m, args, below, meth, c⟩ := X
  obtain ⟨hx, hb, hml, hown, hts, hr, hlk, hKK, hG, hlo⟩ := C
  have hK := hKK.1
  intro k9 n9 hk9 hn9 H locs ls hP hS hl
  exact lv_if_eq hx hb d ht (fun q => kt q k9 n9 hk9 hn9 H locs ls hP hS hl) (fun q => kf q k9 n9 hk9 hn9 H locs ls hP hS hl)
theorem wm_if_lt (C : Fr G X cc nL own ret Ts) {x : Int32} {off : Int} {tgt : Nat} (d : decode cc pc = .ok (.ifCond .lt off, 3)) (ht : (pc : Int) + off = (tgt : Int)) (kt : x < 0 → Wm G X nL Qs a b tgt lv st S) (kf : ¬ (x < 0) → Wm G X nL Qs a b (pc + 3) lv st S) : Wm G X nL Qs a b pc lv (.int x :: st) S := by
  obtain ⟨p, e, R, s, m, args, below, meth, c⟩ := X
  obtain ⟨hx, hb, hml, hown, hts, hr, hlk, hKK, hG, hlo⟩ := C
  have hK := hKK.1
  intro k9 n9 hk9 hn9 H locs ls hP hS hl
  exact lv_if_lt hx hb d ht (fun q => kt q k9 n9 hk9 hn9 H locs ls hP hS hl) (fun q => kf q k9 n9 hk9 hn9 H locs ls hP hS hl)
theorem wm_if_ge (C : Fr G X cc nL own ret Ts) {x : Int32} {off : Int} {tgt : Nat} (d : decode cc pc = .ok (.ifCond .ge off, 3)) (ht : (pc : Int) + off = (tgt : Int)) (kt : 0 ≤ x → Wm G X nL Qs a b tgt lv st S) (kf : ¬ (0 ≤ x) → Wm G X nL Qs a b (pc + 3) lv st S) : Wm G X nL Qs a b pc lv (.int x :: st) S := by
  obtain ⟨p, e, R, s, m, args, below, meth, c⟩ := X
  obtain ⟨hx, hb, hml, hown, hts, hr, hlk, hKK, hG, hlo⟩ := C
  have hK := hKK.1
  intro k9 n9 hk9 hn9 H locs ls hP hS hl
  exact lv_if_ge hx hb d ht (fun q => kt q k9 n9 hk9 hn9 H locs ls hP hS hl) (fun q => kf q k9 n9 hk9 hn9 H locs ls hP hS hl)
theorem wm_if_gt (C : Fr G X cc nL own ret Ts) {x : Int32} {off : Int} {tgt : Nat} (d : decode cc pc = .ok (.ifCond .gt off, 3)) (ht : (pc : Int) + off = (tgt : Int)) (kt : 0 < x → Wm G X nL Qs a b tgt lv st S) (kf : ¬ (0 < x) → Wm G X nL Qs a b (pc + 3) lv st S) : Wm G X nL Qs a b pc lv (.int x :: st) S := by
  obtain ⟨p, e, R, s, m, args, below, meth, c⟩ := X
  obtain ⟨hx, hb, hml, hown, hts, hr, hlk, hKK, hG, hlo⟩ := C
  have hK := hKK.1
  intro k9 n9 hk9 hn9 H locs ls hP hS hl
  exact lv_if_gt hx hb d ht (fun q => kt q k9 n9 hk9 hn9 H locs ls hP hS hl) (fun q => kf q k9 n9 hk9 hn9 H locs ls hP hS hl)
theorem wm_if_le (C : Fr G X cc nL own ret Ts) {x : Int32} {off : Int} {tgt : Nat} (d : decode cc pc = .ok (.ifCond .le off, 3)) (ht : (pc : Int) + off = (tgt : Int)) (kt : x ≤ 0 → Wm G X nL Qs a b tgt lv st S) (kf : ¬ (x ≤ 0) → Wm G X nL Qs a b (pc + 3) lv st S) : Wm G X nL Qs a b pc lv (.int x :: st) S := by
  obtain ⟨p, e, R, s, m, args, below, meth, c⟩ := X
  obtain ⟨hx, hb, hml, hown, hts, hr, hlk, hKK, hG, hlo⟩ := C
  have hK := hKK.1
  intro k9 n9 hk9 hn9 H locs ls hP hS hl
  exact lv_if_le hx hb d ht (fun q => kt q k9 n9 hk9 hn9 H locs ls hP hS hl) (fun q => kf q k9 n9 hk9 hn9 H locs ls hP hS hl)
theorem wm_icmp_eq (C : Fr G X cc nL own ret Ts) {x y : Int32} {off : Int} {tgt : Nat} (d : decode cc pc = .ok (.if_icmp .eq off, 3)) (ht : (pc : Int) + off = (tgt : Int)) (kt : x = y → Wm G X nL Qs a b tgt lv st S) (kf : ¬ (x = y) → Wm G X nL Qs a b (pc + 3) lv st S) : Wm G X nL Qs a b pc lv (.int y :: .int x :: st) S := by
  obtain ⟨p, e, R, s, m, args, below, meth, c⟩ := X
  obtain ⟨hx, hb, hml, hown, hts, hr, hlk, hKK, hG, hlo⟩ := C
  have hK := hKK.1
  intro k9 n9 hk9 hn9 H locs ls hP hS hl
  exact lv_icmp_eq hx hb d ht (fun q => kt q k9 n9 hk9 hn9 H locs ls hP hS hl) (fun q => kf q k9 n9 hk9 hn9 H locs ls hP hS hl)
theorem wm_icmp_lt (C : Fr G X cc nL own ret Ts) {x y : Int32} {off : Int} {tgt : Nat} (d : decode cc pc = .ok (.if_icmp .lt off, 3)) (ht : (pc : Int) + off = (tgt : Int)) (kt : x < y → Wm G X nL Qs a b tgt lv st S) (kf : ¬ (x < y) → Wm G X nL Qs a b (pc + 3) lv st S) : Wm G X nL Qs a b pc lv (.int y :: .int x :: st) S := by
  obtain ⟨p, e, R, s, m, args, below, meth, c⟩ := X
  obtain ⟨hx, hb, hml, hown, hts, hr, hlk, hKK, hG, hlo⟩ := C
  have hK := hKK.1
  intro k9 n9 hk9 hn9 H locs ls hP hS hl
  exact lv_icmp_lt hx hb d ht (fun q => kt q k9 n9 hk9 hn9 H locs ls hP hS hl) (fun q => kf q k9 n9 hk9 hn9 H locs ls hP hS hl)
theorem wm_icmp_ge (C : Fr G X cc nL own ret Ts) {x y : Int32} {off : Int} {tgt : Nat} (d : decode cc pc = .ok (.if_icmp .ge off, 3)) (ht : (pc : Int) + off = (tgt : Int)) (kt : y ≤ x → Wm G X nL Qs a b tgt lv st S) (kf : ¬ (y ≤ x) → Wm G X nL Qs a b (pc + 3) lv st S) : Wm G X nL Qs a b pc lv (.int y :: .int x :: st) S := by
  obtain ⟨p, e, R, s, m, args, below, meth, c⟩ := X
  obtain ⟨hx, hb, hml, hown, hts, hr, hlk, hKK, hG, hlo⟩ := C
  have hK := hKK.1
  intro k9 n9 hk9 hn9 H locs ls hP hS hl
  exact lv_icmp_ge hx hb d ht (fun q => kt q k9 n9 hk9 hn9 H locs ls hP hS hl) (fun q => kf q k9 n9 hk9 hn9 H locs ls hP hS hl)
theorem wm_icmp_gt (C : Fr G X cc nL own ret Ts) {x y : Int32} {off : Int} {tgt : Nat} (d : decode cc pc = .ok (.if_icmp .gt off, 3)) (ht : (pc : Int) + off = (tgt : Int)) (kt : y < x → Wm G X nL Qs a b tgt lv st S) (kf : ¬ (y < x) → Wm G X nL Qs a b (pc + 3) lv st S) : Wm G X nL Qs a b pc lv (.int y :: .int x :: st) S := by
  obtain ⟨p, e, R, s, m, args, below, meth, c⟩ := X
  obtain ⟨hx, hb, hml, hown, hts, hr, hlk, hKK, hG, hlo⟩ := C
  have hK := hKK.1
  intro k9 n9 hk9 hn9 H locs ls hP hS hl
  exact lv_icmp_gt hx hb d ht (fun q => kt q k9 n9 hk9 hn9 H locs ls hP hS hl) (fun q => kf q k9 n9 hk9 hn9 H locs ls hP hS hl)
theorem wm_icmp_le (C : Fr G X cc nL own ret Ts) {x y : Int32} {off : Int} {tgt : Nat} (d : decode cc pc = .ok (.if_icmp .le off, 3)) (ht : (pc : Int) + off = (tgt : Int)) (kt : x ≤ y → Wm G X nL Qs a b tgt lv st S) (kf : ¬ (x ≤ y) → Wm G X nL Qs a b (pc + 3) lv st S) : Wm G X nL Qs a b pc lv (.int y :: .int x :: st) S := by
  obtain ⟨p, e, R, s, m, args, below, meth, c⟩ := X
  obtain ⟨hx, hb, hml, hown, hts, hr, hlk, hKK, hG, hlo⟩ := C
  have hK := hKK.1
  intro k9 n9 hk9 hn9 H locs ls hP hS hl
  exact lv_icmp_le hx hb d ht (fun q => kt q k9 n9 hk9 hn9 H locs ls hP hS hl) (fun q => kf q k9 n9 hk9 hn9 H locs ls hP hS hl)
theorem wm_if_ne (C : Fr G X cc nL own ret Ts) {x : Int32} {off : Int} {tgt : Nat} (d : decode cc pc = .ok (.ifCond .ne off, 3)) (ht : (pc : Int) + off = (tgt : Int)) (kt : ¬ x = 0 → Wm G X nL Qs a b tgt lv st S) (kf : x = 0 → Wm G X nL Qs a b (pc + 3) lv st S) : Wm G X nL Qs a b pc lv (.int x :: st) S := by
  obtain ⟨p, e, R, s, m, args, below, meth, c⟩ := X
  obtain ⟨hx, hb, hml, hown, hts, hr, hlk, hKK, hG, hlo⟩ := C
  have hK := hKK.1
  intro k9 n9 hk9 hn9 H locs ls hP hS hl
  exact lv_if_ne hx hb d ht (fun q => kt q k9 n9 hk9 hn9 H locs ls hP hS hl) (fun q => kf q k9 n9 hk9 hn9 H locs ls hP hS hl)
theorem wm_icmp_ne (C : Fr G X cc nL own ret Ts) {x y : Int32} {off : Int} {tgt : Nat} (d : decode cc pc = .ok (.if_icmp .ne off, 3)) (ht : (pc : Int) + off = (tgt : Int)) (kt : ¬ x = y → Wm G X nL Qs a b tgt lv st S) (kf : x = y → Wm G X nL Qs a b (pc + 3) lv st S) : Wm G X nL Qs a b pc lv (.int y :: .int x :: st) S := by
  obtain ⟨p, e, R, s, m, args, below, meth, c⟩ := X
  obtain ⟨hx, hb, hml, hown, hts, hr, hlk, hKK, hG, hlo⟩ := C
  have hK := hKK.1
  intro k9 n9 hk9 hn9 H locs ls hP hS hl
  exact lv_icmp_ne hx hb d ht (fun q => kt q k9 n9 hk9 hn9 H locs ls hP hS hl) (fun q => kf q k9 n9 hk9 hn9 H locs ls hP hS hl)
theorem wm_goto (C : Fr G X cc nL own ret Ts) {off : Int} {tgt : Nat} (d : decode cc pc = .ok (.goto off, 3)) (ht : (pc : Int) + off = (tgt : Int)) (k : Wm G X nL Qs a b tgt lv st S) : Wm G X nL Qs a b pc lv st S := by
  obtain ⟨p, e, R, s, m, args, below, meth, c⟩ := X
  obtain ⟨hx, hb, hml, hown, hts, hr, hlk, hKK, hG, hlo⟩ := C
  have hK := hKK.1
  intro k9 n9 hk9 hn9 H locs ls hP hS hl
  exact lv_goto hx hb d ht (k k9 n9 hk9 hn9 H locs ls hP hS hl)
theorem wm_lcmp (C : Fr G X cc nL own ret Ts) {x y : Int64} (d : decode cc pc = .ok (.lcmp, 1)) (k : Wm G X nL Qs a b (pc + 1) lv (.int (lg_cmp x y) :: st) S) : Wm G X nL Qs a b pc lv (.long y :: .long x :: st) S := by
  obtain ⟨p, e, R, s, m, args, below, meth, c⟩ := X
  obtain ⟨hx, hb, hml, hown, hts, hr, hlk, hKK, hG, hlo⟩ := C
  have hK := hKK.1
  intro k9 n9 hk9 hn9 H locs ls hP hS hl
  exact W.lcmp hx hb d  (k k9 n9 hk9 hn9 H locs ls hP hS hl)
theorem wm_tableOut (C : Fr G X cc nL own ret Ts) {x : Int32} {dflt lo hi : Int} {offs : Array Int} {len tgt : Nat} (d : decode cc pc = .ok (.tableswitch dflt lo hi offs, len)) (h : x.toInt < lo ∨ hi < x.toInt) (ht : (pc : Int) + dflt = (tgt : Int)) (k : Wm G X nL Qs a b tgt lv st S) : Wm G X nL Qs a b pc lv (.int x :: st) S := by
  obtain ⟨p, e, R, s, m, args, below, meth, c⟩ := X
  obtain ⟨hx, hb, hml, hown, hts, hr, hlk, hKK, hG, hlo⟩ := C
  have hK := hKK.1
  intro k9 n9 hk9 hn9 H locs ls hP hS hl
  exact lv_tableOut hx hb d h ht (k k9 n9 hk9 hn9 H locs ls hP hS hl)
theorem wm_tableIn (C : Fr G X cc nL own ret Ts) {x : Int32} {dflt lo hi off : Int} {offs : Array Int} {len tgt : Nat} (d : decode cc pc = .ok (.tableswitch dflt lo hi offs, len)) (h1 : ¬ x.toInt < lo) (h2 : ¬ hi < x.toInt) (ho : offs[(x.toInt - lo).toNat]? = some off) (ht : (pc : Int) + off = (tgt : Int)) (k : Wm G X nL Qs a b tgt lv st S) : Wm G X nL Qs a b pc lv (.int x :: st) S := by
  obtain ⟨p, e, R, s, m, args, below, meth, c⟩ := X
  obtain ⟨hx, hb, hml, hown, hts, hr, hlk, hKK, hG, hlo⟩ := C
  have hK := hKK.1
  intro k9 n9 hk9 hn9 H locs ls hP hS hl
  exact lv_tableIn hx hb d h1 h2 ho ht (k k9 n9 hk9 hn9 H locs ls hP hS hl)
theorem wm_lookup (C : Fr G X cc nL own ret Ts) {x : Int32} {dflt off : Int} {ps : Array (Int × Int)} {len tgt : Nat} (d : decode cc pc = .ok (.lookupswitch dflt ps, len)) (hp : (ps.toList.zip (ps.toList.drop 1)).all (fun (a, next) => a.1 < next.1) = true) (ho : Op.lookupswitch.offset ps.toList dflt x.toInt = off) (ht : (pc : Int) + off = (tgt : Int)) (k : Wm G X nL Qs a b tgt lv st S) : Wm G X nL Qs a b pc lv (.int x :: st) S := by
  obtain ⟨p, e, R, s, m, args, below, meth, c⟩ := X
  obtain ⟨hx, hb, hml, hown, hts, hr, hlk, hKK, hG, hlo⟩ := C
  have hK := hKK.1
  intro k9 n9 hk9 hn9 H locs ls hP hS hl
  exact lv_lookup hx hb d hp ho ht (k k9 n9 hk9 hn9 H locs ls hP hS hl)
theorem wm_ifnull (C : Fr G X cc nL own ret Ts) {x : Nat} {off : Int} (d : decode cc pc = .ok (.ifnull off, 3)) (k : Wm G X nL Qs a b (pc + 3) lv st S) : Wm G X nL Qs a b pc lv (.ref x :: st) S := by
  obtain ⟨p, e, R, s, m, args, below, meth, c⟩ := X
  obtain ⟨hx, hb, hml, hown, hts, hr, hlk, hKK, hG, hlo⟩ := C
  have hK := hKK.1
  intro k9 n9 hk9 hn9 H locs ls hP hS hl
  exact lv_ifnull hx hb d (k k9 n9 hk9 hn9 H locs ls hP hS hl)
/-- a field's word, and its class's words, among the method's -/
def FLk (Ts : List Cond) (own : String) (idx ci i : Nat) : Prop := ∃ (C : String) (T : u_T) (N : Nat) (ty : Nat → FieldType), vwCl[ci]? = some (C, T, N) ∧ i < N ∧ (∀ w ∈ u_ws C T N, w ∈ Ts) ∧ Cond.fieldLink own idx (T i).1 (T i).2.1 (T i).2.2.1 ∈ Ts ∧ (∀ k, k < N → parseFieldDescriptor (T k).2.2.1 = some (ty k)) ∧ (∀ a, a < N → ∀ b, b < N → a ≠ b → (T a).2.1 ≠ (T b).2.1)
theorem flk {Ts : List Cond} {own : String} {idx : Nat} {C : String} {T : u_T} {N : Nat} {ty : Nat → FieldType} (ci i : Nat) (hc : vwCl[ci]? = some (C, T, N)) (hty : ∀ k, k < N → parseFieldDescriptor (T k).2.2.1 = some (ty k)) (hnm : ∀ a, a < N → ∀ b, b < N → a ≠ b → (T a).2.1 ≠ (T b).2.1) (hin : ∀ w ∈ u_ws C T N, w ∈ Ts) (hi : i < N) (hw : Cond.fieldLink own idx (T i).1 (T i).2.1 (T i).2.2.1 ∈ Ts) : FLk Ts own idx ci i := ⟨C, T, N, ty, hc, hi, hin, hw, hty, hnm⟩
theorem wm_getI (C : Fr G X cc nL own ret Ts) {idx ci o i : Nat} (f : FLk Ts own idx ci i) (hs : sOG G S o i ci 0) (d : decode cc pc = .ok (.getfield idx, 3)) (k : Wm G X nL Qs a b (pc + 3) lv (.int (iZ (S.1 o i)) :: st) S) : Wm G X nL Qs a b pc lv (.ref (kadr G o) :: st) S := by
  obtain ⟨p, e, R, s, m, args, below, meth, c⟩ := X
  obtain ⟨hx, hb, hml, hown, hts, hr, hlk, hKK, hG, hlo⟩ := C
  have hK := hKK.1
  intro k9 n9 hk9 hn9 H locs ls hP hS hl
  obtain ⟨Cn, T, N, ty, hc, hi, hin, hw, hty, hnm⟩ := f
  obtain ⟨ks, h1, h2, h3⟩ := hP.obj hs
  have hP1 : va_P G.2.2.1 vwCl [(kadr G o, .inr (ci, ks.mapIdx (fun i kd => fldv G.2.2.2.2 S o i kd)))] H := by
    intro k q hq
    cases k with
    | zero => cases hq; exact h3
    | succ k => simp at hq
  exact va_get (D := G.2.2.1) (cl := vwCl) (v := .int (iZ (S.1 o i))) hx hb hts hin hown hK hP1 0 rfl hc i hi (hts _ hw) (fun _ h9 => h9) (by rw [List.getElem?_mapIdx, h2]; rfl) d (k k9 n9 hk9 hn9 H locs ls hP hS hl)
theorem wm_getJ (C : Fr G X cc nL own ret Ts) {idx ci o i : Nat} (f : FLk Ts own idx ci i) (hs : sOG G S o i ci 1) (d : decode cc pc = .ok (.getfield idx, 3)) (k : Wm G X nL Qs a b (pc + 3) lv (.long (S.2 o i) :: st) S) : Wm G X nL Qs a b pc lv (.ref (kadr G o) :: st) S := by
  obtain ⟨p, e, R, s, m, args, below, meth, c⟩ := X
  obtain ⟨hx, hb, hml, hown, hts, hr, hlk, hKK, hG, hlo⟩ := C
  have hK := hKK.1
  intro k9 n9 hk9 hn9 H locs ls hP hS hl
  obtain ⟨Cn, T, N, ty, hc, hi, hin, hw, hty, hnm⟩ := f
  obtain ⟨ks, h1, h2, h3⟩ := hP.obj hs
  have hP1 : va_P G.2.2.1 vwCl [(kadr G o, .inr (ci, ks.mapIdx (fun i kd => fldv G.2.2.2.2 S o i kd)))] H := by
    intro k q hq
    cases k with
    | zero => cases hq; exact h3
    | succ k => simp at hq
  exact va_get (D := G.2.2.1) (cl := vwCl) (v := .long (S.2 o i)) hx hb hts hin hown hK hP1 0 rfl hc i hi (hts _ hw) (fun _ h9 => h9) (by rw [List.getElem?_mapIdx, h2]; rfl) d (k k9 n9 hk9 hn9 H locs ls hP hS hl)
theorem wm_getR (C : Fr G X cc nL own ret Ts) {idx ci o i j : Nat} (f : FLk Ts own idx ci i) (hs : sOG G S o i ci (j + 2)) (hj : j ≠ 4998) (d : decode cc pc = .ok (.getfield idx, 3)) (k : Wm G X nL Qs a b (pc + 3) lv (.ref (kadr G j) :: st) S) : Wm G X nL Qs a b pc lv (.ref (kadr G o) :: st) S := by
  obtain ⟨p, e, R, s, m, args, below, meth, c⟩ := X
  obtain ⟨hx, hb, hml, hown, hts, hr, hlk, hKK, hG, hlo⟩ := C
  have hK := hKK.1
  intro k9 n9 hk9 hn9 H locs ls hP hS hl
  obtain ⟨Cn, T, N, ty, hc, hi, hin, hw, hty, hnm⟩ := f
  obtain ⟨ks, h1, h2, h3⟩ := hP.obj hs
  have hP1 : va_P G.2.2.1 vwCl [(kadr G o, .inr (ci, ks.mapIdx (fun i kd => fldv G.2.2.2.2 S o i kd)))] H := by
    intro k q hq
    cases k with
    | zero => cases hq; exact h3
    | succ k => simp at hq
  exact va_get (D := G.2.2.1) (cl := vwCl) (v := .ref (kadr G j)) hx hb hts hin hown hK hP1 0 rfl hc i hi (hts _ hw) (fun _ h9 => h9) (by rw [List.getElem?_mapIdx, h2]; show some (if j = 4998 then refZ G.2.2.2.2 (S.1 o i) else Value.ref (G.2.2.2.2 j)) = _; rw [if_neg hj]) d (k k9 n9 hk9 hn9 H locs ls hP hS hl)
theorem wm_putI (C : Fr G X cc nL own ret Ts) {idx ci o i : Nat} {x : Int} (f : FLk Ts own idx ci i) (hs : sOG G S o i ci 0) (hfin : ∀ C T N, vwCl[ci]? = some (C, T, N) → (T i).2.2.2 = false) (hfit : ∀ C T N, vwCl[ci]? = some (C, T, N) → ∃ ty, parseFieldDescriptor (T i).2.2.1 = some ty ∧ narrow ty (.int (iZ x)) = .int (iZ x) ∧ fits ty (.int (iZ x)) = true) (d : decode cc pc = .ok (.putfield idx, 3)) (k : Wm G X nL Qs a b (pc + 3) lv st (up2 S.1 o i x, S.2)) : Wm G X nL Qs a b pc lv (.int (iZ x) :: .ref (kadr G o) :: st) S := by
  obtain ⟨p, e, R, s, m, args, below, meth, c⟩ := X
  obtain ⟨hx, hb, hml, hown, hts, hr, hlk, hKK, hG, hlo⟩ := C
  have hK := hKK.1
  intro k9 n9 hk9 hn9 H locs ls hP hS hl
  obtain ⟨Cn, T, N, ty, hc, hi, hin, hw, hty, hnm⟩ := f
  obtain ⟨ks, h1, h2, h3⟩ := hP.obj hs
  have hfin := hfin _ _ _ hc
  obtain ⟨fty, hd, hnar, hfit⟩ := hfit _ _ _ hc
  have hap := va_apart (own := own) hts hin ty hty hnm hK hc
  obtain ⟨r, g1, cell, q1, q2, q3, q4⟩ := h3
  have hr9 : r = (Cn, T, N) := Option.some.inj (g1.symm.trans hc)
  subst hr9
  obtain ⟨hSl, hfc, kC, hkC, hkind⟩ := hK.1 ci _ hc
  obtain ⟨cf, kf, fi, f, hif, hsl⟩ := hSl i hi
  have hlay := hts _ (hin _ (u_in_lay hi))
  unfold u_lay at hlay
  rw [if_neg (by rw [hfin]; decide)] at hlay
  have hst := (u_facts hfc hkC (u_lays hts hin hi) hif).1
  have h6 := u_store hfc hkC hkind hlay hif hd hnar hfit
  have hlen : i < (ks.mapIdx (fun i9 kd => fldv G.2.2.2.2 S o i9 kd)).length := by rw [List.length_mapIdx]; exact (List.getElem?_eq_some_iff.mp h2).1
  refine W.putK hx hb (f := f) ⟨hown, hts _ hw, ⟨_, _, _, hif⟩, hst⟩ (by rw [q2]; exact h6) q1 q3 (by rw [hsl]; exact k2_hasslot (q4 i hi)) rfl rfl d fun H' e1 e2 e3 => ?_
  rw [hsl] at e1 ⊢
  refine k k9 n9 hk9 hn9 H' _ ls (hP.upd (S' := (up2 S.1 o i x, S.2)) hG h1 (fun k' q => by first | rfl | exact up2_key q) (fun k' q => by first | rfl | exact up2_key q) e2 e3 ?_) (hS.put e2 e3 (shK_low hG (by rw [h1]; intro z; cases z))) hl
  have hset : (ks.mapIdx (fun i9 kd => fldv G.2.2.2.2 S o i9 kd)).set i (.int (iZ x)) = ks.mapIdx (fun i9 kd => fldv G.2.2.2.2 (up2 S.1 o i x, S.2) o i9 kd) := mapIdx_set (S := S) (S' := (up2 S.1 o i x, S.2)) (ad := G.2.2.2.2) (k := o) (v := .int (iZ x)) h2 (by show Value.int (iZ (up2 _ o i x o i)) = _; rw [up2_self]) (fun j kd' q => fldv_other (by first | rfl | exact up2_ne (fun z => q z.2)) (by first | rfl | exact up2_ne (fun z => q z.2)))
  show va_at G.2.2.1 vwCl (kadr G o, .inr (ci, ks.mapIdx (fun i9 kd => fldv G.2.2.2.2 _ o i9 kd))) H'
  rw [← hset]
  exact ⟨_, hc, t_OB.to (V := updV (vp_V (ks.mapIdx (fun i9 kd => fldv G.2.2.2.2 S o i9 kd))) i (.int (iZ x))) ⟨_, e1, q2, q3, t_set q4 hap hi (.int (iZ x))⟩ (fun j _ => vp_updV_set hlen (.int (iZ x)) j)⟩
theorem wm_putJ (C : Fr G X cc nL own ret Ts) {idx ci o i : Nat} {x : Int64} (f : FLk Ts own idx ci i) (hs : sOG G S o i ci 1) (hfin : ∀ C T N, vwCl[ci]? = some (C, T, N) → (T i).2.2.2 = false) (hfit : ∀ C T N, vwCl[ci]? = some (C, T, N) → ∃ ty, parseFieldDescriptor (T i).2.2.1 = some ty ∧ narrow ty (.long x) = .long x ∧ fits ty (.long x) = true) (d : decode cc pc = .ok (.putfield idx, 3)) (k : Wm G X nL Qs a b (pc + 3) lv st (S.1, up2 S.2 o i x)) : Wm G X nL Qs a b pc lv (.long x :: .ref (kadr G o) :: st) S := by
  obtain ⟨p, e, R, s, m, args, below, meth, c⟩ := X
  obtain ⟨hx, hb, hml, hown, hts, hr, hlk, hKK, hG, hlo⟩ := C
  have hK := hKK.1
  intro k9 n9 hk9 hn9 H locs ls hP hS hl
  obtain ⟨Cn, T, N, ty, hc, hi, hin, hw, hty, hnm⟩ := f
  obtain ⟨ks, h1, h2, h3⟩ := hP.obj hs
  have hfin := hfin _ _ _ hc
  obtain ⟨fty, hd, hnar, hfit⟩ := hfit _ _ _ hc
  have hap := va_apart (own := own) hts hin ty hty hnm hK hc
  obtain ⟨r, g1, cell, q1, q2, q3, q4⟩ := h3
  have hr9 : r = (Cn, T, N) := Option.some.inj (g1.symm.trans hc)
  subst hr9
  obtain ⟨hSl, hfc, kC, hkC, hkind⟩ := hK.1 ci _ hc
  obtain ⟨cf, kf, fi, f, hif, hsl⟩ := hSl i hi
  have hlay := hts _ (hin _ (u_in_lay hi))
  unfold u_lay at hlay
  rw [if_neg (by rw [hfin]; decide)] at hlay
  have hst := (u_facts hfc hkC (u_lays hts hin hi) hif).1
  have h6 := u_store hfc hkC hkind hlay hif hd hnar hfit
  have hlen : i < (ks.mapIdx (fun i9 kd => fldv G.2.2.2.2 S o i9 kd)).length := by rw [List.length_mapIdx]; exact (List.getElem?_eq_some_iff.mp h2).1
  refine W.putK hx hb (f := f) ⟨hown, hts _ hw, ⟨_, _, _, hif⟩, hst⟩ (by rw [q2]; exact h6) q1 q3 (by rw [hsl]; exact k2_hasslot (q4 i hi)) rfl rfl d fun H' e1 e2 e3 => ?_
  rw [hsl] at e1 ⊢
  refine k k9 n9 hk9 hn9 H' _ ls (hP.upd (S' := (S.1, up2 S.2 o i x)) hG h1 (fun k' q => by first | rfl | exact up2_key q) (fun k' q => by first | rfl | exact up2_key q) e2 e3 ?_) (hS.put e2 e3 (shK_low hG (by rw [h1]; intro z; cases z))) hl
  have hset : (ks.mapIdx (fun i9 kd => fldv G.2.2.2.2 S o i9 kd)).set i (.long x) = ks.mapIdx (fun i9 kd => fldv G.2.2.2.2 (S.1, up2 S.2 o i x) o i9 kd) := mapIdx_set (S := S) (S' := (S.1, up2 S.2 o i x)) (ad := G.2.2.2.2) (k := o) (v := .long x) h2 (by show Value.long (up2 _ o i x o i) = _; rw [up2_self]) (fun j kd' q => fldv_other (by first | rfl | exact up2_ne (fun z => q z.2)) (by first | rfl | exact up2_ne (fun z => q z.2)))
  show va_at G.2.2.1 vwCl (kadr G o, .inr (ci, ks.mapIdx (fun i9 kd => fldv G.2.2.2.2 _ o i9 kd))) H'
  rw [← hset]
  exact ⟨_, hc, t_OB.to (V := updV (vp_V (ks.mapIdx (fun i9 kd => fldv G.2.2.2.2 S o i9 kd))) i (.long x)) ⟨_, e1, q2, q3, t_set q4 hap hi (.long x)⟩ (fun j _ => vp_updV_set hlen (.long x) j)⟩
theorem Pic.row {G : KG} {S : Sg} {H : Heap} (h : Pic G S H) {k t n : Nat} (hs : sRG G S k t n) : va_at G.2.2.1 vwCl (kadr G k, .inl (rowe G.2.2.2.1 G.2.2.2.2 S k t n)) H := h.at hs
theorem va_P1 {D : va_G} {cl : List vw_C} {q : Nat × va_E} {H : Heap} (h : va_at D cl q H) : va_P D cl [q] H := by
  intro k q' hq
  cases k with
  | zero => cases hq; exact h
  | succ k => simp at hq
theorem wm_iaload (C : Fr G X cc nL own ret Ts) {o n : Nat} {j : Int32} (hs : sRG G S o 0 n) (hin : vp_in j n) (d : decode cc pc = .ok (.iaload, 1)) (k : Wm G X nL Qs a b (pc + 1) lv (.int (iZ (S.1 o j.toNatClampNeg)) :: st) S) : Wm G X nL Qs a b pc lv (.int j :: .ref (kadr G o) :: st) S := by
  obtain ⟨p, e, R, s, m, args, below, meth, c⟩ := X
  obtain ⟨hx, hb, hml, hown, hts, hr, hlk, hKK, hG, hlo⟩ := C
  have hK := hKK.1
  intro k9 n9 hk9 hn9 H locs ls hP hS hl
  exact va_iald (D := G.2.2.1) (cl := vwCl) (tys := ktys G) hx hb hK (va_P1 (hP.row hs)) 0 0 rfl rfl hin d (k k9 n9 hk9 hn9 H locs ls hP hS hl)
theorem wm_laload (C : Fr G X cc nL own ret Ts) {o n : Nat} {j : Int32} (hs : sRG G S o 1 n) (hin : vp_in j n) (d : decode cc pc = .ok (.laload, 1)) (k : Wm G X nL Qs a b (pc + 1) lv (.long (S.2 o j.toNatClampNeg) :: st) S) : Wm G X nL Qs a b pc lv (.int j :: .ref (kadr G o) :: st) S := by
  obtain ⟨p, e, R, s, m, args, below, meth, c⟩ := X
  obtain ⟨hx, hb, hml, hown, hts, hr, hlk, hKK, hG, hlo⟩ := C
  have hK := hKK.1
  intro k9 n9 hk9 hn9 H locs ls hP hS hl
  exact va_lald (D := G.2.2.1) (cl := vwCl) (tys := ktys G) hx hb hK (va_P1 (hP.row hs)) 0 1 rfl rfl hin d (k k9 n9 hk9 hn9 H locs ls hP hS hl)
theorem wm_aaload (C : Fr G X cc nL own ret Ts) {o n : Nat} {j : Int32} (hs : sRG G S o 2 n) (hin : vp_in j n) (d : decode cc pc = .ok (.aaload, 1)) (k : Wm G X nL Qs a b (pc + 1) lv (.ref (kadr G (330 + 10 * j.toNatClampNeg)) :: st) S) : Wm G X nL Qs a b pc lv (.int j :: .ref (kadr G o) :: st) S := by
  obtain ⟨p, e, R, s, m, args, below, meth, c⟩ := X
  obtain ⟨hx, hb, hml, hown, hts, hr, hlk, hKK, hG, hlo⟩ := C
  have hK := hKK.1
  intro k9 n9 hk9 hn9 H locs ls hP hS hl
  exact va_aldq (D := G.2.2.1) (cl := vwCl) (tys := ktys G) hx hb hK (va_P1 (hP.row hs)) 0 2 rfl rfl hin d (k k9 n9 hk9 hn9 H locs ls hP hS hl)
theorem wm_alen0 (C : Fr G X cc nL own ret Ts) {o n : Nat} {v : Int32} (hs : sRG G S o 0 n) (hv : Int32.ofNat n = v) (d : decode cc pc = .ok (.arraylength, 1)) (k : Wm G X nL Qs a b (pc + 1) lv (.int v :: st) S) : Wm G X nL Qs a b pc lv (.ref (kadr G o) :: st) S := by
  obtain ⟨p, e, R, s, m, args, below, meth, c⟩ := X
  obtain ⟨hx, hb, hml, hown, hts, hr, hlk, hKK, hG, hlo⟩ := C
  have hK := hKK.1
  intro k9 n9 hk9 hn9 H locs ls hP hS hl
  exact va_alen (D := G.2.2.1) (cl := vwCl) (tys := ktys G) hx hb hK (va_P1 (hP.row hs)) 0 0 rfl rfl hv d (k k9 n9 hk9 hn9 H locs ls hP hS hl)
theorem wm_alen1 (C : Fr G X cc nL own ret Ts) {o n : Nat} {v : Int32} (hs : sRG G S o 1 n) (hv : Int32.ofNat n = v) (d : decode cc pc = .ok (.arraylength, 1)) (k : Wm G X nL Qs a b (pc + 1) lv (.int v :: st) S) : Wm G X nL Qs a b pc lv (.ref (kadr G o) :: st) S := by
  obtain ⟨p, e, R, s, m, args, below, meth, c⟩ := X
  obtain ⟨hx, hb, hml, hown, hts, hr, hlk, hKK, hG, hlo⟩ := C
  have hK := hKK.1
  intro k9 n9 hk9 hn9 H locs ls hP hS hl
  exact va_alen (D := G.2.2.1) (cl := vwCl) (tys := ktys G) hx hb hK (va_P1 (hP.row hs)) 0 1 rfl rfl hv d (k k9 n9 hk9 hn9 H locs ls hP hS hl)
theorem wm_alen2 (C : Fr G X cc nL own ret Ts) {o n : Nat} {v : Int32} (hs : sRG G S o 2 n) (hv : Int32.ofNat n = v) (d : decode cc pc = .ok (.arraylength, 1)) (k : Wm G X nL Qs a b (pc + 1) lv (.int v :: st) S) : Wm G X nL Qs a b pc lv (.ref (kadr G o) :: st) S := by
  obtain ⟨p, e, R, s, m, args, below, meth, c⟩ := X
  obtain ⟨hx, hb, hml, hown, hts, hr, hlk, hKK, hG, hlo⟩ := C
  have hK := hKK.1
  intro k9 n9 hk9 hn9 H locs ls hP hS hl
  exact va_alen (D := G.2.2.1) (cl := vwCl) (tys := ktys G) hx hb hK (va_P1 (hP.row hs)) 0 2 rfl rfl hv d (k k9 n9 hk9 hn9 H locs ls hP hS hl)
theorem upd_up2 {f : Nat → Nat → Int32} {o i : Nat} {x : Int32} : upd (f o) i x = up2 f o i x o := by
  funext j
  by_cases q : j = i
  · subst q; simp [upd, up2]
  · simp [upd, up2, q]
theorem updL_up2 {f : Nat → Nat → Int64} {o i : Nat} {x : Int64} : vp_updL (f o) i x = up2 f o i x o := by
  funext j
  by_cases q : j = i
  · subst q; simp [vp_updL, up2]
  · simp [vp_updL, up2, q]
theorem va_D1 {A : Nat → Prop} {q : Nat × va_E} (h : A q.1) : va_D A [q] := by
  refine ⟨fun i j x y hi hj _ => ?_, fun k z hz => ?_⟩
  · cases i with
    | zero => cases j with
      | zero => rfl
      | succ j => simp at hj
    | succ i => simp at hi
  · cases k with
    | zero => cases hz; exact h
    | succ k => simp at hz
theorem wm_iastore (C : Fr G X cc nL own ret Ts) {o n : Nat} {j : Int32} {x : Int} (hs : sRG G S o 0 n) (hin : vp_in j n) (d : decode cc pc = .ok (.iastore, 1)) (k : Wm G X nL Qs a b (pc + 1) lv st (up2 S.1 o j.toNatClampNeg x, S.2)) : Wm G X nL Qs a b pc lv (.int (iZ x) :: .int j :: .ref (kadr G o) :: st) S := by
  obtain ⟨p, e, R, s, m, args, below, meth, c⟩ := X
  obtain ⟨hx, hb, hml, hown, hts, hr, hlk, hKK, hG, hlo⟩ := C
  have hK := hKK.1
  intro k9 n9 hk9 hn9 H locs ls hP hS hl
  have h1 : H[kadr G o]? = some (vp_cell G.2.2.2.1.1 (n, .inl (fun i => iZ ((S.1 o) i)))) := hP.row hs
  have hne : shK G S o ≠ none := by rw [show shK G S o = _ from hs]; intro z; cases z
  refine W.iast hx hb h1 ((hK.2 0 _ rfl).1 n (fun j => .int (iZ (S.1 o j)))) (fun q => by cases q) (by show ¬ (j < 0 ∨ (arrV _ _ _).slots.size ≤ _); rw [arrV_size]; exact hin) rfl rfl d fun H1 e z oq => ?_
  refine k k9 n9 hk9 hn9 H1 _ ls (hP.upd (S' := (up2 S.1 o j.toNatClampNeg x, S.2)) hG hs (fun k' q => by first | rfl | exact up2_key q) (fun k' q => by first | rfl | exact up2_key q) z oq ?_) (hS.put z oq (shK_low hG hne)) hl
  show H1[kadr G o]? = some (vp_cell G.2.2.2.1.1 (n, .inl (fun i => iZ (((up2 S.1 o j.toNatClampNeg x, S.2).1 o) i))))
  rw [e]
  rw [vp_cell_i, vp_cell_i, arrV_store]
  congr 2
  funext q
  by_cases hq : q = j.toNatClampNeg
  · subst hq
    simp [updV, up2]
  · simp [updV, up2, hq]
theorem wm_lastore (C : Fr G X cc nL own ret Ts) {o n : Nat} {j : Int32} {x : Int64} (hs : sRG G S o 1 n) (hin : vp_in j n) (d : decode cc pc = .ok (.lastore, 1)) (k : Wm G X nL Qs a b (pc + 1) lv st (S.1, up2 S.2 o j.toNatClampNeg x)) : Wm G X nL Qs a b pc lv (.long x :: .int j :: .ref (kadr G o) :: st) S := by
  obtain ⟨p, e, R, s, m, args, below, meth, c⟩ := X
  obtain ⟨hx, hb, hml, hown, hts, hr, hlk, hKK, hG, hlo⟩ := C
  have hK := hKK.1
  intro k9 n9 hk9 hn9 H locs ls hP hS hl
  have h1 : H[kadr G o]? = some (vp_cell G.2.2.2.1.2.1 (n, .inr (.inl (S.2 o)))) := hP.row hs
  have hne : shK G S o ≠ none := by rw [show shK G S o = _ from hs]; intro z; cases z
  refine W.last hx hb h1 ((hK.2 1 _ rfl).1 n (fun j => .long (S.2 o j))) (fun q => by cases q) (by show ¬ (j < 0 ∨ (arrV _ _ _).slots.size ≤ _); rw [arrV_size]; exact hin) rfl rfl d fun H1 e z oq => ?_
  refine k k9 n9 hk9 hn9 H1 _ ls (hP.upd (S' := (S.1, up2 S.2 o j.toNatClampNeg x)) hG hs (fun k' q => by first | rfl | exact up2_key q) (fun k' q => by first | rfl | exact up2_key q) z oq ?_) (hS.put z oq (shK_low hG hne)) hl
  show H1[kadr G o]? = some (vp_cell G.2.2.2.1.2.1 (n, .inr (.inl ((S.1, up2 S.2 o j.toNatClampNeg x).2 o))))
  rw [e]
  rw [vp_cell_l, vp_cell_l, arrV_store]
  congr 2
  funext q
  by_cases hq : q = j.toNatClampNeg
  · subst hq
    simp [updV, up2]
  · simp [updV, up2, hq]
end WMR
/-! ===== contracts over the store ===== -/
def QcU (G : KG) (Q : Option Value → Sg → Prop) : Array Value → State → Outcome → State → Prop := fun _ st oc t => (∃ (r : Option Value) (S' : Sg), oc = .returned r ∧ Q r S' ∧ Pic G S' t.heap) ∧ va_F (KFr G) st t
/-- called with these arguments over this store, the method returns, and Q holds of its answer and the store behind it -/
def Ctr (G : KG) (y : MethodName) (ws : List Cond) (rm : Room) (Av : List Value) (S : Sg) (Q : Option Value → Sg → Prop) : Prop :=
  Met G.1.1 y ws rm (va_Pc Av (fun U => Pic G S U.heap ∧ Kst G U ∧ G.2.1 ≤ U.heap.size)) (QcU G Q) rm.cells rm.slots (KFr G)
def QsU (G : KG) (X : KX) (Q : Option Value → Sg → Prop) : State → Prop := match X with
  | (_, _, R, s, _, args, below, _, _) => MQ below (QcU G Q) args s R.cells R.slots (KFr G)
theorem Kst.warm {G : KG} {u U : State} (hW : u.WarmedH U.vm) (hq : ∀ a, a < u.heap.size → ¬ KFr G a → U.heap[a]? = u.heap[a]?) (h : Kst G u) : Kst G U := ⟨va_K.moved hW.alike h.1, fun q hq => va_Nw.warmM hW (h.2.1 q hq), h.2.2.2.1 u U hW hq h.2.2.1, h.2.2.2⟩
theorem Kst.same {G : KG} {u U : State} (e : u.vm = U.vm) (e2 : u.heap = U.heap) (h : Kst G u) : Kst G U := ⟨va_K.moved (u := u) (U := U) (by rw [e]; exact Vm.Alike.refl U.vm) h.1, fun q hq => va_Nw.same rfl e (h.2.1 q hq), h.2.2.2.2 u U e e2 h.2.2.1, h.2.2.2⟩
theorem mq_widen {p : Program} {l : Launch} {e : Env} {R : Room} {s : State} {m : MethodId} {args : Array Value} {below : List Frame} {meth : Method} {c : Code} {H : Heap} {locs : List Loc} {k n k2 n2 : Nat} {Q : State → Prop} {g : JFrame} (h1 : k ≤ k2) (h2 : n ≤ n2) (h : W p l e R s m args below meth c H locs k2 n2 Q g) : W p l e R s m args below meth c H locs k n Q g := W.widen h1 h2 h
/-- a method's contract out of its run -/
theorem Ctr.of {G : KG} {y : MethodName} {ws ws' : List Cond} {rm : Room} {Av : List Value} {S : Sg} {Q : Option Value → Sg → Prop} {cc : ByteArray} {nL : Nat} {ret : Option FieldType} (lv : List (Option Value)) (hG : Kok G) (hy : plainName y.cls = true) (hw : ws = Cond.code y cc nL ret :: ws') (hlen : (lg_sl Av).length ≤ nL) (hlv : lv.length ≤ nL) (hla : ∀ (i : Nat) (v : Value), lv[i]? = some (some v) → (i, v) ∈ lv_args 0 Av)
    (body : ∀ X : KX, KR X = rm → Fr G X cc nL y.cls ret ws → Wm G X nL (QsU G X Q) rm.cells rm.slots 0 lv [] S) : Ctr G y ws rm Av S Q := by
  refine Met.ofW (cc := cc) (maxL := nL) (ret := ret) hy hw ?_
  intro p e s m args below meth c s₁ B hml hv
  obtain ⟨rfl, hP, hK, hsz⟩ := hv
  have hown : s.vm.findClass y.cls = some m.cls := findClass_of_methodNamed B.named
  rw [lg_entry_eq]
  exact body (p, e, rm, s, m, Av.toArray, below, meth, c) rfl ⟨B.exec, B.bytes, hml, hown, atoms_spec (ws := ws) B.pre, B.returns, B.notSynchronized, hK, hG, hsz⟩ 0 0 (by show 0 + rm.cells ≤ rm.cells; omega) (by show 0 + rm.slots ≤ rm.slots; omega) s.heap [] _ hP va_S.rf (lvD.of (lv_entry Av hlen) hlv hla)
section WME
variable {G : KG} {X : KX} {nL : Nat} {a b pc : Nat} {lv : List (Option Value)} {S : Sg} {cc : ByteArray} {own : String} {ret : Option FieldType} {Ts : List Cond} {Q : Option Value → Sg → Prop}
theorem wm_iret (C : Fr G X cc nL own (some .int) Ts) {x : Int32} (d : decode cc pc = .ok (.ireturn, 1)) (hq : Q (some (.int x)) S) : Wm G X nL (QsU G X Q) a b pc lv [.int x] S := by
  obtain ⟨p, e, R, s, m, args, below, meth, c⟩ := X
  obtain ⟨hx, hb, hml, hown, hts, hr, hlk, hKK, hG, hlo⟩ := C
  have hK := hKK.1
  intro k9 n9 hk9 hn9 H locs ls hP hS hl
  refine mq_widen (k2 := R.cells) (n2 := R.slots) (by omega) (by omega) ?_
  exact W.iret hx hb hr (fun t ht hW => ⟨⟨_, S, rfl, hq, by rw [ht]; exact hP⟩, hS.F ht⟩) hS.2.2 d hlk
theorem wm_zret (C : Fr G X cc nL own (some .boolean) Ts) {x : Int32} (h0 : x = 0 ∨ x = 1) (d : decode cc pc = .ok (.ireturn, 1)) (hq : Q (some (.int x)) S) : Wm G X nL (QsU G X Q) a b pc lv [.int x] S := by
  obtain ⟨p, e, R, s, m, args, below, meth, c⟩ := X
  obtain ⟨hx, hb, hml, hown, hts, hr, hlk, hKK, hG, hlo⟩ := C
  have hK := hKK.1
  intro k9 n9 hk9 hn9 H locs ls hP hS hl
  refine mq_widen (k2 := R.cells) (n2 := R.slots) (by omega) (by omega) ?_
  exact W.zret hx hb hr (by rcases h0 with rfl | rfl <;> decide) (fun t ht hW => ⟨⟨_, S, rfl, hq, by rw [ht]; exact hP⟩, hS.F ht⟩) hS.2.2 d hlk
theorem wm_vret (C : Fr G X cc nL own (none) Ts)  (d : decode cc pc = .ok (.return_, 1)) (hq : Q none S) : Wm G X nL (QsU G X Q) a b pc lv [] S := by
  obtain ⟨p, e, R, s, m, args, below, meth, c⟩ := X
  obtain ⟨hx, hb, hml, hown, hts, hr, hlk, hKK, hG, hlo⟩ := C
  have hK := hKK.1
  intro k9 n9 hk9 hn9 H locs ls hP hS hl
  refine mq_widen (k2 := R.cells) (n2 := R.slots) (by omega) (by omega) ?_
  exact W.vret hx hb hr (fun t ht hW => ⟨⟨_, S, rfl, hq, by rw [ht]; exact hP⟩, hS.F ht⟩) hS.2.2 d hlk
theorem wm_lret (C : Fr G X cc nL own (some .long) Ts) {x : Int64} (d : decode cc pc = .ok (.lreturn, 1)) (hq : Q (some (.long x)) S) : Wm G X nL (QsU G X Q) a b pc lv [.long x] S := by
  obtain ⟨p, e, R, s, m, args, below, meth, c⟩ := X
  obtain ⟨hx, hb, hml, hown, hts, hr, hlk, hKK, hG, hlo⟩ := C
  have hK := hKK.1
  intro k9 n9 hk9 hn9 H locs ls hP hS hl
  refine mq_widen (k2 := R.cells) (n2 := R.slots) (by omega) (by omega) ?_
  exact W.lret hx hb hr (fun t ht hW => ⟨⟨_, S, rfl, hq, by rw [ht]; exact hP⟩, hS.F ht⟩) hS.2.2 d hlk
theorem wm_aret {cn : String} (C : Fr G X cc nL own (some (.object cn)) Ts) {q : Nat} (d : decode cc pc = .ok (.areturn, 1)) (hq : Q (some (.ref q)) S) : Wm G X nL (QsU G X Q) a b pc lv [.ref q] S := by
  obtain ⟨p, e, R, s, m, args, below, meth, c⟩ := X
  obtain ⟨hx, hb, hml, hown, hts, hr, hlk, hKK, hG, hlo⟩ := C
  have hK := hKK.1
  intro k9 n9 hk9 hn9 H locs ls hP hS hl
  refine mq_widen (k2 := R.cells) (n2 := R.slots) (by omega) (by omega) ?_
  exact W.aret hx hb hr (Or.inl ⟨_, rfl⟩) (Or.inr ⟨_, rfl⟩) (fun t ht hW => ⟨⟨_, S, rfl, hq, by rw [ht]; exact hP⟩, hS.F ht⟩) hS.2.2 d hlk
end WME
/-- more may be asked of less -/
theorem Ctr.mono {G : KG} {y : MethodName} {ws : List Cond} {rm : Room} {Av : List Value} {S : Sg} {Q Q' : Option Value → Sg → Prop} (h : Ctr G y ws rm Av S Q) (hq : ∀ r S', Q r S' → Q' r S') : Ctr G y ws rm Av S Q' := by
  intro p e ha hc hk s m args below hf hfit hheap _hz
  obtain ⟨k, o, h1, h2, h3, ⟨⟨r, S', e1, e2, e3⟩, e4⟩, h5⟩ := h p e ha hc hk s m args below hf hfit hheap trivial
  exact ⟨k, o, h1, h2, h3, ⟨⟨r, S', e1, hq _ _ e2, e3⟩, e4⟩, h5⟩
section WMC
variable {G : KG} {X : KX} {nL : Nat} {Qs : State → Prop} {a b pc : Nat} {lv : List (Option Value)} {st : List Value} {S : Sg} {cc : ByteArray} {own : String} {ret : Option FieldType} {Ts : List Cond} {Q : Option Value → Sg → Prop}
theorem frameBlind_pc {G : KG} {Av : List Value} {S : Sg} : FrameBlind (va_Pc Av (fun U => Pic G S U.heap ∧ Kst G U ∧ G.2.1 ≤ U.heap.size)) := fun a U g mk q => by
  obtain ⟨q0, q1, q2, q3⟩ := q
  exact ⟨q0, q1, Kst.same (u := U) (U := U.calling g mk a) rfl rfl q2, q3⟩
theorem va_callQ {p : Program} {l : Launch} {e : Env} {R : Room} {s : State} {m : MethodId} {args : Array Value} {below : List Frame} {meth : Method} {c : Code} {H : Heap} {locs : List Loc} {cells slots : Nat} {Qs : State → Prop} {pc : Nat} {ls : Array Slot} {rest st0 : List Value} {av : Array Value} {mc ms : Nat} {G : KG} {Q : Option Value → Sg → Prop} {H0 : Heap}
    (hr : va_Run p l e R s m args below meth c H locs cells slots mc ms (F0 m pc ls st0) rest (QcU G Q av) (KFr G)) (hS : va_S (KFr G) H0 H locs)
    (kk : ∀ (r : Option Value) (S' : Sg) (H1 : Heap) (locs1 : List Loc), Q r S' → Pic G S' H1 → va_S (KFr G) H0 H1 locs1 → W p l e R s m args below meth c H1 locs1 (cells + mc) (slots + ms) Qs (F0 m (pc + 3) ls (r.toList ++ rest))) : W p l e R s m args below meth c H locs cells slots Qs (F0 m pc ls st0) := by
  intro T hT X
  obtain ⟨v, st₀, t, T', L, h0, X', hL, e1, e2, ⟨⟨r, S', hv, hp, hb⟩, hz, hk⟩, stp⟩ := hr T hT X
  cases hv
  rw [h0] at hz hk
  obtain ⟨t2, a1, b1⟩ := kk v S' T'.heap (locs ++ L) hp (by rw [e1]; exact hb)
    ⟨Nat.le_trans hS.1 (by rw [e1]; exact hz), fun q h1 h2 => by rw [e1, hk q (Nat.lt_of_lt_of_le h1 hS.1) h2]; exact hS.2.1 q h1 h2, fun q hq => by
      rcases List.mem_append.mp hq with h | h
      · exact hS.2.2 q h
      · exact hL q h⟩ T' rfl X'
  exact ⟨t2, stp t2 a1, b1⟩
theorem kpre {G : KG} {s : State} {H : Heap} {S : Sg} {Av : List Value} {locs : List Loc} (hP : Pic G S H) (hK : Kst G s) (hlo : G.2.1 ≤ s.heap.size) (hS : va_S (KFr G) s.heap H locs) : ∀ U : State, U.heap = H → s.WarmedH U.vm → va_Pc Av (fun U => Pic G S U.heap ∧ Kst G U ∧ G.2.1 ≤ U.heap.size) Av.toArray U := fun U hU hW => ⟨rfl, by rw [hU]; exact hP, Kst.warm hW (fun a h1 h2 => by rw [hU]; exact hS.2.1 a h1 h2) hK, by rw [hU]; exact Nat.le_trans hlo hS.1⟩
theorem krecv {G : KG} {s : State} {H : Heap} {S : Sg} {o ci : Nat} {ks : List Nat} {Cn : String} {T : u_T} {N : Nat} (hs : shK G S o = some (.inl (ci, ks))) (hc : vwCl[ci]? = some (Cn, T, N)) (hP : Pic G S H) (hK : Kst G s) : ∃ cellB : Cell, H[kadr G o]? = some cellB ∧ cellB.vm.isStatics = false ∧ s.vm.findClass Cn = some cellB.cls :=
  va_recv (D := G.2.2.1) (cl := vwCl) (tys := ktys G) hK.1 (va_P1 (hP.at hs)) (ci := ci) (q0 := 0) hc rfl
theorem wm_callV (C : Fr G X cc nL own ret Ts) {y : MethodName} {bytes : ByteArray} {maxL idx a' b' : Nat} {yret : Option FieldType} {ws ws' : List Cond} {rm : Room} {As st0 : List Value} {o ci : Nat} {ks : List Nat} {Cn : String} {T : u_T} {N : Nat} (hs : shK G S o = some (.inl (ci, ks))) (hcl : vwCl[ci]? = some (Cn, T, N)) (h : Ctr G y ws rm (.ref (kadr G o) :: As) S Q) (n : Nat) (g : GoodIn Ts (wsV own idx Cn y ws)) (hw : ws = Cond.code y bytes maxL yret :: ws') (hd : y.cls = Cn ∧ y.cls ≠ "java/lang/invoke/MethodHandle" ∧ y.cls ≠ "java/lang/invoke/VarHandle" ∧ (parseMethodDescriptor y.desc).map (fun d => d.parameters.length) = some n) (hR : rm.frames + 1 ≤ (KR X).frames ∧ 8 + (maxL + 11) + rm.locals ≤ (KR X).locals) (hn : As.length = n) (hc : (st.map fun v => v.category).sum ≤ 8) (hca : rm.cells + a' = a) (hcb : rm.slots + b' = b) (hst : st0 = As.reverse ++ .ref (kadr G o) :: st) (d : decode cc pc = .ok (.invokevirtual idx, 3)) (k : ∀ r S', Q r S' → Wm G X nL Qs a' b' (pc + 3) lv (r.toList ++ st) S') : Wm G X nL Qs a b pc lv st0 S := by
  subst hst
  obtain ⟨p, e, R, s, m, args, below, meth, c⟩ := X
  obtain ⟨hx, hb, hml, hown, hts, hr, hlk, hKK, hG, hlo⟩ := C
  have hK := hKK.1
  intro k9 n9 hk9 hn9 H locs ls hP hS hl
  have hf : k9 + rm.cells ≤ R.cells ∧ n9 + rm.slots ≤ R.slots := by constructor <;> omega
  have hR : rm.frames + 1 ≤ R.frames ∧ 8 + (maxL + 11) + rm.locals ≤ R.locals := hR
  refine va_callQ (va_runV (p := p) (As := As) (rest := st) ⟨hx, hb, hml, hown, hts⟩ h (cwV n hts g hw rfl rfl hd hR) ⟨frameBlind_pc, krecv hs hcl hP hKK, kpre hP hKK hlo hS⟩ rfl hn hl.1 rfl (lv_room hc) d hf) hS (fun r S' H1 locs1 hq hP1 hS1 => ?_)
  exact k r S' hq (k9 + rm.cells) (n9 + rm.slots) (by omega) (by omega) H1 locs1 ls hP1 hS1 hl
theorem wm_callS (C : Fr G X cc nL own ret Ts) {y : MethodName} {bytes : ByteArray} {maxL idx a' b' : Nat} {yret : Option FieldType} {ws ws' : List Cond} {rm : Room} {As st0 : List Value} (h : Ctr G y ws rm As S Q) (n : Nat) (g : GoodIn Ts (wsS own idx y ws)) (hw : ws = Cond.code y bytes maxL yret :: ws') (hd : y.cls = own ∧ y.cls ≠ "java/lang/invoke/MethodHandle" ∧ y.cls ≠ "java/lang/invoke/VarHandle" ∧ (parseMethodDescriptor y.desc).map (fun d => d.parameters.length) = some n) (hR : rm.frames + 1 ≤ (KR X).frames ∧ 8 + (maxL + 11) + rm.locals ≤ (KR X).locals) (hn : As.length = n) (hc : (st.map fun v => v.category).sum ≤ 8) (hca : rm.cells + a' = a) (hcb : rm.slots + b' = b) (hst : st0 = As.reverse ++ st) (d : decode cc pc = .ok (.invokestatic idx, 3)) (k : ∀ r S', Q r S' → Wm G X nL Qs a' b' (pc + 3) lv (r.toList ++ st) S') : Wm G X nL Qs a b pc lv st0 S := by
  subst hst
  obtain ⟨p, e, R, s, m, args, below, meth, c⟩ := X
  obtain ⟨hx, hb, hml, hown, hts, hr, hlk, hKK, hG, hlo⟩ := C
  have hK := hKK.1
  intro k9 n9 hk9 hn9 H locs ls hP hS hl
  have hf : k9 + rm.cells ≤ R.cells ∧ n9 + rm.slots ≤ R.slots := by constructor <;> omega
  have hR : rm.frames + 1 ≤ R.frames ∧ 8 + (maxL + 11) + rm.locals ≤ R.locals := hR
  refine va_callQ (va_runS (p := p) (As := As) (rest := st) ⟨hx, hb, hml, hown, hts⟩ h (cwS n hts g hw rfl rfl hd hR) ⟨frameBlind_pc, kpre hP hKK hlo hS⟩ rfl hn hl.1 rfl (lv_room hc) d hf) hS (fun r S' H1 locs1 hq hP1 hS1 => ?_)
  exact k r S' hq (k9 + rm.cells) (n9 + rm.slots) (by omega) (by omega) H1 locs1 ls hP1 hS1 hl
theorem wm_callSo (C : Fr G X cc nL own ret Ts) {y : MethodName} {bytes : ByteArray} {maxL idx a' b' : Nat} {yret : Option FieldType} {ws ws' : List Cond} {rm : Room} {As st0 : List Value} (h : Ctr G y ws rm As S Q) (n : Nat) (g : GoodIn Ts ws) (hlk9 : Cond.methodLink own idx y ∈ Ts) (hst9 : Cond.static y ∈ Ts) (hin9 : Cond.initialized y.cls ∈ Ts) (hw : ws = Cond.code y bytes maxL yret :: ws') (hd : y.cls ≠ "java/lang/invoke/MethodHandle" ∧ y.cls ≠ "java/lang/invoke/VarHandle" ∧ (parseMethodDescriptor y.desc).map (fun d => d.parameters.length) = some n) (hR : rm.frames + 1 ≤ (KR X).frames ∧ 8 + (maxL + 11) + rm.locals ≤ (KR X).locals) (hn : As.length = n) (hc : (st.map fun v => v.category).sum ≤ 8) (hca : rm.cells + a' = a) (hcb : rm.slots + b' = b) (hst : st0 = As.reverse ++ st) (d : decode cc pc = .ok (.invokestatic idx, 3)) (k : ∀ r S', Q r S' → Wm G X nL Qs a' b' (pc + 3) lv (r.toList ++ st) S') : Wm G X nL Qs a b pc lv st0 S := by
  subst hst
  obtain ⟨p, e, R, s, m, args, below, meth, c⟩ := X
  obtain ⟨hx, hb, hml, hown, hts, hr, hlk, hKK, hG, hlo⟩ := C
  have hK := hKK.1
  intro k9 n9 hk9 hn9 H locs ls hP hS hl
  have hf : k9 + rm.cells ≤ R.cells ∧ n9 + rm.slots ≤ R.slots := by constructor <;> omega
  have hR : rm.frames + 1 ≤ R.frames ∧ 8 + (maxL + 11) + rm.locals ≤ R.locals := hR
  refine va_callQ (va_runS (p := p) (As := As) (rest := st) ⟨hx, hb, hml, hown, hts⟩ h ⟨callB_of n hts g hw rfl rfl (hts _ hin9) (hts _ hlk9) hd hR, hts _ hst9⟩ ⟨frameBlind_pc, kpre hP hKK hlo hS⟩ rfl hn hl.1 rfl (lv_room hc) d hf) hS (fun r S' H1 locs1 hq hP1 hS1 => ?_)
  exact k r S' hq (k9 + rm.cells) (n9 + rm.slots) (by omega) (by omega) H1 locs1 ls hP1 hS1 hl
theorem wm_callSN (C : Fr G X cc nL own ret Ts) {y : MethodName} {bytes : ByteArray} {maxL idx a' b' : Nat} {yret : Option FieldType} {ws ws' : List Cond} {rm : Room} {As st0 : List Value} {host : String} (h : Ctr G y ws rm As S Q) (n : Nat) (g : GoodIn Ts ws) (hlk9 : (own, idx, y, host) ∈ kNest) (hst9 : Cond.static y ∈ Ts) (hin9 : Cond.initialized y.cls ∈ Ts) (hw : ws = Cond.code y bytes maxL yret :: ws') (hd : y.cls ≠ "java/lang/invoke/MethodHandle" ∧ y.cls ≠ "java/lang/invoke/VarHandle" ∧ (parseMethodDescriptor y.desc).map (fun d => d.parameters.length) = some n) (hR : rm.frames + 1 ≤ (KR X).frames ∧ 8 + (maxL + 11) + rm.locals ≤ (KR X).locals) (hn : As.length = n) (hc : (st.map fun v => v.category).sum ≤ 8) (hca : rm.cells + a' = a) (hcb : rm.slots + b' = b) (hst : st0 = As.reverse ++ st) (d : decode cc pc = .ok (.invokestatic idx, 3)) (k : ∀ r S', Q r S' → Wm G X nL Qs a' b' (pc + 3) lv (r.toList ++ st) S') : Wm G X nL Qs a b pc lv st0 S := by
  subst hst
  obtain ⟨p, e, R, s, m, args, below, meth, c⟩ := X
  obtain ⟨hx, hb, hml, hown, hts, hr, hlk, hKK, hG, hlo⟩ := C
  have hK := hKK.1
  intro k9 n9 hk9 hn9 H locs ls hP hS hl
  have hf : k9 + rm.cells ≤ R.cells ∧ n9 + rm.slots ≤ R.slots := by constructor <;> omega
  have hR : rm.frames + 1 ≤ R.frames ∧ 8 + (maxL + 11) + rm.locals ≤ R.locals := hR
  refine va_callQ (va_runSN (p := p) (As := As) (rest := st) ⟨hx, hb, hml, hown, hts⟩ h ⟨va_cnB n hts g hw rfl rfl (hKK.2.1 _ hlk9) (hts _ hin9) hd hR, hts _ hst9, trivial⟩ ⟨frameBlind_pc, kpre hP hKK hlo hS⟩ rfl hn hl.1 rfl (lv_room hc) d hf) hS (fun r S' H1 locs1 hq hP1 hS1 => ?_)
  exact k r S' hq (k9 + rm.cells) (n9 + rm.slots) (by omega) (by omega) H1 locs1 ls hP1 hS1 hl
end WMC

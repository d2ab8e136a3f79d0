/-! ===== names, letter by letter ===== -/
/-- a name's number, its letter at a place from behind; 0 without one -/
def nZ (w : Int64) : Nat := w.toBitVec.toNat
def ltr (w : Int64) (p : Nat) : Nat := nZ w / 32 ^ p % 32
/-- a name: no place is empty below a letter -/
def GN (w : Int64) : Prop := nZ w < 2 ^ 40 ∧ ∀ p, p < 8 → ltr w p = 0 → nZ w / 32 ^ p = 0
theorem nZ_lN (w : Int64) : lN (nZ w) = w := wb_inj (by rw [wb_tb]; simp [nZ])
theorem nZ_of {a : Nat} (h : a < 2 ^ 64) : nZ (lN a) = a := wb_tn h
theorem lZ_lN (n : Nat) : lZ (n : Int) = lN n := by
  unfold lZ lN
  first | exact Int64.ofInt_natCast n | exact (Int64.ofInt_eq_ofNat).symm | simp [Int64.ofInt_natCast] | rfl
theorem l2iZ_lN {a : Nat} (h : a < 2147483648) : l2iZ (lN a) = (a : Int) := by
  unfold l2iZ
  rw [lN_i, nI_iZ, iZ_toInt (by omega)]
theorem pow5 (p : Nat) : 2 ^ (5 * p) = 32 ^ p := by rw [Nat.pow_mul]
theorem div_lt64 {a k : Nat} (h : a < 2 ^ 40) : a / k < 2 ^ 64 := Nat.lt_of_le_of_lt (Nat.div_le_self _ _) (by omega)
theorem mask5 {a : Nat} (h : a < 2 ^ 64) : lN a &&& lZ 31 = lN (a % 32) := by
  have e := wb_mask (n := a) (k := 5) h (by decide)
  rw [show lZ 31 = lN (2 ^ 5 - 1) from lZ_lN 31]
  exact e
theorem ushr_lN {a k : Nat} (ha : a < 2 ^ 40) (hk : k < 64) {z : Int} (hz : z = (k : Int)) : ushrL (lN a) z = lN (a / 2 ^ k) := by
  subst hz
  unfold ushrL
  rw [← nI_iZ]
  exact wb_shr (by omega) hk
theorem shr_lN {a k : Nat} (ha : a < 2 ^ 40) (hk : k < 64) {z : Int} (hz : z = (k : Int)) : shrL (lN a) z = lN (a / 2 ^ k) := by
  subst hz
  unfold shrL
  rw [← nI_iZ, wb_c k hk]
  refine pf_shr ?_ (by omega)
  rw [wb_tb, wb_sm k hk, BitVec.toNat_ofNat]
  exact Nat.mod_eq_of_lt (by omega)
theorem ltr_b (w : Int64) (p : Nat) : ltr w p < 32 := Nat.mod_lt _ (by decide)
theorem ltr_u {w : Int64} (h : nZ w < 2 ^ 40) {p : Nat} (hp : p < 8) {z : Int} (hz : z = ((5 * p : Nat) : Int)) : l2iZ ((ushrL w z) &&& (lZ 31)) = (ltr w p : Int) := by
  have e := ushr_lN h (k := 5 * p) (by omega) hz
  rw [nZ_lN, pow5] at e
  have := ltr_b w p
  rw [e, mask5 (div_lt64 h)]
  exact l2iZ_lN (by unfold ltr at this; omega)
theorem ltr_s {w : Int64} (h : nZ w < 2 ^ 40) {p : Nat} (hp : p < 8) {z : Int} (hz : z = ((5 * p : Nat) : Int)) : l2iZ ((shrL w z) &&& (lZ 31)) = (ltr w p : Int) := by
  have e := shr_lN h (k := 5 * p) (by omega) hz
  rw [nZ_lN, pow5] at e
  have := ltr_b w p
  rw [e, mask5 (div_lt64 h)]
  exact l2iZ_lN (by unfold ltr at this; omega)
theorem cmp_s {w : Int64} (h : nZ w < 2 ^ 40) {p : Nat} (hp : p < 8) {z : Int} (hz : z = ((5 * p : Nat) : Int)) : cmpL (shrL w z) (lZ 0) ≤ 0 ↔ nZ w / 32 ^ p = 0 := by
  have e := shr_lN h (k := 5 * p) (by omega) hz
  rw [nZ_lN, pow5] at e
  have hl : nZ w / 32 ^ p < 2 ^ 40 := Nat.lt_of_le_of_lt (Nat.div_le_self _ _) h
  rw [e]
  generalize nZ w / 32 ^ p = d at hl ⊢
  rw [← lZ_lN, cmpL_lZ (by omega) (by omega), cmpZ_le]
  omega
/-- the number of n letters from s on -/
def wN (B : Nat → Int) (s : Nat) : Nat → Nat
  | 0 => 0
  | n + 1 => wN B s n * 32 + (B (s + n) - 96).toNat
theorem wN_succ (B : Nat → Int) (s n : Nat) : wN B s (n + 1) = wN B s n * 32 + (B (s + n) - 96).toNat := rfl
section WN
variable {B : Nat → Int} {s : Nat}
theorem wN_lt : ∀ {n : Nat}, (∀ i, s ≤ i → i < s + n → isLe (B i)) → wN B s n < 32 ^ n
  | 0, _ => by show (0 : Nat) < 1; decide
  | n + 1, h => by
    have i := wN_lt (n := n) (fun i a b => h i a (by omega))
    have j := h (s + n) (by omega) (by omega)
    rw [wN_succ, Nat.pow_succ]
    omega
theorem wN_lt40 {n : Nat} (hn : n ≤ 8) (h : ∀ i, s ≤ i → i < s + n → isLe (B i)) : wN B s n < 2 ^ 40 := by
  have h1 := wN_lt h
  have h2 : 32 ^ n ≤ 32 ^ 8 := Nat.pow_le_pow_right (by decide) hn
  have h3 : 32 ^ 8 = 2 ^ 40 := by decide
  omega
theorem wv_wN : ∀ {n : Nat}, n ≤ 8 → (∀ i, s ≤ i → i < s + n → isLe (B i)) → wv B s n = lN (wN B s n)
  | 0, _, _ => lZ_lN 0
  | n + 1, hn, h => by
    have hn' : n ≤ 8 := by omega
    have h' : ∀ i, s ≤ i → i < s + n → isLe (B i) := fun i a b => h i a (by omega)
    have i := wv_wN (n := n) hn' h'
    have j := h (s + n) (by omega) (by omega)
    have l := wN_lt40 hn' h'
    show (shlL (wv B s n) 5) ||| (i2lZ (B (s + n) - 96)) = lN (wN B s n * 32 + (B (s + n) - 96).toNat)
    have e1 : shlL (wv B s n) 5 = lN (wN B s n * 32) := by
      rw [i]
      unfold shlL
      have e := wb_shl (wN B s n) (k := 5) (by decide)
      rw [nI_iZ] at e
      exact e
    have e2 : i2lZ (B (s + n) - 96) = lN (B (s + n) - 96).toNat := by
      rw [i2lZ_lZ (by omega), ← lZ_lN]
      congr 1
      omega
    rw [e1, e2]
    exact g_or (k := 5) (p := 32) rfl (by omega) (by omega)
theorem wN_div {n : Nat} (h : ∀ i, s ≤ i → i < s + n → isLe (B i)) : ∀ p, wN B s n / 32 ^ p = wN B s (n - p)
  | 0 => by rw [Nat.pow_zero, Nat.div_one, Nat.sub_zero]
  | p + 1 => by
    rw [Nat.pow_succ, ← Nat.div_div_eq_div_mul, wN_div h p]
    rcases Nat.lt_or_ge p n with q | q
    · obtain ⟨m, hm⟩ : ∃ m, n - p = m + 1 := ⟨n - p - 1, by omega⟩
      rw [hm, show n - (p + 1) = m by omega, wN_succ]
      have j := h (s + m) (by omega) (by omega)
      omega
    · rw [show n - p = 0 by omega, show n - (p + 1) = 0 by omega]
      show 0 / 32 = 0
      decide
theorem wv_GN {n : Nat} (hn : n ≤ 8) (h : ∀ i, s ≤ i → i < s + n → isLe (B i)) : GN (wv B s n) := by
  have l := wN_lt40 hn h
  rw [wv_wN hn h]
  have e : nZ (lN (wN B s n)) = wN B s n := nZ_of (by omega)
  refine ⟨by rw [e]; exact l, fun p hp => ?_⟩
  unfold ltr
  rw [e, wN_div h p]
  intro z
  rcases Nat.lt_or_ge p n with q | q
  · obtain ⟨m, hm⟩ : ∃ m, n - p = m + 1 := ⟨n - p - 1, by omega⟩
    rw [hm, wN_succ] at z
    have j := h (s + m) (by omega) (by omega)
    omega
  · rw [show n - p = 0 by omega]
    rfl
end WN
theorem tW_GN {B : Nat → Int} {E p : Nat} (hp : p ≤ E) (h : tK B E p = 1) : GN (tW B E p) := by
  have h1 := tS_b (B := B) hp
  unfold tK kS at h
  unfold tW tE
  by_cases e : E ≤ tS B E p
  · rw [if_pos e] at h; omega
  rw [if_neg e] at h
  by_cases e2 : isLe (B (tS B E p))
  · rw [if_pos e2] at h
    by_cases e4 : eS B E (tS B E p) - tS B E p ≤ 8
    · refine wv_GN e4 (fun i a b => ?_)
      have c : eS B E (tS B E p) = ru isLe B (E - tS B E p) (tS B E p) := by unfold eS; rw [if_neg e, if_pos e2]
      have := ru_b (P := isLe) (B := B) (f := E - tS B E p) (p := tS B E p)
      exact ru_in (P := isLe) a (by rw [← c]; omega)
    · rw [if_neg e4] at h; omega
  · rw [if_neg e2] at h
    repeat' split at h
    all_goals omega
/-- names that are told are names -/
def GNs (nm : Nat → Int64) (n : Nat) : Prop := ∀ v, v < n → GN (nm v)
abbrev GSt (t : St) : Prop := GNs t.2.1 (t.1 0).toNat
section GNT
variable {B : Nat → Int} {E : Nat}
theorem vtx_GN {σ : Nat → Int} {nm : Nat → Int64} {T p w0 : Nat} (h : PSt E (σ, nm, T, p)) (hg : GNs nm (σ 0).toNat) : PO (vtx B E σ nm T p w0) (fun _ _ => True) GSt := by
  obtain ⟨hP, hd, hT, hp⟩ := h
  dsimp only at hP hd hT hp
  have b0 := ms_0 hP.1
  unfold vtx
  by_cases c1 : σ 0 = 14
  · rw [if_pos c1]; trivial
  rw [if_neg c1]
  by_cases c2 : tK B E p ≠ 1
  · rw [if_pos c2]; trivial
  rw [if_neg c2]
  by_cases c3 : nmZ nm (tW B E p) (σ 0).toNat ≠ -1
  · rw [if_pos c3]; trivial
  rw [if_neg c3]
  by_cases c4 : ¬ nOK B E 1 99 (tE B E p)
  · rw [if_pos c4]; trivial
  rw [if_neg c4]
  show GNs (updr nm (σ 0).toNat (tW B E p)) (addV σ (tN B E (tE B E p)) 0).toNat
  have e0 : (addV σ (tN B E (tE B E p)) 0).toNat = (σ 0).toNat + 1 := by
    have : addV σ (tN B E (tE B E p)) 0 = σ 0 + 1 := by unfold addV; rw [updr_ne (by decide), updr_self]
    rw [this]; omega
  rw [e0]
  intro v hv
  by_cases cv : v = (σ 0).toNat
  · rw [cv, updr_self]; exact tW_GN hp (Classical.not_not.mp c2)
  · rw [updr_ne cv]; exact hg v (by omega)
theorem edg_GN {σ : Nat → Int} {nm : Nat → Int64} {T p w0 : Nat} (hg : GNs nm (σ 0).toNat) : PO (edg B E σ nm T p w0) (fun _ _ => True) GSt := by
  unfold edg
  by_cases c1 : σ 1 = 40
  · rw [if_pos c1]; trivial
  rw [if_neg c1]
  by_cases c2 : tK B E p ≠ 1
  · rw [if_pos c2]; trivial
  rw [if_neg c2]
  by_cases c3 : nmZ nm (tW B E p) (σ 0).toNat = -1
  · rw [if_pos c3]; trivial
  rw [if_neg c3]
  by_cases c4 : tK B E (tE B E p) ≠ 1
  · rw [if_pos c4]; trivial
  rw [if_neg c4]
  by_cases c5 : nmZ nm (tW B E (tE B E p)) (σ 0).toNat = -1
  · rw [if_pos c5]; trivial
  rw [if_neg c5]
  by_cases c6 : nmZ nm (tW B E (tE B E p)) (σ 0).toNat = nmZ nm (tW B E p) (σ 0).toNat
  · rw [if_pos c6]; trivial
  rw [if_neg c6]
  by_cases c7 : edgeZ σ (nmZ nm (tW B E p) (σ 0).toNat) (nmZ nm (tW B E (tE B E p)) (σ 0).toNat) (σ 1).toNat ≠ -1
  · rw [if_pos c7]; trivial
  rw [if_neg c7]
  by_cases c8 : ¬ nOK B E 1 99 (tE B E (tE B E p))
  · rw [if_pos c8]; trivial
  rw [if_neg c8]
  show GNs nm (addE σ (nmZ nm (tW B E p) (σ 0).toNat) (nmZ nm (tW B E (tE B E p)) (σ 0).toNat) (tN B E (tE B E (tE B E p))) 0).toNat
  have e0 : addE σ (nmZ nm (tW B E p) (σ 0).toNat) (nmZ nm (tW B E (tE B E p)) (σ 0).toNat) (tN B E (tE B E (tE B E p))) 0 = σ 0 := by
    unfold addE; rw [updr_ne (by omega), updr_ne (by omega), updr_ne (by omega), updr_ne (by omega)]
  rw [e0]
  exact hg
theorem onc_GN {w : Nat} {lo hi : Int} {σ : Nat → Int} {nm : Nat → Int64} {T p w0 : Nat} (hg : GNs nm (σ 0).toNat) : PO (onc B E w lo hi σ nm T p w0) (fun _ _ => True) GSt := by
  unfold onc
  by_cases c1 : T.testBit w = true
  · rw [if_pos c1]; trivial
  rw [if_neg c1]
  by_cases c2 : ¬ nOK B E lo hi p
  · rw [if_pos c2]; trivial
  rw [if_neg c2]
  show GNs nm (updr σ (w + 2) (tN B E p) 0).toNat
  rw [updr_ne (by omega)]
  exact hg
end GNT
section GNU
variable {B : Nat → Int} {E : Nat}
theorem stb_GN {t : St} (h : PSt E t) (hg : GSt t) : PO (stb B E t) (fun _ _ => True) GSt := by
  have b1 := tE_b (B := B) h.2.2.2
  have h2 : PSt E (t.1, t.2.1, t.2.2.1, tE B E t.2.2.2) := ⟨h.1, h.2.1, h.2.2.1, b1.2.1⟩
  unfold stb
  split
  · exact vtx_GN h2 hg
  split
  · exact edg_GN hg
  split
  · exact onc_GN hg
  split
  · exact onc_GN hg
  split
  · exact onc_GN hg
  · trivial
theorem stm_GN {t : St} (h : PSt E t) (h0 : tK B E t.2.2.2 ≠ 0) (hg : GSt t) : PO (stm B E t) (fun _ _ => True) GSt := by
  have h1 := stb_GN (B := B) h hg
  unfold stm
  cases hr : stb B E t with
  | error e => trivial
  | ok u =>
    rw [hr] at h1
    show PO (semi B E u) _ _
    unfold semi
    split
    · exact h1
    · trivial
theorem txt_GN : ∀ {f : Nat} {t : St}, PSt E t → GSt t → PO (txt B E f t) (fun _ _ => True) GSt
  | 0, t, _, _ => trivial
  | f + 1, t, h, hg => by
    unfold txt
    split
    · exact hg
    · rename_i h0
      have h1 := stm_PO h h0
      have h2 := stm_GN h h0 hg
      cases hr : stm B E t with
      | error e => trivial
      | ok u => rw [hr] at h1 h2; exact txt_GN h1.1 h2
end GNU

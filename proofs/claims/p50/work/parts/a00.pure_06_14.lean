/-! rows on bits, shifts and unsigned numbers, to paste: each family out of a closed proof of our own, whole with what it rests on; each by itself clean at Lean in its own claim (generation 39, form 5). Take a family whole -/
/-! ===== Int32 by its bits: bt x i ===== -/
def bt (x : Int32) (i : Nat) : Bool := x.toBitVec.getLsbD i
theorem b_ext {x y : Int32} (h : ∀ i, i < 32 → bt x i = bt y i) : x = y := Int32.toBitVec_inj.mp (BitVec.eq_of_getLsbD_eq (fun i hi => h i hi))
theorem b_or (x y : Int32) (i : Nat) : bt (x ||| y) i = (bt x i || bt y i) := by unfold bt; rw [Int32.toBitVec_or, BitVec.getLsbD_or]
theorem b_and (x y : Int32) (i : Nat) : bt (x &&& y) i = (bt x i && bt y i) := by unfold bt; rw [Int32.toBitVec_and, BitVec.getLsbD_and]
theorem b_xor (x y : Int32) (i : Nat) : bt (x ^^^ y) i = (bt x i ^^ bt y i) := by unfold bt; rw [Int32.toBitVec_xor, BitVec.getLsbD_xor]
theorem b_big {x : Int32} {i : Nat} (h : 32 ≤ i) : bt x i = false := BitVec.getLsbD_of_ge _ _ h
theorem b_255 (i : Nat) : bt 255 i = decide (i < 8) := by
  rcases Nat.lt_or_ge i 32 with h | h
  · exact (by decide +kernel : ∀ i, i < 32 → bt 255 i = decide (i < 8)) i h
  · rw [b_big h, decide_eq_false (by omega)]
theorem b_65535 (i : Nat) : bt 65535 i = decide (i < 16) := by
  rcases Nat.lt_or_ge i 32 with h | h
  · exact (by decide +kernel : ∀ i, i < 32 → bt 65535 i = decide (i < 16)) i h
  · rw [b_big h, decide_eq_false (by omega)]
theorem b_m1 : ∀ i, i < 32 → bt (-1) i = true := by decide +kernel
theorem b_0 (i : Nat) : bt 0 i = false := BitVec.getLsbD_zero
theorem s_l : ∀ n, n < 32 → ((nI n &&& 31).toBitVec.smod 32).toNat = n := by decide +kernel
theorem s_u : ∀ n, n < 32 → (((nI n).toUInt32 &&& Int32.toUInt32 31).toBitVec % 32).toNat = n := by decide +kernel
theorem b_shl (n : Nat) (hn : n < 32) (x : Int32) {i : Nat} (hi : i < 32) : bt (x <<< (nI n &&& 31)) i = (decide (n ≤ i) && bt x (i - n)) := by
  unfold bt
  rw [Int32.toBitVec_shiftLeft]
  show (x.toBitVec <<< ((nI n &&& 31).toBitVec.smod 32).toNat).getLsbD i = _
  rw [s_l n hn, BitVec.getLsbD_shiftLeft]
  rcases Nat.lt_or_ge i n with h | h
  · simp [h, Nat.not_le.mpr h]
  · simp [hi, h, Nat.not_lt.mpr h]
theorem b_ushr (n : Nat) (hn : n < 32) (x : Int32) (i : Nat) : bt ((x.toUInt32 >>> ((nI n).toUInt32 &&& Int32.toUInt32 31)).toInt32) i = bt x (n + i) := by
  show (x.toUInt32 >>> ((nI n).toUInt32 &&& Int32.toUInt32 31)).toBitVec.getLsbD i = x.toUInt32.toBitVec.getLsbD (n + i)
  rw [UInt32.toBitVec_shiftRight]
  show (x.toUInt32.toBitVec >>> (((nI n).toUInt32 &&& Int32.toUInt32 31).toBitVec % 32).toNat).getLsbD i = _
  rw [s_u n hn, BitVec.getLsbD_ushiftRight]
theorem b_sshr (n : Nat) (hn : n < 32) (x : Int32) {i : Nat} (hi : i < 32) : bt (x >>> (nI n &&& 31)) i = if n + i < 32 then bt x (n + i) else bt x 31 := by
  unfold bt
  rw [Int32.toBitVec_shiftRight]
  show (x.toBitVec.sshiftRight ((nI n &&& 31).toBitVec.smod 32).toNat).getLsbD i = _
  rw [s_l n hn, BitVec.getLsbD_sshiftRight, BitVec.msb_eq_getLsbD_last]
  simp [hi]
theorem b_shl8 (x : Int32) {i : Nat} (hi : i < 32) : bt (x <<< ((8 : Int32) &&& 31)) i = (decide (8 ≤ i) && bt x (i - 8)) := b_shl 8 (by omega) x hi
theorem b_shl16 (x : Int32) {i : Nat} (hi : i < 32) : bt (x <<< ((16 : Int32) &&& 31)) i = (decide (16 ≤ i) && bt x (i - 16)) := b_shl 16 (by omega) x hi
theorem b_shl24 (x : Int32) {i : Nat} (hi : i < 32) : bt (x <<< ((24 : Int32) &&& 31)) i = (decide (24 ≤ i) && bt x (i - 24)) := b_shl 24 (by omega) x hi
theorem b_sshr8 (x : Int32) {i : Nat} (hi : i < 32) : bt (x >>> ((8 : Int32) &&& 31)) i = if 8 + i < 32 then bt x (8 + i) else bt x 31 := b_sshr 8 (by omega) x hi
/-! ===== nI under and, xor, >>>, one bit, 65535 ===== -/
theorem nx_and (a b : Nat) : nI a &&& nI b = nI (a &&& b) := by
  apply Int32.toBitVec_inj.1
  show BitVec.ofNat 32 a &&& BitVec.ofNat 32 b = BitVec.ofNat 32 (a &&& b)
  apply BitVec.eq_of_getLsbD_eq
  intro i hi
  simp [hi]
theorem nx_xor (a b : Nat) : nI a ^^^ nI b = nI (a ^^^ b) := by
  apply Int32.toBitVec_inj.1
  show BitVec.ofNat 32 a ^^^ BitVec.ofNat 32 b = BitVec.ofNat 32 (a ^^^ b)
  apply BitVec.eq_of_getLsbD_eq
  intro i hi
  simp [hi]
theorem nx_cnt : ∀ j : Fin 32, (UInt32.ofNat j.val &&& Int32.toUInt32 31).toNat % 32 = j.val := by decide +kernel
theorem nx_ush {k j : Nat} (hk : k < 65536) (hj : j < 32) : ((nI k).toUInt32 >>> ((nI j).toUInt32 &&& Int32.toUInt32 31)).toInt32 = nI (k >>> j) := by
  have hs : k >>> j ≤ k := by
    rw [Nat.shiftRight_eq_div_pow]
    exact Nat.div_le_self _ _
  have e2 : UInt32.ofNat k >>> (UInt32.ofNat j &&& Int32.toUInt32 31) = UInt32.ofNat (k >>> j) := by
    apply UInt32.toNat_inj.1
    have h1 : (UInt32.ofNat k).toNat = k := Nat.mod_eq_of_lt (by omega)
    have h2 : (UInt32.ofNat (k >>> j)).toNat = k >>> j := Nat.mod_eq_of_lt (by omega)
    rw [UInt32.toNat_shiftRight, nx_cnt ⟨j, hj⟩, h1, h2]
  show (UInt32.ofNat k >>> (UInt32.ofNat j &&& Int32.toUInt32 31)).toInt32 = _
  rw [e2]
  rfl
theorem nx_bit {k j : Nat} (hk : k < 65536) (hj : j < 16) : (((nI k).toUInt32 >>> ((nI j).toUInt32 &&& Int32.toUInt32 31)).toInt32 &&& 1) = 0 ↔ k.testBit j = false := by
  rw [nx_ush hk (by omega)]
  show nI (k >>> j) &&& nI 1 = 0 ↔ _
  rw [nx_and, Nat.and_one_is_mod, ← nI_0, nI_eq (by omega) (by omega), Nat.testBit_eq_decide_div_mod_eq, Nat.shiftRight_eq_div_pow, decide_eq_false_iff_not]
  generalize k / 2 ^ j = z
  omega
theorem nx_mod (k : Nat) : nI k &&& 65535 = nI (k % 65536) := by
  show nI k &&& nI 65535 = _
  rw [nx_and, show (65535 : Nat) = 2 ^ 16 - 1 from rfl, Nat.and_two_pow_sub_one_eq_mod]
theorem nx_m16 {k : Nat} (h : k < 65536) : nI k &&& 65535 = nI k := by rw [nx_mod, Nat.mod_eq_of_lt h]
theorem nx_mask (x : Int32) : ∃ k, k < 65536 ∧ x &&& 65535 = nI k := by
  have e : x = nI x.toBitVec.toNat := by
    apply Int32.toBitVec_inj.1
    show x.toBitVec = BitVec.ofNat 32 x.toBitVec.toNat
    simp
  refine ⟨x.toBitVec.toNat % 65536, Nat.mod_lt _ (by omega), ?_⟩
  rw [← nx_mod, ← e]
/-! ===== Int32 as a set of bits: test, set ===== -/
def nf_M (m : Int32) : Nat := 4294967296 - m.toBitVec.toNat
theorem nf_sh : ∀ l, l < 32 → ((1 : Int32) <<< (nI l &&& 31)).toBitVec = BitVec.twoPow 32 l := by decide +kernel
theorem nf_sl : ∀ l, l < 32 → (((nI l).toUInt32 &&& Int32.toUInt32 31).toBitVec % 32).toNat = l := by decide +kernel
theorem nf_tp : ∀ l, l < 32 → BitVec.twoPow 32 l ≠ 0#32 := by decide +kernel
theorem nf_bit (m : Int32) (l : Nat) (hl : l < 32) : ((m.toUInt32 >>> ((nI l).toUInt32 &&& Int32.toUInt32 31)).toInt32 &&& 1) = 0 ↔ (m &&& ((1 : Int32) <<< (nI l &&& 31))) = 0 := by
  have e : ((m.toUInt32 >>> ((nI l).toUInt32 &&& Int32.toUInt32 31)).toInt32).toBitVec = m.toBitVec >>> l := by
    show m.toBitVec >>> (((nI l).toUInt32 &&& Int32.toUInt32 31).toBitVec % 32) = m.toBitVec >>> l
    rw [BitVec.ushiftRight_eq', nf_sl l hl]
  rw [← Int32.toBitVec_inj, ← Int32.toBitVec_inj, Int32.toBitVec_and, Int32.toBitVec_and, nf_sh l hl, e, BitVec.and_twoPow]
  show (m.toBitVec >>> l &&& 1#32) = 0#32 ↔ _ = 0#32
  rw [BitVec.and_one_eq_setWidth_ofBool_getLsbD, BitVec.getLsbD_ushiftRight, Nat.add_zero]
  cases hb : m.toBitVec.getLsbD l
  · exact ⟨fun _ => by simp, fun _ => by decide⟩
  · exact ⟨fun z => absurd z (by decide), fun z => absurd ((if_pos rfl).symm.trans z) (nf_tp l hl)⟩
theorem nf_gr (m k : Int32) (h : m &&& k = 0) (hk : k ≠ 0) : nf_M (m ||| k) < nf_M m := by
  have hm := m.toBitVec.isLt
  have hm' := (m ||| k).toBitVec.isLt
  have h1 : m.toBitVec.toNat ≤ (m ||| k).toBitVec.toNat := by
    rw [Int32.toBitVec_or, BitVec.toNat_or]
    exact Nat.left_le_or
  have h2 : m.toBitVec.toNat ≠ (m ||| k).toBitVec.toNat := by
    intro e
    have e2 : m = m ||| k := Int32.toBitVec_inj.mp (BitVec.eq_of_toNat_eq e)
    apply hk
    apply Int32.toBitVec_inj.mp
    show k.toBitVec = 0#32
    apply BitVec.eq_of_getLsbD_eq
    intro i hi
    have a : m.toBitVec.getLsbD i = (m.toBitVec.getLsbD i || k.toBitVec.getLsbD i) := by rw [← BitVec.getLsbD_or, ← Int32.toBitVec_or, ← e2]
    have b : (m.toBitVec.getLsbD i && k.toBitVec.getLsbD i) = false := by
      rw [← BitVec.getLsbD_and, ← Int32.toBitVec_and, h]
      exact BitVec.getLsbD_zero
    rw [BitVec.getLsbD_zero]
    revert a b
    cases m.toBitVec.getLsbD i <;> cases k.toBitVec.getLsbD i <;> simp
  unfold nf_M
  omega
/-! ===== a byte read unsigned ===== -/
theorem bp_b (x : Int32) : x.toInt8.toInt32 &&& 255 = x &&& 255 := by
  apply Int32.toBitVec_inj.mp
  rw [Int32.toBitVec_and, Int32.toBitVec_and, Int8.toBitVec_toInt32, Int32.toBitVec_toInt8]
  apply BitVec.eq_of_getLsbD_eq
  intro i hi
  rw [BitVec.getLsbD_and, BitVec.getLsbD_and]
  have hm : ∀ i < 32, 8 ≤ i → (255 : Int32).toBitVec.getLsbD i = false := by decide
  rcases Nat.lt_or_ge i 8 with z | z
  · rw [BitVec.getLsbD_signExtend, BitVec.getLsbD_signExtend, if_pos z, if_pos hi]
    simp only [z, hi, decide_true, Bool.true_and]
  · rw [hm i hi z]; simp
/-! ===== the char cast and 65535 ===== -/
/-! ===== Int64 as a set of bits: test, set, clear ===== -/
theorem ts_nf {x : Bool} (h : ¬ x = false) : x = true := by cases x <;> first | rfl | exact absurd rfl h
theorem ts_nt {x : Bool} (h : ¬ x = true) : x = false := by cases x <;> first | rfl | exact absurd rfl h
theorem ts_bit {w : Int64} {s : UInt64} {j : Nat} (hj : j < 64) (hs : s.toNat = j) : ((w.toUInt64 >>> s).toInt64 &&& 1) = 0 ↔ w.toBitVec.getLsbD j = false := by
  have e : (w.toUInt64 >>> s).toInt64.toBitVec = w.toBitVec >>> j := by
    apply BitVec.eq_of_toNat_eq
    show (w.toUInt64 >>> s).toNat = _
    rw [UInt64.toNat_shiftRight, hs, Nat.mod_eq_of_lt hj, BitVec.toNat_ushiftRight]
    rfl
  rw [← Int64.toBitVec_inj, Int64.toBitVec_and, e]
  show w.toBitVec >>> j &&& 1#64 = 0#64 ↔ _
  constructor
  · intro h
    have t := congrArg (fun x => x.getLsbD 0) h
    simpa using t
  · intro h
    apply BitVec.eq_of_getLsbD_eq
    intro i hi
    cases i with
    | zero => simp [h]
    | succ i => simp
theorem ts_or {w m : Int64} {j : Nat} (hj : j < 64) (hm : m.toBitVec = BitVec.twoPow 64 j) : (w ||| m) = w ↔ w.toBitVec.getLsbD j = true := by
  rw [← Int64.toBitVec_inj, Int64.toBitVec_or, hm]
  constructor
  · intro h
    have t := congrArg (fun x => x.getLsbD j) h
    simp only [BitVec.getLsbD_or, BitVec.getLsbD_twoPow] at t
    simpa [hj] using t.symm
  · intro h
    apply BitVec.eq_of_getLsbD_eq
    intro i hi
    rw [BitVec.getLsbD_or, BitVec.getLsbD_twoPow]
    by_cases e : j = i
    · subst e; rw [h, Bool.true_or]
    · simp [e]
theorem ts_and {w m : Int64} {j : Nat} (hj : j < 64) (hm : m.toBitVec = BitVec.twoPow 64 j) : (w &&& (m ^^^ (-1))) = w ↔ w.toBitVec.getLsbD j = false := by
  have ha : (-1 : Int64).toBitVec = BitVec.allOnes 64 := by decide
  rw [← Int64.toBitVec_inj, Int64.toBitVec_and, Int64.toBitVec_xor, hm, ha]
  constructor
  · intro h
    have t := congrArg (fun x => x.getLsbD j) h
    simp only [BitVec.getLsbD_and, BitVec.getLsbD_xor, BitVec.getLsbD_twoPow, BitVec.getLsbD_allOnes] at t
    simpa [hj] using t.symm
  · intro h
    apply BitVec.eq_of_getLsbD_eq
    intro i hi
    rw [BitVec.getLsbD_and, BitVec.getLsbD_xor, BitVec.getLsbD_twoPow, BitVec.getLsbD_allOnes]
    by_cases e : j = i
    · subst e; rw [h, Bool.false_and]
    · simp [e, hi]
/-! ===== lN n to 2^64: shifts, and, or, masks, one bit ===== -/
theorem wb_tb (n : Nat) : (lN n).toBitVec = BitVec.ofNat 64 n := rfl
theorem wb_inj {a b : Int64} (h : a.toBitVec = b.toBitVec) : a = b := Int64.toBitVec_inj.mp h
theorem wb_tn {n : Nat} (h : n < 2 ^ 64) : (lN n).toBitVec.toNat = n := by rw [wb_tb, BitVec.toNat_ofNat, Nat.mod_eq_of_lt h]
theorem wb_of (x : Int64) : ∃ n, n < 2 ^ 64 ∧ x = lN n := ⟨x.toBitVec.toNat, x.toBitVec.isLt, wb_inj (by rw [wb_tb]; simp)⟩
theorem wb_of32 (x : Int32) : ∃ n, n < 2 ^ 32 ∧ x = nI n := ⟨x.toBitVec.toNat, x.toBitVec.isLt, Int32.toBitVec_inj.mp (by show _ = BitVec.ofNat 32 _; simp)⟩
theorem wb_c : ∀ k, k < 64 → ((nI k).toInt64 &&& 63) = lN k := by decide +kernel
theorem wb_cu : ∀ k, k < 64 → ((nI k).toInt64.toUInt64 &&& Int64.toUInt64 63) = UInt64.ofNat k := by decide +kernel
theorem wb_sm : ∀ k, k < 64 → (BitVec.ofNat 64 k).smod 64 = BitVec.ofNat 64 k := by decide +kernel
theorem wb_pw {a b : Nat} (h : a ≤ b) : 2 ^ b = 2 ^ a * 2 ^ (b - a) := by rw [← Nat.pow_add]; congr 1; omega
theorem wb_lt2 {a b : Nat} (h : a < b) : 2 ^ a < 2 ^ b := Nat.pow_lt_pow_right (by decide) h
theorem wb_mod (n : Nat) : lN n = lN (n % 2 ^ 64) := wb_inj (by rw [wb_tb, wb_tb]; apply BitVec.eq_of_toNat_eq; rw [BitVec.toNat_ofNat, BitVec.toNat_ofNat, Nat.mod_mod])
theorem wb_shr {n k : Nat} (hn : n < 2 ^ 64) (hk : k < 64) : ((lN n).toUInt64 >>> ((nI k).toInt64.toUInt64 &&& Int64.toUInt64 63)).toInt64 = lN (n / 2 ^ k) := by
  rw [wb_cu k hk]
  apply wb_inj
  apply BitVec.eq_of_toNat_eq
  show ((lN n).toUInt64 >>> UInt64.ofNat k).toNat = (BitVec.ofNat 64 _).toNat
  have h1 : (UInt64.ofNat k).toNat = k := by
    show (BitVec.ofNat 64 k).toNat = k
    rw [BitVec.toNat_ofNat, Nat.mod_eq_of_lt (by omega)]
  have h2 : (lN n).toUInt64.toNat = n := wb_tn hn
  rw [UInt64.toNat_shiftRight, h1, h2, Nat.mod_eq_of_lt hk, Nat.shiftRight_eq_div_pow, BitVec.toNat_ofNat, Nat.mod_eq_of_lt (Nat.lt_of_le_of_lt (Nat.div_le_self _ _) hn)]
theorem wb_shl (n : Nat) {k : Nat} (hk : k < 64) : lN n <<< ((nI k).toInt64 &&& 63) = lN (n * 2 ^ k) := by
  rw [wb_c k hk]
  apply wb_inj
  rw [Int64.toBitVec_shiftLeft, wb_tb, wb_tb, wb_tb, wb_sm k hk]
  apply BitVec.eq_of_toNat_eq
  rw [BitVec.shiftLeft_eq', BitVec.toNat_shiftLeft, BitVec.toNat_ofNat, BitVec.toNat_ofNat, BitVec.toNat_ofNat, Nat.mod_eq_of_lt (show k < 2 ^ 64 by omega), Nat.shiftLeft_eq, Nat.mul_mod, Nat.mod_mod, ← Nat.mul_mod]
theorem wb_and {a b : Nat} (ha : a < 2 ^ 64) (hb : b < 2 ^ 64) : lN a &&& lN b = lN (a &&& b) := by
  apply wb_inj
  rw [Int64.toBitVec_and, wb_tb, wb_tb, wb_tb]
  apply BitVec.eq_of_toNat_eq
  rw [BitVec.toNat_and, BitVec.toNat_ofNat, BitVec.toNat_ofNat, BitVec.toNat_ofNat, Nat.mod_eq_of_lt ha, Nat.mod_eq_of_lt hb, Nat.mod_eq_of_lt (Nat.and_lt_two_pow _ hb)]
theorem wb_or {a b : Nat} (ha : a < 2 ^ 64) (hb : b < 2 ^ 64) : lN a ||| lN b = lN (a ||| b) := by
  apply wb_inj
  rw [Int64.toBitVec_or, wb_tb, wb_tb, wb_tb]
  apply BitVec.eq_of_toNat_eq
  rw [BitVec.toNat_or, BitVec.toNat_ofNat, BitVec.toNat_ofNat, BitVec.toNat_ofNat, Nat.mod_eq_of_lt ha, Nat.mod_eq_of_lt hb, Nat.mod_eq_of_lt (Nat.or_lt_two_pow ha hb)]
theorem wb_mask {n k : Nat} (hn : n < 2 ^ 64) (hk : k < 64) : lN n &&& lN (2 ^ k - 1) = lN (n % 2 ^ k) := by
  rw [wb_and hn (by have := wb_lt2 hk; omega), Nat.and_two_pow_sub_one_eq_mod]
theorem wb_a1 {n : Nat} (hn : n < 2 ^ 64) : lN n &&& 1 = lN (n % 2) := wb_mask (k := 1) hn (by decide)
theorem wb_bit {n k : Nat} (hn : n < 2 ^ 64) (hk : k < 64) : ((lN n).toUInt64 >>> ((nI k).toInt64.toUInt64 &&& Int64.toUInt64 63)).toInt64 &&& 1 = lN (n / 2 ^ k % 2) := by
  rw [wb_shr hn hk, wb_a1 (Nat.lt_of_le_of_lt (Nat.div_le_self _ _) hn)]
theorem wb_xor {q k : Nat} (hk : k < 63) (h : 2 ^ k ≤ q) (h2 : q < 2 ^ (k + 1)) : lN q ^^^ lN (2 ^ k) = lN (q - 2 ^ k) := by
  obtain ⟨r, rfl⟩ : ∃ r, q = 2 ^ k + r := ⟨q - 2 ^ k, by omega⟩
  have hr : r < 2 ^ k := by rw [Nat.pow_succ] at h2; omega
  have hx : (2 ^ k + r) ^^^ 2 ^ k = r := by
    apply Nat.eq_of_testBit_eq
    intro i
    rw [Nat.testBit_xor, Nat.testBit_two_pow]
    rcases Nat.lt_trichotomy i k with h | h | h
    · rw [Nat.testBit_two_pow_add_gt h]
      simp [show ¬ k = i by omega]
    · subst h
      rw [Nat.testBit_two_pow_add_eq]
      simp
    · have a1 : 2 ^ (k + 1) ≤ 2 ^ i := Nat.pow_le_pow_right (by decide) h
      rw [Nat.testBit_lt_two_pow (show 2 ^ k + r < 2 ^ i by omega), Nat.testBit_lt_two_pow (show r < 2 ^ i by omega)]
      simp [show ¬ k = i by omega]
  have b1 := wb_lt2 (show k + 1 < 64 by omega)
  have b2 := wb_lt2 (show k < 64 by omega)
  apply wb_inj
  rw [Int64.toBitVec_xor, wb_tb, wb_tb, wb_tb]
  apply BitVec.eq_of_toNat_eq
  rw [BitVec.toNat_xor, BitVec.toNat_ofNat, BitVec.toNat_ofNat, BitVec.toNat_ofNat, Nat.mod_eq_of_lt (by omega : 2 ^ k + r < 2 ^ 64), Nat.mod_eq_of_lt b2, hx, Nat.add_sub_cancel_left, Nat.mod_eq_of_lt (by omega)]
/-! ===== lN: masks, 'or' of parts that don't overlap is a sum ===== -/
theorem u_tn {n : Nat} (h : n < 2 ^ 64) : (UInt64.ofNat n).toNat = n := Nat.mod_eq_of_lt h
theorem g_and {a b c : Nat} (ha : a < 2 ^ 64) (hb : b < 2 ^ 64) (hc : a &&& b = c) : lN a &&& lN b = lN c := by
  subst hc
  have h : UInt64.ofNat a &&& UInt64.ofNat b = UInt64.ofNat (a &&& b) := UInt64.toNat_inj.mp (by rw [UInt64.toNat_and, u_tn ha, u_tn hb, u_tn (Nat.and_lt_two_pow a hb)])
  have h2 := congrArg UInt64.toInt64 h
  exact h2
theorem g_and1 {a : Nat} (ha : a < 2 ^ 64) : lN a &&& 1 = lN (a % 2) := g_and (b := 1) ha (by decide) (Nat.and_two_pow_sub_one_eq_mod a 1)
theorem g_mask {a s p : Nat} (hp : 2 ^ s = p) (hs : s < 64) (ha : a < 2 ^ 64) : lN a &&& lN (p - 1) = lN (a % p) := by
  subst hp
  have := Nat.pow_lt_pow_right (show 1 < 2 by decide) hs
  exact g_and ha (by omega) (Nat.and_two_pow_sub_one_eq_mod a s)
theorem g_or {k p a b : Nat} (hp : 2 ^ k = p) (ha : a < p) (h : b * p + a < 2 ^ 64) : lN (b * p) ||| lN a = lN (b * p + a) := by
  subst hp
  have h1 : b * 2 ^ k ||| a = b * 2 ^ k + a := by rw [← Nat.shiftLeft_eq, Nat.shiftLeft_add_eq_or_of_lt ha]
  have h3 : UInt64.ofNat (b * 2 ^ k) ||| UInt64.ofNat a = UInt64.ofNat (b * 2 ^ k + a) := UInt64.toNat_inj.mp (by rw [UInt64.toNat_or, u_tn (by omega), u_tn (by omega), u_tn h, h1])
  have h2 := congrArg UInt64.toInt64 h3
  exact h2
theorem g_or' {k p a b : Nat} (hp : 2 ^ k = p) (ha : a < p) (h : a + b * p < 2 ^ 64) : lN a ||| lN (b * p) = lN (a + b * p) := by
  rw [Int64.or_comm, g_or hp ha (by omega), Nat.add_comm]
theorem g_ushr {a k p : Nat} {y : UInt64} (hy : y = UInt64.ofNat k) (hk : k < 64) (hp : 2 ^ k = p) (ha : a < 2 ^ 64) : ((lN a).toUInt64 >>> y).toInt64 = lN (a / p) := by
  subst hy hp
  have h : UInt64.ofNat a >>> UInt64.ofNat k = UInt64.ofNat (a / 2 ^ k) := UInt64.toNat_inj.mp (by rw [UInt64.toNat_shiftRight, u_tn ha, u_tn (by omega), u_tn (Nat.lt_of_le_of_lt (Nat.div_le_self _ _) ha), Nat.mod_eq_of_lt hk, Nat.shiftRight_eq_div_pow])
  have h2 := congrArg UInt64.toInt64 h
  exact h2
theorem g_shl {a k p : Nat} {y : Int64} (hy : y.toBitVec.smod 64 = BitVec.ofNat 64 k) (hk : k < 64) (hp : 2 ^ k = p) (ha : a < 2 ^ 64) : lN a <<< y = lN (a * p) := by
  subst hp
  apply Int64.toBitVec_inj.mp
  rw [Int64.toBitVec_shiftLeft, hy]
  apply BitVec.eq_of_toNat_eq
  have hb : (lN a).toBitVec.toNat = a := Nat.mod_eq_of_lt ha
  have hk' : (BitVec.ofNat 64 k).toNat = k := Nat.mod_eq_of_lt (by omega)
  have h : ((lN a).toBitVec <<< BitVec.ofNat 64 k).toNat = (a * 2 ^ k) % 2 ^ 64 := by simp only [BitVec.shiftLeft_eq', BitVec.toNat_shiftLeft, hb, hk', Nat.shiftLeft_eq]
  exact h
/-! ===== lN to 2^62 under >> and >>> ===== -/
theorem pf_lI {a : Nat} (h : a < 2 ^ 63) : (lN a).toInt = (a : Int) := lg_ofNat_toInt h
theorem pf_shr {a d : Nat} {D : Int64} (hD : (D.toBitVec.smod 64).toNat = d) (h : a < 2 ^ 62) : lN a >>> D = lN (a / 2 ^ d) := by
  have hd : a / 2 ^ d ≤ a := Nat.div_le_self _ _
  apply Int64.toInt_inj.mp
  have e : (lN a >>> D).toInt = (lN a).toInt >>> d := by
    rw [← hD]
    exact BitVec.toInt_sshiftRight ..
  rw [e, Int.shiftRight_eq_div_pow, pf_lI (by omega), pf_lI (by omega)]
  rfl
theorem pf_ushr {a d : Nat} {D : UInt64} (hD : D.toNat % 64 = d) (h : a < 2 ^ 62) : ((lN a).toUInt64 >>> D).toInt64 = lN (a / 2 ^ d) := by
  have hd : a / 2 ^ d ≤ a := Nat.div_le_self _ _
  have e : (lN a).toUInt64 >>> D = UInt64.ofNat (a / 2 ^ d) := UInt64.toNat_inj.mp (by
    rw [UInt64.toNat_shiftRight, hD, Nat.shiftRight_eq_div_pow, UInt64.toNat_ofNat']
    show (UInt64.ofNat a).toNat / 2 ^ d = _
    rw [UInt64.toNat_ofNat', Nat.mod_eq_of_lt (by omega), Nat.mod_eq_of_lt (by omega)])
  rw [e]
  rfl
theorem pf_andw (x : Int64) : ∃ m, m < 2 ^ 32 ∧ x &&& 4294967295 = lN m := ⟨x.toBitVec.toNat % 2 ^ 32, Nat.mod_lt _ (by decide), Int64.toBitVec_inj.mp (BitVec.eq_of_toNat_eq (by
  show (x.toBitVec &&& 4294967295#64).toNat = (BitVec.ofNat 64 (x.toBitVec.toNat % 2 ^ 32)).toNat
  rw [BitVec.toNat_and, show (4294967295#64).toNat = 2 ^ 32 - 1 from by decide, Nat.and_two_pow_sub_one_eq_mod, BitVec.toNat_ofNat]
  omega))⟩
/-! ===== Int64 as an unsigned number: uN x ===== -/
def uN (x : Int64) : Nat := x.toUInt64.toNat
theorem uN_lt (x : Int64) : uN x < 18446744073709551616 := x.toUInt64.toNat_lt
theorem uN_inj {x y : Int64} (h : uN x = uN y) : x = y := congrArg UInt64.toInt64 (UInt64.toNat_inj.mp h)
theorem uN_add (x y : Int64) : uN (x + y) = (uN x + uN y) % 18446744073709551616 := by
  show (x.toUInt64 + y.toUInt64).toNat = _
  exact UInt64.toNat_add _ _
theorem uN_mul (x y : Int64) : uN (x * y) = (uN x * uN y) % 18446744073709551616 := by
  show (x.toUInt64 * y.toUInt64).toNat = _
  exact UInt64.toNat_mul _ _
theorem uN_shl (x : Int64) : uN (x <<< ((1 : Int32).toInt64 &&& 63)) = (2 * uN x) % 18446744073709551616 := by
  have h : (((1 : Int32).toInt64 &&& 63).toBitVec.smod 64).toNat = 1 := by decide
  show (x.toBitVec <<< (((1 : Int32).toInt64 &&& 63).toBitVec.smod 64).toNat).toNat = _
  rw [h, BitVec.toNat_shiftLeft, Nat.shiftLeft_eq, Nat.mul_comm]
  rfl
theorem uN_shr (x : Int64) (s : UInt64) : uN (x.toUInt64 >>> s).toInt64 = uN x / 2 ^ (s.toNat % 64) := by
  show (x.toUInt64 >>> s).toNat = _
  rw [UInt64.toNat_shiftRight, Nat.shiftRight_eq_div_pow]
  rfl
theorem uN_s32 (x : Int64) : uN (x.toUInt64 >>> ((32 : Int32).toInt64.toUInt64 &&& Int64.toUInt64 63)).toInt64 = uN x / 4294967296 := by
  have h : ((32 : Int32).toInt64.toUInt64 &&& Int64.toUInt64 63).toNat % 64 = 32 := by decide
  rw [uN_shr, h]
theorem uN_s63 (x : Int64) : uN (x.toUInt64 >>> ((63 : Int32).toInt64.toUInt64 &&& Int64.toUInt64 63)).toInt64 = uN x / 9223372036854775808 := by
  have h : ((63 : Int32).toInt64.toUInt64 &&& Int64.toUInt64 63).toNat % 64 = 63 := by decide
  rw [uN_shr, h]
theorem uN_lo (x : Int64) : uN (x &&& 4294967295) = uN x % 4294967296 := by
  show (x.toUInt64 &&& Int64.toUInt64 4294967295).toNat = _
  rw [UInt64.toNat_and]
  exact Nat.and_two_pow_sub_one_eq_mod _ 32
theorem uN_bit (x : Int64) : (x &&& 1) = 0 ↔ uN x % 2 = 0 := by
  have h : uN (x &&& 1) = uN x % 2 := by
    show (x.toUInt64 &&& Int64.toUInt64 1).toNat = _
    rw [UInt64.toNat_and]
    exact Nat.and_two_pow_sub_one_eq_mod _ 1
  rw [← h]
  exact ⟨fun z => by rw [z]; rfl, fun z => uN_inj (z.trans rfl)⟩
theorem uN_or {x y : Int64} (hy : uN y < 2) : uN ((x <<< ((1 : Int32).toInt64 &&& 63)) ||| y) = (2 * uN x) % 18446744073709551616 + uN y := by
  have h1 : uN ((x <<< ((1 : Int32).toInt64 &&& 63)) ||| y) = uN (x <<< ((1 : Int32).toInt64 &&& 63)) ||| uN y := UInt64.toNat_or _ _
  have h2 : (2 * uN x) % 18446744073709551616 = 2 ^ 1 * (uN x % 9223372036854775808) := by omega
  rw [h1, uN_shl, h2]
  exact (Nat.two_pow_add_eq_or_of_lt (i := 1) hy _).symm
theorem nat_xor {a : Nat} (h : a < 18446744073709551616) : a ^^^ 2 ^ 63 = (a + 9223372036854775808) % 18446744073709551616 := by
  have h1 : (a ^^^ 2 ^ 63) % 2 ^ 63 = a % 2 ^ 63 := by rw [Nat.xor_mod_two_pow, Nat.mod_self, Nat.xor_zero]
  have h2 : (a ^^^ 2 ^ 63) / 2 ^ 63 = (a / 2 ^ 63) ^^^ 1 := by rw [Nat.xor_div_two_pow, Nat.div_self (Nat.two_pow_pos 63)]
  have h3 : a / 2 ^ 63 = 0 ∨ a / 2 ^ 63 = 1 := by omega
  generalize a ^^^ 2 ^ 63 = t at h1 h2
  rcases h3 with h3 | h3
  · rw [h3] at h2
    have h2 : t / 2 ^ 63 = 1 := h2
    omega
  · rw [h3] at h2
    have h2 : t / 2 ^ 63 = 0 := h2
    omega
theorem uN_xor (x : Int64) : uN (x ^^^ (-9223372036854775808)) = (uN x + 9223372036854775808) % 18446744073709551616 := by
  rw [← nat_xor (uN_lt x)]
  exact UInt64.toNat_xor _ _
theorem uN_int (x : Int64) : x.toInt = if 2 * uN x < 18446744073709551616 then (uN x : Int) else (uN x : Int) - 18446744073709551616 := BitVec.toInt_eq_toNat_cond _
theorem uN_le (x y : Int64) : (x ^^^ (-9223372036854775808)) ≤ (y ^^^ (-9223372036854775808)) ↔ uN x ≤ uN y := by
  have hx := uN_lt x
  have hy := uN_lt y
  rw [Int64.le_iff_toInt_le, uN_int, uN_int, uN_xor, uN_xor]
  omega
theorem uN_sk (x : Int64) {k : Nat} (hk : k < 64) : uN (x.toUInt64 >>> ((nI k).toInt64.toUInt64 &&& Int64.toUInt64 63)).toInt64 = uN x / 2 ^ k := by
  have h : ((nI k).toInt64.toUInt64 &&& Int64.toUInt64 63).toNat % 64 = k := by
    rw [nI_l (by omega), UInt64.toNat_and]
    have e : (lN k).toUInt64.toNat = k % 2 ^ 64 := rfl
    have e2 : (Int64.toUInt64 63).toNat = 2 ^ 6 - 1 := by decide
    rw [e, e2, Nat.and_two_pow_sub_one_eq_mod]
    omega
  rw [uN_shr, h]
/-! ===== unsigned comparison by xor with the least ===== -/
theorem lN_bv (n : Nat) : (lN n).toBitVec = BitVec.ofNat 64 n := rfl
theorem lN_nat {n : Nat} (h : n < 2 ^ 64) : (lN n).toBitVec.toNat = n := by rw [lN_bv, BitVec.toNat_ofNat]; exact Nat.mod_eq_of_lt h
theorem lN_xor (a b : Nat) : lN a ^^^ lN b = lN (a ^^^ b) := by
  apply Int64.toBitVec_inj.mp; rw [Int64.toBitVec_xor, lN_bv, lN_bv, lN_bv]; apply BitVec.eq_of_getLsbD_eq; intro i hi; simp [BitVec.getLsbD_ofNat, Nat.testBit_xor, hi]
theorem lN_ti {m : Nat} (h : m < 2 ^ 64) : (lN m).toInt = if m < 2 ^ 63 then (m : Int) else (m : Int) - 2 ^ 64 := by
  have c := BitVec.toInt_eq_toNat_cond (lN m).toBitVec
  rw [lN_nat h] at c
  show (lN m).toBitVec.toInt = _
  rw [c]
  split <;> split <;> omega
theorem xor63 {x : Nat} (h : x < 2 ^ 63) : x ^^^ 2 ^ 63 = 2 ^ 63 + x := by
  apply Nat.eq_of_testBit_eq
  intro i
  rw [Nat.testBit_xor, Nat.testBit_two_pow]
  rcases Nat.lt_trichotomy i 63 with z | z | z
  · rw [Nat.testBit_two_pow_add_gt z, decide_eq_false (by omega)]; simp
  · subst z; rw [Nat.testBit_two_pow_add_eq]; simp
  · have hp : 2 ^ 64 ≤ 2 ^ i := Nat.pow_le_pow_right (by decide) z
    rw [Nat.testBit_lt_two_pow (show x < 2 ^ i by omega), Nat.testBit_lt_two_pow (show 2 ^ 63 + x < 2 ^ i by omega), decide_eq_false (by omega)]; rfl
theorem xorS {a : Nat} (h : a < 2 ^ 64) : (lN a ^^^ (-9223372036854775808)).toInt = (a : Int) - 2 ^ 63 := by
  rw [show (-9223372036854775808 : Int64) = lN (2 ^ 63) from by decide +kernel, lN_xor]
  rcases Nat.lt_or_ge a (2 ^ 63) with z | z
  · rw [xor63 z, lN_ti (by omega), if_neg (by omega)]; omega
  · obtain ⟨x, rfl⟩ : ∃ x, a = 2 ^ 63 + x := ⟨a - 2 ^ 63, by omega⟩
    rw [← xor63 (by omega), Nat.xor_assoc, Nat.xor_self, Nat.xor_zero, lN_ti (by omega), if_pos (by omega), xor63 (by omega)]; omega
theorem ultL {a b : Nat} (ha : a < 2 ^ 64) (hb : b < 2 ^ 64) : ((lN b ^^^ (-9223372036854775808)) ≤ (lN a ^^^ (-9223372036854775808))) ↔ b ≤ a := by
  rw [Int64.le_iff_toInt_le, xorS ha, xorS hb]; omega
/-! ===== Int64 masks of n low bits ===== -/
theorem cr_bits (W U M : BitVec 64) : ((W &&& U) &&& (U &&& (M ^^^ BitVec.allOnes 64))) = 0#64 ↔ (W &&& U) &&& M = W &&& U := by
  constructor
  · intro h
    apply BitVec.eq_of_getLsbD_eq
    intro i hi
    have e := congrArg (fun x => BitVec.getLsbD x i) h
    simp only [BitVec.getLsbD_and, BitVec.getLsbD_xor, BitVec.getLsbD_allOnes, BitVec.getLsbD_zero, hi, decide_true] at e ⊢
    revert e
    cases W.getLsbD i <;> cases U.getLsbD i <;> cases M.getLsbD i <;> decide
  · intro h
    apply BitVec.eq_of_getLsbD_eq
    intro i hi
    have e := congrArg (fun x => BitVec.getLsbD x i) h
    simp only [BitVec.getLsbD_and, BitVec.getLsbD_xor, BitVec.getLsbD_allOnes, BitVec.getLsbD_zero, hi, decide_true] at e ⊢
    revert e
    cases W.getLsbD i <;> cases U.getLsbD i <;> cases M.getLsbD i <;> decide
theorem cr_mask (w U m : Int64) (n : Nat) (hm : m.toBitVec.toNat = 2 ^ n - 1) : ((w &&& U) &&& (U &&& (m ^^^ (-1)))) = 0 ↔ (w &&& U).toBitVec.toNat < 2 ^ n := by
  have e0 : (-1 : Int64).toBitVec = BitVec.allOnes 64 := by decide
  have z0 : (0 : Int64).toBitVec = 0#64 := by decide
  rw [← Int64.toBitVec_inj, z0, Int64.toBitVec_and, Int64.toBitVec_and, Int64.toBitVec_and, Int64.toBitVec_xor, e0, cr_bits]
  generalize w.toBitVec &&& U.toBitVec = T
  rw [← BitVec.toNat_inj, BitVec.toNat_and, hm, Nat.and_two_pow_sub_one_eq_mod]
  constructor
  · intro h
    have t := Nat.mod_lt T.toNat (Nat.two_pow_pos n)
    rw [h] at t
    exact t
  · exact Nat.mod_eq_of_lt
theorem cr_shr (t : Int64) (x : UInt64) (n : Nat) (hx : x.toNat % 64 = n) : (t.toUInt64 >>> x).toInt64 = 0 ↔ t.toBitVec.toNat < 2 ^ n := by
  rw [← Int64.toBitVec_inj, ← BitVec.toNat_inj]
  show (t.toUInt64 >>> x).toNat = 0 ↔ t.toUInt64.toNat < 2 ^ n
  rw [UInt64.toNat_shiftRight, hx, Nat.shiftRight_eq_div_pow]
  constructor
  · intro h
    have d : t.toUInt64.toNat / 2 ^ n < 1 := by
      rw [h]
      decide
    have e := (Nat.div_lt_iff_lt_mul (Nat.two_pow_pos n)).mp d
    rw [Nat.one_mul] at e
    exact e
  · exact Nat.div_eq_of_lt
theorem cr_amt (s : Int64) : ∃ n, n < 64 ∧ s &&& 63 = lN n ∧ (s.toUInt64 &&& Int64.toUInt64 63).toNat % 64 = n := by
  have e : (s.toUInt64 &&& Int64.toUInt64 63).toNat = s.toUInt64.toNat % 2 ^ 6 := by
    rw [UInt64.toNat_and, show (Int64.toUInt64 63).toNat = 2 ^ 6 - 1 from by decide, Nat.and_two_pow_sub_one_eq_mod]
  refine ⟨s.toUInt64.toNat % 2 ^ 6, by omega, ?_, by omega⟩
  rw [← Int64.toBitVec_inj, ← BitVec.toNat_inj]
  show (s.toUInt64 &&& Int64.toUInt64 63).toNat = (BitVec.ofNat 64 (s.toUInt64.toNat % 2 ^ 6)).toNat
  rw [e, BitVec.toNat_ofNat]
  omega

/-! plain facts on numbers and arrays, to paste: each family by itself; over the kit's rows on nI and upd -/
/-! ===== order of ints, in all its forms, and through longs ===== -/
theorem fa_lt (a b : Int32) : a < b ↔ a.toInt < b.toInt := Int32.lt_iff_toInt_lt
theorem fa_le (a b : Int32) : a ≤ b ↔ a.toInt ≤ b.toInt := Int32.le_iff_toInt_le
theorem fa_eq (a b : Int32) : a = b ↔ a.toInt = b.toInt := Int32.toInt_inj.symm
theorem fa_lt64 (a b : Int64) : a < b ↔ a.toInt < b.toInt := Int64.lt_iff_toInt_lt
theorem fa_le64 (a b : Int64) : a ≤ b ↔ a.toInt ≤ b.toInt := Int64.le_iff_toInt_le
theorem fa_eq64 (a b : Int64) : a = b ↔ a.toInt = b.toInt := Int64.toInt_inj.symm
/-- a comparison of two ints taken as longs -/
theorem fa_wide_lt (a b : Int32) : a.toInt64 < b.toInt64 ↔ a < b := by rw [fa_lt64, fa_lt, Int32.toInt_toInt64, Int32.toInt_toInt64]
theorem fa_wide_le (a b : Int32) : a.toInt64 ≤ b.toInt64 ↔ a ≤ b := by rw [fa_le64, fa_le, Int32.toInt_toInt64, Int32.toInt_toInt64]
theorem fa_wide_eq (a b : Int32) : a.toInt64 = b.toInt64 ↔ a = b := by rw [fa_eq64, fa_eq, Int32.toInt_toInt64, Int32.toInt_toInt64]
/-- one strict comparison gives all the others -/
theorem fa_of_lt {a b : Int32} (h : a < b) : a ≤ b ∧ ¬ b ≤ a ∧ ¬ b < a ∧ a ≠ b ∧ b ≠ a := by
  rw [fa_lt] at h
  refine ⟨?_, ?_, ?_, ?_, ?_⟩
  · rw [fa_le]; omega
  · rw [fa_le]; omega
  · rw [fa_lt]; omega
  · intro e; rw [fa_eq] at e; omega
  · intro e; rw [fa_eq] at e; omega
theorem fa_of_nlt {a b : Int32} (h : ¬ a < b) : b ≤ a := by
  rw [fa_lt] at h
  rw [fa_le]
  omega
theorem fa_of_nle {a b : Int32} (h : ¬ a ≤ b) : b < a := by
  rw [fa_le] at h
  rw [fa_lt]
  omega
theorem fa_le_ne {a b : Int32} (h : a ≤ b) (h2 : a ≠ b) : a < b := by
  rw [fa_le] at h
  rw [fa_lt]
  have h3 : a.toInt ≠ b.toInt := fun e => h2 ((fa_eq a b).mpr e)
  omega
theorem fa_three (a b : Int32) : a < b ∨ a = b ∨ b < a := by
  rw [fa_lt, fa_lt, fa_eq]
  omega
theorem fa_trans {a b c : Int32} (h : a < b) (h2 : b ≤ c) : a < c := by
  rw [fa_lt] at *
  rw [fa_le] at h2
  omega
/-! ===== small literals as numbers ===== -/
theorem fa_lit (n : Nat) : (OfNat.ofNat n : Int32) = nI n := rfl
theorem fa_litL (n : Nat) : (OfNat.ofNat n : Int64) = lN n := rfl
/-! ===== bits of a number: 'or', masks, one bit ===== -/
theorem fa_and (a b : Nat) : nI a &&& nI b = nI (a &&& b) := by
  apply Int32.toBitVec_inj.1
  show BitVec.ofNat 32 a &&& BitVec.ofNat 32 b = BitVec.ofNat 32 (a &&& b)
  apply BitVec.eq_of_getLsbD_eq
  intro i hi
  simp [hi]
theorem fa_or (a b : Nat) : nI a ||| nI b = nI (a ||| b) := by
  apply Int32.toBitVec_inj.1
  show BitVec.ofNat 32 a ||| BitVec.ofNat 32 b = BitVec.ofNat 32 (a ||| b)
  apply BitVec.eq_of_getLsbD_eq
  intro i hi
  simp [hi]
/-- a remainder by a power of two, as a mask -/
theorem fa_mask (n k : Nat) : nI n &&& nI (2 ^ k - 1) = nI (n % 2 ^ k) := by rw [fa_and, Nat.and_two_pow_sub_one_eq_mod]
/-- 'or' of a high part and a low one that don't meet is their sum -/
theorem fa_or_sum {a k : Nat} (b : Nat) (h : a < 2 ^ k) : nI (2 ^ k * b) ||| nI a = nI (2 ^ k * b + a) := by rw [fa_or, Nat.two_pow_add_eq_or_of_lt h]
/-- one bit, by 'and' with a power of two -/
theorem fa_bit {n j : Nat} (hj : j < 31) : nI n &&& nI (2 ^ j) = 0 ↔ n.testBit j = false := by
  have h2 : (2 : Nat) ^ j < 2 ^ 31 := Nat.pow_lt_pow_right (by decide) hj
  have hle : n &&& 2 ^ j ≤ 2 ^ j := Nat.and_le_right
  have e : n &&& 2 ^ j = 0 ↔ n.testBit j = false := by
    constructor
    · intro h
      have h1 : (n &&& 2 ^ j).testBit j = false := by rw [h]; simp
      rw [Nat.testBit_and] at h1
      first | simpa using h1 | simpa [Nat.testBit_two_pow_self] using h1 | simpa [Nat.testBit_two_pow] using h1
    · intro h
      apply Nat.eq_of_testBit_eq
      intro i
      rw [Nat.testBit_and]
      by_cases hi : j = i
      · subst hi; simp [h]
      · first | (simp [Nat.testBit_two_pow, hi]; done) | (simp [Nat.testBit_two_pow_of_ne hi]; done)
  rw [fa_and]
  constructor
  · intro h
    apply e.mp
    rcases Nat.eq_zero_or_pos (n &&& 2 ^ j) with z | z
    · exact z
    · exact absurd h (nI_ne0 z (Nat.lt_of_le_of_lt hle h2))
  · intro h
    rw [e.mpr h]; exact nI_0
/-- a remainder by a power of two of a number that isn't negative, as Java divides -/
theorem fa_rem {a k : Nat} (ha : a < 2 ^ 31) (hk : k < 31) : nI a - nI a / nI (2 ^ k) * nI (2 ^ k) = nI (a % 2 ^ k) := pk_rem ha (Nat.two_pow_pos k) (Nat.pow_lt_pow_right (by decide) hk)
/-! ===== cuts to a byte, a short ===== -/
theorem fa_byte_xor (x y : Int32) : (x ^^^ y).toInt8 = x.toInt8 ^^^ y.toInt8 := by
  apply Int8.toBitVec_inj.1
  apply BitVec.eq_of_getLsbD_eq
  intro i hi
  first | (simp [hi]; done) | (simp [hi, BitVec.getLsbD_setWidth, BitVec.getLsbD_signExtend]; done)
theorem fa_short_xor (x y : Int32) : (x ^^^ y).toInt16 = x.toInt16 ^^^ y.toInt16 := by
  apply Int16.toBitVec_inj.1
  apply BitVec.eq_of_getLsbD_eq
  intro i hi
  first | (simp [hi]; done) | (simp [hi, BitVec.getLsbD_setWidth, BitVec.getLsbD_signExtend]; done)
/-- the cut to a byte sees the low byte alone -/
theorem fa_byte_low (x : Int32) : (x &&& 255).toInt8 = x.toInt8 := by
  apply Int8.toBitVec_inj.1
  apply BitVec.eq_of_getLsbD_eq
  intro i hi
  have h2 : (255 : Int32).toBitVec.getLsbD i = true := by
    have : ∀ j : Fin 8, (255 : Int32).toBitVec.getLsbD j.val = true := by decide +kernel
    exact this ⟨i, hi⟩
  have h4 : (x &&& 255).toBitVec.getLsbD i = x.toBitVec.getLsbD i := by
    show (x.toBitVec &&& (255 : Int32).toBitVec).getLsbD i = _
    rw [BitVec.getLsbD_and, h2, Bool.and_true]
  have h3 : i < 32 := by omega
  first
    | (show (((x &&& 255).toBitVec).signExtend 8).getLsbD i = (x.toBitVec.signExtend 8).getLsbD i; rw [BitVec.getLsbD_signExtend, BitVec.getLsbD_signExtend, if_pos h3, if_pos h3, h4])
    | (show (((x &&& 255).toBitVec).setWidth 8).getLsbD i = (x.toBitVec.setWidth 8).getLsbD i; rw [BitVec.getLsbD_setWidth, BitVec.getLsbD_setWidth, h4])
    | (simp [hi, h3, h4]; done)
theorem fa_short_low (x : Int32) : (x &&& 65535).toInt16 = x.toInt16 := by
  apply Int16.toBitVec_inj.1
  apply BitVec.eq_of_getLsbD_eq
  intro i hi
  have h2 : (65535 : Int32).toBitVec.getLsbD i = true := by
    have : ∀ j : Fin 16, (65535 : Int32).toBitVec.getLsbD j.val = true := by decide +kernel
    exact this ⟨i, hi⟩
  have h4 : (x &&& 65535).toBitVec.getLsbD i = x.toBitVec.getLsbD i := by
    show (x.toBitVec &&& (65535 : Int32).toBitVec).getLsbD i = _
    rw [BitVec.getLsbD_and, h2, Bool.and_true]
  have h3 : i < 32 := by omega
  first
    | (show (((x &&& 65535).toBitVec).signExtend 16).getLsbD i = (x.toBitVec.signExtend 16).getLsbD i; rw [BitVec.getLsbD_signExtend, BitVec.getLsbD_signExtend, if_pos h3, if_pos h3, h4])
    | (show (((x &&& 65535).toBitVec).setWidth 16).getLsbD i = (x.toBitVec.setWidth 16).getLsbD i; rw [BitVec.getLsbD_setWidth, BitVec.getLsbD_setWidth, h4])
    | (simp [hi, h3, h4]; done)
/-- a small number is its own byte, its own short -/
theorem fa_byte_small {n : Nat} (h : n < 128) : (nI n).toInt8.toInt32 = nI n := by
  have : ∀ j : Fin 128, (nI j.val).toInt8.toInt32 = nI j.val := by decide +kernel
  exact this ⟨n, h⟩
/-! ===== absolute difference ===== -/
theorem fa_absdiff {a b : Nat} (ha : a < 2 ^ 31) (hb : b < 2 ^ 31) : (if nI a < nI b then nI b - nI a else nI a - nI b) = nI (if a < b then b - a else a - b) := by
  by_cases h : a < b
  · rw [if_pos (nI_lt h hb), if_pos h]
    exact pk_sub (Nat.le_of_lt h)
  · rw [if_neg (nI_nlt (Nat.le_of_not_lt h) ha), if_neg h]
    exact pk_sub (Nat.le_of_not_lt h)
/-! ===== an array behind i stores, a conditional store, a row copied ===== -/
/-- f where k < i, what stood there else -/
def fa_fill {α : Type} (f g : Nat → α) (i : Nat) : Nat → α := fun k => if k < i then f k else g k
theorem fa_fill_0 {α : Type} (f g : Nat → α) : fa_fill f g 0 = g := funext fun k => if_neg (Nat.not_lt_zero k)
theorem fa_fill_in {α : Type} {f g : Nat → α} {i k : Nat} (h : k < i) : fa_fill f g i k = f k := if_pos h
theorem fa_fill_out {α : Type} {f g : Nat → α} {i k : Nat} (h : i ≤ k) : fa_fill f g i k = g k := if_neg (Nat.not_lt.mpr h)
theorem fa_fill_succ (f g : Nat → Int32) (i : Nat) : upd (fa_fill f g i) i (f i) = fa_fill f g (i + 1) := by
  funext k
  by_cases e : k = i
  · subst e
    rw [pk_us]
    exact (if_pos (Nat.lt_succ_self k)).symm
  · rw [pk_un e]
    by_cases h : k < i
    · rw [fa_fill_in h, fa_fill_in (Nat.lt_succ_of_lt h)]
    · rw [fa_fill_out (Nat.le_of_not_lt h), fa_fill_out (by omega)]
/-- a store that changes nothing -/
theorem fa_upd_same {f : Nat → Int32} {i : Nat} {x : Int32} (h : f i = x) : upd f i x = f := by
  funext k
  by_cases e : k = i
  · subst e
    rw [pk_us, h]
  · rw [pk_un e]
/-- a store under a condition, told as one -/
theorem fa_upd_if (c : Prop) [Decidable c] (f : Nat → Int32) (i : Nat) (x : Int32) : (if c then upd f i x else f) = upd f i (if c then x else f i) := by
  by_cases h : c
  · rw [if_pos h, if_pos h]
  · rw [if_neg h, if_neg h, fa_upd_same rfl]
/-- two stores at one place, at two -/
theorem fa_upd_twice (f : Nat → Int32) (i : Nat) (x y : Int32) : upd (upd f i x) i y = upd f i y := by
  funext k
  by_cases e : k = i
  · subst e
    rw [pk_us, pk_us]
  · rw [pk_un e, pk_un e, pk_un e]
theorem fa_upd_swap (f : Nat → Int32) {i j : Nat} (h : i ≠ j) (x y : Int32) : upd (upd f i x) j y = upd (upd f j y) i x := by
  funext k
  by_cases e : k = i
  · subst e
    rw [pk_un h, pk_us, pk_us]
  · by_cases e2 : k = j
    · subst e2
      rw [pk_us, pk_un e, pk_us]
    · rw [pk_un e2, pk_un e, pk_un e, pk_un e2]
/-! ===== the first index with a property; a count ===== -/
/-- the first k < n with p k, n if there is none -/
def fa_first (p : Nat → Bool) : Nat → Nat
  | 0 => 0
  | n + 1 => if fa_first p n < n then fa_first p n else if p n then n else n + 1
theorem fa_first_le (p : Nat → Bool) : ∀ n, fa_first p n ≤ n
  | 0 => Nat.le_refl 0
  | n + 1 => by
    have ih := fa_first_le p n
    unfold fa_first
    split
    · omega
    · split
      · omega
      · omega
theorem fa_first_no (p : Nat → Bool) : ∀ n k, k < fa_first p n → p k = false
  | 0, k, h => absurd h (Nat.not_lt_zero k)
  | n + 1, k, h => by
    have ih := fa_first_no p n
    have hl := fa_first_le p n
    unfold fa_first at h
    split at h
    · exact ih k h
    · rename_i h1
      split at h
      · exact ih k (by omega)
      · rename_i h2
        by_cases e : k = n
        · subst e
          exact Bool.eq_false_iff.mpr h2
        · exact ih k (by omega)
theorem fa_first_yes (p : Nat → Bool) : ∀ n, fa_first p n < n → p (fa_first p n) = true
  | 0, h => absurd h (Nat.not_lt_zero _)
  | n + 1, h => by
    have ih := fa_first_yes p n
    have hl := fa_first_le p n
    unfold fa_first at h ⊢
    split at h
    · rename_i h1
      rw [if_pos h1]
      exact ih h1
    · rename_i h1
      rw [if_neg h1]
      split at h
      · rename_i h2
        rw [if_pos h2]
        exact h2
      · omega
/-- how many k < n have p k -/
def fa_cnt (p : Nat → Bool) : Nat → Nat
  | 0 => 0
  | n + 1 => fa_cnt p n + if p n then 1 else 0
theorem fa_cnt_le (p : Nat → Bool) : ∀ n, fa_cnt p n ≤ n
  | 0 => Nat.le_refl 0
  | n + 1 => by
    have ih := fa_cnt_le p n
    unfold fa_cnt
    split
    · omega
    · omega
theorem fa_cnt_yes {p : Nat → Bool} {n : Nat} (h : p n = true) : fa_cnt p (n + 1) = fa_cnt p n + 1 := by rw [fa_cnt, if_pos h]
theorem fa_cnt_no {p : Nat → Bool} {n : Nat} (h : p n = false) : fa_cnt p (n + 1) = fa_cnt p n := by rw [fa_cnt, if_neg (by rw [h]; decide)]; rfl
theorem fa_cnt_cong {p q : Nat → Bool} : ∀ {n : Nat}, (∀ k, k < n → p k = q k) → fa_cnt p n = fa_cnt q n
  | 0, _ => rfl
  | n + 1, h => by rw [fa_cnt, fa_cnt, fa_cnt_cong (fun k hk => h k (Nat.lt_succ_of_lt hk)), h n (Nat.lt_succ_self n)]
/-! ===== an answer carried into a post; a branch on a boolean answer ===== -/
theorem fa_post {α : Type} {P : α → Prop} {x y : α} (h : x = y) (hp : P y) : P x := h ▸ hp
theorem fa_post2 {α β : Type} {P : α → β → Prop} {x y : α} {u v : β} (h : x = y) (h2 : u = v) (hp : P y v) : P x u := h ▸ h2 ▸ hp
theorem fa_bool {r : Int32} {b : Bool} (h : r = if b then 1 else 0) : (r = 0 ↔ b = false) ∧ (¬ r = 0 ↔ b = true) := by
  subst h
  cases b
  · exact ⟨⟨fun _ => rfl, fun _ => rfl⟩, ⟨fun h => absurd rfl h, fun h => absurd h (by decide)⟩⟩
  · exact ⟨⟨fun h => absurd h (by decide), fun h => absurd h (by decide)⟩, ⟨fun _ => rfl, fun _ => by decide⟩⟩
/-- a boolean's narrowing changes nothing -/
theorem fa_bool_and {r : Int32} (h : r = 0 ∨ r = 1) : r &&& 1 = r := by
  rcases h with rfl | rfl
  · decide
  · decide
theorem fa_bool_prop {c : Prop} [Decidable c] {r : Int32} (h : r = if c then 1 else 0) : (r = 0 ↔ ¬ c) ∧ (¬ r = 0 ↔ c) := by
  subst h
  by_cases hc : c
  · rw [if_pos hc]
    exact ⟨⟨fun h => absurd h (by decide), fun h => absurd hc h⟩, ⟨fun _ => hc, fun _ => by decide⟩⟩
  · rw [if_neg hc]
    exact ⟨⟨fun _ => hc, fun _ => rfl⟩, ⟨fun h => absurd rfl h, fun h => absurd h hc⟩⟩

/-! ===== the store of the whole program: keys with a fixed shape; ints and longs by key and place ===== -/
/-- an int by its number -/
def iZ (z : Int) : Int32 := Int32.ofInt z
abbrev Sg : Type := (Nat → Nat → Int) × (Nat → Nat → Int64)
abbrev ShE : Type := (Nat × List Nat) ⊕ (Nat × Nat)
/-- the kinds of an object's places: 0 an int, 1 a long, 5000 a reference that is kept as a number (the key, -1 for none), j + 2 the object or row of key j; rows: (0, n) ints, (1, n) longs, (2, n) the kept sharings, (3, n) bytes, (4, n) and (5, n) references kept as numbers, (6, n) the rows of the table -/
def shSingle (k : Nat) : Option ShE := match k with
  | 0 => some (.inl (14, [101 + 2, 103 + 2, 104 + 2, 106 + 2, 200 + 2, 210 + 2, 220 + 2, 300 + 2, 310 + 2, 320 + 2, 0, 111 + 2, 113 + 2, 120 + 2, 124 + 2, 128 + 2, 132 + 2, 0]))
  | 1 => some (.inl (13, [102 + 2, 0, 0, 0, 0, 0, 1, 0, 0, 0, 0, 0]))
  | 2 => some (.inr (0, 800))
  | 3 => some (.inl (12, [0]))
  | 4 => some (.inl (10, [105 + 2]))
  | 5 => some (.inr (0, 2))
  | 6 => some (.inl (9, [107 + 2, 108 + 2, 109 + 2, 110 + 2, 0, 0]))
  | 7 => some (.inr (0, 60))
  | 8 => some (.inr (0, 60))
  | 9 => some (.inr (0, 60))
  | 10 => some (.inr (0, 60))
  | 11 => some (.inl (6, [112 + 2, 0, 0]))
  | 12 => some (.inr (2, 6))
  | 13 => some (.inl (7, [0, 0, 0, 0, 0, 0, 114 + 2, 115 + 2, 116 + 2, 117 + 2, 118 + 2, 119 + 2]))
  | 14 => some (.inr (0, 14))
  | 15 => some (.inr (0, 14))
  | 16 => some (.inr (0, 14))
  | 17 => some (.inr (0, 4))
  | 18 => some (.inr (0, 4))
  | 19 => some (.inr (0, 56))
  | 20 => some (.inl (8, [121 + 2, 122 + 2, 123 + 2, 0, 0]))
  | 21 => some (.inr (0, 196))
  | 22 => some (.inr (0, 14))
  | 23 => some (.inr (0, 14))
  | 24 => some (.inl (3, [125 + 2, 126 + 2, 127 + 2, 0, 0]))
  | 25 => some (.inr (0, 7))
  | 26 => some (.inr (0, 7))
  | 27 => some (.inr (0, 4))
  | 28 => some (.inl (4, [129 + 2, 130 + 2, 131 + 2, 0, 0, 0]))
  | 29 => some (.inr (0, 196))
  | 30 => some (.inr (0, 14))
  | 31 => some (.inr (0, 14))
  | 32 => some (.inr (0, 152))
  | _ => none
def shGraph (b j : Nat) : Option ShE := match j with
  | 0 => some (.inl (5, [0, 0, 0, 0, 0, 0, 0, b + 1 + 2, b + 2 + 2, b + 3 + 2, b + 4 + 2, b + 5 + 2]))
  | 1 => some (.inr (1, 14))
  | 2 => some (.inr (0, 14))
  | 3 => some (.inr (0, 40))
  | 4 => some (.inr (0, 40))
  | 5 => some (.inr (0, 40))
  | _ => none
def shSharing (b j : Nat) : Option ShE := match j with
  | 0 => some (.inl (11, [0, 0, 0, b + 1 + 2, b + 2 + 2, b + 3 + 2, b + 4 + 2]))
  | 1 => some (.inr (0, 14))
  | 2 => some (.inr (0, 5))
  | 3 => some (.inr (0, 70))
  | 4 => some (.inr (0, 120))
  | _ => none
/-- the law's own graph: the object, its rows, its table and the table's rows, its two lists -/
def shWorld (j : Nat) : Option ShE :=
  if j = 0 then some (.inl (15, [0, 0, 0, 0, 0, 1001 + 2, 1002 + 2, 1003 + 2, 1004 + 2, 1005 + 2, 1020 + 2, 1021 + 2, 5000]))
  else if j < 3 then some (.inr (0, 14)) else if j < 5 then some (.inr (0, 40)) else if j = 5 then some (.inr (6, 14)) else if j < 20 then some (.inr (0, 14))
  else if j < 22 then some (.inl (2, [0, 5000, 0])) else none
/-- the shape of a key: 100 to 199 the class, 200, 210, 220 its graphs, 300, 310 .. 380 its sharings, from 1000 on the law's graph -/
def shp (k : Nat) : Option ShE :=
  if k < 100 then none else if k < 200 then shSingle (k - 100)
  else if k < 230 then shGraph (k / 10 * 10) (k % 10)
  else if k < 300 then none else if k < 390 then shSharing (k / 10 * 10) (k % 10) else if k < 1000 then none else shWorld (k - 1000)
/-- a place of an object: its class's number and its kind -/
def shO (k i : Nat) : Option (Nat × Nat) := match shp k with
  | some (.inl (ci, ks)) => match ks[i]? with
    | some kd => some (ci, kd)
    | none => none
  | _ => none
/-- a row: its sort and its length -/
def shR (k : Nat) : Option (Nat × Nat) := match shp k with
  | some (.inr q) => some q
  | _ => none
/-- one place changed -/
def up2 {α : Type} (f : Nat → Nat → α) (k i : Nat) (v : α) : Nat → Nat → α := fun k' i' => if k' = k ∧ i' = i then v else f k' i'
theorem up2_self {α : Type} (f : Nat → Nat → α) (k i : Nat) (v : α) : up2 f k i v k i = v := if_pos ⟨rfl, rfl⟩
theorem up2_ne {α : Type} {f : Nat → Nat → α} {k i k' i' : Nat} {v : α} (h : ¬ (k' = k ∧ i' = i)) : up2 f k i v k' i' = f k' i' := if_neg h
theorem up2_key {α : Type} {f : Nat → Nat → α} {k i k' : Nat} {v : α} (h : k' ≠ k) : up2 f k i v k' = f k' := funext fun _ => if_neg (fun q => h q.1)
/-! ===== ints by their numbers ===== -/
theorem nI_iZ (n : Nat) : nI n = iZ (n : Int) := by
  unfold nI iZ
  first | exact (Int32.ofInt_natCast n).symm | exact (Int32.ofInt_eq_ofNat).symm | simp [Int32.ofInt_natCast]
theorem iZ_add (a b : Int) : iZ a + iZ b = iZ (a + b) := (Int32.ofInt_add a b).symm
theorem iZ_sub (a b : Int) : iZ a - iZ b = iZ (a - b) := (Int32.ofInt_sub a b).symm
theorem iZ_mul (a b : Int) : iZ a * iZ b = iZ (a * b) := (Int32.ofInt_mul a b).symm
theorem iZ_neg (a : Int) : -iZ a = iZ (-a) := (Int32.ofInt_neg a).symm
/-- what an int can be -/
def rg (z : Int) : Prop := -2147483648 ≤ z ∧ z < 2147483648
theorem iZ_toInt {z : Int} (h : -2147483648 ≤ z ∧ z < 2147483648) : (iZ z).toInt = z := by
  unfold iZ
  rw [Int32.toInt_ofInt, show Int32.size = 4294967296 from rfl, Int.bmod_def]
  split <;> omega
theorem iZ_lt {a b : Int} (ha : -2147483648 ≤ a ∧ a < 2147483648) (hb : -2147483648 ≤ b ∧ b < 2147483648) : iZ a < iZ b ↔ a < b := by rw [Int32.lt_iff_toInt_lt, iZ_toInt ha, iZ_toInt hb]
theorem iZ_le {a b : Int} (ha : -2147483648 ≤ a ∧ a < 2147483648) (hb : -2147483648 ≤ b ∧ b < 2147483648) : iZ a ≤ iZ b ↔ a ≤ b := by rw [Int32.le_iff_toInt_le, iZ_toInt ha, iZ_toInt hb]
theorem iZ_eq {a b : Int} (ha : -2147483648 ≤ a ∧ a < 2147483648) (hb : -2147483648 ≤ b ∧ b < 2147483648) : iZ a = iZ b ↔ a = b := by
  constructor
  · intro h
    have := congrArg Int32.toInt h
    rwa [iZ_toInt ha, iZ_toInt hb] at this
  · intro h; rw [h]
theorem iZ_0 : iZ 0 = 0 := by decide
theorem iZ_inn {n i : Nat} (hi : i < n) (hn : n ≤ 2147483647) : vp_in (iZ (i : Int)) n := by
  rw [← nI_iZ]
  exact vp_in_nI hi (by omega)
theorem iZ_cl {n i : Nat} (hi : i < n) (hn : n ≤ 2147483647) : (iZ (i : Int)).toNatClampNeg = i := by
  rw [← nI_iZ]
  exact nI_clamp (by omega)
theorem iZ_idiv {a b : Nat} (ha : a < 2147483648) (h0 : 0 < b) (hb : b < 2147483648) : iZ (a : Int) / iZ (b : Int) = iZ ((a / b : Nat) : Int) := by
  rw [← nI_iZ, ← nI_iZ, ← nI_iZ]
  exact pk_div ha h0 hb
theorem iZ_irem {a b : Nat} (ha : a < 2147483648) (h0 : 0 < b) (hb : b < 2147483648) : iZ (a : Int) - iZ (a : Int) / iZ (b : Int) * iZ (b : Int) = iZ ((a % b : Nat) : Int) := by
  rw [← nI_iZ, ← nI_iZ, ← nI_iZ]
  exact pk_rem ha h0 hb
theorem iZ_and (a b : Nat) : iZ (a : Int) &&& iZ (b : Int) = iZ ((a &&& b : Nat) : Int) := by rw [← nI_iZ, ← nI_iZ, ← nI_iZ]; exact fa_and a b
theorem iZ_or (a b : Nat) : iZ (a : Int) ||| iZ (b : Int) = iZ ((a ||| b : Nat) : Int) := by rw [← nI_iZ, ← nI_iZ, ← nI_iZ]; exact fa_or a b
theorem iZ_shl {a k : Nat} (hk : k < 32) (h : a * 2 ^ k < 4294967296) : iZ (a : Int) <<< (iZ (k : Int) &&& 31) = iZ ((a * 2 ^ k : Nat) : Int) := by
  rw [← nI_iZ, ← nI_iZ, ← nI_iZ]
  exact pk_shlN _ k (s_l k hk) h
theorem iZ_shr {a k : Nat} (hk : k < 32) (h : a < 2147483648) : iZ (a : Int) >>> (iZ (k : Int) &&& 31) = iZ ((a / 2 ^ k : Nat) : Int) := by
  rw [← nI_iZ, ← nI_iZ, ← nI_iZ]
  exact pk_shrN h _ k (s_l k hk)
theorem iZ_ushr {a k : Nat} (hk : k < 32) (h : a < 2147483648) : ((iZ (a : Int)).toUInt32 >>> ((iZ (k : Int)).toUInt32 &&& Int32.toUInt32 31)).toInt32 = iZ ((a / 2 ^ k : Nat) : Int) := by
  rw [← nI_iZ, ← nI_iZ, ← nI_iZ]
  exact pk_ushrN (by omega) _ k (s_u k hk)
def lZ (z : Int) : Int64 := Int64.ofInt z
theorem lZ_toInt {z : Int} (h : -9223372036854775808 ≤ z ∧ z < 9223372036854775808) : (lZ z).toInt = z := by
  unfold lZ
  rw [Int64.toInt_ofInt, show Int64.size = 18446744073709551616 from rfl, Int.bmod_def]
  split <;> omega
theorem lZ_inj {a b : Int} (ha : -9223372036854775808 ≤ a ∧ a < 9223372036854775808) (hb : -9223372036854775808 ≤ b ∧ b < 9223372036854775808) : lZ a = lZ b ↔ a = b := by
  constructor
  · intro h
    have := congrArg Int64.toInt h
    rwa [lZ_toInt ha, lZ_toInt hb] at this
  · intro h; rw [h]
theorem lZ_lt {a b : Int} (ha : -9223372036854775808 ≤ a ∧ a < 9223372036854775808) (hb : -9223372036854775808 ≤ b ∧ b < 9223372036854775808) : lZ a < lZ b ↔ a < b := by rw [Int64.lt_iff_toInt_lt, lZ_toInt ha, lZ_toInt hb]
theorem iZ_l {z : Int} (h : -2147483648 ≤ z ∧ z < 2147483648) : (iZ z).toInt64 = lZ z := by
  apply Int64.toInt_inj.mp
  rw [Int32.toInt_toInt64, iZ_toInt h, lZ_toInt (by omega)]
/-- the answer of a comparison of longs -/
def cmpZ (a b : Int) : Int := if a < b then -1 else if a = b then 0 else 1
theorem cmpZ_lt {a b : Int} : cmpZ a b < 0 ↔ a < b := by unfold cmpZ; split <;> (try split) <;> omega
theorem cmpZ_gt {a b : Int} : 0 < cmpZ a b ↔ b < a := by unfold cmpZ; split <;> (try split) <;> omega
theorem cmpZ_le {a b : Int} : cmpZ a b ≤ 0 ↔ a ≤ b := by unfold cmpZ; split <;> (try split) <;> omega
theorem cmpZ_ge {a b : Int} : 0 ≤ cmpZ a b ↔ b ≤ a := by unfold cmpZ; split <;> (try split) <;> omega
theorem cmpZ_eq {a b : Int} : cmpZ a b = 0 ↔ a = b := by unfold cmpZ; split <;> (try split) <;> omega
theorem cmpZ_rg (a b : Int) : -2147483648 ≤ cmpZ a b ∧ cmpZ a b < 2147483648 := by unfold cmpZ; split <;> (try split) <;> omega
theorem lg_cmpZ {a b : Int} (ha : -9223372036854775808 ≤ a ∧ a < 9223372036854775808) (hb : -9223372036854775808 ≤ b ∧ b < 9223372036854775808) : lg_cmp (lZ a) (lZ b) = iZ (cmpZ a b) := by
  unfold lg_cmp cmpZ
  by_cases h1 : a < b
  · rw [if_neg (fun h => by have := (lZ_lt hb ha).mp h; omega), if_neg (fun h => by have := (lZ_inj ha hb).mp h; omega), if_pos h1]; rfl
  · by_cases h3 : a = b
    · subst h3
      rw [if_neg (fun h => by have := (lZ_lt hb ha).mp h; omega), if_pos rfl, if_neg h1, if_pos rfl]; rfl
    · rw [if_pos ((lZ_lt hb ha).mpr (by omega)), if_neg h1, if_neg h3]; rfl
abbrev Ii : Type := Nat → Nat → Int
abbrev Jj : Type := Nat → Nat → Int64
/-! ===== the operations, by numbers, without any premise ===== -/
theorem iZ_back (v : Int32) : iZ v.toInt = v := Int32.ofInt_toInt v
theorem toInt_rg (v : Int32) : -2147483648 ≤ v.toInt ∧ v.toInt < 2147483648 := ⟨Int32.le_toInt v, Int32.toInt_lt v⟩
def andZ (x y : Int) : Int := (iZ x &&& iZ y).toInt
def orZ (x y : Int) : Int := (iZ x ||| iZ y).toInt
def xorZ (x y : Int) : Int := (iZ x ^^^ iZ y).toInt
def shlZ (x y : Int) : Int := (iZ x <<< (iZ y &&& 31)).toInt
def shrZ (x y : Int) : Int := (iZ x >>> (iZ y &&& 31)).toInt
def ushrZ (x y : Int) : Int := (((iZ x).toUInt32 >>> ((iZ y).toUInt32 &&& Int32.toUInt32 31)).toInt32).toInt
def cmpL (x y : Int64) : Int := (lg_cmp x y).toInt
def i2lZ (x : Int) : Int64 := (iZ x).toInt64
def l2iZ (x : Int64) : Int := x.toInt32.toInt
def shlL (x : Int64) (y : Int) : Int64 := x <<< ((iZ y).toInt64 &&& 63)
def shrL (x : Int64) (y : Int) : Int64 := x >>> ((iZ y).toInt64 &&& 63)
def ushrL (x : Int64) (y : Int) : Int64 := (x.toUInt64 >>> ((iZ y).toInt64.toUInt64 &&& Int64.toUInt64 63)).toInt64
theorem cmpL_Z {a b : Int} (ha : -2147483648 ≤ a ∧ a < 2147483648) (hb : -2147483648 ≤ b ∧ b < 2147483648) : cmpL (i2lZ a) (i2lZ b) = cmpZ a b := by
  unfold cmpL i2lZ
  rw [iZ_l ha, iZ_l hb, lg_cmpZ (by omega) (by omega), iZ_toInt (cmpZ_rg _ _)]
theorem cmpL_lZ {a b : Int} (ha : -9223372036854775808 ≤ a ∧ a < 9223372036854775808) (hb : -9223372036854775808 ≤ b ∧ b < 9223372036854775808) : cmpL (lZ a) (lZ b) = cmpZ a b := by
  unfold cmpL
  rw [lg_cmpZ ha hb, iZ_toInt (cmpZ_rg _ _)]
theorem i2lZ_lZ {a : Int} (ha : -2147483648 ≤ a ∧ a < 2147483648) : i2lZ a = lZ a := iZ_l ha
/-- the length of a row of ints -/
def rlen (k : Nat) : Nat := match shR k with
  | some (0, n) => n
  | _ => 0
/-- a row of ints -/
def isRow (k : Nat) : Prop := shR k = some (0, rlen k)
/-- a graph's key -/
def gK (k : Nat) : Prop := k = 200 ∨ k = 210 ∨ k = 220
/-- a sharing's key -/
def sK (k : Nat) : Prop := k = 300 ∨ k = 310 ∨ k = 320 ∨ k = 330 ∨ k = 340 ∨ k = 350 ∨ k = 360 ∨ k = 370 ∨ k = 380

/-! ===== rules for the predicate transformers ===== -/
abbrev rgx (x : Int) : Prop := -2147483648 ≤ x ∧ x < 2147483648
theorem rgI {x : Int} (h1 : -2147483648 ≤ x) (h2 : x < 2147483648) : rg x := ⟨h1, h2⟩
theorem rgB {v : Int} (h : v = 0 ∨ v = 1) : -2147483648 ≤ v ∧ v < 2147483648 := by omega
theorem zN {z n : Int} (h : 0 ≤ z ∧ z < n) : z = ((z.toNat : Nat) : Int) := (Int.toNat_of_nonneg h.1).symm
theorem zL {z : Int} {n : Nat} (h : 0 ≤ z ∧ z < (n : Int)) : z.toNat < n := by omega
theorem rlen_le (k : Nat) : rlen k ≤ 2147483647 := by
  have hM : ∀ k n, shWorld k = some (.inr (0, n)) → n ≤ 2100 := by
    intro k n h
    unfold shWorld at h
    repeat' split at h
    all_goals (simp at h; try omega)
  have hS : ∀ k n, shSingle k = some (.inr (0, n)) → n ≤ 2100 := by
    intro k n h
    unfold shSingle at h
    split at h <;> (simp at h; try omega)
  have hg : ∀ b k n, shGraph b k = some (.inr (0, n)) → n ≤ 2100 := by
    intro b k n h
    unfold shGraph at h
    split at h <;> (simp at h; try omega)
  have hs : ∀ b k n, shSharing b k = some (.inr (0, n)) → n ≤ 2100 := by
    intro b k n h
    unfold shSharing at h
    split at h <;> (simp at h; try omega)
  have hp : ∀ k n, shp k = some (.inr (0, n)) → n ≤ 2100 := by
    intro k n h
    unfold shp at h
    split at h
    · cases h
    · split at h
      · exact hS _ _ h
      · split at h
        · exact hg _ _ _ h
        · split at h
          · cases h
          · split at h
            · exact hs _ _ _ h
            · split at h
              · cases h
              · exact hM _ _ h
  have hr : ∀ k n, shR k = some (0, n) → n ≤ 2100 := by
    intro k n h
    unfold shR at h
    split at h
    · rename_i q hq
      cases h
      exact hp _ _ hq
    · cases h
  unfold rlen
  split
  · rename_i n h
    have := hr _ _ h
    omega
  · omega
theorem rlen_rg (k : Nat) : -2147483648 ≤ ((rlen k : Nat) : Int) ∧ ((rlen k : Nat) : Int) < 2147483648 := by
  have := rlen_le k
  omega
theorem sK_ring {z : Int} (h : 0 ≤ z ∧ z < 6) : sK (330 + 10 * z.toNat) := by
  unfold sK
  omega
theorem soX8_0 {k : Nat} (h : sK k) : shO k 0 = some (11, 0) := by rcases h with rfl | rfl | rfl | rfl | rfl | rfl | rfl | rfl | rfl <;> rfl
theorem soX8_1 {k : Nat} (h : sK k) : shO k 1 = some (11, 0) := by rcases h with rfl | rfl | rfl | rfl | rfl | rfl | rfl | rfl | rfl <;> rfl
theorem soX8_2 {k : Nat} (h : sK k) : shO k 2 = some (11, 0) := by rcases h with rfl | rfl | rfl | rfl | rfl | rfl | rfl | rfl | rfl <;> rfl
theorem soX8_3 {k : Nat} (h : sK k) : shO k 3 = some (11, k + 1 + 2) := by rcases h with rfl | rfl | rfl | rfl | rfl | rfl | rfl | rfl | rfl <;> rfl
theorem soX8_4 {k : Nat} (h : sK k) : shO k 4 = some (11, k + 2 + 2) := by rcases h with rfl | rfl | rfl | rfl | rfl | rfl | rfl | rfl | rfl <;> rfl
theorem soX8_5 {k : Nat} (h : sK k) : shO k 5 = some (11, k + 3 + 2) := by rcases h with rfl | rfl | rfl | rfl | rfl | rfl | rfl | rfl | rfl <;> rfl
theorem soX8_6 {k : Nat} (h : sK k) : shO k 6 = some (11, k + 4 + 2) := by rcases h with rfl | rfl | rfl | rfl | rfl | rfl | rfl | rfl | rfl <;> rfl
theorem srX8_1 {k : Nat} (h : sK k) : shR (k + 1) = some (0, 14) := by rcases h with rfl | rfl | rfl | rfl | rfl | rfl | rfl | rfl | rfl <;> rfl
theorem srX8_2 {k : Nat} (h : sK k) : shR (k + 2) = some (0, 5) := by rcases h with rfl | rfl | rfl | rfl | rfl | rfl | rfl | rfl | rfl <;> rfl
theorem srX8_3 {k : Nat} (h : sK k) : shR (k + 3) = some (0, 70) := by rcases h with rfl | rfl | rfl | rfl | rfl | rfl | rfl | rfl | rfl <;> rfl
theorem srX8_4 {k : Nat} (h : sK k) : shR (k + 4) = some (0, 120) := by rcases h with rfl | rfl | rfl | rfl | rfl | rfl | rfl | rfl | rfl <;> rfl
theorem spX8 {k : Nat} (h : sK k) : shp k = some (.inl (11, [0, 0, 0, k + 1 + 2, k + 2 + 2, k + 3 + 2, k + 4 + 2])) := by rcases h with rfl | rfl | rfl | rfl | rfl | rfl | rfl | rfl | rfl <;> rfl
theorem soX2_0 {k : Nat} (h : gK k) : shO k 0 = some (5, 0) := by rcases h with rfl | rfl | rfl <;> rfl
theorem soX2_1 {k : Nat} (h : gK k) : shO k 1 = some (5, 0) := by rcases h with rfl | rfl | rfl <;> rfl
theorem soX2_2 {k : Nat} (h : gK k) : shO k 2 = some (5, 0) := by rcases h with rfl | rfl | rfl <;> rfl
theorem soX2_3 {k : Nat} (h : gK k) : shO k 3 = some (5, 0) := by rcases h with rfl | rfl | rfl <;> rfl
theorem soX2_4 {k : Nat} (h : gK k) : shO k 4 = some (5, 0) := by rcases h with rfl | rfl | rfl <;> rfl
theorem soX2_5 {k : Nat} (h : gK k) : shO k 5 = some (5, 0) := by rcases h with rfl | rfl | rfl <;> rfl
theorem soX2_6 {k : Nat} (h : gK k) : shO k 6 = some (5, 0) := by rcases h with rfl | rfl | rfl <;> rfl
theorem soX2_7 {k : Nat} (h : gK k) : shO k 7 = some (5, k + 1 + 2) := by rcases h with rfl | rfl | rfl <;> rfl
theorem soX2_8 {k : Nat} (h : gK k) : shO k 8 = some (5, k + 2 + 2) := by rcases h with rfl | rfl | rfl <;> rfl
theorem soX2_9 {k : Nat} (h : gK k) : shO k 9 = some (5, k + 3 + 2) := by rcases h with rfl | rfl | rfl <;> rfl
theorem soX2_10 {k : Nat} (h : gK k) : shO k 10 = some (5, k + 4 + 2) := by rcases h with rfl | rfl | rfl <;> rfl
theorem soX2_11 {k : Nat} (h : gK k) : shO k 11 = some (5, k + 5 + 2) := by rcases h with rfl | rfl | rfl <;> rfl
theorem srX2_1 {k : Nat} (h : gK k) : shR (k + 1) = some (1, 14) := by rcases h with rfl | rfl | rfl <;> rfl
theorem srX2_2 {k : Nat} (h : gK k) : shR (k + 2) = some (0, 14) := by rcases h with rfl | rfl | rfl <;> rfl
theorem srX2_3 {k : Nat} (h : gK k) : shR (k + 3) = some (0, 40) := by rcases h with rfl | rfl | rfl <;> rfl
theorem srX2_4 {k : Nat} (h : gK k) : shR (k + 4) = some (0, 40) := by rcases h with rfl | rfl | rfl <;> rfl
theorem srX2_5 {k : Nat} (h : gK k) : shR (k + 5) = some (0, 40) := by rcases h with rfl | rfl | rfl <;> rfl
theorem spX2 {k : Nat} (h : gK k) : shp k = some (.inl (5, [0, 0, 0, 0, 0, 0, 0, k + 1 + 2, k + 2 + 2, k + 3 + 2, k + 4 + 2, k + 5 + 2])) := by rcases h with rfl | rfl | rfl <;> rfl
/-- a row in a row's place -/
def upr {α : Type} (f : Nat → Nat → α) (k : Nat) (r : Nat → α) : Nat → Nat → α := fun k' => if k' = k then r else f k'
theorem upr_self {α : Type} (f : Nat → Nat → α) (k : Nat) (r : Nat → α) : upr f k r k = r := if_pos rfl
theorem upr_ne {α : Type} {f : Nat → Nat → α} {k k' : Nat} {r : Nat → α} (h : k' ≠ k) : upr f k r k' = f k' := if_neg h
theorem sK_of {k : Nat} (h : k = 330 ∨ k = 340 ∨ k = 350 ∨ k = 360 ∨ k = 370 ∨ k = 380) : sK k := by
  unfold sK
  omega

/-! ===== what is the same behind a run ===== -/
/-- only the places of W may have changed -/
def Same (W : Nat → Nat → Prop) (I : Ii) (J : Jj) (I' : Ii) (J' : Jj) : Prop := ∀ k i, ¬ W k i → I' k i = I k i ∧ J' k i = J k i
theorem Same.rf {W : Nat → Nat → Prop} (I : Ii) (J : Jj) : Same W I J I J := fun _ _ _ => ⟨rfl, rfl⟩
theorem Same.upI {W : Nat → Nat → Prop} {I0 I I1 : Ii} {J0 J : Jj} {k i : Nat} {v : Int} (h : Same W I0 J0 I J) (e : I1 = up2 I k i v) (hw : W k i) : Same W I0 J0 I1 J := by
  subst e
  intro k' i' q
  have h1 := h k' i' q
  refine ⟨?_, h1.2⟩
  rw [up2_ne (fun z => q (by rw [z.1, z.2]; exact hw))]
  exact h1.1
theorem Same.upJ {W : Nat → Nat → Prop} {I0 I : Ii} {J0 J J1 : Jj} {k i : Nat} {v : Int64} (h : Same W I0 J0 I J) (e : J1 = up2 J k i v) (hw : W k i) : Same W I0 J0 I J1 := by
  subst e
  intro k' i' q
  have h1 := h k' i' q
  refine ⟨h1.1, ?_⟩
  rw [up2_ne (fun z => q (by rw [z.1, z.2]; exact hw))]
  exact h1.2
theorem Same.uprI {W : Nat → Nat → Prop} {I0 I I1 : Ii} {J0 J : Jj} {k : Nat} {r : Nat → Int} (h : Same W I0 J0 I J) (e : I1 = upr I k r) (hw : ∀ i, W k i) : Same W I0 J0 I1 J := by
  subst e
  intro k' i' q
  have h1 := h k' i' q
  refine ⟨?_, h1.2⟩
  rw [upr_ne (fun z => q (by rw [z]; exact hw i'))]
  exact h1.1
theorem Same.uprJ {W : Nat → Nat → Prop} {I0 I : Ii} {J0 J J1 : Jj} {k : Nat} {r : Nat → Int64} (h : Same W I0 J0 I J) (e : J1 = upr J k r) (hw : ∀ i, W k i) : Same W I0 J0 I J1 := by
  subst e
  intro k' i' q
  have h1 := h k' i' q
  refine ⟨h1.1, ?_⟩
  rw [upr_ne (fun z => q (by rw [z]; exact hw i'))]
  exact h1.2
theorem Same.trans {W W2 : Nat → Nat → Prop} {I0 I I2 : Ii} {J0 J J2 : Jj} (h : Same W I0 J0 I J) (h2 : Same W2 I J I2 J2) (hw : ∀ k i, W2 k i → W k i) : Same W I0 J0 I2 J2 := by
  intro k i q
  have a := h k i q
  have b := h2 k i (fun z => q (hw k i z))
  exact ⟨b.1.trans a.1, b.2.trans a.2⟩
theorem Same.I {W : Nat → Nat → Prop} {I I' : Ii} {J J' : Jj} (h : Same W I J I' J') {k i : Nat} (q : ¬ W k i) : I' k i = I k i := (h k i q).1
theorem Same.J {W : Nat → Nat → Prop} {I I' : Ii} {J J' : Jj} (h : Same W I J I' J') {k i : Nat} (q : ¬ W k i) : J' k i = J k i := (h k i q).2
theorem Same.rI {W : Nat → Nat → Prop} {I I' : Ii} {J J' : Jj} (h : Same W I J I' J') {k : Nat} (q : ∀ i, ¬ W k i) : I' k = I k := funext fun i => (h k i (q i)).1
theorem Same.rJ {W : Nat → Nat → Prop} {I I' : Ii} {J J' : Jj} (h : Same W I J I' J') {k : Nat} (q : ∀ i, ¬ W k i) : J' k = J k := funext fun i => (h k i (q i)).2
/-- a list of places: a key and a place, or (with 1000) a whole row -/
def wl : List (Nat × Nat) → Nat → Nat → Bool
  | [], _, _ => false
  | q :: t, k, i => (q.1 == k && (q.2 == 1000 || q.2 == i)) || wl t k i
def WL (l : List (Nat × Nat)) (k i : Nat) : Prop := wl l k i = true
/-- the keys of a list -/
def wlk : List (Nat × Nat) → Nat → Bool
  | [], _ => false
  | q :: t, k => (q.1 == k) || wlk t k
theorem wlk_wl : ∀ {l : List (Nat × Nat)} {k i : Nat}, wl l k i = true → wlk l k = true
  | q :: t, k, i, h => by
    unfold wl at h
    unfold wlk
    rcases Bool.or_eq_true _ _ |>.mp h with h | h
    · rw [Bool.and_eq_true] at h
      rw [h.1]; rfl
    · rw [wlk_wl h, Bool.or_true]
theorem WL_n {l : List (Nat × Nat)} {k : Nat} (h : wlk l k = false) : ∀ i, ¬ WL l k i := fun i q => by
  have := wlk_wl (show wl l k i = true from q)
  rw [h] at this
  cases this
def wls : List (Nat × Nat) → List (Nat × Nat) → Bool
  | [], _ => true
  | q :: t, l => wl l q.1 q.2 && wls t l
theorem wl_1000 : ∀ {l : List (Nat × Nat)} {k i : Nat}, wl l k 1000 = true → wl l k i = true
  | q :: t, k, i, h => by
    unfold wl at h ⊢
    rcases Bool.or_eq_true _ _ |>.mp h with h | h
    · rw [Bool.and_eq_true, Bool.or_self] at h
      rw [h.1, h.2]; rfl
    · rw [wl_1000 h, Bool.or_true]
theorem WL_any : ∀ {l1 l2 : List (Nat × Nat)}, wls l1 l2 = true → ∀ k i, WL l1 k i → WL l2 k i
  | q :: t, l2, h, k, i, z => by
    unfold wls at h
    rw [Bool.and_eq_true] at h
    have z : wl (q :: t) k i = true := z
    unfold wl at z
    show wl l2 k i = true
    rcases Bool.or_eq_true _ _ |>.mp z with z | z
    · rw [Bool.and_eq_true, Bool.or_eq_true, beq_iff_eq, beq_iff_eq, beq_iff_eq] at z
      rcases z with ⟨z1, z2 | z2⟩
      · have h1 := h.1
        rw [z1, z2] at h1
        exact wl_1000 h1
      · have h1 := h.1
        rw [z1, z2] at h1
        exact h1
    · exact WL_any h.2 k i z
theorem WL_sub {l1 l2 : List (Nat × Nat)} (h : wls l1 l2 = true) : ∀ k i, WL l1 k i → WL l2 k i := WL_any h
/-- a row with one place changed -/
def updr {α : Type} (f : Nat → α) (i : Nat) (v : α) : Nat → α := fun j => if j = i then v else f j
theorem updr_self {α : Type} (f : Nat → α) (i : Nat) (v : α) : updr f i v i = v := if_pos rfl
theorem updr_ne {α : Type} {f : Nat → α} {i j : Nat} {v : α} (h : j ≠ i) : updr f i v j = f j := if_neg h
theorem up2_row {α : Type} (f : Nat → Nat → α) (k i : Nat) (v : α) : up2 f k i v k = updr (f k) i v := by
  funext j
  unfold up2 updr
  by_cases q : j = i
  · rw [if_pos ⟨rfl, q⟩, if_pos q]
  · rw [if_neg (fun z => q z.2), if_neg q]
/-- a number that says whether -/
def Bo (v : Int) (c : Prop) : Prop := (v = 1 ∧ c) ∨ (v = 0 ∧ ¬ c)
theorem bo1 {v : Int} {c A B : Prop} (h : Bo v c) (ha : c → A) (hb : ¬ c → B) : (¬ v = 0 → A) ∧ (v = 0 → B) := by
  rcases h with ⟨rfl, h⟩ | ⟨rfl, h⟩
  · exact ⟨fun _ => ha h, fun z => absurd z (by decide)⟩
  · exact ⟨fun z => absurd rfl z, fun _ => hb h⟩
theorem bo0 {v : Int} {c A B : Prop} (h : Bo v c) (hb : ¬ c → B) (ha : c → A) : (v = 0 → B) ∧ (¬ v = 0 → A) := (bo1 h ha hb).symm
theorem Bo.one {c : Prop} (h : c) : Bo 1 c := Or.inl ⟨rfl, h⟩
theorem Bo.zero {c : Prop} (h : ¬ c) : Bo 0 c := Or.inr ⟨rfl, h⟩
theorem Bo.iff {v : Int} {c d : Prop} (h : Bo v c) (e : c ↔ d) : Bo v d := by
  rcases h with ⟨rfl, h⟩ | ⟨rfl, h⟩
  · exact Bo.one (e.mp h)
  · exact Bo.zero (fun z => h (e.mpr z))
theorem Bo.b {v : Int} {c : Prop} (h : Bo v c) : v = 0 ∨ v = 1 := by
  rcases h with ⟨rfl, h⟩ | ⟨rfl, h⟩
  · exact Or.inr rfl
  · exact Or.inl rfl
/-! ===== the operations on numbers that are not negative ===== -/
theorem andZ_nat {a b : Nat} (ha : a < 2147483648) : andZ (a : Int) (b : Int) = ((a &&& b : Nat) : Int) := by
  unfold andZ
  rw [iZ_and]
  have := Nat.and_le_left (n := a) (m := b)
  exact iZ_toInt (by omega)
theorem andZ_nat' {a b : Nat} (hb : b < 2147483648) : andZ (a : Int) (b : Int) = ((a &&& b : Nat) : Int) := by
  unfold andZ
  rw [iZ_and]
  have := Nat.and_le_right (n := a) (m := b)
  exact iZ_toInt (by omega)
theorem orZ_nat {a b : Nat} (ha : a < 2147483648) (hb : b < 2147483648) : orZ (a : Int) (b : Int) = ((a ||| b : Nat) : Int) := by
  unfold orZ
  rw [iZ_or]
  have : a ||| b < 2 ^ 31 := Nat.or_lt_two_pow ha hb
  exact iZ_toInt (by omega)
theorem shlZ_nat {a k : Nat} (hk : k < 32) (h : a * 2 ^ k < 2147483648) : shlZ (a : Int) (k : Int) = ((a * 2 ^ k : Nat) : Int) := by
  unfold shlZ
  rw [iZ_shl hk (by omega)]
  exact iZ_toInt (by omega)
theorem shl1Z {k : Nat} (hk : k < 31) : shlZ 1 (k : Int) = ((2 ^ k : Nat) : Int) := by
  have h : 2 ^ k < 2147483648 := by
    have : 2 ^ k ≤ 2 ^ 30 := Nat.pow_le_pow_right (by decide) (by omega)
    omega
  have := shlZ_nat (a := 1) (k := k) (by omega) (by omega)
  rw [Nat.one_mul] at this
  exact this
theorem shrZ_nat {a k : Nat} (hk : k < 32) (h : a < 2147483648) : shrZ (a : Int) (k : Int) = ((a / 2 ^ k : Nat) : Int) := by
  unfold shrZ
  rw [iZ_shr hk h]
  have : a / 2 ^ k ≤ a := Nat.div_le_self _ _
  generalize a / 2 ^ k = d at this ⊢
  exact iZ_toInt (by omega)
theorem ushrZ_nat {a k : Nat} (hk : k < 32) (h : a < 2147483648) : ushrZ (a : Int) (k : Int) = ((a / 2 ^ k : Nat) : Int) := by
  unfold ushrZ
  rw [iZ_ushr hk h]
  have : a / 2 ^ k ≤ a := Nat.div_le_self _ _
  generalize a / 2 ^ k = d at this ⊢
  exact iZ_toInt (by omega)
theorem bit_one {a k : Nat} : (a / 2 ^ k) &&& 1 = if a.testBit k then 1 else 0 := by
  rw [Nat.and_one_is_mod, Nat.testBit_eq_decide_div_mod_eq]
  by_cases h : a / 2 ^ k % 2 = 1
  · rw [h]; simp
  · have : a / 2 ^ k % 2 = 0 := by omega
    rw [this]; simp
theorem cmpL_toInt (a b : Int64) : cmpL a b = cmpZ a.toInt b.toInt := by
  have ha : lZ a.toInt = a := Int64.ofInt_toInt a
  have hb : lZ b.toInt = b := Int64.ofInt_toInt b
  have h := cmpL_lZ (a := a.toInt) (b := b.toInt) ⟨Int64.le_toInt a, Int64.toInt_lt a⟩ ⟨Int64.le_toInt b, Int64.toInt_lt b⟩
  rw [ha, hb] at h
  exact h
theorem i2lZ_toInt {x : Int} (h : rg x) : (i2lZ x).toInt = x := by
  rw [i2lZ_lZ h]
  exact lZ_toInt (by have := h.1; have := h.2; omega)
theorem cmpL_eq {a b : Int64} : cmpL a b = 0 ↔ a = b := by
  rw [cmpL_toInt, cmpZ_eq]
  exact Int64.toInt_inj


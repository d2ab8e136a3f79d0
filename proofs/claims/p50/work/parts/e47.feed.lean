/-! ===== the text is fed ===== -/
def pkN (f : Nat → Int) (q : Nat) : Nat → Int
  | 0 => 0
  | m + 1 => orZ (shlZ (pkN f q m) 8) (f (4 * q + m))
def pn (f : Nat → Int) (q : Nat) : Nat → Nat
  | 0 => 0
  | m + 1 => pn f q m * 256 + (f (4 * q + m)).toNat
section PKN
variable {f : Nat → Int} {q : Nat}
theorem or_add {x y : Nat} (hy : y < 256) : x * 256 ||| y = x * 256 + y := by
  have := Nat.two_pow_add_eq_or_of_lt (i := 8) (b := y) hy x
  rw [show x * 256 = 2 ^ 8 * x by omega]
  exact this.symm
theorem pk_step {m : Nat} (hf : ∀ i, 0 ≤ f i ∧ f i < 128) (hm : pn f q m < 8388608) (h : pkN f q m = ((pn f q m : Nat) : Int)) : pkN f q (m + 1) = ((pn f q (m + 1) : Nat) : Int) := by
  show orZ (shlZ (pkN f q m) 8) (f (4 * q + m)) = ((pn f q m * 256 + (f (4 * q + m)).toNat : Nat) : Int)
  have b := hf (4 * q + m)
  have e : f (4 * q + m) = (((f (4 * q + m)).toNat : Nat) : Int) := by omega
  have s : shlZ ((pn f q m : Nat) : Int) 8 = ((pn f q m * 256 : Nat) : Int) := shlZ_nat (a := pn f q m) (k := 8) (by omega) (by show pn f q m * 256 < _; omega)
  rw [h, s]
  generalize f (4 * q + m) = y at *
  rw [e, orZ_nat (by omega) (by omega), or_add (by omega), ← e]
theorem pk_n (hf : ∀ i, 0 ≤ f i ∧ f i < 128) : pn f q 4 < 2147483648 ∧ pkN f q 4 = ((pn f q 4 : Nat) : Int) := by
  have b0 := hf (4 * q + 0)
  have b1 := hf (4 * q + 1)
  have b2 := hf (4 * q + 2)
  have b3 := hf (4 * q + 3)
  have l1 : pn f q 1 < 128 := by show 0 * 256 + (f (4 * q + 0)).toNat < 128; omega
  have l2 : pn f q 2 < 32768 := by show pn f q 1 * 256 + (f (4 * q + 1)).toNat < 32768; omega
  have l3 : pn f q 3 < 8388608 := by show pn f q 2 * 256 + (f (4 * q + 2)).toNat < 8388608; omega
  have l4 : pn f q 4 < 2147483648 := by show pn f q 3 * 256 + (f (4 * q + 3)).toNat < 2147483648; omega
  exact ⟨l4, pk_step hf l3 (pk_step hf (by omega) (pk_step hf (by omega) (pk_step hf (by show 0 < 8388608; decide) rfl)))⟩
theorem bytZ_n {x k : Nat} (hx : x < 2147483648) (hk : k < 32) : bytZ (x : Int) (k : Int) = ((x / 2 ^ k % 256 : Nat) : Int) := by
  unfold bytZ
  rw [ushrZ_nat hk hx, show (255 : Int) = ((255 : Nat) : Int) from rfl, andZ_nat' (by decide), show (255 : Nat) = 2 ^ 8 - 1 from rfl, Nat.and_two_pow_sub_one_eq_mod]
theorem fed4_pk {B : Nat → Int} {n : Nat} (hf : ∀ i, 0 ≤ f i ∧ f i < 128) (i : Nat) : fed4 B n (pkN f q 4) i = if n ≤ i ∧ i < n + 4 then f (4 * q + (i - n)) else B i := by
  obtain ⟨l4, e⟩ := pk_n (q := q) hf
  have b0 := hf (4 * q + 0)
  have b1 := hf (4 * q + 1)
  have b2 := hf (4 * q + 2)
  have b3 := hf (4 * q + 3)
  have ex : pn f q 4 = (((0 * 256 + (f (4 * q + 0)).toNat) * 256 + (f (4 * q + 1)).toNat) * 256 + (f (4 * q + 2)).toNat) * 256 + (f (4 * q + 3)).toNat := rfl
  have y0 : bytZ (pkN f q 4) 24 = f (4 * q + 0) := by
    rw [e]
    refine (bytZ_n (k := 24) l4 (by omega)).trans ?_
    rw [show (2 : Nat) ^ 24 = 16777216 from rfl]
    omega
  have y1 : bytZ (pkN f q 4) 16 = f (4 * q + 1) := by
    rw [e]
    refine (bytZ_n (k := 16) l4 (by omega)).trans ?_
    rw [show (2 : Nat) ^ 16 = 65536 from rfl]
    omega
  have y2 : bytZ (pkN f q 4) 8 = f (4 * q + 2) := by
    rw [e]
    refine (bytZ_n (k := 8) l4 (by omega)).trans ?_
    rw [show (2 : Nat) ^ 8 = 256 from rfl]
    omega
  have y3 : bytZ (pkN f q 4) 0 = f (4 * q + 3) := by
    rw [e]
    refine (bytZ_n (k := 0) l4 (by omega)).trans ?_
    rw [show (2 : Nat) ^ 0 = 1 from rfl]
    omega
  unfold fed4
  rw [y0, y1, y2, y3]
  by_cases c3 : i = n + 3
  · rw [c3, updr_self, if_pos (by omega), show n + 3 - n = 3 by omega]
  rw [updr_ne c3]
  by_cases c2 : i = n + 2
  · rw [c2, updr_self, if_pos (by omega), show n + 2 - n = 2 by omega]
  rw [updr_ne c2]
  by_cases c1 : i = n + 1
  · rw [c1, updr_self, if_pos (by omega), show n + 1 - n = 1 by omega]
  rw [updr_ne c1]
  by_cases c0 : i = n
  · rw [c0, updr_self, if_pos (by omega), show n - n = 0 by omega]
  rw [updr_ne c0, if_neg (by omega)]
theorem fed20_pk {B : Nat → Int} {n : Nat} (hf : ∀ i, 0 ≤ f i ∧ f i < 128) (i : Nat) : fed20 B n (pkN f 0 4) (pkN f 1 4) (pkN f 2 4) (pkN f 3 4) (pkN f 4 4) i = if n ≤ i ∧ i < n + 20 then f (i - n) else B i := by
  unfold fed20
  rw [fed4_pk hf]
  by_cases c4 : n + 16 ≤ i ∧ i < n + 16 + 4
  · rw [if_pos c4, if_pos (by omega), show 4 * 4 + (i - (n + 16)) = i - n by omega]
  rw [if_neg c4, fed4_pk hf]
  by_cases c3 : n + 12 ≤ i ∧ i < n + 12 + 4
  · rw [if_pos c3, if_pos (by omega), show 4 * 3 + (i - (n + 12)) = i - n by omega]
  rw [if_neg c3, fed4_pk hf]
  by_cases c2 : n + 8 ≤ i ∧ i < n + 8 + 4
  · rw [if_pos c2, if_pos (by omega), show 4 * 2 + (i - (n + 8)) = i - n by omega]
  rw [if_neg c2, fed4_pk hf]
  by_cases c1 : n + 4 ≤ i ∧ i < n + 4 + 4
  · rw [if_pos c1, if_pos (by omega), show 4 * 1 + (i - (n + 4)) = i - n by omega]
  rw [if_neg c1, fed4_pk hf]
  by_cases c0 : n ≤ i ∧ i < n + 4
  · rw [if_pos c0, if_pos (by omega), show 4 * 0 + (i - n) = i - n by omega]
  rw [if_neg c0, if_neg (by omega)]
end PKN
/-- the bytes that are fed -/
def fdB (L : List Int) (i : Nat) : Int := if i < L.length then gB L i else 32
/-- the row of five words, while it is filled -/
def FRo (I19 : Ii) (K : Nat) (f : Nat → Int) (i : Nat) (I : Ii) : Prop := (∀ k, k ≠ K → I k = I19 k) ∧ ∀ q, q < 5 → I K q = pkN f q (min 4 (i - 4 * q))
section FDS
variable {I0 I : Ii} {J : Jj} {L : List Int} {sL : Nat} {xs : Nat → Int} {t tb : Nat}
/-- twenty bytes more -/
theorem c_feeds20 {Q : Int → Ii → Jj → Prop} {r4 : Int → Int → Ii → Jj → Prop} {n : Nat} (hN : 1022 ≤ I 999 0 ∧ I 999 0 ≤ 800000) (ht : TXr I t tb L.length) (ht2 : (1022 ≤ t ∧ (t : Int) < I 999 0) ∧ (1022 ≤ tb ∧ (tb : Int) < I 999 0)) (hby : ∀ j, j < L.length → I tb j = gB L j) (hb : ∀ j, j < L.length → 0 ≤ gB L j ∧ gB L j < 128) (hn : I 101 1 = (n : Int)) (h8 : n ≤ 780) (hl : L.length ≤ 800)
    (hq : ∀ (I' : Ii) (J' : Jj), ExW (fun k => k < 390) I I' → I' 999 0 = I 999 0 + 1 → I' 101 1 = ((n + 20 : Nat) : Int) → (∀ i, I' 102 i = if n ≤ i ∧ i < n + 20 then fdB L i else I 102 i) → I' 111 1 = I 111 1 → r4 ((n + 20 : Nat) : Int) ((n : Int) + 20) I' J') :
    (((0 : Int) ≤ 5 ∧ (5 : Int) ≤ ((5 : Nat) : Int)) ∧ I 999 0 < 900000) ∧ ∀ I19 : Ii, I19 = nwI I 1 5 (fun _ => 0) → ∀ v20 : Nat, v20 = (I 999 0).toNat → ∃ m : Nat, L_L_feeds_20 sL xs t Q r4 m (n : Int) v20 0 I19 J := by
  refine ⟨⟨⟨by decide, by decide⟩, by omega⟩, fun I19 e19 K hK => ⟨21, ?_⟩⟩
  have x19 : Ex I I19 := by rw [e19]; exact ExW.nw ⟨by omega, by omega⟩
  have n19 : I19 999 0 = I 999 0 + 1 := by rw [e19]; exact nwI_9 _ _ _ _
  have s19 : dS I19 (I 999 0).toNat = 1 ∧ dL I19 (I 999 0).toNat = 5 := by rw [e19]; exact nwI_s
  have z19 : ∀ j, I19 (I 999 0).toNat j = 0 := fun j => by rw [e19, nwI_k (by omega)]
  rw [← hK] at s19 z19
  clear e19
  have hKi : (K : Int) = I 999 0 := by omega
  generalize hf9 : (fun i => fdB L (n + i)) = f
  have hf : ∀ i, 0 ≤ f i ∧ f i < 128 := fun i => by
    rw [← hf9]
    show 0 ≤ fdB L (n + i) ∧ fdB L (n + i) < 128
    unfold fdB
    split
    · rename_i c; exact hb _ c
    · exact ⟨by decide, by decide⟩
  refine loopN (L := fun m (t9 : Ii) v => L_L_feeds_20 sL xs t Q r4 m (n : Int) K v t9 J) (FRo I19 K f) (N := 20) (fun m i I1 hi hI kk => ?_) 21 0 I19 (by omega) (by omega) ⟨fun _ _ => rfl, fun q _ => by rw [z19, show min 4 (0 - 4 * q) = 0 by omega]; rfl⟩
  obtain ⟨o1, r1⟩ := hI
  show Lb_L_feeds_20 sL xs t Q r4 (L_L_feeds_20 sL xs t Q r4 m) (n : Int) K (i : Int) I1 J
  generalize L_L_feeds_20 sL xs t Q r4 m = r at kk ⊢
  have s1 : ∀ q, dS I1 q = dS I19 q ∧ dL I1 q = dL I19 q := fun q => by
    have := o1 (1000000 + q) (by omega)
    exact ⟨congrFun this 0, congrFun this 1⟩
  have dK : dS I1 K = 1 ∧ dL I1 K = 5 := by rw [(s1 K).1, (s1 K).2]; exact s19
  obtain ⟨ht19, etb⟩ := ht.ex x19 ⟨by omega, ht2.1.2⟩ ⟨by omega, ht2.2.2⟩ (fun z => z) (fun z => z)
  have ht1 : TXr I1 t tb L.length := by
    obtain ⟨a1, a2, a3, a4, a5, a6⟩ := ht19
    exact ⟨by rw [(s1 t).1]; exact a1, by rw [o1 t (by omega)]; exact a2, by rw [o1 t (by omega)]; exact a3, by rw [(s1 tb).1]; exact a4, by rw [(s1 tb).2]; exact a5, a6⟩
  have b1 : ∀ j, j < L.length → I1 tb j = gB L j := fun j hj => by rw [o1 tb (by omega), etb]; exact hby j hj
  unfold Lb_L_feeds_20
  rw [dK.1, dK.2]
  refine ⟨⟨by omega, by omega⟩, fun d => ⟨⟨rfl, by decide, by decide⟩, ⟨rfl, by decide, by decide⟩, ⟨rfl, by decide, by decide⟩, ⟨rfl, by decide, by decide⟩, ⟨rfl, by decide, by decide⟩, ?_⟩, fun d => ⟨⟨⟨by omega, by omega⟩, by decide, by decide⟩, ⟨⟨by omega, by omega⟩, by decide, by decide⟩, ⟨rfl, by omega, by omega⟩, ht1.1, TX_len ht1 ⟨⟨by omega, by omega⟩, ⟨by omega, by omega⟩, fun c => ?_, fun c => ?_⟩⟩⟩
  · have e20 : i = 20 := by omega
    subst e20
    have g : ∀ q, q < 5 → I1 K q = pkN f q 4 := fun q hq2 => by rw [r1 q hq2, show min 4 (20 - 4 * q) = 4 by omega]
    rw [show (0 : Int).toNat = 0 from rfl, show (1 : Int).toNat = 1 from rfl, show (2 : Int).toNat = 2 from rfl, show (3 : Int).toNat = 3 from rfl, show (4 : Int).toNat = 4 from rfl, g 0 (by omega), g 1 (by omega), g 2 (by omega), g 3 (by omega), g 4 (by omega)]
    have o19 : ∀ k, k < 1000 → k ≠ 999 → I1 k = I k := fun k k1 k2 => by rw [o1 k (by omega), (x19.2 k k2 (by omega)).1 (fun q => q)]
    refine fr_X11_feed (c_feed (n := n) (by rw [o19 101 (by omega) (by omega)]; exact hn) h8) (fun v I2 J2 hv s2 => ?_)
    obtain ⟨rfl, v1, v2⟩ := hv
    have hk : ∀ k, 390 ≤ k → I2 k = I1 k := fun k hk2 => s2.k (wlk_hi rfl k hk2)
    have hs : ∀ k, I2 (1000000 + k) = I1 (1000000 + k) := fun k => hk _ (by omega)
    refine hq I2 J2 ⟨?_, fun k h9 hk2 => ⟨fun hn2 => ?_, ?_⟩⟩ ?_ v1 (fun j => ?_) ?_
    · rw [hk 999 (by omega), o1 999 (by omega)]; exact x19.1
    · rw [hk k (by omega), o1 k (by omega)]; exact (x19.2 k h9 hk2).1 (fun q => q)
    · rw [hs, o1 _ (by omega)]; exact (x19.2 k h9 hk2).2
    · rw [hk 999 (by omega), o1 999 (by omega)]; exact n19
    · rw [v2, fed20_pk hf, o19 102 (by omega) (by omega), ← hf9]
      by_cases c : n ≤ j ∧ j < n + 20
      · rw [if_pos c, if_pos c]
        show fdB L (n + (j - n)) = _
        rw [show n + (j - n) = j by omega]
      · rw [if_neg c, if_neg c]
    · have : I2 111 1 = I1 111 1 := s2.i
      rw [this, o19 111 (by omega) (by omega)]
  · refine ⟨⟨dK.1, by omega, by rw [dK.2]; omega⟩, fun I36 e36 => ?_⟩
    have ei : ((i : Int) / 4).toNat = i / 4 := by omega
    rw [ei, r1 (i / 4) (by omega), show min 4 (i - 4 * (i / 4)) = i % 4 by omega] at e36
    refine kk (by omega) I36 ⟨fun k hk => by rw [e36, up2_key hk]; exact o1 k hk, fun q hq2 => ?_⟩
    have fi : f i = 32 := by
      rw [← hf9]
      show fdB L (n + i) = 32
      unfold fdB
      rw [if_neg (by omega)]
    by_cases cq : q = i / 4
    · rw [e36, cq, up2_self, show min 4 (i + 1 - 4 * (i / 4)) = i % 4 + 1 by omega]
      show _ = orZ (shlZ (pkN f (i / 4) (i % 4)) 8) (f (4 * (i / 4) + i % 4))
      rw [show 4 * (i / 4) + i % 4 = i by omega, fi]
    · rw [e36, up2_ne (by omega), r1 q hq2, show min 4 (i + 1 - 4 * q) = min 4 (i - 4 * q) by omega]
  · have fi : f i = gB L (n + i) := by
      rw [← hf9]
      show fdB L (n + i) = _
      unfold fdB
      rw [if_pos (by omega)]
    have et : ((n : Int) + (i : Int)).toNat = n + i := by omega
    refine ⟨ht1.1, TX_chr ht1 ⟨by omega, by omega⟩ (by rw [et, b1 _ (by omega)]; exact hb _ (by omega)) ⟨⟨dK.1, by omega, by rw [dK.2]; omega⟩, fun I40 e40 => ?_⟩⟩
    have ei : ((i : Int) / 4).toNat = i / 4 := by omega
    rw [ei, et, b1 _ (by omega), ← fi, r1 (i / 4) (by omega), show min 4 (i - 4 * (i / 4)) = i % 4 by omega] at e40
    refine kk (by omega) I40 ⟨fun k hk => by rw [e40, up2_key hk]; exact o1 k hk, fun q hq2 => ?_⟩
    by_cases cq : q = i / 4
    · rw [e40, cq, up2_self, show min 4 (i + 1 - 4 * (i / 4)) = i % 4 + 1 by omega]
      show _ = orZ (shlZ (pkN f (i / 4) (i % 4)) 8) (f (4 * (i / 4) + i % 4))
      rw [show 4 * (i / 4) + i % 4 = i by omega]
    · rw [e40, up2_ne (by omega), r1 q hq2, show min 4 (i + 1 - 4 * q) = min 4 (i - 4 * q) by omega]
theorem c_feeds {Q : Int → Ii → Jj → Prop} (hN : 1022 ≤ I 999 0 ∧ I 999 0 ≤ 700000) (ht : TXr I t tb L.length) (ht2 : (1022 ≤ t ∧ (t : Int) < I 999 0) ∧ (1022 ≤ tb ∧ (tb : Int) < I 999 0)) (hby : ∀ j, j < L.length → I tb j = gB L j) (hb : ∀ j, j < L.length → 0 ≤ gB L j ∧ gB L j < 128) (hn : I 101 1 = 0) (hl : L.length ≤ 660)
    (hq : ∀ (I' : Ii) (J' : Jj), ExW (fun k => k < 390) I I' → I' 999 0 ≤ I 999 0 + 40 → I' 101 1 = (L.length : Int) → (∀ i, i < L.length → I' 102 i = gB L i) → I' 111 1 = I 111 1 → Q 1 I' J') : wp_L_feeds sL xs t I J Q := by
  have key : ∀ (d j : Nat) (I1 : Ii) (J1 : Jj), j + d = (L.length + 19) / 20 → ExW (fun k => k < 390) I I1 → I1 999 0 = I 999 0 + (j : Int) → I1 101 1 = ((20 * j : Nat) : Int) → (∀ i, i < 20 * j → I1 102 i = fdB L i) → I1 111 1 = I 111 1 → L_L_feeds_4 sL xs t Q (d + 1) ((20 * j : Nat) : Int) ((20 * j : Nat) : Int) I1 J1 := by
    intro d
    induction d with
    | zero =>
      intro j I1 J1 hj hx h9 h1 h2 h3
      obtain ⟨ht1, -⟩ := ht.ex hx ⟨by omega, ht2.1.2⟩ ⟨by omega, ht2.2.2⟩ (by omega) (by omega)
      show Lb_L_feeds_4 sL xs t Q _ ((20 * j : Nat) : Int) ((20 * j : Nat) : Int) I1 J1
      unfold Lb_L_feeds_4
      refine ⟨ht1.1, TX_len ht1 ⟨⟨by omega, by omega⟩, ⟨by omega, by omega⟩, fun _ => ⟨ht1.1, TX_emp ht1 ⟨fun c => ?_, fun c => ⟨ht1.1, TX_len ht1 ⟨⟨by omega, by omega⟩, ⟨by omega, by omega⟩, fun z => by omega, fun _ => ⟨ht1.1, TX_len ht1 ?_⟩⟩⟩⟩⟩, fun z => by omega⟩⟩
      · have e0 : L.length = 0 := by
          by_cases z : L.length = 0
          · exact z
          · rw [if_neg z] at c; exact absurd rfl c
        exact hq I1 J1 hx (by omega) (by omega) (fun i hi => by omega) h3
      · refine fr_X11_truncate (c_truncate (n := 20 * j) h1 (by omega) ⟨by omega, by omega⟩) (fun v I2 J2 hv s2 => ?_)
        obtain ⟨rfl, e2⟩ := hv
        have hk : ∀ k, k ≠ 101 → I2 k = I1 k := fun k hk2 => by rw [e2, up2_key hk2]
        have ht2' : TXr I2 t tb L.length := by
          obtain ⟨a1, a2, a3, a4, a5, a6⟩ := ht1
          refine ⟨?_, by rw [hk t (by omega)]; exact a2, by rw [hk t (by omega)]; exact a3, ?_, ?_, a6⟩
          · rw [e2, up2_dS (by omega)]; exact a1
          · rw [e2, up2_dS (by omega)]; exact a4
          · rw [e2, up2_dL (by omega)]; exact a5
        refine ⟨ht2'.1, TX_len ht2' ⟨⟨by omega, by omega⟩, ⟨by omega, by omega⟩, fun z => absurd rfl z, fun _ => hq I2 J2 ⟨?_, fun k k9 hk2 => ⟨fun hn2 => ?_, ?_⟩⟩ ?_ ?_ (fun i hi => ?_) ?_⟩⟩
        · rw [hk 999 (by omega)]; exact hx.1
        · rw [hk k (by omega)]; exact (hx.2 k k9 hk2).1 hn2
        · rw [hk _ (by omega)]; exact (hx.2 k k9 hk2).2
        · rw [hk 999 (by omega)]; omega
        · rw [e2, up2_self]
        · rw [hk 102 (by omega), h2 i (by omega)]
          unfold fdB
          rw [if_pos hi]
        · rw [hk 111 (by omega)]; exact h3
    | succ d ih =>
      intro j I1 J1 hj hx h9 h1 h2 h3
      obtain ⟨ht1, etb⟩ := ht.ex hx ⟨by omega, ht2.1.2⟩ ⟨by omega, ht2.2.2⟩ (by omega) (by omega)
      show Lb_L_feeds_4 sL xs t Q (L_L_feeds_4 sL xs t Q (d + 1)) ((20 * j : Nat) : Int) ((20 * j : Nat) : Int) I1 J1
      unfold Lb_L_feeds_4
      refine ⟨ht1.1, TX_len ht1 ⟨⟨by omega, by omega⟩, ⟨by omega, by omega⟩, fun z => by omega, fun _ => ?_⟩⟩
      have hm := hx.1
      refine c_feeds20 (n := 20 * j) ⟨by omega, by omega⟩ ht1 ⟨⟨ht2.1.1, by omega⟩, ht2.2.1, by omega⟩ (fun i hi => by rw [etb]; exact hby i hi) hb h1 (by omega) (by omega) (fun I2 J2 x2 n2 g1 g2 g3 => ?_)
      have := ih (j + 1) I2 J2 (by omega) (hx.trans x2 (fun _ q => q) (fun _ _ _ q => q)) (by omega) (by rw [g1]; omega) (fun i hi => ?_) (g3.trans h3)
      · rw [show ((20 * (j + 1) : Nat) : Int) = ((20 * j + 20 : Nat) : Int) by omega] at this
        rw [show ((20 * j : Nat) : Int) + 20 = ((20 * j + 20 : Nat) : Int) by omega]
        exact this
      · rw [g2]
        by_cases c : 20 * j ≤ i ∧ i < 20 * j + 20
        · rw [if_pos c]
        · rw [if_neg c]; exact h2 i (by omega)
  refine ⟨(L.length + 19) / 20 + 1, by omega, ?_⟩
  exact key _ 0 I J (by omega) (ExW.rf I) (by omega) hn (fun i hi => by omega) rfl
end FDS

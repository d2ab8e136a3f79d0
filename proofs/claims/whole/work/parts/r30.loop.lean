/-! ===== the law's loop ===== -/
section LWL
variable {G : KG} {X : KX} {Qs : State → Prop} {a b : Nat} {I : Ii} {J : Jj} {n i L b0 : Nat} {xs : Nat → Int}
set_option maxHeartbeats 4000000 in
set_option maxRecDepth 100000 in
theorem law_turn (hG : Kok G) (hW : KSx G) (hZ : KZx G) (hC : KCx G) (hX : KR X = room_1) (C : Fr G X cL_law 9 RL (some .boolean) wsL_law) (hT : ∀ U : State, G.1.2 U → va_T .int b0 L (fun j => .int (iZ (xs j))) (KFr G) U U.heap) (hxs : ∀ j, rg (xs j)) (hL : L ≤ 3072) (h : Inv n I J) (hn : n ≤ 600) (hi : i + 6 ≤ L)
    (k : ∀ (I2 : Ii) (J2 : Jj), Inv (n + 1) I2 J2 → Wz G X 9 Qs a b 2366 [some (.ref b0), some (.ref (kadr G 100)), some (.ref (kadr G 0)), some (.ref (kadr G 50)), some (.int (iZ i)), none, none, none, none] [] I2 J2) : Wz G X 9 Qs (1 + a) (6 + b) 33 [some (.ref b0), some (.ref (kadr G 100)), some (.ref (kadr G 0)), some (.ref (kadr G 50)), some (.int (iZ i)), none, none, none, none] [] I J := by
  refine wz_aload_n C rfl rfl dL_law_33 ?_
  refine wz_iload C rfl dL_law_34 ?_
  refine ws_iald C i hT rfl (by omega) (by omega) dL_law_36 ?_
  refine wz_bipush C (by decide) dL_law_37 ?_
  obtain ⟨m, hm, e⟩ := pk_andE (iZ (xs i)) (m := 63) 6 (by decide)
  refine wz_iandG C (v := (m : Int)) e dL_law_39 ?_
  have hc : m = 0 ∨ m = 1 ∨ m = 2 ∨ m = 3 ∨ m = 4 ∨ m = 5 ∨ m = 6 ∨ m = 7 ∨ m = 8 ∨ m = 9 ∨ m = 10 ∨ m = 11 ∨ m = 12 ∨ m = 13 ∨ m = 14 ∨ m = 15 ∨ m = 16 ∨ m = 17 ∨ m = 18 ∨ m = 19 ∨ m = 20 ∨ m = 21 ∨ m = 22 ∨ m = 23 ∨ m = 24 ∨ m = 25 ∨ m = 26 ∨ m = 27 ∨ m = 28 ∨ m = 29 ∨ m = 30 ∨ m = 31 ∨ m = 32 ∨ m = 33 ∨ m = 34 ∨ m = 35 ∨ m = 36 ∨ m = 37 ∨ m = 38 ∨ m = 39 ∨ m = 40 ∨ m = 41 ∨ m = 42 ∨ m = 43 ∨ m = 44 ∨ m = 45 ∨ m = 46 ∨ (47 ≤ m ∧ m < 64) := by omega
  rcases hc with rfl | rfl | rfl | rfl | rfl | rfl | rfl | rfl | rfl | rfl | rfl | rfl | rfl | rfl | rfl | rfl | rfl | rfl | rfl | rfl | rfl | rfl | rfl | rfl | rfl | rfl | rfl | rfl | rfl | rfl | rfl | rfl | rfl | rfl | rfl | rfl | rfl | rfl | rfl | rfl | rfl | rfl | rfl | rfl | rfl | rfl | rfl | hc
  · refine wz_tableIn C (v := 0) (off := 204) (tgt := 244) rfl dL_law_40 (by decide) (by decide) (by decide) ?_
    exact law_feed hG hW hZ hC hX C hT hxs h hn hi hL k
  · refine wz_tableIn C (v := 1) (off := 308) (tgt := 348) rfl dL_law_40 (by decide) (by decide) (by decide) ?_
    exact law_truncate hG hW hZ hC hX C hT hxs h hn hi hL k
  · refine wz_tableIn C (v := 2) (off := 364) (tgt := 404) rfl dL_law_40 (by decide) (by decide) (by decide) ?_
    exact law_readText hG hW hZ hC hX C hT hxs h hn hi hL k
  · refine wz_tableIn C (v := 3) (off := 408) (tgt := 448) rfl dL_law_40 (by decide) (by decide) (by decide) ?_
    exact law_runScript hG hW hZ hC hX C hT hxs h hn hi hL k
  · refine wz_tableIn C (v := 4) (off := 452) (tgt := 492) rfl dL_law_40 (by decide) (by decide) (by decide) ?_
    exact law_error hG hW hZ hC hX C hT hxs h hn hi hL k
  · refine wz_tableIn C (v := 5) (off := 508) (tgt := 548) rfl dL_law_40 (by decide) (by decide) (by decide) ?_
    exact law_setting hG hW hZ hC hX C hT hxs h hn hi hL k
  · refine wz_tableIn C (v := 6) (off := 564) (tgt := 604) rfl dL_law_40 (by decide) (by decide) (by decide) ?_
    exact law_weight hG hW hZ hC hX C hT hxs h hn hi hL k
  · refine wz_tableIn C (v := 7) (off := 620) (tgt := 660) rfl dL_law_40 (by decide) (by decide) (by decide) ?_
    exact law_edge hG hW hZ hC hX C hT hxs h hn hi hL k
  · refine wz_tableIn C (v := 8) (off := 688) (tgt := 728) rfl dL_law_40 (by decide) (by decide) (by decide) ?_
    exact law_between hG hW hZ hC hX C hT hxs h hn hi hL k
  · refine wz_tableIn C (v := 9) (off := 756) (tgt := 796) rfl dL_law_40 (by decide) (by decide) (by decide) ?_
    exact law_flow hG hW hZ hC hX C hT hxs h hn hi hL k
  · refine wz_tableIn C (v := 10) (off := 824) (tgt := 864) rfl dL_law_40 (by decide) (by decide) (by decide) ?_
    exact law_side hG hW hZ hC hX C hT hxs h hn hi hL k
  · refine wz_tableIn C (v := 11) (off := 892) (tgt := 932) rfl dL_law_40 (by decide) (by decide) (by decide) ?_
    exact Wz.wide (law_leastFlow hG hW hZ hC hX C hT hxs h hn hi hL k) (by omega) (by omega)
  · refine wz_tableIn C (v := 12) (off := 905) (tgt := 945) rfl dL_law_40 (by decide) (by decide) (by decide) ?_
    exact law_partOf hG hW hZ hC hX C hT hxs h hn hi hL k
  · refine wz_tableIn C (v := 13) (off := 961) (tgt := 1001) rfl dL_law_40 (by decide) (by decide) (by decide) ?_
    exact law_part hG hW hZ hC hX C hT hxs h hn hi hL k
  · refine wz_tableIn C (v := 14) (off := 1029) (tgt := 1069) rfl dL_law_40 (by decide) (by decide) (by decide) ?_
    exact Wz.wide (law_cut hG hW hZ hC hX C hT hxs h hn hi hL k) (by omega) (by omega)
  · refine wz_tableIn C (v := 15) (off := 1042) (tgt := 1082) rfl dL_law_40 (by decide) (by decide) (by decide) ?_
    exact Wz.wide (law_debts hG hW hZ hC hX C hT hxs h hn hi hL k) (by omega) (by omega)
  · refine wz_tableIn C (v := 16) (off := 1055) (tgt := 1095) rfl dL_law_40 (by decide) (by decide) (by decide) ?_
    exact Wz.wide (law_border hG hW hZ hC hX C hT hxs h hn hi hL k) (by omega) (by omega)
  · refine wz_tableIn C (v := 17) (off := 1068) (tgt := 1108) rfl dL_law_40 (by decide) (by decide) (by decide) ?_
    exact Wz.wide (law_heaviest hG hW hZ hC hX C hT hxs h hn hi hL k) (by omega) (by omega)
  · refine wz_tableIn C (v := 18) (off := 1081) (tgt := 1121) rfl dL_law_40 (by decide) (by decide) (by decide) ?_
    exact Wz.wide (law_cutShare hG hW hZ hC hX C hT hxs h hn hi hL k) (by omega) (by omega)
  · refine wz_tableIn C (v := 19) (off := 1124) (tgt := 1164) rfl dL_law_40 (by decide) (by decide) (by decide) ?_
    exact Wz.wide (law_imbalance hG hW hZ hC hX C hT hxs h hn hi hL k) (by omega) (by omega)
  · refine wz_tableIn C (v := 20) (off := 1165) (tgt := 1205) rfl dL_law_40 (by decide) (by decide) (by decide) ?_
    exact law_group hG hW hZ hC hX C hT hxs h hn hi hL k
  · refine wz_tableIn C (v := 21) (off := 1233) (tgt := 1273) rfl dL_law_40 (by decide) (by decide) (by decide) ?_
    exact law_groupOf hG hW hZ hC hX C hT hxs h hn hi hL k
  · refine wz_tableIn C (v := 22) (off := 1289) (tgt := 1329) rfl dL_law_40 (by decide) (by decide) (by decide) ?_
    exact Wz.wide (law_whyNotShrink hG hW hZ hC hX C hT hxs h hn hi hL k) (by omega) (by omega)
  · refine wz_tableIn C (v := 23) (off := 1302) (tgt := 1342) rfl dL_law_40 (by decide) (by decide) (by decide) ?_
    exact law_mate hG hW hZ hC hX C hT hxs h hn hi hL k
  · refine wz_tableIn C (v := 24) (off := 1358) (tgt := 1398) rfl dL_law_40 (by decide) (by decide) (by decide) ?_
    exact law_gain hG hW hZ hC hX C hT hxs h hn hi hL k
  · refine wz_tableIn C (v := 25) (off := 1426) (tgt := 1466) rfl dL_law_40 (by decide) (by decide) (by decide) ?_
    exact law_whyNotMove hG hW hZ hC hX C hT hxs h hn hi hL k
  · refine wz_tableIn C (v := 26) (off := 1494) (tgt := 1534) rfl dL_law_40 (by decide) (by decide) (by decide) ?_
    exact law_debtsIf hG hW hZ hC hX C hT hxs h hn hi hL k
  · refine wz_tableIn C (v := 27) (off := 1562) (tgt := 1602) rfl dL_law_40 (by decide) (by decide) (by decide) ?_
    exact Wz.wide (law_nextStep hG hW hZ hC hX C hT hxs h hn hi hL k) (by omega) (by omega)
  · refine wz_tableIn C (v := 28) (off := 1575) (tgt := 1615) rfl dL_law_40 (by decide) (by decide) (by decide) ?_
    exact Wz.wide (law_bestDebts hG hW hZ hC hX C hT hxs h hn hi hL k) (by omega) (by omega)
  · refine wz_tableIn C (v := 29) (off := 1588) (tgt := 1628) rfl dL_law_40 (by decide) (by decide) (by decide) ?_
    exact Wz.wide (law_bestCut hG hW hZ hC hX C hT hxs h hn hi hL k) (by omega) (by omega)
  · refine wz_tableIn C (v := 30) (off := 1601) (tgt := 1641) rfl dL_law_40 (by decide) (by decide) (by decide) ?_
    exact law_stepsToEnd hG hW hZ hC hX C hT hxs h hn hi hL k
  · refine wz_tableIn C (v := 31) (off := 1657) (tgt := 1697) rfl dL_law_40 (by decide) (by decide) (by decide) ?_
    exact law_cutBehind hG hW hZ hC hX C hT hxs h hn hi hL k
  · refine wz_tableIn C (v := 32) (off := 1713) (tgt := 1753) rfl dL_law_40 (by decide) (by decide) (by decide) ?_
    exact Wz.wide (law_events hG hW hZ hC hX C hT hxs h hn hi hL k) (by omega) (by omega)
  · refine wz_tableIn C (v := 33) (off := 1726) (tgt := 1766) rfl dL_law_40 (by decide) (by decide) (by decide) ?_
    exact law_event hG hW hZ hC hX C hT hxs h hn hi hL k
  · refine wz_tableIn C (v := 34) (off := 1794) (tgt := 1834) rfl dL_law_40 (by decide) (by decide) (by decide) ?_
    exact law_shrink hG hW hZ hC hX C hT hxs h hn hi hL k
  · refine wz_tableIn C (v := 35) (off := 1838) (tgt := 1878) rfl dL_law_40 (by decide) (by decide) (by decide) ?_
    exact law_grow hG hW hZ hC hX C hT hxs h hn hi hL k
  · refine wz_tableIn C (v := 36) (off := 1882) (tgt := 1922) rfl dL_law_40 (by decide) (by decide) (by decide) ?_
    exact law_move hG hW hZ hC hX C hT hxs h hn hi hL k
  · refine wz_tableIn C (v := 37) (off := 1950) (tgt := 1990) rfl dL_law_40 (by decide) (by decide) (by decide) ?_
    exact Wz.wide (law_step hG hW hZ hC hX C hT hxs h hn hi hL k) (by omega) (by omega)
  · refine wz_tableIn C (v := 38) (off := 1963) (tgt := 2003) rfl dL_law_40 (by decide) (by decide) (by decide) ?_
    exact law_steps hG hW hZ hC hX C hT hxs h hn hi hL k
  · refine wz_tableIn C (v := 39) (off := 2019) (tgt := 2059) rfl dL_law_40 (by decide) (by decide) (by decide) ?_
    exact law_placeBest hG hW hZ hC hX C hT hxs h hn hi hL k
  · refine wz_tableIn C (v := 40) (off := 2063) (tgt := 2103) rfl dL_law_40 (by decide) (by decide) (by decide) ?_
    exact law_placeApart hG hW hZ hC hX C hT hxs h hn hi hL k
  · refine wz_tableIn C (v := 41) (off := 2131) (tgt := 2171) rfl dL_law_40 (by decide) (by decide) (by decide) ?_
    exact law_setCredit hG hW hZ hC hX C hT hxs h hn hi hL k
  · refine wz_tableIn C (v := 42) (off := 2187) (tgt := 2227) rfl dL_law_40 (by decide) (by decide) (by decide) ?_
    exact Wz.wide (law_report hG hW hZ hC hX C hT hxs h hn hi hL k) (by omega) (by omega)
  · refine wz_tableIn C (v := 43) (off := 2200) (tgt := 2240) rfl dL_law_40 (by decide) (by decide) (by decide) ?_
    exact law_reportByte hG hW hZ hC hX C hT hxs h hn hi hL k
  · refine wz_tableIn C (v := 44) (off := 2256) (tgt := 2296) rfl dL_law_40 (by decide) (by decide) (by decide) ?_
    exact Wz.wide (law_undo hG hW hZ hC hX C hT hxs h hn hi hL k) (by omega) (by omega)
  · refine wz_tableIn C (v := 45) (off := 2269) (tgt := 2309) rfl dL_law_40 (by decide) (by decide) (by decide) ?_
    exact Wz.wide (law_save hG hW hZ hC hX C hT hxs h hn hi hL k) (by omega) (by omega)
  · refine wz_tableIn C (v := 46) (off := 2282) (tgt := 2322) rfl dL_law_40 (by decide) (by decide) (by decide) ?_
    exact law_restore hG hW hZ hC hX C hT hxs h hn hi hL k
  · refine wz_tableOut C (tgt := 2366) (by omega) dL_law_40 (by omega) (by decide) ?_
    exact Wz.wide (k _ _ h.mono) (by omega) (by omega)
set_option maxHeartbeats 4000000 in
theorem law_loop (hG : Kok G) (hW : KSx G) (hZ : KZx G) (hC : KCx G) (hX : KR X = room_1) (C : Fr G X cL_law 9 RL (some .boolean) wsL_law) (hT : ∀ U : State, G.1.2 U → va_T .int b0 L (fun j => .int (iZ (xs j))) (KFr G) U U.heap) (hxs : ∀ j, rg (xs j)) (hL : L ≤ 3072) (k1 : ∀ (lv : List (Option Value)) (I : Ii) (J : Jj), Wz G X 9 Qs 0 0 2372 lv [] I J) : ∀ (t n : Nat) (I : Ii) (J : Jj), Inv n I J → L < 6 * (n + t + 1) → n + t ≤ 600 → Wz G X 9 Qs t (6 * t) 23 [some (.ref b0), some (.ref (kadr G 100)), some (.ref (kadr G 0)), some (.ref (kadr G 50)), some (.int (iZ ((6 * n : Nat) : Int))), none, none, none, none] [] I J := by
  intro t
  induction t with
  | zero =>
    intro n I J h h1 h2
    refine wz_iload C rfl dL_law_23 ?_
    refine wz_aload_n C rfl rfl dL_law_25 ?_
    refine ws_ilen C hT (by omega) dL_law_26 ?_
    refine wz_bipush C (by decide) dL_law_27 ?_
    refine wz_isub C dL_law_29 ?_
    refine wz_icmp_gt C (tgt := 2372) (by omega) (by omega) dL_law_30 (by decide) (fun _ => ?_) (fun c => absurd (show (L : Int) - 6 < ((6 * n : Nat) : Int) by omega) c)
    exact k1 _ _ _
  | succ t ih =>
    intro n I J h h1 h2
    refine wz_iload C rfl dL_law_23 ?_
    refine wz_aload_n C rfl rfl dL_law_25 ?_
    refine ws_ilen C hT (by omega) dL_law_26 ?_
    refine wz_bipush C (by decide) dL_law_27 ?_
    refine wz_isub C dL_law_29 ?_
    refine wz_icmp_gt C (tgt := 2372) (by omega) (by omega) dL_law_30 (by decide) (fun _ => ?_) (fun c => ?_)
    · exact Wz.wide (k1 _ _ _) (by omega) (by omega)
    · refine Wz.wide (law_turn (a := t) (b := 6 * t) hG hW hZ hC hX C hT hxs hL h (by omega) (by omega) (fun I2 J2 h3 => ?_)) (by omega) (by omega)
      refine wz_iinc_4 C rfl dL_law_2366 ?_
      refine wz_goto C dL_law_2369 (tgt := 23) (by decide) ?_
      have e6 : (((6 * n : Nat) : Int) + 6) = ((6 * (n + 1) : Nat) : Int) := by omega
      rw [e6]
      exact ih (n + 1) I2 J2 h3 (by omega) (by omega)
end LWL

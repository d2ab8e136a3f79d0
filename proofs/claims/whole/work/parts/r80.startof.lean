/-! ===== the law's end out of what stands fast at its entry ===== -/
theorem start_of {p : Program} {e : Env} {s : State} {m : MethodId} {below : List Frame} {meth : Method} {c : Code} (l : Launch) {b L : Nat} {xs : Nat → Int32} {sd : Nat → Nat × Nat} {D : va_G} {cA : ClassId × ClassId × ClassId} (hL : L ≤ 3072) (C0 : lw_At p s m meth c b L xs) (hsub : ∀ w ∈ wsL_law, w ∈ lw_tbl) (hK : Kst (lawH l s.heap.size sd b L (fun j => (xs j).toInt) D cA) s) : W p l e room_1 s m #[Value.ref b] below meth c s.heap [] 0 0 (lw_Z below #[Value.ref b] s) (entryFrame m ([Value.ref b] : List Value).toArray 9) := by
  obtain ⟨hx, hb, hr, hml, hown, hts, hX, hbl, hlk, hgv⟩ := C0
  have hd0 := Drawn.sameBut.refl s.drawn lw_cs
  refine W.base ?_
  have hK' : Kst (lawH l s.heap.size sd b L (fun j => (xs j).toInt) D cA) (s.setDrawn s.drawn) := Kst.same rfl rfl hK
  have C : Fr (lawH l s.heap.size sd b L (fun j => (xs j).toInt) D cA) (p, e, room_1, s.setDrawn s.drawn, m, #[Value.ref b], below, meth, c) cL_law 9 RL (some .boolean) wsL_law := ⟨hx, hb, hml, hown, fun w hw => hts w (hsub w hw), hr, hlk, hK', Kok_of lawH_A, Nat.le_refl _⟩
  rw [lg_entry_eq]
  have hlen : (lg_sl [Value.ref b]).length ≤ 9 := Nat.le_of_ble_eq_true rfl
  have hla : ∀ q ∈ lvA 0 [some (Value.ref b), none, none, none, none, none, none, none, none], q ∈ lv_args 0 [Value.ref b] := by rintro q (_ | ⟨_, _ | ⟨⟩⟩); exact List.Mem.head _
  refine law_all (X := (p, e, room_1, s.setDrawn s.drawn, m, #[Value.ref b], below, meth, c)) (Qs := lw_Z below #[Value.ref b] s) (E := fun _ => .inr (0, [])) lawH_A lawH_W lawH_Z lawH_C lawH_AO rfl C lawH_T (fun j => ?_) hL (fun lv I J => ?_) 0 0 (by decide) (by decide) s.heap [] _ ⟨rfl, fun i hi => absurd hi (Nat.not_lt_zero i)⟩ va_S.rf (lvD.of (lv_entry [Value.ref b] hlen) (Nat.le_of_ble_eq_true rfl) (fun i v h => hla (i, v) ((lvA_mem _ 0 (i, v)).mpr ⟨Nat.zero_le _, h⟩)))
  · have h1 := (xs j).le_toInt
    have h2 := (xs j).toInt_lt
    exact ⟨h1, h2⟩
  · refine wz_iconst C dL_law_2372 ?_
    exact fun k9 n9 hk hn H locs ls hP hS hl => va_forget (fun q hq => hS.2.2 q hq) (W.widen hk hn (lw_ret hd0 hx hb hr hlk dL_law_2373))

/-! ===== the search, turn by turn ===== -/
theorem k_X12_searchD (G : KG) (hG : Kok G) (hW : KWx G) : ∀ (d k2 k3 k4 : Nat) (l1 : Int) (I : Ii) (J : Jj) (Q : Ii → Jj → Prop), wpS d k2 k3 k4 l1 I J Q → Ctr G yX12_search wsX12_search { frames := 8 * d, cells := 0, slots := 0, locals := 400 * d } [.ref (kadr G 1000), .int (iZ l1), .ref (kadr G k2), .ref (kadr G k3), .ref (kadr G k4)] (I, J) (QsV Q)
  | 0, _, _, _, _, _, _, _, h => False.elim h
  | d + 1, k2, k3, k4, l1, I, J, Q, h => k_X12_search_b G hG hW (k_X12_searchD G hG hW d) k2 k3 k4 l1 I J Q h
def rm_X12_search : Room := { frames := 64, cells := 0, slots := 0, locals := 3200 }
theorem k_X12_search (G : KG) (hG : Kok G) (hW : KWx G) (k2 k3 k4 : Nat) (l1 : Int) (I : Ii) (J : Jj) (Q : Ii → Jj → Prop) (h : wp_X12_search k2 k3 k4 l1 I J Q) : Ctr G yX12_search wsX12_search rm_X12_search [.ref (kadr G 1000), .int (iZ l1), .ref (kadr G k2), .ref (kadr G k3), .ref (kadr G k4)] (I, J) (QsV Q) := k_X12_searchD G hG hW 8 k2 k3 k4 l1 I J Q h

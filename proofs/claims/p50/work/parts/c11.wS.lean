/-! ===== the search, turn by turn ===== -/
def wpS : Nat → Nat → Nat → Nat → Int → Ii → Jj → (Ii → Jj → Prop) → Prop
  | 0 => fun _ _ _ _ _ _ _ => False
  | d + 1 => fun k2 k3 k4 l1 I J Q => wp_X12_search_b (wpS d) k2 k3 k4 l1 I J Q
def wp_X12_search (k2 k3 k4 : Nat) (l1 : Int) (I : Ii) (J : Jj) (Q : Ii → Jj → Prop) : Prop := wpS 8 k2 k3 k4 l1 I J Q

/-! ORDERS AS LISTS -/
/-- the list of an order -/
def olF (n : Nat) (t : Nat → Nat) : List Nat := (List.range n).map t

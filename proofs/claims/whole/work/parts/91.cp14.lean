/-! ===== String.indexOf ===== -/
def fxN (tx : List Nat) (c : Nat) : Nat := pfx (fun i => !(decide (tx.getD i 0 = c))) tx.length
def ixI (tx : List Nat) (c : Nat) : Int32 := if fxN tx c < tx.length then nI (fxN tx c) else (-1)

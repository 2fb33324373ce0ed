/-! ===== what the calls make of the state ===== -/
def opB (σ : SG) (N : Nat) (b : Int) : SG := sup (sfl (sup (sup σ 1 N b) 2 N (-1)) 5 (24 * N) 24 (fun _ => 20)) 0 0 ((N + 1 : Nat) : Int)

/-! telling, on the reference's side -/
def b1u (g : FA) (a b : Nat) : FA := upd g a (g a ||| (1 <<< (nI b &&& 31)))

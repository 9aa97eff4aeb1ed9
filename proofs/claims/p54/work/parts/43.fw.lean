section
/-! what may be written, as lists -/
abbrev sx_Wl : Type := List (Nat × Nat) × List Nat × List (Nat × Nat)
def sx_W (w : sx_Wl) : ai_W := (fun t k => w.1.any fun q => decide (q.1 = t) && decide (q.2 = k), fun t => w.2.1.any fun q => decide (q = t), fun t k => w.2.2.any fun q => decide (q.1 = t) && decide (q.2 = k))
def sx_wle (w w' : sx_Wl) : Bool := (w.1.all fun q => (sx_W w').1 q.1 q.2) && (w.2.1.all fun q => (sx_W w').2.1 q) && w.2.2.all fun q => (sx_W w').2.2 q.1 q.2
end

/-! the relation between the class's state and the reference's -/
def permH (π : Nat → Nat) : Prop := (∀ i, i < 4 → π i < 4) ∧ ∀ i j, i < 4 → j < 4 → π i = π j → i = j
def A0 : tA := fun k j => if k = 7 then (if j = 0 then 3 else if j = 1 then 4 else 2) else 0

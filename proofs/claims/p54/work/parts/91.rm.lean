/-! the Statement's room is measured anew by each turn: the law keeps below these round numbers -/
theorem rm_c {x : Nat} (h : x ≤ 606000) : x ≤ room_1.cells := Nat.le_trans h (Nat.le_of_ble_eq_true rfl)
theorem rm_s {x : Nat} (h : x ≤ 7100000) : x ≤ room_1.slots := Nat.le_trans h (Nat.le_of_ble_eq_true rfl)

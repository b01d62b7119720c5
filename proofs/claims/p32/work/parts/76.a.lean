theorem rm_c {x : Nat} (h : x ≤ 600074) : x ≤ room_1.cells := h
theorem rm_s {x : Nat} (h : x ≤ 7301550) : x ≤ room_1.slots := h

section PWD
/-! the object and its 57 cells -/
def mnF (a : Nat → Nat) (g : m_St) : List Value := [.ref (a 1), .ref (a 2), .ref (a 3), .int (iI (g 0 0 3)), .int (iI (g 0 0 4)), .int (iI (g 0 0 5)), .ref (a 4), .ref (a 5), .int (iI (g 0 0 8)), .int (iI (g 0 0 9)), .int (iI (g 0 0 10)), .int (iI (g 0 0 11)), .int (iI (g 0 0 12)), .int (iI (g 0 0 13)), .int (iI (g 0 0 14)), .int (iI (g 0 0 15)), .int (iI (g 0 0 16)), .int (iI (g 0 0 17)), .ref (a 6)]
def hsF (g : m_St) (h : Int) : List Value := [.int (iI (g 1 h 0)), .int (iI (g 1 h 1))]
def bkF (g : m_St) (b : Int) : List Value := [.int (iI (g 2 b 0)), .int (iI (g 2 b 1)), .int (iI (g 2 b 2)), .int (iI (g 2 b 3)), .int (iI (g 2 b 4)), .int (iI (g 2 b 5)), .int (iI (g 2 b 6)), .int (iI (g 2 b 7)), .int (iI (g 2 b 8)), .int (iI (g 2 b 9)), .int (iI (g 2 b 10))]
def jdF (a : Nat → Nat) (g : m_St) (j : Int) : List Value := [.int (iI (g 3 j 0)), .int (iI (g 3 j 1)), .int (iI (g 3 j 2)), .int (iI (g 3 j 3)), .int (iI (g 3 j 4)), .ref (a (29 + 6 * j.toNat)), .ref (a (30 + 6 * j.toNat)), .int (iI (g 3 j 7)), .int (iI (g 3 j 8)), .int (iI (g 3 j 9)), .int (iI (g 3 j 10)), .ref (a (31 + 6 * j.toNat)), .int (iI (g 3 j 12)), .ref (a (32 + 6 * j.toNat)), .ref (a (33 + 6 * j.toNat)), .int (iI (g 3 j 15))]
def ruF (g : m_St) (k : Int) : List Value := [.int (iI (g 9 k 0)), .int (iI (g 9 k 1)), .int (iI (g 9 k 2)), .int (iI (g 9 k 3))]
def rwF (g : m_St) (c : Nat) (j : Int) : Nat → Int32 := fun n => iI (g c j n)
/-- what the q-th cell holds -/
def pcell (a : Nat → Nat) (cH cB cJ cI : ClassId) (g : m_St) (vt : Nat → Int32) (q : Nat) : va_E :=
  if q = 0 then .inr (4, mnF a g)
  else if q = 1 then .inl (cH, 5, .inr (.inr (.inr (.inr (fun n => some (a (7 + n)))))))
  else if q = 2 then .inl (cB, 16, .inr (.inr (.inr (.inr (fun n => some (a (12 + n)))))))
  else if q = 3 then .inl (cJ, 5, .inr (.inr (.inr (.inr (fun n => some (a (28 + 6 * n)))))))
  else if q < 6 then .inr (3, ruF g ((q : Int) - 4))
  else if q = 6 then .inl (cI, 16, .inl vt)
  else if q < 12 then .inr (1, hsF g ((q : Int) - 7))
  else if q < 28 then .inr (0, bkF g ((q : Int) - 12))
  else if (q - 28) % 6 = 0 then .inr (2, jdF a g (((q - 28) / 6 : Nat) : Int))
  else .inl (cI, if (q - 28) % 6 = 5 then 5 else 16, .inl (rwF g (3 + (q - 28) % 6) (((q - 28) / 6 : Nat) : Int)))
def pw (a : Nat → Nat) (cH cB cJ cI : ClassId) (g : m_St) (vt : Nat → Int32) : va_W := (List.range 58).map (fun q => (a q, pcell a cH cB cJ cI g vt q))
variable {a : Nat → Nat} {cH cB cJ cI : ClassId} {g : m_St} {vt : Nat → Int32}
theorem pw_get {q : Nat} (h : q < 58) : (pw a cH cB cJ cI g vt)[q]? = some (a q, pcell a cH cB cJ cI g vt q) := by
  simp [pw, h]
theorem pw_set {g' : m_St} {vt' : Nat → Int32} {q : Nat} {x : va_E} (h : q < 58) (hx : pcell a cH cB cJ cI g' vt' q = x) (ho : ∀ r, r < 58 → r ≠ q → pcell a cH cB cJ cI g' vt' r = pcell a cH cB cJ cI g vt r) : (pw a cH cB cJ cI g vt).set q (a q, x) = pw a cH cB cJ cI g' vt' := by
  apply List.ext_getElem?
  intro r
  by_cases e : q = r
  · subst e
    rw [List.getElem?_set_self (by simpa [pw] using h), pw_get h, hx]
  · rw [List.getElem?_set_ne e]
    by_cases z : r < 58
    · rw [pw_get z, pw_get z, ho r z (fun y => e y.symm)]
    · simp [pw, z]
theorem pw_0 : (pw a cH cB cJ cI g vt)[0]? = some (a 0, .inr (4, mnF a g)) := pw_get (by decide)
theorem pw_H {h : Int} (h0 : 0 ≤ h) (h1 : h < 5) : (pw a cH cB cJ cI g vt)[7 + h.toNat]? = some (a (7 + h.toNat), .inr (1, hsF g h)) := by
  rw [pw_get (by omega)]
  unfold pcell
  rw [if_neg (by omega), if_neg (by omega), if_neg (by omega), if_neg (by omega), if_neg (by omega), if_neg (by omega), if_pos (by omega), show (((7 + h.toNat : Nat) : Int) - 7) = h from by omega]
theorem pw_B {b : Int} (h0 : 0 ≤ b) (h1 : b < 16) : (pw a cH cB cJ cI g vt)[12 + b.toNat]? = some (a (12 + b.toNat), .inr (0, bkF g b)) := by
  rw [pw_get (by omega)]
  unfold pcell
  rw [if_neg (by omega), if_neg (by omega), if_neg (by omega), if_neg (by omega), if_neg (by omega), if_neg (by omega), if_neg (by omega), if_pos (by omega), show (((12 + b.toNat : Nat) : Int) - 12) = b from by omega]
theorem pw_J {j : Int} (h0 : 0 ≤ j) (h1 : j < 5) : (pw a cH cB cJ cI g vt)[28 + 6 * j.toNat]? = some (a (28 + 6 * j.toNat), .inr (2, jdF a g j)) := by
  rw [pw_get (by omega)]
  unfold pcell
  rw [if_neg (by omega), if_neg (by omega), if_neg (by omega), if_neg (by omega), if_neg (by omega), if_neg (by omega), if_neg (by omega), if_neg (by omega), if_pos (by omega), show (((28 + 6 * j.toNat - 28) / 6 : Nat) : Int) = j from by omega]
theorem pw_R {j : Int} {r : Nat} (h0 : 0 ≤ j) (h1 : j < 5) (hr : 1 ≤ r ∧ r < 6) : (pw a cH cB cJ cI g vt)[28 + r + 6 * j.toNat]? = some (a (28 + r + 6 * j.toNat), .inl (cI, if r = 5 then 5 else 16, .inl (rwF g (3 + r) j))) := by
  rw [pw_get (by omega)]
  unfold pcell
  rw [if_neg (by omega), if_neg (by omega), if_neg (by omega), if_neg (by omega), if_neg (by omega), if_neg (by omega), if_neg (by omega), if_neg (by omega), if_neg (by omega), show (28 + r + 6 * j.toNat - 28) % 6 = r from by omega, show (((28 + r + 6 * j.toNat - 28) / 6 : Nat) : Int) = j from by omega]
end PWD

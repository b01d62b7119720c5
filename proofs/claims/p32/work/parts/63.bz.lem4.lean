section LES
theorem not_or_2 {x : Int} {c : Bool} (h : x = 0) (h2 : c = false) : ¬ (x ≠ 0 ∨ c = true) := by
  rintro (q | q)
  · exact q h
  · rw [h2] at q; cases q
end LES
theorem fo_0 {α : Type} (f : Int → α → α) (x : α) : m_fo f x 0 = x := rfl
theorem fo_s {α : Type} (f : Int → α → α) (x : α) (n : Nat) : m_fo f x (n + 1) = f n (m_fo f x n) := rfl

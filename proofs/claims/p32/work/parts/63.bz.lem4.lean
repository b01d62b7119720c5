section LES
theorem not_or_2 {x : Int} {c : Bool} (h : x = 0) (h2 : c = false) : ¬ (x ≠ 0 ∨ c = true) := by
  rintro (q | q)
  · exact q h
  · rw [h2] at q; cases q
end LES

section MEA
def n64B (r : UInt64) : Bool := decide (r &&& 0x7fffffffffffffff ≤ 0x7ff0000000000000)
def meanB (n t : Int) : Bool := (n == 0 || n64B (FP.ddiv (FP.i2d (iI t)) (FP.i2d (iI n)))) && (n64B (FP.dmul (MeanQ n t) (FP.i2d (iI n))) && (n64B (MeanD n t) && decide (Op.cmpValue (FP.dcmp (MeanD n t &&& 0x7fffffffffffffff) 4547007122018943789) .l ≤ 0)))
theorem n64B_ok {r : UInt64} (h : n64B r = true) : vf_n64 r := by
  unfold n64B at h
  unfold vf_n64
  exact of_decide_eq_true h
theorem meanB_ok {n t : Int} (h : meanB n t = true) : MeanOk n t := by
  unfold meanB at h
  obtain ⟨a, h⟩ := Bool.and_eq_true _ _ ▸ h
  obtain ⟨b, h⟩ := Bool.and_eq_true _ _ ▸ h
  obtain ⟨c, d⟩ := Bool.and_eq_true _ _ ▸ h
  refine ⟨fun z => ?_, n64B_ok b, n64B_ok c, of_decide_eq_true d⟩
  rcases Bool.or_eq_true _ _ ▸ a with q | q
  · exact absurd (eq_of_beq q) z
  · exact n64B_ok q
end MEA

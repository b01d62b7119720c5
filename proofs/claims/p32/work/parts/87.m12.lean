set_option maxRecDepth 100000 in
theorem mean_9_0 : ∀ t : Nat, t < 800 → meanB 9 ((t + 0 : Nat) : Int) = true := by decide +kernel
set_option maxRecDepth 100000 in
theorem mean_9_800 : ∀ t : Nat, t < 92 → meanB 9 ((t + 800 : Nat) : Int) = true := by decide +kernel
theorem mean_9 (t : Int) (h0 : 0 ≤ t) (h1 : t ≤ 891) : MeanOk 9 t := by
  by_cases c0 : t < 800
  · have h := mean_9_0 (t.toNat - 0) (by omega); rw [show (((t.toNat - 0) + 0 : Nat) : Int) = t from by omega] at h; exact meanB_ok h
  have h := mean_9_800 (t.toNat - 800) (by omega); rw [show (((t.toNat - 800) + 800 : Nat) : Int) = t from by omega] at h; exact meanB_ok h
set_option maxRecDepth 100000 in
theorem mean_8_0 : ∀ t : Nat, t < 793 → meanB 8 ((t + 0 : Nat) : Int) = true := by decide +kernel
theorem mean_8 (t : Int) (h0 : 0 ≤ t) (h1 : t ≤ 792) : MeanOk 8 t := by
  have h := mean_8_0 (t.toNat - 0) (by omega); rw [show (((t.toNat - 0) + 0 : Nat) : Int) = t from by omega] at h; exact meanB_ok h
set_option maxRecDepth 100000 in
theorem mean_7_0 : ∀ t : Nat, t < 694 → meanB 7 ((t + 0 : Nat) : Int) = true := by decide +kernel
theorem mean_7 (t : Int) (h0 : 0 ≤ t) (h1 : t ≤ 693) : MeanOk 7 t := by
  have h := mean_7_0 (t.toNat - 0) (by omega); rw [show (((t.toNat - 0) + 0 : Nat) : Int) = t from by omega] at h; exact meanB_ok h
set_option maxRecDepth 100000 in
theorem mean_6_0 : ∀ t : Nat, t < 595 → meanB 6 ((t + 0 : Nat) : Int) = true := by decide +kernel
theorem mean_6 (t : Int) (h0 : 0 ≤ t) (h1 : t ≤ 594) : MeanOk 6 t := by
  have h := mean_6_0 (t.toNat - 0) (by omega); rw [show (((t.toNat - 0) + 0 : Nat) : Int) = t from by omega] at h; exact meanB_ok h
set_option maxRecDepth 100000 in
theorem mean_5_0 : ∀ t : Nat, t < 496 → meanB 5 ((t + 0 : Nat) : Int) = true := by decide +kernel
theorem mean_5 (t : Int) (h0 : 0 ≤ t) (h1 : t ≤ 495) : MeanOk 5 t := by
  have h := mean_5_0 (t.toNat - 0) (by omega); rw [show (((t.toNat - 0) + 0 : Nat) : Int) = t from by omega] at h; exact meanB_ok h
set_option maxRecDepth 100000 in
theorem mean_4_0 : ∀ t : Nat, t < 397 → meanB 4 ((t + 0 : Nat) : Int) = true := by decide +kernel
theorem mean_4 (t : Int) (h0 : 0 ≤ t) (h1 : t ≤ 396) : MeanOk 4 t := by
  have h := mean_4_0 (t.toNat - 0) (by omega); rw [show (((t.toNat - 0) + 0 : Nat) : Int) = t from by omega] at h; exact meanB_ok h
set_option maxRecDepth 100000 in
theorem mean_3_0 : ∀ t : Nat, t < 298 → meanB 3 ((t + 0 : Nat) : Int) = true := by decide +kernel
theorem mean_3 (t : Int) (h0 : 0 ≤ t) (h1 : t ≤ 297) : MeanOk 3 t := by
  have h := mean_3_0 (t.toNat - 0) (by omega); rw [show (((t.toNat - 0) + 0 : Nat) : Int) = t from by omega] at h; exact meanB_ok h
set_option maxRecDepth 100000 in
theorem mean_2_0 : ∀ t : Nat, t < 199 → meanB 2 ((t + 0 : Nat) : Int) = true := by decide +kernel
theorem mean_2 (t : Int) (h0 : 0 ≤ t) (h1 : t ≤ 198) : MeanOk 2 t := by
  have h := mean_2_0 (t.toNat - 0) (by omega); rw [show (((t.toNat - 0) + 0 : Nat) : Int) = t from by omega] at h; exact meanB_ok h
set_option maxRecDepth 100000 in
theorem mean_1_0 : ∀ t : Nat, t < 100 → meanB 1 ((t + 0 : Nat) : Int) = true := by decide +kernel
theorem mean_1 (t : Int) (h0 : 0 ≤ t) (h1 : t ≤ 99) : MeanOk 1 t := by
  have h := mean_1_0 (t.toNat - 0) (by omega); rw [show (((t.toNat - 0) + 0 : Nat) : Int) = t from by omega] at h; exact meanB_ok h
set_option maxRecDepth 100000 in
theorem mean_0_0 : ∀ t : Nat, t < 1 → meanB 0 ((t + 0 : Nat) : Int) = true := by decide +kernel
theorem mean_0 (t : Int) (h0 : 0 ≤ t) (h1 : t ≤ 0) : MeanOk 0 t := by
  have h := mean_0_0 (t.toNat - 0) (by omega); rw [show (((t.toNat - 0) + 0 : Nat) : Int) = t from by omega] at h; exact meanB_ok h

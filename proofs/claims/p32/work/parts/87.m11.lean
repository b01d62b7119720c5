set_option maxRecDepth 100000 in
theorem mean_16_0 : ∀ t : Nat, t < 800 → meanB 16 ((t + 0 : Nat) : Int) = true := by decide +kernel
set_option maxRecDepth 100000 in
theorem mean_16_800 : ∀ t : Nat, t < 785 → meanB 16 ((t + 800 : Nat) : Int) = true := by decide +kernel
theorem mean_16 (t : Int) (h0 : 0 ≤ t) (h1 : t ≤ 1584) : MeanOk 16 t := by
  by_cases c0 : t < 800
  · have h := mean_16_0 (t.toNat - 0) (by omega); rw [show (((t.toNat - 0) + 0 : Nat) : Int) = t from by omega] at h; exact meanB_ok h
  have h := mean_16_800 (t.toNat - 800) (by omega); rw [show (((t.toNat - 800) + 800 : Nat) : Int) = t from by omega] at h; exact meanB_ok h
set_option maxRecDepth 100000 in
theorem mean_15_0 : ∀ t : Nat, t < 800 → meanB 15 ((t + 0 : Nat) : Int) = true := by decide +kernel
set_option maxRecDepth 100000 in
theorem mean_15_800 : ∀ t : Nat, t < 686 → meanB 15 ((t + 800 : Nat) : Int) = true := by decide +kernel
theorem mean_15 (t : Int) (h0 : 0 ≤ t) (h1 : t ≤ 1485) : MeanOk 15 t := by
  by_cases c0 : t < 800
  · have h := mean_15_0 (t.toNat - 0) (by omega); rw [show (((t.toNat - 0) + 0 : Nat) : Int) = t from by omega] at h; exact meanB_ok h
  have h := mean_15_800 (t.toNat - 800) (by omega); rw [show (((t.toNat - 800) + 800 : Nat) : Int) = t from by omega] at h; exact meanB_ok h
set_option maxRecDepth 100000 in
theorem mean_14_0 : ∀ t : Nat, t < 800 → meanB 14 ((t + 0 : Nat) : Int) = true := by decide +kernel
set_option maxRecDepth 100000 in
theorem mean_14_800 : ∀ t : Nat, t < 587 → meanB 14 ((t + 800 : Nat) : Int) = true := by decide +kernel
theorem mean_14 (t : Int) (h0 : 0 ≤ t) (h1 : t ≤ 1386) : MeanOk 14 t := by
  by_cases c0 : t < 800
  · have h := mean_14_0 (t.toNat - 0) (by omega); rw [show (((t.toNat - 0) + 0 : Nat) : Int) = t from by omega] at h; exact meanB_ok h
  have h := mean_14_800 (t.toNat - 800) (by omega); rw [show (((t.toNat - 800) + 800 : Nat) : Int) = t from by omega] at h; exact meanB_ok h
set_option maxRecDepth 100000 in
theorem mean_13_0 : ∀ t : Nat, t < 800 → meanB 13 ((t + 0 : Nat) : Int) = true := by decide +kernel
set_option maxRecDepth 100000 in
theorem mean_13_800 : ∀ t : Nat, t < 488 → meanB 13 ((t + 800 : Nat) : Int) = true := by decide +kernel
theorem mean_13 (t : Int) (h0 : 0 ≤ t) (h1 : t ≤ 1287) : MeanOk 13 t := by
  by_cases c0 : t < 800
  · have h := mean_13_0 (t.toNat - 0) (by omega); rw [show (((t.toNat - 0) + 0 : Nat) : Int) = t from by omega] at h; exact meanB_ok h
  have h := mean_13_800 (t.toNat - 800) (by omega); rw [show (((t.toNat - 800) + 800 : Nat) : Int) = t from by omega] at h; exact meanB_ok h
set_option maxRecDepth 100000 in
theorem mean_12_0 : ∀ t : Nat, t < 800 → meanB 12 ((t + 0 : Nat) : Int) = true := by decide +kernel
set_option maxRecDepth 100000 in
theorem mean_12_800 : ∀ t : Nat, t < 389 → meanB 12 ((t + 800 : Nat) : Int) = true := by decide +kernel
theorem mean_12 (t : Int) (h0 : 0 ≤ t) (h1 : t ≤ 1188) : MeanOk 12 t := by
  by_cases c0 : t < 800
  · have h := mean_12_0 (t.toNat - 0) (by omega); rw [show (((t.toNat - 0) + 0 : Nat) : Int) = t from by omega] at h; exact meanB_ok h
  have h := mean_12_800 (t.toNat - 800) (by omega); rw [show (((t.toNat - 800) + 800 : Nat) : Int) = t from by omega] at h; exact meanB_ok h
set_option maxRecDepth 100000 in
theorem mean_11_0 : ∀ t : Nat, t < 800 → meanB 11 ((t + 0 : Nat) : Int) = true := by decide +kernel
set_option maxRecDepth 100000 in
theorem mean_11_800 : ∀ t : Nat, t < 290 → meanB 11 ((t + 800 : Nat) : Int) = true := by decide +kernel
theorem mean_11 (t : Int) (h0 : 0 ≤ t) (h1 : t ≤ 1089) : MeanOk 11 t := by
  by_cases c0 : t < 800
  · have h := mean_11_0 (t.toNat - 0) (by omega); rw [show (((t.toNat - 0) + 0 : Nat) : Int) = t from by omega] at h; exact meanB_ok h
  have h := mean_11_800 (t.toNat - 800) (by omega); rw [show (((t.toNat - 800) + 800 : Nat) : Int) = t from by omega] at h; exact meanB_ok h
set_option maxRecDepth 100000 in
theorem mean_10_0 : ∀ t : Nat, t < 800 → meanB 10 ((t + 0 : Nat) : Int) = true := by decide +kernel
set_option maxRecDepth 100000 in
theorem mean_10_800 : ∀ t : Nat, t < 191 → meanB 10 ((t + 800 : Nat) : Int) = true := by decide +kernel
theorem mean_10 (t : Int) (h0 : 0 ≤ t) (h1 : t ≤ 990) : MeanOk 10 t := by
  by_cases c0 : t < 800
  · have h := mean_10_0 (t.toNat - 0) (by omega); rw [show (((t.toNat - 0) + 0 : Nat) : Int) = t from by omega] at h; exact meanB_ok h
  have h := mean_10_800 (t.toNat - 800) (by omega); rw [show (((t.toNat - 800) + 800 : Nat) : Int) = t from by omega] at h; exact meanB_ok h

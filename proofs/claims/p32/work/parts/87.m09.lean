set_option maxRecDepth 100000 in
theorem mean_25_0 : ∀ t : Nat, t < 800 → meanB 25 ((t + 0 : Nat) : Int) = true := by decide +kernel
set_option maxRecDepth 100000 in
theorem mean_25_800 : ∀ t : Nat, t < 800 → meanB 25 ((t + 800 : Nat) : Int) = true := by decide +kernel
set_option maxRecDepth 100000 in
theorem mean_25_1600 : ∀ t : Nat, t < 800 → meanB 25 ((t + 1600 : Nat) : Int) = true := by decide +kernel
set_option maxRecDepth 100000 in
theorem mean_25_2400 : ∀ t : Nat, t < 76 → meanB 25 ((t + 2400 : Nat) : Int) = true := by decide +kernel
theorem mean_25 (t : Int) (h0 : 0 ≤ t) (h1 : t ≤ 2475) : MeanOk 25 t := by
  by_cases c0 : t < 800
  · have h := mean_25_0 (t.toNat - 0) (by omega); rw [show (((t.toNat - 0) + 0 : Nat) : Int) = t from by omega] at h; exact meanB_ok h
  by_cases c1 : t < 1600
  · have h := mean_25_800 (t.toNat - 800) (by omega); rw [show (((t.toNat - 800) + 800 : Nat) : Int) = t from by omega] at h; exact meanB_ok h
  by_cases c2 : t < 2400
  · have h := mean_25_1600 (t.toNat - 1600) (by omega); rw [show (((t.toNat - 1600) + 1600 : Nat) : Int) = t from by omega] at h; exact meanB_ok h
  have h := mean_25_2400 (t.toNat - 2400) (by omega); rw [show (((t.toNat - 2400) + 2400 : Nat) : Int) = t from by omega] at h; exact meanB_ok h
set_option maxRecDepth 100000 in
theorem mean_24_0 : ∀ t : Nat, t < 800 → meanB 24 ((t + 0 : Nat) : Int) = true := by decide +kernel
set_option maxRecDepth 100000 in
theorem mean_24_800 : ∀ t : Nat, t < 800 → meanB 24 ((t + 800 : Nat) : Int) = true := by decide +kernel
set_option maxRecDepth 100000 in
theorem mean_24_1600 : ∀ t : Nat, t < 777 → meanB 24 ((t + 1600 : Nat) : Int) = true := by decide +kernel
theorem mean_24 (t : Int) (h0 : 0 ≤ t) (h1 : t ≤ 2376) : MeanOk 24 t := by
  by_cases c0 : t < 800
  · have h := mean_24_0 (t.toNat - 0) (by omega); rw [show (((t.toNat - 0) + 0 : Nat) : Int) = t from by omega] at h; exact meanB_ok h
  by_cases c1 : t < 1600
  · have h := mean_24_800 (t.toNat - 800) (by omega); rw [show (((t.toNat - 800) + 800 : Nat) : Int) = t from by omega] at h; exact meanB_ok h
  have h := mean_24_1600 (t.toNat - 1600) (by omega); rw [show (((t.toNat - 1600) + 1600 : Nat) : Int) = t from by omega] at h; exact meanB_ok h
set_option maxRecDepth 100000 in
theorem mean_23_0 : ∀ t : Nat, t < 800 → meanB 23 ((t + 0 : Nat) : Int) = true := by decide +kernel
set_option maxRecDepth 100000 in
theorem mean_23_800 : ∀ t : Nat, t < 800 → meanB 23 ((t + 800 : Nat) : Int) = true := by decide +kernel
set_option maxRecDepth 100000 in
theorem mean_23_1600 : ∀ t : Nat, t < 678 → meanB 23 ((t + 1600 : Nat) : Int) = true := by decide +kernel
theorem mean_23 (t : Int) (h0 : 0 ≤ t) (h1 : t ≤ 2277) : MeanOk 23 t := by
  by_cases c0 : t < 800
  · have h := mean_23_0 (t.toNat - 0) (by omega); rw [show (((t.toNat - 0) + 0 : Nat) : Int) = t from by omega] at h; exact meanB_ok h
  by_cases c1 : t < 1600
  · have h := mean_23_800 (t.toNat - 800) (by omega); rw [show (((t.toNat - 800) + 800 : Nat) : Int) = t from by omega] at h; exact meanB_ok h
  have h := mean_23_1600 (t.toNat - 1600) (by omega); rw [show (((t.toNat - 1600) + 1600 : Nat) : Int) = t from by omega] at h; exact meanB_ok h
set_option maxRecDepth 100000 in
theorem mean_22_0 : ∀ t : Nat, t < 800 → meanB 22 ((t + 0 : Nat) : Int) = true := by decide +kernel
set_option maxRecDepth 100000 in
theorem mean_22_800 : ∀ t : Nat, t < 800 → meanB 22 ((t + 800 : Nat) : Int) = true := by decide +kernel
set_option maxRecDepth 100000 in
theorem mean_22_1600 : ∀ t : Nat, t < 579 → meanB 22 ((t + 1600 : Nat) : Int) = true := by decide +kernel
theorem mean_22 (t : Int) (h0 : 0 ≤ t) (h1 : t ≤ 2178) : MeanOk 22 t := by
  by_cases c0 : t < 800
  · have h := mean_22_0 (t.toNat - 0) (by omega); rw [show (((t.toNat - 0) + 0 : Nat) : Int) = t from by omega] at h; exact meanB_ok h
  by_cases c1 : t < 1600
  · have h := mean_22_800 (t.toNat - 800) (by omega); rw [show (((t.toNat - 800) + 800 : Nat) : Int) = t from by omega] at h; exact meanB_ok h
  have h := mean_22_1600 (t.toNat - 1600) (by omega); rw [show (((t.toNat - 1600) + 1600 : Nat) : Int) = t from by omega] at h; exact meanB_ok h

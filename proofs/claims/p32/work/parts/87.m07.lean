set_option maxRecDepth 100000 in
theorem mean_32_0 : ∀ t : Nat, t < 800 → meanB 32 ((t + 0 : Nat) : Int) = true := by decide +kernel
set_option maxRecDepth 100000 in
theorem mean_32_800 : ∀ t : Nat, t < 800 → meanB 32 ((t + 800 : Nat) : Int) = true := by decide +kernel
set_option maxRecDepth 100000 in
theorem mean_32_1600 : ∀ t : Nat, t < 800 → meanB 32 ((t + 1600 : Nat) : Int) = true := by decide +kernel
set_option maxRecDepth 100000 in
theorem mean_32_2400 : ∀ t : Nat, t < 769 → meanB 32 ((t + 2400 : Nat) : Int) = true := by decide +kernel
theorem mean_32 (t : Int) (h0 : 0 ≤ t) (h1 : t ≤ 3168) : MeanOk 32 t := by
  by_cases c0 : t < 800
  · have h := mean_32_0 (t.toNat - 0) (by omega); rw [show (((t.toNat - 0) + 0 : Nat) : Int) = t from by omega] at h; exact meanB_ok h
  by_cases c1 : t < 1600
  · have h := mean_32_800 (t.toNat - 800) (by omega); rw [show (((t.toNat - 800) + 800 : Nat) : Int) = t from by omega] at h; exact meanB_ok h
  by_cases c2 : t < 2400
  · have h := mean_32_1600 (t.toNat - 1600) (by omega); rw [show (((t.toNat - 1600) + 1600 : Nat) : Int) = t from by omega] at h; exact meanB_ok h
  have h := mean_32_2400 (t.toNat - 2400) (by omega); rw [show (((t.toNat - 2400) + 2400 : Nat) : Int) = t from by omega] at h; exact meanB_ok h
set_option maxRecDepth 100000 in
theorem mean_31_0 : ∀ t : Nat, t < 800 → meanB 31 ((t + 0 : Nat) : Int) = true := by decide +kernel
set_option maxRecDepth 100000 in
theorem mean_31_800 : ∀ t : Nat, t < 800 → meanB 31 ((t + 800 : Nat) : Int) = true := by decide +kernel
set_option maxRecDepth 100000 in
theorem mean_31_1600 : ∀ t : Nat, t < 800 → meanB 31 ((t + 1600 : Nat) : Int) = true := by decide +kernel
set_option maxRecDepth 100000 in
theorem mean_31_2400 : ∀ t : Nat, t < 670 → meanB 31 ((t + 2400 : Nat) : Int) = true := by decide +kernel
theorem mean_31 (t : Int) (h0 : 0 ≤ t) (h1 : t ≤ 3069) : MeanOk 31 t := by
  by_cases c0 : t < 800
  · have h := mean_31_0 (t.toNat - 0) (by omega); rw [show (((t.toNat - 0) + 0 : Nat) : Int) = t from by omega] at h; exact meanB_ok h
  by_cases c1 : t < 1600
  · have h := mean_31_800 (t.toNat - 800) (by omega); rw [show (((t.toNat - 800) + 800 : Nat) : Int) = t from by omega] at h; exact meanB_ok h
  by_cases c2 : t < 2400
  · have h := mean_31_1600 (t.toNat - 1600) (by omega); rw [show (((t.toNat - 1600) + 1600 : Nat) : Int) = t from by omega] at h; exact meanB_ok h
  have h := mean_31_2400 (t.toNat - 2400) (by omega); rw [show (((t.toNat - 2400) + 2400 : Nat) : Int) = t from by omega] at h; exact meanB_ok h
set_option maxRecDepth 100000 in
theorem mean_30_0 : ∀ t : Nat, t < 800 → meanB 30 ((t + 0 : Nat) : Int) = true := by decide +kernel
set_option maxRecDepth 100000 in
theorem mean_30_800 : ∀ t : Nat, t < 800 → meanB 30 ((t + 800 : Nat) : Int) = true := by decide +kernel
set_option maxRecDepth 100000 in
theorem mean_30_1600 : ∀ t : Nat, t < 800 → meanB 30 ((t + 1600 : Nat) : Int) = true := by decide +kernel
set_option maxRecDepth 100000 in
theorem mean_30_2400 : ∀ t : Nat, t < 571 → meanB 30 ((t + 2400 : Nat) : Int) = true := by decide +kernel
theorem mean_30 (t : Int) (h0 : 0 ≤ t) (h1 : t ≤ 2970) : MeanOk 30 t := by
  by_cases c0 : t < 800
  · have h := mean_30_0 (t.toNat - 0) (by omega); rw [show (((t.toNat - 0) + 0 : Nat) : Int) = t from by omega] at h; exact meanB_ok h
  by_cases c1 : t < 1600
  · have h := mean_30_800 (t.toNat - 800) (by omega); rw [show (((t.toNat - 800) + 800 : Nat) : Int) = t from by omega] at h; exact meanB_ok h
  by_cases c2 : t < 2400
  · have h := mean_30_1600 (t.toNat - 1600) (by omega); rw [show (((t.toNat - 1600) + 1600 : Nat) : Int) = t from by omega] at h; exact meanB_ok h
  have h := mean_30_2400 (t.toNat - 2400) (by omega); rw [show (((t.toNat - 2400) + 2400 : Nat) : Int) = t from by omega] at h; exact meanB_ok h

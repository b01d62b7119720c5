set_option maxRecDepth 100000 in
theorem mean_29_0 : ∀ t : Nat, t < 800 → meanB 29 ((t + 0 : Nat) : Int) = true := by decide +kernel
set_option maxRecDepth 100000 in
theorem mean_29_800 : ∀ t : Nat, t < 800 → meanB 29 ((t + 800 : Nat) : Int) = true := by decide +kernel
set_option maxRecDepth 100000 in
theorem mean_29_1600 : ∀ t : Nat, t < 800 → meanB 29 ((t + 1600 : Nat) : Int) = true := by decide +kernel
set_option maxRecDepth 100000 in
theorem mean_29_2400 : ∀ t : Nat, t < 472 → meanB 29 ((t + 2400 : Nat) : Int) = true := by decide +kernel
theorem mean_29 (t : Int) (h0 : 0 ≤ t) (h1 : t ≤ 2871) : MeanOk 29 t := by
  by_cases c0 : t < 800
  · have h := mean_29_0 (t.toNat - 0) (by omega); rw [show (((t.toNat - 0) + 0 : Nat) : Int) = t from by omega] at h; exact meanB_ok h
  by_cases c1 : t < 1600
  · have h := mean_29_800 (t.toNat - 800) (by omega); rw [show (((t.toNat - 800) + 800 : Nat) : Int) = t from by omega] at h; exact meanB_ok h
  by_cases c2 : t < 2400
  · have h := mean_29_1600 (t.toNat - 1600) (by omega); rw [show (((t.toNat - 1600) + 1600 : Nat) : Int) = t from by omega] at h; exact meanB_ok h
  have h := mean_29_2400 (t.toNat - 2400) (by omega); rw [show (((t.toNat - 2400) + 2400 : Nat) : Int) = t from by omega] at h; exact meanB_ok h
set_option maxRecDepth 100000 in
theorem mean_28_0 : ∀ t : Nat, t < 800 → meanB 28 ((t + 0 : Nat) : Int) = true := by decide +kernel
set_option maxRecDepth 100000 in
theorem mean_28_800 : ∀ t : Nat, t < 800 → meanB 28 ((t + 800 : Nat) : Int) = true := by decide +kernel
set_option maxRecDepth 100000 in
theorem mean_28_1600 : ∀ t : Nat, t < 800 → meanB 28 ((t + 1600 : Nat) : Int) = true := by decide +kernel
set_option maxRecDepth 100000 in
theorem mean_28_2400 : ∀ t : Nat, t < 373 → meanB 28 ((t + 2400 : Nat) : Int) = true := by decide +kernel
theorem mean_28 (t : Int) (h0 : 0 ≤ t) (h1 : t ≤ 2772) : MeanOk 28 t := by
  by_cases c0 : t < 800
  · have h := mean_28_0 (t.toNat - 0) (by omega); rw [show (((t.toNat - 0) + 0 : Nat) : Int) = t from by omega] at h; exact meanB_ok h
  by_cases c1 : t < 1600
  · have h := mean_28_800 (t.toNat - 800) (by omega); rw [show (((t.toNat - 800) + 800 : Nat) : Int) = t from by omega] at h; exact meanB_ok h
  by_cases c2 : t < 2400
  · have h := mean_28_1600 (t.toNat - 1600) (by omega); rw [show (((t.toNat - 1600) + 1600 : Nat) : Int) = t from by omega] at h; exact meanB_ok h
  have h := mean_28_2400 (t.toNat - 2400) (by omega); rw [show (((t.toNat - 2400) + 2400 : Nat) : Int) = t from by omega] at h; exact meanB_ok h
set_option maxRecDepth 100000 in
theorem mean_27_0 : ∀ t : Nat, t < 800 → meanB 27 ((t + 0 : Nat) : Int) = true := by decide +kernel
set_option maxRecDepth 100000 in
theorem mean_27_800 : ∀ t : Nat, t < 800 → meanB 27 ((t + 800 : Nat) : Int) = true := by decide +kernel
set_option maxRecDepth 100000 in
theorem mean_27_1600 : ∀ t : Nat, t < 800 → meanB 27 ((t + 1600 : Nat) : Int) = true := by decide +kernel
set_option maxRecDepth 100000 in
theorem mean_27_2400 : ∀ t : Nat, t < 274 → meanB 27 ((t + 2400 : Nat) : Int) = true := by decide +kernel
theorem mean_27 (t : Int) (h0 : 0 ≤ t) (h1 : t ≤ 2673) : MeanOk 27 t := by
  by_cases c0 : t < 800
  · have h := mean_27_0 (t.toNat - 0) (by omega); rw [show (((t.toNat - 0) + 0 : Nat) : Int) = t from by omega] at h; exact meanB_ok h
  by_cases c1 : t < 1600
  · have h := mean_27_800 (t.toNat - 800) (by omega); rw [show (((t.toNat - 800) + 800 : Nat) : Int) = t from by omega] at h; exact meanB_ok h
  by_cases c2 : t < 2400
  · have h := mean_27_1600 (t.toNat - 1600) (by omega); rw [show (((t.toNat - 1600) + 1600 : Nat) : Int) = t from by omega] at h; exact meanB_ok h
  have h := mean_27_2400 (t.toNat - 2400) (by omega); rw [show (((t.toNat - 2400) + 2400 : Nat) : Int) = t from by omega] at h; exact meanB_ok h
set_option maxRecDepth 100000 in
theorem mean_26_0 : ∀ t : Nat, t < 800 → meanB 26 ((t + 0 : Nat) : Int) = true := by decide +kernel
set_option maxRecDepth 100000 in
theorem mean_26_800 : ∀ t : Nat, t < 800 → meanB 26 ((t + 800 : Nat) : Int) = true := by decide +kernel
set_option maxRecDepth 100000 in
theorem mean_26_1600 : ∀ t : Nat, t < 800 → meanB 26 ((t + 1600 : Nat) : Int) = true := by decide +kernel
set_option maxRecDepth 100000 in
theorem mean_26_2400 : ∀ t : Nat, t < 175 → meanB 26 ((t + 2400 : Nat) : Int) = true := by decide +kernel
theorem mean_26 (t : Int) (h0 : 0 ≤ t) (h1 : t ≤ 2574) : MeanOk 26 t := by
  by_cases c0 : t < 800
  · have h := mean_26_0 (t.toNat - 0) (by omega); rw [show (((t.toNat - 0) + 0 : Nat) : Int) = t from by omega] at h; exact meanB_ok h
  by_cases c1 : t < 1600
  · have h := mean_26_800 (t.toNat - 800) (by omega); rw [show (((t.toNat - 800) + 800 : Nat) : Int) = t from by omega] at h; exact meanB_ok h
  by_cases c2 : t < 2400
  · have h := mean_26_1600 (t.toNat - 1600) (by omega); rw [show (((t.toNat - 1600) + 1600 : Nat) : Int) = t from by omega] at h; exact meanB_ok h
  have h := mean_26_2400 (t.toNat - 2400) (by omega); rw [show (((t.toNat - 2400) + 2400 : Nat) : Int) = t from by omega] at h; exact meanB_ok h

set_option maxRecDepth 100000 in
theorem mean_21_0 : ∀ t : Nat, t < 800 → meanB 21 ((t + 0 : Nat) : Int) = true := by decide +kernel
set_option maxRecDepth 100000 in
theorem mean_21_800 : ∀ t : Nat, t < 800 → meanB 21 ((t + 800 : Nat) : Int) = true := by decide +kernel
set_option maxRecDepth 100000 in
theorem mean_21_1600 : ∀ t : Nat, t < 480 → meanB 21 ((t + 1600 : Nat) : Int) = true := by decide +kernel
theorem mean_21 (t : Int) (h0 : 0 ≤ t) (h1 : t ≤ 2079) : MeanOk 21 t := by
  by_cases c0 : t < 800
  · have h := mean_21_0 (t.toNat - 0) (by omega); rw [show (((t.toNat - 0) + 0 : Nat) : Int) = t from by omega] at h; exact meanB_ok h
  by_cases c1 : t < 1600
  · have h := mean_21_800 (t.toNat - 800) (by omega); rw [show (((t.toNat - 800) + 800 : Nat) : Int) = t from by omega] at h; exact meanB_ok h
  have h := mean_21_1600 (t.toNat - 1600) (by omega); rw [show (((t.toNat - 1600) + 1600 : Nat) : Int) = t from by omega] at h; exact meanB_ok h
set_option maxRecDepth 100000 in
theorem mean_20_0 : ∀ t : Nat, t < 800 → meanB 20 ((t + 0 : Nat) : Int) = true := by decide +kernel
set_option maxRecDepth 100000 in
theorem mean_20_800 : ∀ t : Nat, t < 800 → meanB 20 ((t + 800 : Nat) : Int) = true := by decide +kernel
set_option maxRecDepth 100000 in
theorem mean_20_1600 : ∀ t : Nat, t < 381 → meanB 20 ((t + 1600 : Nat) : Int) = true := by decide +kernel
theorem mean_20 (t : Int) (h0 : 0 ≤ t) (h1 : t ≤ 1980) : MeanOk 20 t := by
  by_cases c0 : t < 800
  · have h := mean_20_0 (t.toNat - 0) (by omega); rw [show (((t.toNat - 0) + 0 : Nat) : Int) = t from by omega] at h; exact meanB_ok h
  by_cases c1 : t < 1600
  · have h := mean_20_800 (t.toNat - 800) (by omega); rw [show (((t.toNat - 800) + 800 : Nat) : Int) = t from by omega] at h; exact meanB_ok h
  have h := mean_20_1600 (t.toNat - 1600) (by omega); rw [show (((t.toNat - 1600) + 1600 : Nat) : Int) = t from by omega] at h; exact meanB_ok h
set_option maxRecDepth 100000 in
theorem mean_19_0 : ∀ t : Nat, t < 800 → meanB 19 ((t + 0 : Nat) : Int) = true := by decide +kernel
set_option maxRecDepth 100000 in
theorem mean_19_800 : ∀ t : Nat, t < 800 → meanB 19 ((t + 800 : Nat) : Int) = true := by decide +kernel
set_option maxRecDepth 100000 in
theorem mean_19_1600 : ∀ t : Nat, t < 282 → meanB 19 ((t + 1600 : Nat) : Int) = true := by decide +kernel
theorem mean_19 (t : Int) (h0 : 0 ≤ t) (h1 : t ≤ 1881) : MeanOk 19 t := by
  by_cases c0 : t < 800
  · have h := mean_19_0 (t.toNat - 0) (by omega); rw [show (((t.toNat - 0) + 0 : Nat) : Int) = t from by omega] at h; exact meanB_ok h
  by_cases c1 : t < 1600
  · have h := mean_19_800 (t.toNat - 800) (by omega); rw [show (((t.toNat - 800) + 800 : Nat) : Int) = t from by omega] at h; exact meanB_ok h
  have h := mean_19_1600 (t.toNat - 1600) (by omega); rw [show (((t.toNat - 1600) + 1600 : Nat) : Int) = t from by omega] at h; exact meanB_ok h
set_option maxRecDepth 100000 in
theorem mean_18_0 : ∀ t : Nat, t < 800 → meanB 18 ((t + 0 : Nat) : Int) = true := by decide +kernel
set_option maxRecDepth 100000 in
theorem mean_18_800 : ∀ t : Nat, t < 800 → meanB 18 ((t + 800 : Nat) : Int) = true := by decide +kernel
set_option maxRecDepth 100000 in
theorem mean_18_1600 : ∀ t : Nat, t < 183 → meanB 18 ((t + 1600 : Nat) : Int) = true := by decide +kernel
theorem mean_18 (t : Int) (h0 : 0 ≤ t) (h1 : t ≤ 1782) : MeanOk 18 t := by
  by_cases c0 : t < 800
  · have h := mean_18_0 (t.toNat - 0) (by omega); rw [show (((t.toNat - 0) + 0 : Nat) : Int) = t from by omega] at h; exact meanB_ok h
  by_cases c1 : t < 1600
  · have h := mean_18_800 (t.toNat - 800) (by omega); rw [show (((t.toNat - 800) + 800 : Nat) : Int) = t from by omega] at h; exact meanB_ok h
  have h := mean_18_1600 (t.toNat - 1600) (by omega); rw [show (((t.toNat - 1600) + 1600 : Nat) : Int) = t from by omega] at h; exact meanB_ok h
set_option maxRecDepth 100000 in
theorem mean_17_0 : ∀ t : Nat, t < 800 → meanB 17 ((t + 0 : Nat) : Int) = true := by decide +kernel
set_option maxRecDepth 100000 in
theorem mean_17_800 : ∀ t : Nat, t < 800 → meanB 17 ((t + 800 : Nat) : Int) = true := by decide +kernel
set_option maxRecDepth 100000 in
theorem mean_17_1600 : ∀ t : Nat, t < 84 → meanB 17 ((t + 1600 : Nat) : Int) = true := by decide +kernel
theorem mean_17 (t : Int) (h0 : 0 ≤ t) (h1 : t ≤ 1683) : MeanOk 17 t := by
  by_cases c0 : t < 800
  · have h := mean_17_0 (t.toNat - 0) (by omega); rw [show (((t.toNat - 0) + 0 : Nat) : Int) = t from by omega] at h; exact meanB_ok h
  by_cases c1 : t < 1600
  · have h := mean_17_800 (t.toNat - 800) (by omega); rw [show (((t.toNat - 800) + 800 : Nat) : Int) = t from by omega] at h; exact meanB_ok h
  have h := mean_17_1600 (t.toNat - 1600) (by omega); rw [show (((t.toNat - 1600) + 1600 : Nat) : Int) = t from by omega] at h; exact meanB_ok h

set_option maxRecDepth 100000 in
theorem mean_41_0 : ∀ t : Nat, t < 800 → meanB 41 ((t + 0 : Nat) : Int) = true := by decide +kernel
set_option maxRecDepth 100000 in
theorem mean_41_800 : ∀ t : Nat, t < 800 → meanB 41 ((t + 800 : Nat) : Int) = true := by decide +kernel
set_option maxRecDepth 100000 in
theorem mean_41_1600 : ∀ t : Nat, t < 800 → meanB 41 ((t + 1600 : Nat) : Int) = true := by decide +kernel
set_option maxRecDepth 100000 in
theorem mean_41_2400 : ∀ t : Nat, t < 800 → meanB 41 ((t + 2400 : Nat) : Int) = true := by decide +kernel
set_option maxRecDepth 100000 in
theorem mean_41_3200 : ∀ t : Nat, t < 800 → meanB 41 ((t + 3200 : Nat) : Int) = true := by decide +kernel
set_option maxRecDepth 100000 in
theorem mean_41_4000 : ∀ t : Nat, t < 60 → meanB 41 ((t + 4000 : Nat) : Int) = true := by decide +kernel
theorem mean_41 (t : Int) (h0 : 0 ≤ t) (h1 : t ≤ 4059) : MeanOk 41 t := by
  by_cases c0 : t < 800
  · have h := mean_41_0 (t.toNat - 0) (by omega); rw [show (((t.toNat - 0) + 0 : Nat) : Int) = t from by omega] at h; exact meanB_ok h
  by_cases c1 : t < 1600
  · have h := mean_41_800 (t.toNat - 800) (by omega); rw [show (((t.toNat - 800) + 800 : Nat) : Int) = t from by omega] at h; exact meanB_ok h
  by_cases c2 : t < 2400
  · have h := mean_41_1600 (t.toNat - 1600) (by omega); rw [show (((t.toNat - 1600) + 1600 : Nat) : Int) = t from by omega] at h; exact meanB_ok h
  by_cases c3 : t < 3200
  · have h := mean_41_2400 (t.toNat - 2400) (by omega); rw [show (((t.toNat - 2400) + 2400 : Nat) : Int) = t from by omega] at h; exact meanB_ok h
  by_cases c4 : t < 4000
  · have h := mean_41_3200 (t.toNat - 3200) (by omega); rw [show (((t.toNat - 3200) + 3200 : Nat) : Int) = t from by omega] at h; exact meanB_ok h
  have h := mean_41_4000 (t.toNat - 4000) (by omega); rw [show (((t.toNat - 4000) + 4000 : Nat) : Int) = t from by omega] at h; exact meanB_ok h
set_option maxRecDepth 100000 in
theorem mean_40_0 : ∀ t : Nat, t < 800 → meanB 40 ((t + 0 : Nat) : Int) = true := by decide +kernel
set_option maxRecDepth 100000 in
theorem mean_40_800 : ∀ t : Nat, t < 800 → meanB 40 ((t + 800 : Nat) : Int) = true := by decide +kernel
set_option maxRecDepth 100000 in
theorem mean_40_1600 : ∀ t : Nat, t < 800 → meanB 40 ((t + 1600 : Nat) : Int) = true := by decide +kernel
set_option maxRecDepth 100000 in
theorem mean_40_2400 : ∀ t : Nat, t < 800 → meanB 40 ((t + 2400 : Nat) : Int) = true := by decide +kernel
set_option maxRecDepth 100000 in
theorem mean_40_3200 : ∀ t : Nat, t < 761 → meanB 40 ((t + 3200 : Nat) : Int) = true := by decide +kernel
theorem mean_40 (t : Int) (h0 : 0 ≤ t) (h1 : t ≤ 3960) : MeanOk 40 t := by
  by_cases c0 : t < 800
  · have h := mean_40_0 (t.toNat - 0) (by omega); rw [show (((t.toNat - 0) + 0 : Nat) : Int) = t from by omega] at h; exact meanB_ok h
  by_cases c1 : t < 1600
  · have h := mean_40_800 (t.toNat - 800) (by omega); rw [show (((t.toNat - 800) + 800 : Nat) : Int) = t from by omega] at h; exact meanB_ok h
  by_cases c2 : t < 2400
  · have h := mean_40_1600 (t.toNat - 1600) (by omega); rw [show (((t.toNat - 1600) + 1600 : Nat) : Int) = t from by omega] at h; exact meanB_ok h
  by_cases c3 : t < 3200
  · have h := mean_40_2400 (t.toNat - 2400) (by omega); rw [show (((t.toNat - 2400) + 2400 : Nat) : Int) = t from by omega] at h; exact meanB_ok h
  have h := mean_40_3200 (t.toNat - 3200) (by omega); rw [show (((t.toNat - 3200) + 3200 : Nat) : Int) = t from by omega] at h; exact meanB_ok h
set_option maxRecDepth 100000 in
theorem mean_39_0 : ∀ t : Nat, t < 800 → meanB 39 ((t + 0 : Nat) : Int) = true := by decide +kernel
set_option maxRecDepth 100000 in
theorem mean_39_800 : ∀ t : Nat, t < 800 → meanB 39 ((t + 800 : Nat) : Int) = true := by decide +kernel
set_option maxRecDepth 100000 in
theorem mean_39_1600 : ∀ t : Nat, t < 800 → meanB 39 ((t + 1600 : Nat) : Int) = true := by decide +kernel
set_option maxRecDepth 100000 in
theorem mean_39_2400 : ∀ t : Nat, t < 800 → meanB 39 ((t + 2400 : Nat) : Int) = true := by decide +kernel
set_option maxRecDepth 100000 in
theorem mean_39_3200 : ∀ t : Nat, t < 662 → meanB 39 ((t + 3200 : Nat) : Int) = true := by decide +kernel
theorem mean_39 (t : Int) (h0 : 0 ≤ t) (h1 : t ≤ 3861) : MeanOk 39 t := by
  by_cases c0 : t < 800
  · have h := mean_39_0 (t.toNat - 0) (by omega); rw [show (((t.toNat - 0) + 0 : Nat) : Int) = t from by omega] at h; exact meanB_ok h
  by_cases c1 : t < 1600
  · have h := mean_39_800 (t.toNat - 800) (by omega); rw [show (((t.toNat - 800) + 800 : Nat) : Int) = t from by omega] at h; exact meanB_ok h
  by_cases c2 : t < 2400
  · have h := mean_39_1600 (t.toNat - 1600) (by omega); rw [show (((t.toNat - 1600) + 1600 : Nat) : Int) = t from by omega] at h; exact meanB_ok h
  by_cases c3 : t < 3200
  · have h := mean_39_2400 (t.toNat - 2400) (by omega); rw [show (((t.toNat - 2400) + 2400 : Nat) : Int) = t from by omega] at h; exact meanB_ok h
  have h := mean_39_3200 (t.toNat - 3200) (by omega); rw [show (((t.toNat - 3200) + 3200 : Nat) : Int) = t from by omega] at h; exact meanB_ok h

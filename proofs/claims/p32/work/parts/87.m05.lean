set_option maxRecDepth 100000 in
theorem mean_38_0 : ∀ t : Nat, t < 800 → meanB 38 ((t + 0 : Nat) : Int) = true := by decide +kernel
set_option maxRecDepth 100000 in
theorem mean_38_800 : ∀ t : Nat, t < 800 → meanB 38 ((t + 800 : Nat) : Int) = true := by decide +kernel
set_option maxRecDepth 100000 in
theorem mean_38_1600 : ∀ t : Nat, t < 800 → meanB 38 ((t + 1600 : Nat) : Int) = true := by decide +kernel
set_option maxRecDepth 100000 in
theorem mean_38_2400 : ∀ t : Nat, t < 800 → meanB 38 ((t + 2400 : Nat) : Int) = true := by decide +kernel
set_option maxRecDepth 100000 in
theorem mean_38_3200 : ∀ t : Nat, t < 563 → meanB 38 ((t + 3200 : Nat) : Int) = true := by decide +kernel
theorem mean_38 (t : Int) (h0 : 0 ≤ t) (h1 : t ≤ 3762) : MeanOk 38 t := by
  by_cases c0 : t < 800
  · have h := mean_38_0 (t.toNat - 0) (by omega); rw [show (((t.toNat - 0) + 0 : Nat) : Int) = t from by omega] at h; exact meanB_ok h
  by_cases c1 : t < 1600
  · have h := mean_38_800 (t.toNat - 800) (by omega); rw [show (((t.toNat - 800) + 800 : Nat) : Int) = t from by omega] at h; exact meanB_ok h
  by_cases c2 : t < 2400
  · have h := mean_38_1600 (t.toNat - 1600) (by omega); rw [show (((t.toNat - 1600) + 1600 : Nat) : Int) = t from by omega] at h; exact meanB_ok h
  by_cases c3 : t < 3200
  · have h := mean_38_2400 (t.toNat - 2400) (by omega); rw [show (((t.toNat - 2400) + 2400 : Nat) : Int) = t from by omega] at h; exact meanB_ok h
  have h := mean_38_3200 (t.toNat - 3200) (by omega); rw [show (((t.toNat - 3200) + 3200 : Nat) : Int) = t from by omega] at h; exact meanB_ok h
set_option maxRecDepth 100000 in
theorem mean_37_0 : ∀ t : Nat, t < 800 → meanB 37 ((t + 0 : Nat) : Int) = true := by decide +kernel
set_option maxRecDepth 100000 in
theorem mean_37_800 : ∀ t : Nat, t < 800 → meanB 37 ((t + 800 : Nat) : Int) = true := by decide +kernel
set_option maxRecDepth 100000 in
theorem mean_37_1600 : ∀ t : Nat, t < 800 → meanB 37 ((t + 1600 : Nat) : Int) = true := by decide +kernel
set_option maxRecDepth 100000 in
theorem mean_37_2400 : ∀ t : Nat, t < 800 → meanB 37 ((t + 2400 : Nat) : Int) = true := by decide +kernel
set_option maxRecDepth 100000 in
theorem mean_37_3200 : ∀ t : Nat, t < 464 → meanB 37 ((t + 3200 : Nat) : Int) = true := by decide +kernel
theorem mean_37 (t : Int) (h0 : 0 ≤ t) (h1 : t ≤ 3663) : MeanOk 37 t := by
  by_cases c0 : t < 800
  · have h := mean_37_0 (t.toNat - 0) (by omega); rw [show (((t.toNat - 0) + 0 : Nat) : Int) = t from by omega] at h; exact meanB_ok h
  by_cases c1 : t < 1600
  · have h := mean_37_800 (t.toNat - 800) (by omega); rw [show (((t.toNat - 800) + 800 : Nat) : Int) = t from by omega] at h; exact meanB_ok h
  by_cases c2 : t < 2400
  · have h := mean_37_1600 (t.toNat - 1600) (by omega); rw [show (((t.toNat - 1600) + 1600 : Nat) : Int) = t from by omega] at h; exact meanB_ok h
  by_cases c3 : t < 3200
  · have h := mean_37_2400 (t.toNat - 2400) (by omega); rw [show (((t.toNat - 2400) + 2400 : Nat) : Int) = t from by omega] at h; exact meanB_ok h
  have h := mean_37_3200 (t.toNat - 3200) (by omega); rw [show (((t.toNat - 3200) + 3200 : Nat) : Int) = t from by omega] at h; exact meanB_ok h
set_option maxRecDepth 100000 in
theorem mean_36_0 : ∀ t : Nat, t < 800 → meanB 36 ((t + 0 : Nat) : Int) = true := by decide +kernel
set_option maxRecDepth 100000 in
theorem mean_36_800 : ∀ t : Nat, t < 800 → meanB 36 ((t + 800 : Nat) : Int) = true := by decide +kernel
set_option maxRecDepth 100000 in
theorem mean_36_1600 : ∀ t : Nat, t < 800 → meanB 36 ((t + 1600 : Nat) : Int) = true := by decide +kernel
set_option maxRecDepth 100000 in
theorem mean_36_2400 : ∀ t : Nat, t < 800 → meanB 36 ((t + 2400 : Nat) : Int) = true := by decide +kernel
set_option maxRecDepth 100000 in
theorem mean_36_3200 : ∀ t : Nat, t < 365 → meanB 36 ((t + 3200 : Nat) : Int) = true := by decide +kernel
theorem mean_36 (t : Int) (h0 : 0 ≤ t) (h1 : t ≤ 3564) : MeanOk 36 t := by
  by_cases c0 : t < 800
  · have h := mean_36_0 (t.toNat - 0) (by omega); rw [show (((t.toNat - 0) + 0 : Nat) : Int) = t from by omega] at h; exact meanB_ok h
  by_cases c1 : t < 1600
  · have h := mean_36_800 (t.toNat - 800) (by omega); rw [show (((t.toNat - 800) + 800 : Nat) : Int) = t from by omega] at h; exact meanB_ok h
  by_cases c2 : t < 2400
  · have h := mean_36_1600 (t.toNat - 1600) (by omega); rw [show (((t.toNat - 1600) + 1600 : Nat) : Int) = t from by omega] at h; exact meanB_ok h
  by_cases c3 : t < 3200
  · have h := mean_36_2400 (t.toNat - 2400) (by omega); rw [show (((t.toNat - 2400) + 2400 : Nat) : Int) = t from by omega] at h; exact meanB_ok h
  have h := mean_36_3200 (t.toNat - 3200) (by omega); rw [show (((t.toNat - 3200) + 3200 : Nat) : Int) = t from by omega] at h; exact meanB_ok h

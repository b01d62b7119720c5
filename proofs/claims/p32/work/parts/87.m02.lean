set_option maxRecDepth 100000 in
theorem mean_46_0 : ∀ t : Nat, t < 800 → meanB 46 ((t + 0 : Nat) : Int) = true := by decide +kernel
set_option maxRecDepth 100000 in
theorem mean_46_800 : ∀ t : Nat, t < 800 → meanB 46 ((t + 800 : Nat) : Int) = true := by decide +kernel
set_option maxRecDepth 100000 in
theorem mean_46_1600 : ∀ t : Nat, t < 800 → meanB 46 ((t + 1600 : Nat) : Int) = true := by decide +kernel
set_option maxRecDepth 100000 in
theorem mean_46_2400 : ∀ t : Nat, t < 800 → meanB 46 ((t + 2400 : Nat) : Int) = true := by decide +kernel
set_option maxRecDepth 100000 in
theorem mean_46_3200 : ∀ t : Nat, t < 800 → meanB 46 ((t + 3200 : Nat) : Int) = true := by decide +kernel
set_option maxRecDepth 100000 in
theorem mean_46_4000 : ∀ t : Nat, t < 555 → meanB 46 ((t + 4000 : Nat) : Int) = true := by decide +kernel
theorem mean_46 (t : Int) (h0 : 0 ≤ t) (h1 : t ≤ 4554) : MeanOk 46 t := by
  by_cases c0 : t < 800
  · have h := mean_46_0 (t.toNat - 0) (by omega); rw [show (((t.toNat - 0) + 0 : Nat) : Int) = t from by omega] at h; exact meanB_ok h
  by_cases c1 : t < 1600
  · have h := mean_46_800 (t.toNat - 800) (by omega); rw [show (((t.toNat - 800) + 800 : Nat) : Int) = t from by omega] at h; exact meanB_ok h
  by_cases c2 : t < 2400
  · have h := mean_46_1600 (t.toNat - 1600) (by omega); rw [show (((t.toNat - 1600) + 1600 : Nat) : Int) = t from by omega] at h; exact meanB_ok h
  by_cases c3 : t < 3200
  · have h := mean_46_2400 (t.toNat - 2400) (by omega); rw [show (((t.toNat - 2400) + 2400 : Nat) : Int) = t from by omega] at h; exact meanB_ok h
  by_cases c4 : t < 4000
  · have h := mean_46_3200 (t.toNat - 3200) (by omega); rw [show (((t.toNat - 3200) + 3200 : Nat) : Int) = t from by omega] at h; exact meanB_ok h
  have h := mean_46_4000 (t.toNat - 4000) (by omega); rw [show (((t.toNat - 4000) + 4000 : Nat) : Int) = t from by omega] at h; exact meanB_ok h
set_option maxRecDepth 100000 in
theorem mean_45_0 : ∀ t : Nat, t < 800 → meanB 45 ((t + 0 : Nat) : Int) = true := by decide +kernel
set_option maxRecDepth 100000 in
theorem mean_45_800 : ∀ t : Nat, t < 800 → meanB 45 ((t + 800 : Nat) : Int) = true := by decide +kernel
set_option maxRecDepth 100000 in
theorem mean_45_1600 : ∀ t : Nat, t < 800 → meanB 45 ((t + 1600 : Nat) : Int) = true := by decide +kernel
set_option maxRecDepth 100000 in
theorem mean_45_2400 : ∀ t : Nat, t < 800 → meanB 45 ((t + 2400 : Nat) : Int) = true := by decide +kernel
set_option maxRecDepth 100000 in
theorem mean_45_3200 : ∀ t : Nat, t < 800 → meanB 45 ((t + 3200 : Nat) : Int) = true := by decide +kernel
set_option maxRecDepth 100000 in
theorem mean_45_4000 : ∀ t : Nat, t < 456 → meanB 45 ((t + 4000 : Nat) : Int) = true := by decide +kernel
theorem mean_45 (t : Int) (h0 : 0 ≤ t) (h1 : t ≤ 4455) : MeanOk 45 t := by
  by_cases c0 : t < 800
  · have h := mean_45_0 (t.toNat - 0) (by omega); rw [show (((t.toNat - 0) + 0 : Nat) : Int) = t from by omega] at h; exact meanB_ok h
  by_cases c1 : t < 1600
  · have h := mean_45_800 (t.toNat - 800) (by omega); rw [show (((t.toNat - 800) + 800 : Nat) : Int) = t from by omega] at h; exact meanB_ok h
  by_cases c2 : t < 2400
  · have h := mean_45_1600 (t.toNat - 1600) (by omega); rw [show (((t.toNat - 1600) + 1600 : Nat) : Int) = t from by omega] at h; exact meanB_ok h
  by_cases c3 : t < 3200
  · have h := mean_45_2400 (t.toNat - 2400) (by omega); rw [show (((t.toNat - 2400) + 2400 : Nat) : Int) = t from by omega] at h; exact meanB_ok h
  by_cases c4 : t < 4000
  · have h := mean_45_3200 (t.toNat - 3200) (by omega); rw [show (((t.toNat - 3200) + 3200 : Nat) : Int) = t from by omega] at h; exact meanB_ok h
  have h := mean_45_4000 (t.toNat - 4000) (by omega); rw [show (((t.toNat - 4000) + 4000 : Nat) : Int) = t from by omega] at h; exact meanB_ok h

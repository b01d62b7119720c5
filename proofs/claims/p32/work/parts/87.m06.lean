set_option maxRecDepth 100000 in
theorem mean_35_0 : ∀ t : Nat, t < 800 → meanB 35 ((t + 0 : Nat) : Int) = true := by decide +kernel
set_option maxRecDepth 100000 in
theorem mean_35_800 : ∀ t : Nat, t < 800 → meanB 35 ((t + 800 : Nat) : Int) = true := by decide +kernel
set_option maxRecDepth 100000 in
theorem mean_35_1600 : ∀ t : Nat, t < 800 → meanB 35 ((t + 1600 : Nat) : Int) = true := by decide +kernel
set_option maxRecDepth 100000 in
theorem mean_35_2400 : ∀ t : Nat, t < 800 → meanB 35 ((t + 2400 : Nat) : Int) = true := by decide +kernel
set_option maxRecDepth 100000 in
theorem mean_35_3200 : ∀ t : Nat, t < 266 → meanB 35 ((t + 3200 : Nat) : Int) = true := by decide +kernel
theorem mean_35 (t : Int) (h0 : 0 ≤ t) (h1 : t ≤ 3465) : MeanOk 35 t := by
  by_cases c0 : t < 800
  · have h := mean_35_0 (t.toNat - 0) (by omega); rw [show (((t.toNat - 0) + 0 : Nat) : Int) = t from by omega] at h; exact meanB_ok h
  by_cases c1 : t < 1600
  · have h := mean_35_800 (t.toNat - 800) (by omega); rw [show (((t.toNat - 800) + 800 : Nat) : Int) = t from by omega] at h; exact meanB_ok h
  by_cases c2 : t < 2400
  · have h := mean_35_1600 (t.toNat - 1600) (by omega); rw [show (((t.toNat - 1600) + 1600 : Nat) : Int) = t from by omega] at h; exact meanB_ok h
  by_cases c3 : t < 3200
  · have h := mean_35_2400 (t.toNat - 2400) (by omega); rw [show (((t.toNat - 2400) + 2400 : Nat) : Int) = t from by omega] at h; exact meanB_ok h
  have h := mean_35_3200 (t.toNat - 3200) (by omega); rw [show (((t.toNat - 3200) + 3200 : Nat) : Int) = t from by omega] at h; exact meanB_ok h
set_option maxRecDepth 100000 in
theorem mean_34_0 : ∀ t : Nat, t < 800 → meanB 34 ((t + 0 : Nat) : Int) = true := by decide +kernel
set_option maxRecDepth 100000 in
theorem mean_34_800 : ∀ t : Nat, t < 800 → meanB 34 ((t + 800 : Nat) : Int) = true := by decide +kernel
set_option maxRecDepth 100000 in
theorem mean_34_1600 : ∀ t : Nat, t < 800 → meanB 34 ((t + 1600 : Nat) : Int) = true := by decide +kernel
set_option maxRecDepth 100000 in
theorem mean_34_2400 : ∀ t : Nat, t < 800 → meanB 34 ((t + 2400 : Nat) : Int) = true := by decide +kernel
set_option maxRecDepth 100000 in
theorem mean_34_3200 : ∀ t : Nat, t < 167 → meanB 34 ((t + 3200 : Nat) : Int) = true := by decide +kernel
theorem mean_34 (t : Int) (h0 : 0 ≤ t) (h1 : t ≤ 3366) : MeanOk 34 t := by
  by_cases c0 : t < 800
  · have h := mean_34_0 (t.toNat - 0) (by omega); rw [show (((t.toNat - 0) + 0 : Nat) : Int) = t from by omega] at h; exact meanB_ok h
  by_cases c1 : t < 1600
  · have h := mean_34_800 (t.toNat - 800) (by omega); rw [show (((t.toNat - 800) + 800 : Nat) : Int) = t from by omega] at h; exact meanB_ok h
  by_cases c2 : t < 2400
  · have h := mean_34_1600 (t.toNat - 1600) (by omega); rw [show (((t.toNat - 1600) + 1600 : Nat) : Int) = t from by omega] at h; exact meanB_ok h
  by_cases c3 : t < 3200
  · have h := mean_34_2400 (t.toNat - 2400) (by omega); rw [show (((t.toNat - 2400) + 2400 : Nat) : Int) = t from by omega] at h; exact meanB_ok h
  have h := mean_34_3200 (t.toNat - 3200) (by omega); rw [show (((t.toNat - 3200) + 3200 : Nat) : Int) = t from by omega] at h; exact meanB_ok h
set_option maxRecDepth 100000 in
theorem mean_33_0 : ∀ t : Nat, t < 800 → meanB 33 ((t + 0 : Nat) : Int) = true := by decide +kernel
set_option maxRecDepth 100000 in
theorem mean_33_800 : ∀ t : Nat, t < 800 → meanB 33 ((t + 800 : Nat) : Int) = true := by decide +kernel
set_option maxRecDepth 100000 in
theorem mean_33_1600 : ∀ t : Nat, t < 800 → meanB 33 ((t + 1600 : Nat) : Int) = true := by decide +kernel
set_option maxRecDepth 100000 in
theorem mean_33_2400 : ∀ t : Nat, t < 800 → meanB 33 ((t + 2400 : Nat) : Int) = true := by decide +kernel
set_option maxRecDepth 100000 in
theorem mean_33_3200 : ∀ t : Nat, t < 68 → meanB 33 ((t + 3200 : Nat) : Int) = true := by decide +kernel
theorem mean_33 (t : Int) (h0 : 0 ≤ t) (h1 : t ≤ 3267) : MeanOk 33 t := by
  by_cases c0 : t < 800
  · have h := mean_33_0 (t.toNat - 0) (by omega); rw [show (((t.toNat - 0) + 0 : Nat) : Int) = t from by omega] at h; exact meanB_ok h
  by_cases c1 : t < 1600
  · have h := mean_33_800 (t.toNat - 800) (by omega); rw [show (((t.toNat - 800) + 800 : Nat) : Int) = t from by omega] at h; exact meanB_ok h
  by_cases c2 : t < 2400
  · have h := mean_33_1600 (t.toNat - 1600) (by omega); rw [show (((t.toNat - 1600) + 1600 : Nat) : Int) = t from by omega] at h; exact meanB_ok h
  by_cases c3 : t < 3200
  · have h := mean_33_2400 (t.toNat - 2400) (by omega); rw [show (((t.toNat - 2400) + 2400 : Nat) : Int) = t from by omega] at h; exact meanB_ok h
  have h := mean_33_3200 (t.toNat - 3200) (by omega); rw [show (((t.toNat - 3200) + 3200 : Nat) : Int) = t from by omega] at h; exact meanB_ok h

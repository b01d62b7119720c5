set_option maxRecDepth 100000 in
theorem mean_48_0 : ∀ t : Nat, t < 800 → meanB 48 ((t + 0 : Nat) : Int) = true := by decide +kernel
set_option maxRecDepth 100000 in
theorem mean_48_800 : ∀ t : Nat, t < 800 → meanB 48 ((t + 800 : Nat) : Int) = true := by decide +kernel
set_option maxRecDepth 100000 in
theorem mean_48_1600 : ∀ t : Nat, t < 800 → meanB 48 ((t + 1600 : Nat) : Int) = true := by decide +kernel
set_option maxRecDepth 100000 in
theorem mean_48_2400 : ∀ t : Nat, t < 800 → meanB 48 ((t + 2400 : Nat) : Int) = true := by decide +kernel
set_option maxRecDepth 100000 in
theorem mean_48_3200 : ∀ t : Nat, t < 800 → meanB 48 ((t + 3200 : Nat) : Int) = true := by decide +kernel
set_option maxRecDepth 100000 in
theorem mean_48_4000 : ∀ t : Nat, t < 753 → meanB 48 ((t + 4000 : Nat) : Int) = true := by decide +kernel
theorem mean_48 (t : Int) (h0 : 0 ≤ t) (h1 : t ≤ 4752) : MeanOk 48 t := by
  by_cases c0 : t < 800
  · have h := mean_48_0 (t.toNat - 0) (by omega); rw [show (((t.toNat - 0) + 0 : Nat) : Int) = t from by omega] at h; exact meanB_ok h
  by_cases c1 : t < 1600
  · have h := mean_48_800 (t.toNat - 800) (by omega); rw [show (((t.toNat - 800) + 800 : Nat) : Int) = t from by omega] at h; exact meanB_ok h
  by_cases c2 : t < 2400
  · have h := mean_48_1600 (t.toNat - 1600) (by omega); rw [show (((t.toNat - 1600) + 1600 : Nat) : Int) = t from by omega] at h; exact meanB_ok h
  by_cases c3 : t < 3200
  · have h := mean_48_2400 (t.toNat - 2400) (by omega); rw [show (((t.toNat - 2400) + 2400 : Nat) : Int) = t from by omega] at h; exact meanB_ok h
  by_cases c4 : t < 4000
  · have h := mean_48_3200 (t.toNat - 3200) (by omega); rw [show (((t.toNat - 3200) + 3200 : Nat) : Int) = t from by omega] at h; exact meanB_ok h
  have h := mean_48_4000 (t.toNat - 4000) (by omega); rw [show (((t.toNat - 4000) + 4000 : Nat) : Int) = t from by omega] at h; exact meanB_ok h
set_option maxRecDepth 100000 in
theorem mean_47_0 : ∀ t : Nat, t < 800 → meanB 47 ((t + 0 : Nat) : Int) = true := by decide +kernel
set_option maxRecDepth 100000 in
theorem mean_47_800 : ∀ t : Nat, t < 800 → meanB 47 ((t + 800 : Nat) : Int) = true := by decide +kernel
set_option maxRecDepth 100000 in
theorem mean_47_1600 : ∀ t : Nat, t < 800 → meanB 47 ((t + 1600 : Nat) : Int) = true := by decide +kernel
set_option maxRecDepth 100000 in
theorem mean_47_2400 : ∀ t : Nat, t < 800 → meanB 47 ((t + 2400 : Nat) : Int) = true := by decide +kernel
set_option maxRecDepth 100000 in
theorem mean_47_3200 : ∀ t : Nat, t < 800 → meanB 47 ((t + 3200 : Nat) : Int) = true := by decide +kernel
set_option maxRecDepth 100000 in
theorem mean_47_4000 : ∀ t : Nat, t < 654 → meanB 47 ((t + 4000 : Nat) : Int) = true := by decide +kernel
theorem mean_47 (t : Int) (h0 : 0 ≤ t) (h1 : t ≤ 4653) : MeanOk 47 t := by
  by_cases c0 : t < 800
  · have h := mean_47_0 (t.toNat - 0) (by omega); rw [show (((t.toNat - 0) + 0 : Nat) : Int) = t from by omega] at h; exact meanB_ok h
  by_cases c1 : t < 1600
  · have h := mean_47_800 (t.toNat - 800) (by omega); rw [show (((t.toNat - 800) + 800 : Nat) : Int) = t from by omega] at h; exact meanB_ok h
  by_cases c2 : t < 2400
  · have h := mean_47_1600 (t.toNat - 1600) (by omega); rw [show (((t.toNat - 1600) + 1600 : Nat) : Int) = t from by omega] at h; exact meanB_ok h
  by_cases c3 : t < 3200
  · have h := mean_47_2400 (t.toNat - 2400) (by omega); rw [show (((t.toNat - 2400) + 2400 : Nat) : Int) = t from by omega] at h; exact meanB_ok h
  by_cases c4 : t < 4000
  · have h := mean_47_3200 (t.toNat - 3200) (by omega); rw [show (((t.toNat - 3200) + 3200 : Nat) : Int) = t from by omega] at h; exact meanB_ok h
  have h := mean_47_4000 (t.toNat - 4000) (by omega); rw [show (((t.toNat - 4000) + 4000 : Nat) : Int) = t from by omega] at h; exact meanB_ok h

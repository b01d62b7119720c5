set_option maxRecDepth 100000 in
theorem mean_44_0 : ∀ t : Nat, t < 800 → meanB 44 ((t + 0 : Nat) : Int) = true := by decide +kernel
set_option maxRecDepth 100000 in
theorem mean_44_800 : ∀ t : Nat, t < 800 → meanB 44 ((t + 800 : Nat) : Int) = true := by decide +kernel
set_option maxRecDepth 100000 in
theorem mean_44_1600 : ∀ t : Nat, t < 800 → meanB 44 ((t + 1600 : Nat) : Int) = true := by decide +kernel
set_option maxRecDepth 100000 in
theorem mean_44_2400 : ∀ t : Nat, t < 800 → meanB 44 ((t + 2400 : Nat) : Int) = true := by decide +kernel
set_option maxRecDepth 100000 in
theorem mean_44_3200 : ∀ t : Nat, t < 800 → meanB 44 ((t + 3200 : Nat) : Int) = true := by decide +kernel
set_option maxRecDepth 100000 in
theorem mean_44_4000 : ∀ t : Nat, t < 357 → meanB 44 ((t + 4000 : Nat) : Int) = true := by decide +kernel
theorem mean_44 (t : Int) (h0 : 0 ≤ t) (h1 : t ≤ 4356) : MeanOk 44 t := by
  by_cases c0 : t < 800
  · have h := mean_44_0 (t.toNat - 0) (by omega); rw [show (((t.toNat - 0) + 0 : Nat) : Int) = t from by omega] at h; exact meanB_ok h
  by_cases c1 : t < 1600
  · have h := mean_44_800 (t.toNat - 800) (by omega); rw [show (((t.toNat - 800) + 800 : Nat) : Int) = t from by omega] at h; exact meanB_ok h
  by_cases c2 : t < 2400
  · have h := mean_44_1600 (t.toNat - 1600) (by omega); rw [show (((t.toNat - 1600) + 1600 : Nat) : Int) = t from by omega] at h; exact meanB_ok h
  by_cases c3 : t < 3200
  · have h := mean_44_2400 (t.toNat - 2400) (by omega); rw [show (((t.toNat - 2400) + 2400 : Nat) : Int) = t from by omega] at h; exact meanB_ok h
  by_cases c4 : t < 4000
  · have h := mean_44_3200 (t.toNat - 3200) (by omega); rw [show (((t.toNat - 3200) + 3200 : Nat) : Int) = t from by omega] at h; exact meanB_ok h
  have h := mean_44_4000 (t.toNat - 4000) (by omega); rw [show (((t.toNat - 4000) + 4000 : Nat) : Int) = t from by omega] at h; exact meanB_ok h
set_option maxRecDepth 100000 in
theorem mean_43_0 : ∀ t : Nat, t < 800 → meanB 43 ((t + 0 : Nat) : Int) = true := by decide +kernel
set_option maxRecDepth 100000 in
theorem mean_43_800 : ∀ t : Nat, t < 800 → meanB 43 ((t + 800 : Nat) : Int) = true := by decide +kernel
set_option maxRecDepth 100000 in
theorem mean_43_1600 : ∀ t : Nat, t < 800 → meanB 43 ((t + 1600 : Nat) : Int) = true := by decide +kernel
set_option maxRecDepth 100000 in
theorem mean_43_2400 : ∀ t : Nat, t < 800 → meanB 43 ((t + 2400 : Nat) : Int) = true := by decide +kernel
set_option maxRecDepth 100000 in
theorem mean_43_3200 : ∀ t : Nat, t < 800 → meanB 43 ((t + 3200 : Nat) : Int) = true := by decide +kernel
set_option maxRecDepth 100000 in
theorem mean_43_4000 : ∀ t : Nat, t < 258 → meanB 43 ((t + 4000 : Nat) : Int) = true := by decide +kernel
theorem mean_43 (t : Int) (h0 : 0 ≤ t) (h1 : t ≤ 4257) : MeanOk 43 t := by
  by_cases c0 : t < 800
  · have h := mean_43_0 (t.toNat - 0) (by omega); rw [show (((t.toNat - 0) + 0 : Nat) : Int) = t from by omega] at h; exact meanB_ok h
  by_cases c1 : t < 1600
  · have h := mean_43_800 (t.toNat - 800) (by omega); rw [show (((t.toNat - 800) + 800 : Nat) : Int) = t from by omega] at h; exact meanB_ok h
  by_cases c2 : t < 2400
  · have h := mean_43_1600 (t.toNat - 1600) (by omega); rw [show (((t.toNat - 1600) + 1600 : Nat) : Int) = t from by omega] at h; exact meanB_ok h
  by_cases c3 : t < 3200
  · have h := mean_43_2400 (t.toNat - 2400) (by omega); rw [show (((t.toNat - 2400) + 2400 : Nat) : Int) = t from by omega] at h; exact meanB_ok h
  by_cases c4 : t < 4000
  · have h := mean_43_3200 (t.toNat - 3200) (by omega); rw [show (((t.toNat - 3200) + 3200 : Nat) : Int) = t from by omega] at h; exact meanB_ok h
  have h := mean_43_4000 (t.toNat - 4000) (by omega); rw [show (((t.toNat - 4000) + 4000 : Nat) : Int) = t from by omega] at h; exact meanB_ok h
set_option maxRecDepth 100000 in
theorem mean_42_0 : ∀ t : Nat, t < 800 → meanB 42 ((t + 0 : Nat) : Int) = true := by decide +kernel
set_option maxRecDepth 100000 in
theorem mean_42_800 : ∀ t : Nat, t < 800 → meanB 42 ((t + 800 : Nat) : Int) = true := by decide +kernel
set_option maxRecDepth 100000 in
theorem mean_42_1600 : ∀ t : Nat, t < 800 → meanB 42 ((t + 1600 : Nat) : Int) = true := by decide +kernel
set_option maxRecDepth 100000 in
theorem mean_42_2400 : ∀ t : Nat, t < 800 → meanB 42 ((t + 2400 : Nat) : Int) = true := by decide +kernel
set_option maxRecDepth 100000 in
theorem mean_42_3200 : ∀ t : Nat, t < 800 → meanB 42 ((t + 3200 : Nat) : Int) = true := by decide +kernel
set_option maxRecDepth 100000 in
theorem mean_42_4000 : ∀ t : Nat, t < 159 → meanB 42 ((t + 4000 : Nat) : Int) = true := by decide +kernel
theorem mean_42 (t : Int) (h0 : 0 ≤ t) (h1 : t ≤ 4158) : MeanOk 42 t := by
  by_cases c0 : t < 800
  · have h := mean_42_0 (t.toNat - 0) (by omega); rw [show (((t.toNat - 0) + 0 : Nat) : Int) = t from by omega] at h; exact meanB_ok h
  by_cases c1 : t < 1600
  · have h := mean_42_800 (t.toNat - 800) (by omega); rw [show (((t.toNat - 800) + 800 : Nat) : Int) = t from by omega] at h; exact meanB_ok h
  by_cases c2 : t < 2400
  · have h := mean_42_1600 (t.toNat - 1600) (by omega); rw [show (((t.toNat - 1600) + 1600 : Nat) : Int) = t from by omega] at h; exact meanB_ok h
  by_cases c3 : t < 3200
  · have h := mean_42_2400 (t.toNat - 2400) (by omega); rw [show (((t.toNat - 2400) + 2400 : Nat) : Int) = t from by omega] at h; exact meanB_ok h
  by_cases c4 : t < 4000
  · have h := mean_42_3200 (t.toNat - 3200) (by omega); rw [show (((t.toNat - 3200) + 3200 : Nat) : Int) = t from by omega] at h; exact meanB_ok h
  have h := mean_42_4000 (t.toNat - 4000) (by omega); rw [show (((t.toNat - 4000) + 4000 : Nat) : Int) = t from by omega] at h; exact meanB_ok h

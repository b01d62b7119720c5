section PWE
variable {a : Nat → Nat} {cH cB cJ cI : ClassId} {g : m_St} {vt : Nat → Int32}
/-- which numbers the r-th cell shows -/
def dcl (r : Nat) : Nat × Int :=
  if r = 0 then (0, 0) else if r < 4 then (100 + r, 0) else if r < 6 then (9, (r : Int) - 4) else if r = 6 then (106, 0)
  else if r < 12 then (1, (r : Int) - 7) else if r < 28 then (2, (r : Int) - 12) else if (r - 28) % 6 = 0 then (3, (((r - 28) / 6 : Nat) : Int)) else (3 + (r - 28) % 6, (((r - 28) / 6 : Nat) : Int))
theorem dcl_inj : ∀ r, r < 58 → ∀ q, q < 58 → dcl r = dcl q → r = q := by decide +kernel
theorem pcell_congr {g' : m_St} {r : Nat} (h : ∀ i, g' (dcl r).1 (dcl r).2 i = g (dcl r).1 (dcl r).2 i) : pcell a cH cB cJ cI g' vt r = pcell a cH cB cJ cI g vt r := by
  unfold dcl at h
  unfold pcell
  by_cases h0 : r = 0
  · simp only [if_pos h0] at h ⊢
    simp only [mnF, h]
  · simp only [if_neg h0] at h ⊢
    by_cases h1 : r = 1
    · simp only [if_pos h1]
    · simp only [if_neg h1]
      by_cases h2 : r = 2
      · simp only [if_pos h2]
      · simp only [if_neg h2]
        by_cases h3 : r = 3
        · simp only [if_pos h3]
        · simp only [if_neg h3]
          simp only [if_neg (show ¬ r < 4 by omega)] at h
          by_cases h6 : r < 6
          · simp only [if_pos h6] at h ⊢
            simp only [ruF, h]
          · simp only [if_neg h6] at h ⊢
            by_cases h7 : r = 6
            · simp only [if_pos h7]
            · simp only [if_neg h7] at h ⊢
              by_cases h12 : r < 12
              · simp only [if_pos h12] at h ⊢
                simp only [hsF, h]
              · simp only [if_neg h12] at h ⊢
                by_cases h28 : r < 28
                · simp only [if_pos h28] at h ⊢
                  simp only [bkF, h]
                · simp only [if_neg h28] at h ⊢
                  by_cases hj : (r - 28) % 6 = 0
                  · simp only [if_pos hj] at h ⊢
                    simp only [jdF, h]
                  · simp only [if_neg hj] at h ⊢
                    rw [show rwF g' (3 + (r - 28) % 6) (((r - 28) / 6 : Nat) : Int) = rwF g (3 + (r - 28) % 6) (((r - 28) / 6 : Nat) : Int) from funext (fun n => congrArg iI (h n))]
theorem up_ne (g : m_St) {c c' : Nat} {k k' : Int} (i x i' : Int) (h : ¬ (c' = c ∧ k' = k)) : m_up g c k i x c' k' i' = g c' k' i' := by
  unfold m_up
  rw [if_neg (fun y => h ⟨y.1, y.2.1⟩)]
theorem pw_up {q c : Nat} {k i x : Int} (h : q < 58) (hq : dcl q = (c, k)) : (pw a cH cB cJ cI g vt).set q (a q, pcell a cH cB cJ cI (m_up g c k i x) vt q) = pw a cH cB cJ cI (m_up g c k i x) vt :=
  pw_set h rfl (fun r hr ne => pcell_congr (fun i' => up_ne g i x i' (fun e => ne (dcl_inj r hr q h (by rw [hq]; exact Prod.ext e.1 e.2)))))
theorem bkF_set {b x : Int} : ∀ i : Nat, i < 11 → bkF (m_up g 2 b i x) b = (bkF g b).set i (.int (iI x))
  | 0, _ | 1, _ | 2, _ | 3, _ | 4, _ | 5, _ | 6, _ | 7, _ | 8, _ | 9, _ | 10, _ => by simp [bkF, m_up]
  | n + 11, h => absurd h (by omega)
theorem pw_setB {b x : Int} {i : Nat} (h0 : 0 ≤ b) (h1 : b < 16) (hi : i < 11) : (pw a cH cB cJ cI g vt).set (12 + b.toNat) (a (12 + b.toNat), .inr (0, (bkF g b).set i (.int (iI x)))) = pw a cH cB cJ cI (m_up g 2 b i x) vt := by
  have e := pw_up (a := a) (cH := cH) (cB := cB) (cJ := cJ) (cI := cI) (g := g) (vt := vt) (q := 12 + b.toNat) (c := 2) (k := b) (i := i) (x := x) (by omega) (by
    unfold dcl
    rw [if_neg (by omega), if_neg (by omega), if_neg (by omega), if_neg (by omega), if_neg (by omega), if_pos (by omega), show (((12 + b.toNat : Nat) : Int) - 12) = b from by omega])
  have f := pw_B (a := a) (cH := cH) (cB := cB) (cJ := cJ) (cI := cI) (g := m_up g 2 b i x) (vt := vt) h0 h1
  rw [pw_get (by omega)] at f
  have f := (Prod.mk.inj (Option.some.inj f)).2
  rw [f, bkF_set i hi] at e
  exact e
theorem hsF_set {h x : Int} : ∀ i : Nat, i < 2 → hsF (m_up g 1 h i x) h = (hsF g h).set i (.int (iI x))
  | 0, _ | 1, _ => by simp [hsF, m_up]
  | n + 2, h => absurd h (by omega)
theorem ruF_set {k x : Int} : ∀ i : Nat, i < 4 → ruF (m_up g 9 k i x) k = (ruF g k).set i (.int (iI x))
  | 0, _ | 1, _ | 2, _ | 3, _ => by simp [ruF, m_up]
  | n + 4, h => absurd h (by omega)
theorem jdF_set {j x : Int} : ∀ i : Nat, i < 16 → i ≠ 5 → i ≠ 6 → i ≠ 11 → i ≠ 13 → i ≠ 14 → jdF a (m_up g 3 j i x) j = (jdF a g j).set i (.int (iI x))
  | 0, _, _, _, _, _, _ | 1, _, _, _, _, _, _ | 2, _, _, _, _, _, _ | 3, _, _, _, _, _, _ | 4, _, _, _, _, _, _ | 7, _, _, _, _, _, _ | 8, _, _, _, _, _, _ | 9, _, _, _, _, _, _ | 10, _, _, _, _, _, _ | 12, _, _, _, _, _, _ | 15, _, _, _, _, _, _ => by simp [jdF, m_up]
  | 5, _, h, _, _, _, _ => absurd rfl h
  | 6, _, _, h, _, _, _ => absurd rfl h
  | 11, _, _, _, h, _, _ => absurd rfl h
  | 13, _, _, _, _, h, _ => absurd rfl h
  | 14, _, _, _, _, _, h => absurd rfl h
  | n + 16, h, _, _, _, _, _ => absurd h (by omega)
theorem mnF_set {x : Int} : ∀ i : Nat, i < 18 → 3 ≤ i → i ≠ 6 → i ≠ 7 → mnF a (m_up g 0 0 i x) = (mnF a g).set i (.int (iI x))
  | 0, _, h, _, _ | 1, _, h, _, _ | 2, _, h, _, _ => absurd h (by decide)
  | 3, _, _, _, _ | 4, _, _, _, _ | 5, _, _, _, _ | 8, _, _, _, _ | 9, _, _, _, _ | 10, _, _, _, _ | 11, _, _, _, _ | 12, _, _, _, _ | 13, _, _, _, _ | 14, _, _, _, _ | 15, _, _, _, _ | 16, _, _, _, _ | 17, _, _, _, _ => by simp [mnF, m_up]
  | 6, _, _, h, _ => absurd rfl h
  | 7, _, _, _, h => absurd rfl h
  | n + 18, h, _, _, _ => absurd h (by omega)
theorem rwF_set {c : Nat} {j k x : Int} (h : 0 ≤ k) : rwF (m_up g c j k x) c j = upd (rwF g c j) k.toNat (iI x) := by
  funext n
  unfold rwF upd m_up
  by_cases z : n = k.toNat
  · subst z
    simp [Int.toNat_of_nonneg h]
  · have : ¬ (n : Int) = k := by omega
    simp [z, this]
end PWE
section PWF
variable {a : Nat → Nat} {cH cB cJ cI : ClassId} {g : m_St} {vt : Nat → Int32}
theorem pw_1 : (pw a cH cB cJ cI g vt)[1]? = some (a 1, .inl (cH, 5, .inr (.inr (.inr (.inr (fun n => some (a (7 + n)))))))) := pw_get (by decide)
theorem pw_2 : (pw a cH cB cJ cI g vt)[2]? = some (a 2, .inl (cB, 16, .inr (.inr (.inr (.inr (fun n => some (a (12 + n)))))))) := pw_get (by decide)
theorem pw_3 : (pw a cH cB cJ cI g vt)[3]? = some (a 3, .inl (cJ, 5, .inr (.inr (.inr (.inr (fun n => some (a (28 + 6 * n)))))))) := pw_get (by decide)
theorem pw_4 : (pw a cH cB cJ cI g vt)[4]? = some (a 4, .inr (3, ruF g 0)) := pw_get (by decide)
theorem pw_5 : (pw a cH cB cJ cI g vt)[5]? = some (a 5, .inr (3, ruF g 1)) := pw_get (by decide)
theorem pw_6 : (pw a cH cB cJ cI g vt)[6]? = some (a 6, .inl (cI, 16, .inl vt)) := pw_get (by decide)
theorem pw_setM {i : Nat} {x : Int} (h : i < 18) (h0 : 3 ≤ i) (h1 : i ≠ 6) (h2 : i ≠ 7) : (pw a cH cB cJ cI g vt).set 0 (a 0, .inr (4, (mnF a g).set i (.int (iI x)))) = pw a cH cB cJ cI (m_up g 0 0 i x) vt := by
  have e := pw_up (a := a) (cH := cH) (cB := cB) (cJ := cJ) (cI := cI) (g := g) (vt := vt) (q := 0) (c := 0) (k := 0) (i := i) (x := x) (by decide) rfl
  have f := pw_0 (a := a) (cH := cH) (cB := cB) (cJ := cJ) (cI := cI) (g := m_up g 0 0 i x) (vt := vt)
  rw [pw_get (by decide)] at f
  have f := (Prod.mk.inj (Option.some.inj f)).2
  rw [f, mnF_set i h h0 h1 h2] at e
  exact e
theorem pw_setH {h x : Int} {i : Nat} (h0 : 0 ≤ h) (h1 : h < 5) (hi : i < 2) : (pw a cH cB cJ cI g vt).set (7 + h.toNat) (a (7 + h.toNat), .inr (1, (hsF g h).set i (.int (iI x)))) = pw a cH cB cJ cI (m_up g 1 h i x) vt := by
  have e := pw_up (a := a) (cH := cH) (cB := cB) (cJ := cJ) (cI := cI) (g := g) (vt := vt) (q := 7 + h.toNat) (c := 1) (k := h) (i := i) (x := x) (by omega) (by
    unfold dcl
    rw [if_neg (by omega), if_neg (by omega), if_neg (by omega), if_neg (by omega), if_pos (by omega), show (((7 + h.toNat : Nat) : Int) - 7) = h from by omega])
  have f := pw_H (a := a) (cH := cH) (cB := cB) (cJ := cJ) (cI := cI) (g := m_up g 1 h i x) (vt := vt) h0 h1
  rw [pw_get (by omega)] at f
  have f := (Prod.mk.inj (Option.some.inj f)).2
  rw [f, hsF_set i hi] at e
  exact e
theorem pw_setJ {j x : Int} {i : Nat} (h0 : 0 ≤ j) (h1 : j < 5) (hi : i < 16) (a5 : i ≠ 5) (a6 : i ≠ 6) (a11 : i ≠ 11) (a13 : i ≠ 13) (a14 : i ≠ 14) : (pw a cH cB cJ cI g vt).set (28 + 6 * j.toNat) (a (28 + 6 * j.toNat), .inr (2, (jdF a g j).set i (.int (iI x)))) = pw a cH cB cJ cI (m_up g 3 j i x) vt := by
  have e := pw_up (a := a) (cH := cH) (cB := cB) (cJ := cJ) (cI := cI) (g := g) (vt := vt) (q := 28 + 6 * j.toNat) (c := 3) (k := j) (i := i) (x := x) (by omega) (by
    unfold dcl
    rw [if_neg (by omega), if_neg (by omega), if_neg (by omega), if_neg (by omega), if_neg (by omega), if_neg (by omega), if_pos (by omega), show (((28 + 6 * j.toNat - 28) / 6 : Nat) : Int) = j from by omega])
  have f := pw_J (a := a) (cH := cH) (cB := cB) (cJ := cJ) (cI := cI) (g := m_up g 3 j i x) (vt := vt) h0 h1
  rw [pw_get (by omega)] at f
  have f := (Prod.mk.inj (Option.some.inj f)).2
  rw [f, jdF_set i hi a5 a6 a11 a13 a14] at e
  exact e
theorem pw_setU0 {x : Int} {i : Nat} (hi : i < 4) : (pw a cH cB cJ cI g vt).set 4 (a 4, .inr (3, (ruF g 0).set i (.int (iI x)))) = pw a cH cB cJ cI (m_up g 9 0 i x) vt := by
  have e := pw_up (a := a) (cH := cH) (cB := cB) (cJ := cJ) (cI := cI) (g := g) (vt := vt) (q := 4) (c := 9) (k := 0) (i := i) (x := x) (by decide) rfl
  have f := pw_4 (a := a) (cH := cH) (cB := cB) (cJ := cJ) (cI := cI) (g := m_up g 9 0 i x) (vt := vt)
  rw [pw_get (by decide)] at f
  have f := (Prod.mk.inj (Option.some.inj f)).2
  rw [f, ruF_set i hi] at e
  exact e
theorem pw_setU1 {x : Int} {i : Nat} (hi : i < 4) : (pw a cH cB cJ cI g vt).set 5 (a 5, .inr (3, (ruF g 1).set i (.int (iI x)))) = pw a cH cB cJ cI (m_up g 9 1 i x) vt := by
  have e := pw_up (a := a) (cH := cH) (cB := cB) (cJ := cJ) (cI := cI) (g := g) (vt := vt) (q := 5) (c := 9) (k := 1) (i := i) (x := x) (by decide) rfl
  have f := pw_5 (a := a) (cH := cH) (cB := cB) (cJ := cJ) (cI := cI) (g := m_up g 9 1 i x) (vt := vt)
  rw [pw_get (by decide)] at f
  have f := (Prod.mk.inj (Option.some.inj f)).2
  rw [f, ruF_set i hi] at e
  exact e
theorem pw_setR {j k x : Int} {r : Nat} (h0 : 0 ≤ j) (h1 : j < 5) (hr : 1 ≤ r ∧ r < 6) (hk : 0 ≤ k) : (pw a cH cB cJ cI g vt).set (28 + r + 6 * j.toNat) (a (28 + r + 6 * j.toNat), .inl (cI, if r = 5 then 5 else 16, .inl (upd (rwF g (3 + r) j) k.toNat (iI x)))) = pw a cH cB cJ cI (m_up g (3 + r) j k x) vt := by
  have e := pw_up (a := a) (cH := cH) (cB := cB) (cJ := cJ) (cI := cI) (g := g) (vt := vt) (q := 28 + r + 6 * j.toNat) (c := 3 + r) (k := j) (i := k) (x := x) (by omega) (by
    unfold dcl
    rw [if_neg (by omega), if_neg (by omega), if_neg (by omega), if_neg (by omega), if_neg (by omega), if_neg (by omega), if_neg (by omega), show (28 + r + 6 * j.toNat - 28) % 6 = r from by omega, show (((28 + r + 6 * j.toNat - 28) / 6 : Nat) : Int) = j from by omega])
  have f := pw_R (a := a) (cH := cH) (cB := cB) (cJ := cJ) (cI := cI) (g := m_up g (3 + r) j k x) (vt := vt) h0 h1 hr
  rw [pw_get (by omega)] at f
  have f := (Prod.mk.inj (Option.some.inj f)).2
  rw [f, rwF_set hk] at e
  exact e
theorem pw_setV {x : Int32} {k : Nat} : (pw a cH cB cJ cI g vt).set 6 (a 6, .inl (cI, 16, .inl (upd vt k x))) = pw a cH cB cJ cI g (upd vt k x) := by
  refine pw_set (by decide) rfl (fun r _ hr => ?_)
  unfold pcell
  simp only [if_neg hr]
end PWF

section PDY
theorem readJ_3 (g : m_St) (j j' i : Int) (h : i ≠ 9 ∧ i ≠ 12 ∧ i ≠ 10) : m_readJ g j 3 j' i = g 3 j' i := by
  unfold m_readJ
  rw [markLoop_3 ⟨h.1, h.2.1⟩]
  simp [m_up, h.2.2]
theorem readJ_k (g : m_St) (j : Int) (c : Nat) (k i : Int) (h : k ≠ j) : m_readJ g j c k i = g c k i := by
  unfold m_readJ
  rw [markLoop_k h]
  simp [m_up, h]
theorem readJ_10 (g : m_St) (j : Int) : m_readJ g j 3 j 10 = g 3 j 10 + min (m_pace (g 3 j 0) (g 3 j 10)) (m_pagesLeft g j) := by
  unfold m_readJ
  rw [markLoop_3 (by decide)]
  exact up_s _ _ _ _ _
theorem readJ_ent (g : m_St) (j b : Int) : m_ent (m_readJ g j) b = m_ent g b := by
  unfold m_ent
  rw [readJ_c j (by decide) (by decide), readJ_c j (by decide) (by decide)]
theorem Cj.readJ {g : m_St} {j j' B : Int} (h : Cj g j' B) : Cj (m_readJ g j) j' B := by
  have e7 := readJ_3 g j j' 7 (by decide)
  have e8 := readJ_3 g j j' 8 (by decide)
  have e4 : ∀ i, m_readJ g j 4 j' i = g 4 j' i := fun i => readJ_c j (by decide) (by decide) g
  have e5 : ∀ i, m_readJ g j 5 j' i = g 5 j' i := fun i => readJ_c j (by decide) (by decide) g
  simp only [Cj, e7, e8, e4, e5, readJ_ent]
  exact h
theorem Mj.readJ {g : m_St} {j B : Int} (hW : Wf g) (hj : 0 ≤ j ∧ j < 5) (hB : B ≤ 16) (hC : Cj g j B) (h : Mj g j) : Mj (m_readJ g j) j := by
  have J := hW.2.2.2.2.1 j hj.1 hj.2
  have P := pace_b J.1.2 J.2.2.2.2.2.2.2.2.1.1
  unfold m_readJ
  have e3 : ∀ (x i : Int), i ≠ 10 → m_up g 3 j 10 x 3 j i = g 3 j i := fun x i h => up_i _ _ _ _ _ _ _ h
  have ec : ∀ (x k i : Int) (c : Nat), c ≠ 3 → m_up g 3 j 10 x c k i = g c k i := fun x k i c h => up_c _ _ _ _ _ _ _ _ h
  refine Mj.loop (B := B) hB 16 ?_ ?_ ?_
  · simp only [Cj, m_ent, e3 _ 7 (by decide), e3 _ 8 (by decide), ec _ _ _ 4 (by decide), ec _ _ _ 5 (by decide), ec _ _ _ 2 (by decide), ec _ _ _ 0 (by decide)]
    exact hC
  · obtain ⟨h1, h3, h4, h5, h6⟩ := h.1
    simp only [Mj0, e3 _ 9 (by decide), e3 _ 12 (by decide), ec _ _ _ 4 (by decide), ec _ _ _ 5 (by decide), ec _ _ _ 6 (by decide), up_s]
    refine ⟨fun k a b => ?_, h3, h4, h5, h6⟩
    have := h1 k a b
    unfold m_pagesLeft
    omega
  · rw [e3 _ 7 (by decide), e3 _ 9 (by decide)]
    omega
theorem Mj.other {g : m_St} {j j' : Int} (hq : j' ≠ j) (h : Mj g j') : Mj (m_readJ g j) j' := by
  have e : ∀ c i, m_readJ g j c j' i = g c j' i := fun c i => readJ_k g j c j' i hq
  simp only [Mj, Mj0, e]
  exact h
/-! how many days until a crate is read -/
theorem dayLoop_d (sp cp : Int) : ∀ (n : Nat) (p d : Int), m_dayLoop sp cp n p d = d + m_dayLoop sp cp n p 0
  | 0, _, d => by unfold m_dayLoop; omega
  | n + 1, p, d => by
    unfold m_dayLoop
    split
    · rw [dayLoop_d sp cp n _ (d + 1), dayLoop_d sp cp n _ (0 + 1)]; omega
    · omega
theorem dayLoop_nn (sp cp : Int) : ∀ (n : Nat) (p : Int), 0 ≤ m_dayLoop sp cp n p 0
  | 0, _ => Int.le_refl _
  | n + 1, p => by
    unfold m_dayLoop
    split
    · rw [dayLoop_d]; have := dayLoop_nn sp cp n (p + m_pace sp p); omega
    · omega
theorem dayLoop_done (sp cp : Int) {p : Int} (h : cp ≤ p) (d : Int) : ∀ n : Nat, m_dayLoop sp cp n p d = d
  | 0 => rfl
  | n + 1 => by unfold m_dayLoop; rw [if_neg (by omega)]
theorem pace_10 (sp p : Int) : 10 ≤ m_pace sp p := by unfold m_pace; omega
theorem dayLoop_more (sp cp : Int) : ∀ (n m : Nat) (p : Int), cp - p ≤ 10 * n → n ≤ m → m_dayLoop sp cp m p 0 = m_dayLoop sp cp n p 0
  | 0, m, p, h, _ => by rw [dayLoop_done sp cp (by omega), dayLoop_done sp cp (by omega)]
  | n + 1, 0, p, h, q => absurd q (by omega)
  | n + 1, m + 1, p, h, q => by
    have P := pace_10 sp p
    unfold m_dayLoop
    split
    · rw [dayLoop_d sp cp m, dayLoop_d sp cp n, dayLoop_more sp cp n m _ (by omega) (by omega)]
    · rfl
theorem dayLoop_step (sp cp p : Int) (h : p ≤ cp) (h0 : cp - p ≤ 90000) : m_dayLoop sp cp 10000 (p + min (m_pace sp p) (cp - p)) 0 = max 0 (m_dayLoop sp cp 10000 p 0 - 1) := by
  have P := pace_10 sp p
  by_cases q : p < cp
  · have e : m_dayLoop sp cp 10000 p 0 = 1 + m_dayLoop sp cp 9999 (p + m_pace sp p) 0 := by
      rw [show (10000 : Nat) = 9999 + 1 from rfl, m_dayLoop, if_pos q, dayLoop_d]; rfl
    have N := dayLoop_nn sp cp 9999 (p + m_pace sp p)
    rw [e]
    by_cases z : p + m_pace sp p ≤ cp
    · rw [show min (m_pace sp p) (cp - p) = m_pace sp p from by omega, dayLoop_more sp cp 9999 10000 _ (by omega) (by omega)]
      omega
    · rw [show p + min (m_pace sp p) (cp - p) = cp from by omega, dayLoop_done sp cp (Int.le_refl _), dayLoop_done sp cp (by omega)]
      rfl
  · rw [dayLoop_done sp cp (by omega), dayLoop_done sp cp (by omega)]
    rfl
theorem dayLoop_0 (sp cp p : Int) (h : p < cp) : 0 < m_dayLoop sp cp 10000 p 0 := by
  rw [show (10000 : Nat) = 9999 + 1 from rfl, m_dayLoop, if_pos h, dayLoop_d]
  have := dayLoop_nn sp cp 9999 (p + m_pace sp p)
  omega
theorem days_step {g : m_St} {j : Int} (h : g 3 j 10 ≤ g 3 j 8) (h0 : g 3 j 8 - g 3 j 10 ≤ 90000) : m_daysLeft (m_readJ g j) j = max 0 (m_daysLeft g j - 1) := by
  unfold m_daysLeft
  rw [readJ_3 g j j 0 (by decide), readJ_3 g j j 8 (by decide), readJ_10]
  exact dayLoop_step _ _ _ h h0
theorem days_other {g : m_St} {j j' : Int} (h : j' ≠ j) : m_daysLeft (m_readJ g j) j' = m_daysLeft g j' := by
  unfold m_daysLeft
  simp only [readJ_k g j 3 j' _ h]
theorem days_nn (g : m_St) (j : Int) : 0 ≤ m_daysLeft g j := dayLoop_nn _ _ _ _
/-! the greatest of some numbers -/
def mxs (f : Int → Int) (n : Nat) : Int := m_fo (fun j d => max d (f j)) 0 n
theorem mxs_pred {f f' : Int → Int} : ∀ {n : Nat}, (∀ j : Int, 0 ≤ j → j < n → f' j = max 0 (f j - 1)) → mxs f' n = max 0 (mxs f n - 1)
  | 0, _ => rfl
  | n + 1, h => by
    have a := mxs_pred (n := n) (fun j a b => h j a (by omega))
    have b := h n (by omega) (by omega)
    show max (mxs f' n) (f' n) = max 0 (max (mxs f n) (f n) - 1)
    rw [a, b]; omega
theorem mxs_nn (f : Int → Int) : ∀ n : Nat, 0 ≤ mxs f n
  | 0 => Int.le_refl _
  | n + 1 => by have := mxs_nn f n; show 0 ≤ max (mxs f n) (f n); omega
theorem mxs_0 {f : Int → Int} : ∀ {n : Nat}, mxs f n ≤ 0 → ∀ j : Int, 0 ≤ j → j < n → f j ≤ 0
  | 0, _, j, a, b => by omega
  | n + 1, h, j, a, b => by
    have h' : max (mxs f n) (f n) ≤ 0 := h
    by_cases q : j = n
    · rw [q]; omega
    · exact mxs_0 (n := n) (by omega) j a (by omega)
/-! a day -/
theorem readDays_k {g : m_St} : ∀ (n : Nat) (c : Nat) (k i : Int), (n : Int) ≤ k ∨ k < 0 → m_fo (fun j u => m_readJ u j) g n c k i = g c k i
  | 0, _, _, _, _ => rfl
  | n + 1, c, k, i, h => (readJ_k _ _ c k i (by omega)).trans (readDays_k n c k i (by omega))
theorem readDays_at {g : m_St} : ∀ (n : Nat) (j : Int), 0 ≤ j → j < n → ∃ u : m_St, (∀ c i, u c j i = g c j i) ∧ (∀ (c : Nat) (k i : Int), c ≠ 3 → c ≠ 6 → u c k i = g c k i) ∧ ∀ c i, m_fo (fun j u => m_readJ u j) g n c j i = m_readJ u j c j i
  | 0, j, a, b => by omega
  | n + 1, j, a, b => by
    by_cases q : j = n
    · subst q
      refine ⟨m_fo (fun j u => m_readJ u j) g n, fun c i => readDays_k n c n i (Or.inl (Int.le_refl _)), fun c k i h h' => ?_, fun c i => rfl⟩
      have : ∀ m : Nat, m_fo (fun j u => m_readJ u j) g m c k i = g c k i := fun m => by
        induction m with
        | zero => rfl
        | succ m ih => exact (readJ_c _ h h' _).trans ih
      exact this n
    · obtain ⟨u, u1, u2, u3⟩ := readDays_at (g := g) n j a (by omega)
      exact ⟨u, u1, u2, fun c i => (readJ_k _ _ c j i q).trans (u3 c i)⟩
end PDY
section PRD
def Rj (g : m_St) : Prop := ∀ j, 0 ≤ j → j < 5 → Cj g j (g 0 0 4) ∧ Mj g j
theorem Rj.readJ {g : m_St} {j : Int} (hW : Wf g) (hj : 0 ≤ j ∧ j < 5) (h : Rj g) : Rj (m_readJ g j) := by
  intro j' a b
  have H := h j' a b
  have bc : m_readJ g j 0 0 4 = g 0 0 4 := readJ_c j (by decide) (by decide) g
  rw [bc]
  refine ⟨H.1.readJ, ?_⟩
  by_cases q : j' = j
  · subst q; exact H.2.readJ hW hj hW.bc.2 H.1
  · exact H.2.other q
theorem Rj.days {g : m_St} (hW : Wf g) (h : Rj g) : ∀ n : Nat, (n : Int) ≤ g 0 0 5 → Rj (m_fo (fun j u => m_readJ u j) g n)
  | 0, _ => h
  | n + 1, q => (Rj.days hW h n (by omega)).readJ (hW.readDays n (by omega)).1 ⟨by omega, by have := hW.jc; omega⟩
theorem Rj.day {g : m_St} (hW : Wf g) (h : Rj g) : Rj (m_readDay g) := by
  unfold m_readDay
  split
  · exact h.days hW _ (by have := hW.jc; omega)
  · exact h
/-- what a day does to each judge that there is -/
def Day (g u : m_St) : Prop := (∀ (c : Nat) (k i : Int), c ≠ 3 → c ≠ 6 → u c k i = g c k i) ∧ (∀ j i, i ≠ 9 → i ≠ 12 → i ≠ 10 → u 3 j i = g 3 j i) ∧ ∀ j, 0 ≤ j → j < g 0 0 5 → m_daysLeft u j = (if g 0 0 9 = 1 then max 0 (m_daysLeft g j - 1) else m_daysLeft g j) ∧ g 3 j 10 ≤ u 3 j 10 ∧ u 3 j 10 ≤ g 3 j 10 + max 10 (g 3 j 0)
theorem day_of {g : m_St} (hW : Wf g) : Day g (m_readDay g) := by
  have D := hW.readDay
  refine ⟨D.2, fun j i a b c => ?_, fun j a b => ?_⟩
  · unfold m_readDay
    split
    · have : ∀ m : Nat, m_fo (fun j u => m_readJ u j) g m 3 j i = g 3 j i := fun m => by
        induction m with
        | zero => rfl
        | succ m ih => exact (readJ_3 _ _ _ _ ⟨a, b, c⟩).trans ih
      exact this _
    · rfl
  · have J := hW.jc
    have X := hW.2.2.2.2.1 j a (by omega)
    unfold m_readDay
    split
    · obtain ⟨u, u1, u2, u3⟩ := readDays_at (g := g) (g 0 0 5).toNat j a (by omega)
      have ed : m_daysLeft (m_fo (fun j u => m_readJ u j) g (g 0 0 5).toNat) j = m_daysLeft (m_readJ u j) j := by unfold m_daysLeft; rw [u3 3 0, u3 3 8, u3 3 10]
      have ed' : m_daysLeft u j = m_daysLeft g j := by unfold m_daysLeft; rw [u1, u1, u1]
      have S := days_step (g := u) (j := j) (by rw [u1, u1]; omega) (by rw [u1, u1]; omega)
      have P : 0 ≤ m_pace (u 3 j 0) (u 3 j 10) ∧ m_pace (u 3 j 0) (u 3 j 10) ≤ max 10 (g 3 j 0) := by
        rw [u1, u1]
        unfold m_pace
        have : 0 ≤ (g 3 j 10).tdiv 500 := Int.tdiv_nonneg (by omega) (by decide)
        omega
      rw [ed, S, ed', u3, readJ_10]
      refine ⟨rfl, ?_, ?_⟩
      · have e := u1 3 10
        unfold m_pagesLeft
        have e8 := u1 3 8
        omega
      · have e := u1 3 10
        omega
    · exact ⟨rfl, by omega, by omega⟩
theorem days_of {g : m_St} (hW : Wf g) (hR : Rj g) : ∀ n : Nat, Wf (m_fo (fun _ u => m_readDay u) g n) ∧ Rj (m_fo (fun _ u => m_readDay u) g n) ∧ (∀ (c : Nat) (k i : Int), c ≠ 3 → c ≠ 6 → m_fo (fun _ u => m_readDay u) g n c k i = g c k i) ∧ (∀ j i, i ≠ 9 → i ≠ 12 → i ≠ 10 → m_fo (fun _ u => m_readDay u) g n 3 j i = g 3 j i) ∧ ∀ j, 0 ≤ j → j < g 0 0 5 → m_daysLeft (m_fo (fun _ u => m_readDay u) g n) j = (if g 0 0 9 = 1 then max 0 (m_daysLeft g j - n) else m_daysLeft g j) ∧ g 3 j 10 ≤ m_fo (fun _ u => m_readDay u) g n 3 j 10 ∧ m_fo (fun _ u => m_readDay u) g n 3 j 10 ≤ g 3 j 10 + n * max 10 (g 3 j 0)
  | 0 => ⟨hW, hR, fun _ _ _ _ _ => rfl, fun _ _ _ _ _ => rfl, fun j a b => ⟨by
      have := days_nn g j
      show m_daysLeft g j = _
      split
      · rw [show ((0 : Nat) : Int) = 0 from rfl]; omega
      · rfl, Int.le_refl _, by show g 3 j 10 ≤ _; simp⟩⟩
  | n + 1 => by
    obtain ⟨h1, h2, h3, h4, h5⟩ := days_of hW hR n
    generalize hv : m_fo (fun _ u => m_readDay u) g n = v at h1 h2 h3 h4 h5
    have e : m_fo (fun _ u => m_readDay u) g (n + 1) = m_readDay v := by rw [← hv]; rfl
    rw [e]
    obtain ⟨d1, d2, d3⟩ := day_of h1
    have ej := h3 0 0 5 (by decide) (by decide)
    have ep := h3 0 0 9 (by decide) (by decide)
    refine ⟨h1.readDay.1, h2.day h1, fun c k i a b => (d1 c k i a b).trans (h3 c k i a b), fun j i a b c => (d2 j i a b c).trans (h4 j i a b c), fun j a b => ?_⟩
    have X := d3 j a (by omega)
    have Y := h5 j a b
    have e0 := h4 j 0 (by decide) (by decide) (by decide)
    rw [ep] at X
    rw [X.1, Y.1]
    refine ⟨?_, by omega, ?_⟩
    · split
      · rw [show ((n + 1 : Nat) : Int) = (n : Int) + 1 from by omega]; omega
      · rfl
    · have : ((n + 1 : Nat) : Int) * max 10 (g 3 j 0) = n * max 10 (g 3 j 0) + max 10 (g 3 j 0) := by rw [show ((n + 1 : Nat) : Int) = (n : Int) + 1 from by omega, Int.add_mul, Int.one_mul]
      rw [this]
      have Z := X.2.2
      rw [e0] at Z
      omega
theorem readIn_mxs (g : m_St) : m_readIn g = if g 0 0 9 = 1 then mxs (m_daysLeft g) (g 0 0 5).toNat else -1 := rfl
theorem mxs_sub {f f' : Int → Int} {d : Int} (hd : 0 ≤ d) : ∀ {n : Nat}, (∀ j : Int, 0 ≤ j → j < n → f' j = max 0 (f j - d)) → mxs f' n = max 0 (mxs f n - d)
  | 0, _ => by show (0 : Int) = max 0 (0 - d); omega
  | n + 1, h => by
    have a := mxs_sub hd (n := n) (fun j a b => h j a (by omega))
    have b := h n (by omega) (by omega)
    show max (mxs f' n) (f' n) = max 0 (max (mxs f n) (f n) - d)
    rw [a, b]; omega
theorem mxs_congr {f f' : Int → Int} : ∀ {n : Nat}, (∀ j : Int, 0 ≤ j → j < n → f' j = f j) → mxs f' n = mxs f n
  | 0, _ => rfl
  | n + 1, h => by
    have a := mxs_congr (n := n) (fun j a b => h j a (by omega))
    have b := h n (by omega) (by omega)
    show max (mxs f' n) (f' n) = max (mxs f n) (f n)
    rw [a, b]
/-- days until all is read go down by days -/
theorem readIn_pass {g : m_St} {n : Int} (hW : Wf g) (hR : Rj g) (hn : 0 ≤ n) : m_readIn (m_pass g n) = if g 0 0 9 = 1 then max 0 (m_readIn g - n) else -1 := by
  obtain ⟨h1, h2, h3, h4, h5⟩ := days_of hW hR n.toNat
  have bc := h1.bc
  have S := Wf.sells (d := n) h1 hn (m_passDays g n 0 0 4).toNat (by unfold m_passDays; omega)
  have e9 : m_pass g n 0 0 9 = g 0 0 9 := by
    show m_up _ 0 0 10 _ 0 0 9 = _
    rw [up_i _ _ _ _ _ _ _ (by decide)]
    exact (S.2.1 0 0 9 (by decide) (by decide)).trans (h3 0 0 9 (by decide) (by decide))
  have e5 : m_pass g n 0 0 5 = g 0 0 5 := by
    show m_up _ 0 0 10 _ 0 0 5 = _
    rw [up_i _ _ _ _ _ _ _ (by decide)]
    exact (S.2.1 0 0 5 (by decide) (by decide)).trans (h3 0 0 5 (by decide) (by decide))
  have e3 : ∀ j i, m_pass g n 3 j i = m_fo (fun _ u => m_readDay u) g n.toNat 3 j i := fun j i => by
    show m_up _ 0 0 10 _ 3 j i = _
    rw [up_c _ _ _ _ _ _ _ _ (by decide)]
    exact S.2.1 3 j i (by decide) (by decide)
  have ed : ∀ j, m_daysLeft (m_pass g n) j = m_daysLeft (m_fo (fun _ u => m_readDay u) g n.toNat) j := fun j => by unfold m_daysLeft; simp only [e3]
  rw [readIn_mxs, readIn_mxs, e9, e5]
  split
  · rename_i q
    have J := hW.jc
    refine mxs_sub hn (fun j a b => ?_)
    rw [ed, (h5 j a (by omega)).1, if_pos q, Int.toNat_of_nonneg hn]
  · rfl
end PRD
section PIN
/-! what holds at the end of every turn -/
def InvN (H J t : Int) (g : m_St) : Prop := g 0 0 3 = H ∧ g 0 0 5 = J ∧ 5 * g 0 0 8 + g 0 0 9 ≤ t ∧ g 0 0 10 ≤ 6 * t
def InvS (g : m_St) : Prop := (∀ b, m_has (g 0 0 11) b = true → b < g 0 0 4 ∧ m_ent g b = true) ∧ (∀ b, m_has (g 0 0 13) b = true → m_has (g 0 0 11) b = true) ∧ (g 0 0 14 = -1 ∨ (m_has (g 0 0 13) (g 0 0 14) = true ∧ m_has (g 0 0 17) (g 0 0 14) = false)) ∧ (g 0 0 9 < 2 → g 0 0 11 = 0) ∧ (g 0 0 9 < 3 → g 0 0 13 = 0) ∧ (g 0 0 9 < 4 → g 0 0 14 = -1) ∧ m_pcn (g 0 0 13) ≤ 5 ∧ (∀ h, m_coh g h (g 0 0 11) ≤ 2) ∧ (∀ b, m_has (g 0 0 12) b = true → b < g 0 0 4) ∧ (∀ b, m_has (g 0 0 17) b = true → b < g 0 0 4 ∧ 0 ≤ g 2 b 7 ∧ (g 2 b 7 = g 0 0 8 → g 0 0 9 = 4))
def InvB (H t : Int) (g : m_St) : Prop := (∀ b, 0 ≤ b → b < g 0 0 4 → g 2 b 0 < H ∧ 60 ≤ g 2 b 3 ∧ g 2 b 7 ≤ g 0 0 8 ∧ g 2 b 8 ≤ 90 * t) ∧ ∀ b, g 0 0 4 ≤ b → b < 16 → g 2 b 7 = -1 ∧ g 2 b 8 = 0 ∧ g 2 b 9 = 0 ∧ g 2 b 10 = 0
def InvJ (J : Int) (g : m_St) : Prop := (∀ j, 0 ≤ j → j < J → 40 ≤ g 3 j 0) ∧ (∀ j, 0 ≤ j → j < 5 → (g 0 0 9 = 0 → g 3 j 7 = 0) ∧ (g 0 0 9 < 3 → g 3 j 15 = 0) ∧ m_sm (fun b => g 7 j b) 16 ≤ 12)
def used (g : m_St) (H : Int) : Int := m_sm (fun h => g 1 h 1) H.toNat
def coins (g : m_St) (H : Int) : Int := m_sm (fun h => g 1 h 0) H.toNat
def stockAll (g : m_St) : Int := m_sm (fun b => g 2 b 8) (g 0 0 4).toNat
def InvQ (H paid printed called : Int) (g : m_St) : Prop := coins g H = 100 * H - paid + m_soldEver g ∧ printed = stockAll g + m_soldEver g ∧ m_entCount g = used g H + called ∧ ∀ h, 0 ≤ h → h < H → g 1 h 1 ≤ m_quota g h
def Iv (H J t paid printed called : Int) (g : m_St) : Prop := Wf g ∧ Rj g ∧ (∀ b, C3 g b) ∧ InvN H J t g ∧ InvS g ∧ InvB H t g ∧ InvJ J g ∧ InvQ H paid printed called g
/-! a conflict, rules: nothing that is looked at changes -/
theorem C3.same {g g' : m_St} (h7 : ∀ j, g' 3 j 7 = g 3 j 7) (h4 : ∀ j k, g' 4 j k = g 4 j k) {b : Int} (h : C3 g b) : C3 g' b := by
  obtain ⟨T, t0, t1, t2⟩ := h
  exact ⟨T, t0, t1, fun j k a0 a1 b0 b1 e => t2 j k a0 a1 b0 (by rw [← h7]; exact b1) (by rw [← h4]; exact e)⟩
theorem Rj.same {g g' : m_St} (h : Rj g) (h3 : ∀ j i, i = 7 ∨ i = 8 ∨ i = 9 ∨ i = 10 ∨ i = 12 → g' 3 j i = g 3 j i) (h4 : ∀ j i, g' 4 j i = g 4 j i) (h5 : ∀ j i, g' 5 j i = g 5 j i) (h6 : ∀ j i, g' 6 j i = g 6 j i) (he : ∀ b, 0 ≤ b → b < g 0 0 4 → m_ent g b = true → m_ent g' b = true) (hb : g 0 0 4 ≤ g' 0 0 4) : Rj g' := by
  intro j a b
  obtain ⟨C, M⟩ := h j a b
  have e7 := h3 j 7 (by simp)
  have e8 := h3 j 8 (by simp)
  have e9 := h3 j 9 (by simp)
  have e10 := h3 j 10 (by simp)
  have e12 := h3 j 12 (by simp)
  refine ⟨?_, ?_⟩
  · simp only [Cj, e7, e8, h4, h5]
    exact ⟨fun k k0 k1 => by have X := C.1 k k0 k1; exact ⟨X.1, by omega, he _ X.1 X.2.1 X.2.2⟩, C.2⟩
  · simp only [Mj, Mj0, e7, e9, e10, e12, h4, h5, h6]
    exact M
theorem inv_conflict {H J t p q c j a : Int} {g : m_St} (h : Iv H J t p q c g) (ha : 0 ≤ a ∧ a ≤ 9) : Iv H J t p q c (m_conflict g j a) := by
  obtain ⟨W, R, C, N, S, B, K, Q⟩ := h
  have e3 : ∀ j' i, i ≠ 3 → m_conflict g j a 3 j' i = g 3 j' i := fun j' i h => up_i _ _ _ _ _ _ _ h
  refine ⟨W.conflict ha, R.same (fun j' i h => e3 j' i (by omega)) (fun _ _ => rfl) (fun _ _ => rfl) (fun _ _ => rfl) (fun _ _ _ h => h) (Int.le_refl _), fun b => (C b).same (fun j' => e3 j' 7 (by decide)) (fun _ _ => rfl), N, S, B, ?_, Q⟩
  refine ⟨fun j' x y => ?_, fun j' x y => ?_⟩
  · rw [e3 _ _ (by decide)]; exact K.1 j' x y
  · rw [e3 _ 7 (by decide), e3 _ 15 (by decide)]; exact K.2 j' x y
theorem inv_rules {H J t p q c f l m e : Int} {g : m_St} (h : Iv H J t p q c g) (h0 : 0 ≤ f ∧ f ≤ 7) (h1 : 0 ≤ l ∧ l ≤ 900) (h2 : 0 ≤ m ∧ m ≤ 900) (h3 : 0 ≤ e ∧ e ≤ 50) : Iv H J t p q c (m_setRules g 1 f l m e) := by
  obtain ⟨W, R, C, N, S, B, K, Q⟩ := h
  exact ⟨W.rules h0 h1 h2 h3, R, C, N, S, B, K, Q⟩
theorem inv_later {H J t p q c : Int} {g : m_St} (h : Iv H J t p q c g) : Iv H J (t + 1) p q c g := by
  obtain ⟨W, R, C, N, S, B, K, Q⟩ := h
  obtain ⟨n1, n2, n3, n4⟩ := N
  exact ⟨W, R, C, ⟨n1, n2, by omega, by omega⟩, S, ⟨fun b x y => by have := B.1 b x y; exact ⟨this.1, this.2.1, this.2.2.1, by omega⟩, B.2⟩, K, Q⟩
/-! copies are printed -/
theorem inv_print {H J t p q c b' n : Int} {g : m_St} (h : Iv H J t p q c g) (hb : 0 ≤ b' ∧ b' < g 0 0 4) (hn : 0 ≤ n ∧ n ≤ 90) (ht : t < 90) : Iv H J (t + 1) p (q + n) c (m_print g b' n) ∧ m_print g b' n 2 b' 8 = g 2 b' 8 + n := by
  obtain ⟨W, R, C, N, S, B, K, Q⟩ := h
  have X := B.1 b' hb.1 hb.2
  have e8 : m_print g b' n = m_up g 2 b' 8 (g 2 b' 8 + n) := by unfold m_print; rw [show min 9999 (g 2 b' 8 + n) = g 2 b' 8 + n from by omega]
  have ei : ∀ k i, i ≠ 8 → m_print g b' n 2 k i = g 2 k i := fun k i h => up_i _ _ _ _ _ _ _ h
  have ee : ∀ x, m_ent (m_print g b' n) x = m_ent g x := fun x => by unfold m_ent; rw [ei _ _ (by decide)]; rfl
  have ec : ∀ h S, m_coh (m_print g b' n) h S = m_coh g h S := fun h S => by unfold m_coh; simp only [ei _ 0 (by decide)]; rfl
  obtain ⟨n1, n2, n3, n4⟩ := N
  have es : m_soldEver (m_print g b' n) = m_soldEver g := by unfold m_soldEver; simp only [ei _ 9 (by decide)]; rfl
  refine ⟨⟨W.print hn.1, R.same (fun _ _ _ => rfl) (fun _ _ => rfl) (fun _ _ => rfl) (fun _ _ => rfl) (fun x _ _ h => (ee x).trans h) (Int.le_refl _), fun b => (C b).same (fun _ => rfl) (fun _ _ => rfl), ⟨n1, n2, by show 5 * g 0 0 8 + g 0 0 9 ≤ t + 1; omega, by show g 0 0 10 ≤ 6 * (t + 1); omega⟩, ?_, ⟨fun b x y => ?_, fun b x y => ?_⟩, K, ?_⟩, ?_⟩
  · obtain ⟨s1, s2, s3, s4, s5, s6, s7, s8, s9, s10⟩ := S
    exact ⟨fun b h => by rw [ee]; exact s1 b h, s2, s3, s4, s5, s6, s7, fun h => by rw [ec]; exact s8 h, s9, fun b h => by rw [ei _ 7 (by decide)]; exact s10 b h⟩
  · have Y := B.1 b x y
    rw [ei _ 0 (by decide), ei _ 3 (by decide), ei _ 7 (by decide)]
    refine ⟨Y.1, Y.2.1, Y.2.2.1, ?_⟩
    rw [e8]
    simp only [m_up]
    split <;> omega
  · have Y := B.2 b x y
    have q' : b ≠ b' := by have : m_print g b' n 0 0 4 = g 0 0 4 := rfl; omega
    rw [ei _ 7 (by decide), ei _ 9 (by decide), ei _ 10 (by decide), e8, up_k _ _ _ _ _ _ _ q']
    exact Y
  · obtain ⟨q1, q2, q3, q4⟩ := Q
    refine ⟨by rw [es]; exact q1, ?_, ?_, fun h x y => ?_⟩
    · have Z := sm_one (h := fun b => g 2 b 8) (h' := fun b => m_print g b' n 2 b 8) (n := (g 0 0 4).toNat) (k := b') hb.1 (by omega) (fun i _ _ z => by rw [e8, up_k _ _ _ _ _ _ _ z])
      have e0 : stockAll (m_print g b' n) = m_sm (fun b => m_print g b' n 2 b 8) (g 0 0 4).toNat := rfl
      have e1 : stockAll g = m_sm (fun b => g 2 b 8) (g 0 0 4).toNat := rfl
      have e2 : m_print g b' n 2 b' 8 = g 2 b' 8 + n := by rw [e8, up_s]
      rw [es]; omega
    · rw [show m_entCount (m_print g b' n) = m_entCount g from by unfold m_entCount; simp only [funext ee]; rfl]; exact q3
    · rw [show m_quota (m_print g b' n) h = m_quota g h from by unfold m_quota; rw [ec]; rfl]; exact q4 h x y
  · rw [e8, up_s]
end PIN
section PTO
theorem book_c (g : m_St) (h a f p m l : Int) (c : Nat) (k i : Int) (hc : c ≠ 0) (h2 : c ≠ 2) : m_book g h a f p m l c k i = g c k i := by simp [m_book, m_describeB, m_up, hc, h2]
theorem book_0 (g : m_St) (h a f p m l : Int) (i : Int) (hi : i ≠ 4) : m_book g h a f p m l 0 0 i = g 0 0 i := by simp [m_book, m_describeB, m_up, hi]
theorem book_4 (g : m_St) (h a f p m l : Int) : m_book g h a f p m l 0 0 4 = g 0 0 4 + 1 := by simp [m_book, m_up]
theorem book_k (g : m_St) (h a f p m l : Int) (k i : Int) (hk : k ≠ g 0 0 4) : m_book g h a f p m l 2 k i = g 2 k i := by simp [m_book, m_describeB, m_up, hk]
theorem book_i (g : m_St) (h a f p m l : Int) (k i : Int) (hi : 7 ≤ i) : m_book g h a f p m l 2 k i = g 2 k i := by
  have e0 : i ≠ 0 := by omega
  have e1 : i ≠ 1 := by omega
  have e2 : i ≠ 2 := by omega
  have e3 : i ≠ 3 := by omega
  have e4 : i ≠ 4 := by omega
  have e5 : i ≠ 5 := by omega
  have e6 : i ≠ 6 := by omega
  simp [m_book, m_describeB, m_up, e0, e1, e2, e3, e4, e5, e6]
theorem tn1 {b : Int} (h : 0 ≤ b) : (b + 1).toNat = b.toNat + 1 := by omega
theorem ent_old {g : m_St} (W : Wf g) {b : Int} (h : g 2 b 7 = -1) : m_ent g b = false := by
  have := W.1.2.2.2.1
  unfold m_ent
  rw [h]
  simp
  omega
theorem inv_book {H J t p q c hs a f pg m l : Int} {g : m_St} (h : Iv H J t p q c g) (hH : H ≤ 5) (hc : g 0 0 4 < 16) (h0 : 0 ≤ hs ∧ hs < H) (h1 : 0 ≤ a ∧ a ≤ 9) (h2 : 0 ≤ f ∧ f ≤ 2) (h3 : 60 ≤ pg ∧ pg ≤ 259) (h4 : 0 ≤ m ∧ m ≤ 60) (h5 : 0 ≤ l ∧ l ≤ 9) : Iv H J t p q c (m_book g hs a f pg m l) ∧ ∀ j, 0 ≤ j → j < 5 → m_book g hs a f pg m l 6 j (g 0 0 4) = -1 := by
  obtain ⟨W, R, C, N, S, B, K, Q⟩ := h
  have bc := W.bc
  have New := B.2 (g 0 0 4) (Int.le_refl _) hc
  have ee : ∀ x, m_ent (m_book g hs a f pg m l) x = m_ent g x := fun x => by unfold m_ent; rw [book_i _ _ _ _ _ _ _ _ _ (by decide), book_0 _ _ _ _ _ _ _ _ (by decide)]
  have ec : ∀ h S, (∀ b, m_has S b = true → b < g 0 0 4) → m_coh (m_book g hs a f pg m l) h S = m_coh g h S := fun h S hS => by
    unfold m_coh
    rw [book_4, tn1 bc.1]
    show m_sm _ _ + m_ib (m_has S ((g 0 0 4).toNat : Int) && m_book g hs a f pg m l 2 ((g 0 0 4).toNat : Int) 0 == h) = _
    have z : m_has S ((g 0 0 4).toNat : Int) = false := by
      cases z : m_has S ((g 0 0 4).toNat : Int) with
      | false => rfl
      | true => have := hS _ z; omega
    rw [z]
    simp only [Bool.false_and, ib_f, Int.add_zero]
    exact sm_congr (fun i a b => by rw [book_k _ _ _ _ _ _ _ _ _ (by omega)])
  have sum : ∀ i, 7 ≤ i → g 2 (g 0 0 4) i = 0 → m_sm (fun b => m_book g hs a f pg m l 2 b i) (m_book g hs a f pg m l 0 0 4).toNat = m_sm (fun b => g 2 b i) (g 0 0 4).toNat := fun i hi z => by
    rw [book_4, tn1 bc.1]
    show m_sm _ _ + m_book g hs a f pg m l 2 ((g 0 0 4).toNat : Int) i = _
    rw [Int.toNat_of_nonneg bc.1, book_i _ _ _ _ _ _ _ _ _ hi, z, Int.add_zero]
    exact sm_congr (fun i' a b => by rw [book_i _ _ _ _ _ _ _ _ _ hi])
  have es : m_soldEver (m_book g hs a f pg m l) = m_soldEver g := sum 9 (by decide) New.2.2.1
  have et : stockAll (m_book g hs a f pg m l) = stockAll g := sum 8 (by decide) New.2.1
  have en : m_entCount (m_book g hs a f pg m l) = m_entCount g := by
    unfold m_entCount
    rw [book_4, tn1 bc.1, funext ee]
    show m_sm _ _ + m_ib _ = _
    rw [Int.toNat_of_nonneg bc.1, ent_old W New.1, ib_f, Int.add_zero]
  refine ⟨⟨W.book hc ⟨h0.1, by omega⟩ h1 h2 ⟨by omega, by omega⟩ h4 h5, R.same (fun _ _ _ => book_c _ _ _ _ _ _ _ _ _ _ (by decide) (by decide)) (fun _ _ => book_c _ _ _ _ _ _ _ _ _ _ (by decide) (by decide)) (fun _ _ => book_c _ _ _ _ _ _ _ _ _ _ (by decide) (by decide)) (fun _ _ => book_c _ _ _ _ _ _ _ _ _ _ (by decide) (by decide)) (fun x _ _ h => (ee x).trans h) (by rw [book_4]; omega), fun b => (C b).same (fun _ => book_c _ _ _ _ _ _ _ _ _ _ (by decide) (by decide)) (fun _ _ => book_c _ _ _ _ _ _ _ _ _ _ (by decide) (by decide)), ?_, ?_, ?_, ?_, ?_⟩, ?_⟩
  · unfold InvN
    simp only [book_0 _ _ _ _ _ _ _ 3 (by decide), book_0 _ _ _ _ _ _ _ 5 (by decide), book_0 _ _ _ _ _ _ _ 8 (by decide), book_0 _ _ _ _ _ _ _ 9 (by decide), book_0 _ _ _ _ _ _ _ 10 (by decide)]
    exact N
  · obtain ⟨s1, s2, s3, s4, s5, s6, s7, s8, s9, s10⟩ := S
    unfold InvS
    simp only [book_4, book_0 _ _ _ _ _ _ _ 11 (by decide), book_0 _ _ _ _ _ _ _ 12 (by decide), book_0 _ _ _ _ _ _ _ 13 (by decide), book_0 _ _ _ _ _ _ _ 14 (by decide), book_0 _ _ _ _ _ _ _ 17 (by decide), book_0 _ _ _ _ _ _ _ 8 (by decide), book_0 _ _ _ _ _ _ _ 9 (by decide), book_i _ _ _ _ _ _ _ _ 7 (by decide), ee]
    refine ⟨fun b h => ?_, s2, s3, s4, s5, s6, s7, fun h => ?_, fun b h => ?_, fun b h => ?_⟩
    · have := s1 b h; exact ⟨by omega, this.2⟩
    · rw [ec _ _ (fun b h => (s1 b h).1)]; exact s8 h
    · have := s9 b h; omega
    · have := s10 b h; exact ⟨by omega, this.2⟩
  · refine ⟨fun b x y => ?_, fun b x y => ?_⟩
    · rw [book_4] at y
      rw [book_i _ _ _ _ _ _ _ _ 7 (by decide), book_i _ _ _ _ _ _ _ _ 8 (by decide), book_0 _ _ _ _ _ _ _ 8 (by decide)]
      by_cases z : b = g 0 0 4
      · subst z
        have e0 : m_book g hs a f pg m l 2 (g 0 0 4) 0 = hs := by simp [m_book, m_describeB, m_up]
        have e3 : m_book g hs a f pg m l 2 (g 0 0 4) 3 = pg := by simp [m_book, m_describeB, m_up]
        have yr := W.1.2.2.2.1
        have ph := W.1.2.2.2.2.1
        have := N.2.2.1
        rw [e0, e3, New.1, New.2.1]
        omega
      · have Y := B.1 b x (by omega)
        rw [book_k _ _ _ _ _ _ _ _ 0 z, book_k _ _ _ _ _ _ _ _ 3 z]
        exact Y
    · rw [book_4] at x
      rw [book_i _ _ _ _ _ _ _ _ 7 (by decide), book_i _ _ _ _ _ _ _ _ 8 (by decide), book_i _ _ _ _ _ _ _ _ 9 (by decide), book_i _ _ _ _ _ _ _ _ 10 (by decide)]
      exact B.2 b (by omega) y
  · unfold InvJ
    simp only [book_0 _ _ _ _ _ _ _ 9 (by decide), book_c _ _ _ _ _ _ _ 3 _ _ (by decide) (by decide), book_c _ _ _ _ _ _ _ 7 _ _ (by decide) (by decide)]
    exact K
  · obtain ⟨q1, q2, q3, q4⟩ := Q
    refine ⟨?_, by rw [et, es]; exact q2, ?_, fun h x y => ?_⟩
    · rw [es]
      unfold coins
      simp only [book_c _ _ _ _ _ _ _ 1 _ _ (by decide) (by decide)]
      exact q1
    · rw [en]
      unfold used
      simp only [book_c _ _ _ _ _ _ _ 1 _ _ (by decide) (by decide)]
      exact q3
    · rw [book_c _ _ _ _ _ _ _ 1 _ _ (by decide) (by decide)]
      unfold m_quota
      rw [book_0 _ _ _ _ _ _ _ 12 (by decide), ec _ _ S.2.2.2.2.2.2.2.2.1]
      exact q4 h x y
  · intro j x y
    rw [book_c _ _ _ _ _ _ _ 6 _ _ (by decide) (by decide)]
    obtain ⟨RC, RM⟩ := R j x y
    rcases RM.1.2.1 (g 0 0 4) bc.1 hc with e | ⟨k, k0, k1, k2⟩
    · exact e
    · have := W.2.2.2.2.1 j x y
      have := RC.1 k k0 (by omega)
      omega
end PTO

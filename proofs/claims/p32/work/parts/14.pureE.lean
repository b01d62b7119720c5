section PNX
/-! a new year -/
theorem clear_at (j : Int) (g : m_St) (cc : Nat) (k i : Int) : m_clearYear j g cc k i = if k = j ∧ cc = 3 ∧ (i = 4 ∨ i = 7 ∨ i = 8 ∨ i = 9 ∨ i = 10 ∨ i = 12 ∨ i = 15) then 0 else if k = j ∧ cc = 6 ∧ 0 ≤ i ∧ i < 16 then -1 else if k = j ∧ cc = 7 ∧ 0 ≤ i ∧ i < 16 then 0 else g cc k i := by
  have L : ∀ (n : Nat) (u : m_St), m_fo (fun b u => m_up (m_up u 6 j b (-1)) 7 j b 0) u n cc k i = if k = j ∧ cc = 6 ∧ 0 ≤ i ∧ i < n then -1 else if k = j ∧ cc = 7 ∧ 0 ≤ i ∧ i < n then 0 else u cc k i := by
    intro n u
    induction n with
    | zero =>
      show u cc k i = _
      rw [if_neg (by omega), if_neg (by omega)]
    | succ n ih =>
      show m_up (m_up (m_fo _ u n) 6 j n (-1)) 7 j n 0 cc k i = _
      simp only [m_up, ih]
      repeat' split
      all_goals first | rfl | (exfalso; omega)
  unfold m_clearYear m_clearRows
  rw [L]
  by_cases a : k = j
  · by_cases b : cc = 3
    · rw [if_neg (by omega), if_neg (by omega)]
      subst a; subst b
      by_cases d : i = 4 ∨ i = 7 ∨ i = 8 ∨ i = 9 ∨ i = 10 ∨ i = 12 ∨ i = 15
      · rw [if_pos ⟨rfl, rfl, d⟩]
        rcases d with d | d | d | d | d | d | d <;> subst d <;> simp [m_up]
      · rw [if_neg (fun x => d x.2.2), if_neg (by omega), if_neg (by omega)]
        have e4 : i ≠ 4 := by omega
        have e7 : i ≠ 7 := by omega
        have e8 : i ≠ 8 := by omega
        have e9 : i ≠ 9 := by omega
        have e10 : i ≠ 10 := by omega
        have e12 : i ≠ 12 := by omega
        have e15 : i ≠ 15 := by omega
        simp [m_up, e4, e7, e8, e9, e10, e12, e15]
    · rw [if_neg (show ¬ (k = j ∧ cc = 3 ∧ _) from fun x => b x.2.1)]
      simp [m_up, b]
  · simp [m_up, a]
theorem next_at (g : m_St) (cc : Nat) (k i : Int) (h0 : cc ≠ 0) (h9 : cc ≠ 9) : m_next g cc k i = if 0 ≤ k ∧ k < 5 ∧ cc = 3 ∧ (i = 4 ∨ i = 7 ∨ i = 8 ∨ i = 9 ∨ i = 10 ∨ i = 12 ∨ i = 15) then 0 else if 0 ≤ k ∧ k < 5 ∧ cc = 6 ∧ 0 ≤ i ∧ i < 16 then -1 else if 0 ≤ k ∧ k < 5 ∧ cc = 7 ∧ 0 ≤ i ∧ i < 16 then 0 else if 0 ≤ k ∧ k < 5 ∧ cc = 1 ∧ i = 1 then 0 else g cc k i := by
  have base : ∀ n : Nat, m_fo (fun h u => m_up u 1 h 1 0) (m_next2 (m_next1 g)) n cc k i = if 0 ≤ k ∧ k < n ∧ cc = 1 ∧ i = 1 then 0 else g cc k i := by
    intro n
    induction n with
    | zero =>
      rw [if_neg (by omega)]
      show m_next2 (m_next1 g) cc k i = _
      simp [m_next2, m_next1, m_setRules, m_up, h0, h9]
    | succ n ih =>
      show m_up (m_fo _ _ n) 1 n 1 0 cc k i = _
      simp only [m_up, ih]
      by_cases a : cc = 1 ∧ k = n ∧ i = 1
      · rw [if_pos a, if_pos (by omega)]
      · rw [if_neg a]
        by_cases b : 0 ≤ k ∧ k < n ∧ cc = 1 ∧ i = 1
        · rw [if_pos b, if_pos (by omega)]
        · rw [if_neg b, if_neg (by omega)]
  have L : ∀ n : Nat, m_fo (fun j u => m_clearYear j u) (m_fo (fun h u => m_up u 1 h 1 0) (m_next2 (m_next1 g)) 5) n cc k i = if 0 ≤ k ∧ k < n ∧ cc = 3 ∧ (i = 4 ∨ i = 7 ∨ i = 8 ∨ i = 9 ∨ i = 10 ∨ i = 12 ∨ i = 15) then 0 else if 0 ≤ k ∧ k < n ∧ cc = 6 ∧ 0 ≤ i ∧ i < 16 then -1 else if 0 ≤ k ∧ k < n ∧ cc = 7 ∧ 0 ≤ i ∧ i < 16 then 0 else if 0 ≤ k ∧ k < 5 ∧ cc = 1 ∧ i = 1 then 0 else g cc k i := by
    intro n
    induction n with
    | zero =>
      rw [if_neg (by omega), if_neg (by omega), if_neg (by omega)]
      exact base 5
    | succ n ih =>
      show m_clearYear n (m_fo _ _ n) cc k i = _
      rw [clear_at, ih]
      repeat' split
      all_goals first | rfl | (exfalso; omega)
  exact L 5
theorem next_0 (g : m_St) (i : Int) : m_next g 0 0 i = m_next2 (m_next1 g) 0 0 i := by
  have A : ∀ (n : Nat) (u : m_St), m_fo (fun h u => m_up u 1 h 1 0) u n 0 0 i = u 0 0 i := fun n u => by
    induction n with
    | zero => rfl
    | succ n ih => exact (up_c _ _ _ _ _ _ _ _ (by decide)).trans ih
  have B : ∀ (n : Nat) (u : m_St), m_fo (fun j u => m_clearYear j u) u n 0 0 i = u 0 0 i := fun n u => by
    induction n with
    | zero => rfl
    | succ n ih =>
      refine Eq.trans ?_ ih
      show m_clearYear n _ 0 0 i = _
      rw [clear_at, if_neg (by omega), if_neg (by omega), if_neg (by omega)]
  exact (B 5 _).trans (A 5 _)
theorem inv_next {H J t p q c : Int} {g : m_St} (h : Iv H J t p q c g) (hH : H ≤ 5) (hp : g 0 0 9 = 4) (hy : g 0 0 8 < 20) : Iv H J (t + 1) p q 0 (m_next g) := by
  obtain ⟨W, R, C, N, S, B, K, Q⟩ := h
  have bc := W.bc
  have n2 : ∀ i, m_next g 0 0 i = if i = 8 then g 0 0 8 + 1 else if i = 9 then 0 else if i = 15 then g 0 0 14 else if i = 14 then -1 else if i = 12 then g 0 0 11 else if i = 11 then 0 else if i = 13 then 0 else g 0 0 i := fun i => by
    rw [next_0]
    by_cases a8 : i = 8
    · subst a8; simp [m_next2, m_next1, m_setRules, m_up]
    by_cases a9 : i = 9
    · subst a9; simp [m_next2, m_next1, m_setRules, m_up]
    by_cases a15 : i = 15
    · subst a15; simp [m_next2, m_next1, m_setRules, m_up]
    by_cases a14 : i = 14
    · subst a14; simp [m_next2, m_next1, m_setRules, m_up]
    by_cases a12 : i = 12
    · subst a12; simp [m_next2, m_next1, m_setRules, m_up]
    by_cases a11 : i = 11
    · subst a11; simp [m_next2, m_next1, m_setRules, m_up]
    by_cases a13 : i = 13
    · subst a13; simp [m_next2, m_next1, m_setRules, m_up]
    simp [m_next2, m_next1, m_setRules, m_up, a8, a9, a15, a14, a12, a11, a13]
  have e3 : m_next g 0 0 3 = g 0 0 3 := n2 3
  have e4 : m_next g 0 0 4 = g 0 0 4 := n2 4
  have e5 : m_next g 0 0 5 = g 0 0 5 := n2 5
  have e8 : m_next g 0 0 8 = g 0 0 8 + 1 := n2 8
  have e9 : m_next g 0 0 9 = 0 := n2 9
  have e10 : m_next g 0 0 10 = g 0 0 10 := n2 10
  have e11 : m_next g 0 0 11 = 0 := n2 11
  have e12 : m_next g 0 0 12 = g 0 0 11 := n2 12
  have e13 : m_next g 0 0 13 = 0 := n2 13
  have e14 : m_next g 0 0 14 = -1 := n2 14
  have e17 : m_next g 0 0 17 = g 0 0 17 := n2 17
  have c2 : ∀ k i, m_next g 2 k i = g 2 k i := fun k i => by rw [next_at _ _ _ _ (by decide) (by decide), if_neg (by omega), if_neg (by omega), if_neg (by omega), if_neg (by omega)]
  have c10 : ∀ k, m_next g 1 k 0 = g 1 k 0 := fun k => by rw [next_at _ _ _ _ (by decide) (by decide), if_neg (by omega), if_neg (by omega), if_neg (by omega), if_neg (by omega)]
  have c11 : ∀ k, 0 ≤ k → k < 5 → m_next g 1 k 1 = 0 := fun k a b => by rw [next_at _ _ _ _ (by decide) (by decide), if_neg (by omega), if_neg (by omega), if_neg (by omega), if_pos ⟨a, b, rfl, rfl⟩]
  have c30 : ∀ k, m_next g 3 k 0 = g 3 k 0 := fun k => by rw [next_at _ _ _ _ (by decide) (by decide), if_neg (by omega), if_neg (by omega), if_neg (by omega), if_neg (by omega)]
  have c3 : ∀ k i, 0 ≤ k → k < 5 → (i = 4 ∨ i = 7 ∨ i = 8 ∨ i = 9 ∨ i = 10 ∨ i = 12 ∨ i = 15) → m_next g 3 k i = 0 := fun k i a b d => by rw [next_at _ _ _ _ (by decide) (by decide), if_pos ⟨a, b, rfl, d⟩]
  have c6 : ∀ k i, 0 ≤ k → k < 5 → 0 ≤ i → i < 16 → m_next g 6 k i = -1 := fun k i a b d e => by rw [next_at _ _ _ _ (by decide) (by decide), if_neg (by omega), if_pos ⟨a, b, rfl, d, e⟩]
  have c7 : ∀ k i, 0 ≤ k → k < 5 → 0 ≤ i → i < 16 → m_next g 7 k i = 0 := fun k i a b d e => by rw [next_at _ _ _ _ (by decide) (by decide), if_neg (by omega), if_neg (by omega), if_pos ⟨a, b, rfl, d, e⟩]
  have ne : ∀ x, 0 ≤ x → x < g 0 0 4 → m_ent (m_next g) x = false := fun x a b => by
    have := (B.1 x a b).2.2.1
    unfold m_ent
    rw [c2, e8]
    simp; omega
  obtain ⟨n1, n2', n3, n4⟩ := N
  obtain ⟨s1, s2, s3, s4, s5, s6, s7, s8, s9, s10⟩ := S
  have eh : ∀ h S, m_coh (m_next g) h S = m_coh g h S := fun h S => by unfold m_coh; rw [e4]; simp only [c2]
  refine ⟨W.next hy, fun j a b => ⟨?_, ?_⟩, fun b => ⟨0, Int.le_refl _, by decide, fun j k a0 a1 b0 b1 _ => by rw [c3 j 7 a0 a1 (by simp)] at b1; omega⟩, ⟨by rw [e3]; exact n1, by rw [e5]; exact n2', by rw [e8, e9]; omega, by rw [e10]; omega⟩, ?_, ?_, ?_, ?_⟩
  · have z7 := c3 j 7 a b (by simp)
    have z8 := c3 j 8 a b (by simp)
    refine ⟨fun k x y => by omega, fun k x y => by omega, fun k x y => by omega, fun k x y => by omega, fun x => by omega, fun _ => z8⟩
  · have z7 := c3 j 7 a b (by simp)
    have z9 := c3 j 9 a b (by simp)
    have z12 := c3 j 12 a b (by simp)
    refine ⟨⟨fun k x y => by omega, fun x x0 x1 => Or.inl (c6 j x a b x0 x1), fun k x y => by omega, ?_, ?_⟩, fun x => by omega⟩
    · rw [z9]
      have := sm_congr (h := fun x => m_ib (m_next g 6 j x != -1)) (h' := fun _ => 0) (n := 16) (fun i i0 i1 => by rw [c6 j i a b i0 i1]; rfl)
      exact this.symm
    · rw [z12]
      have := sm_congr (h := fun x => max 0 (m_next g 6 j x)) (h' := fun _ => 0) (n := 16) (fun i i0 i1 => by rw [c6 j i a b i0 i1]; rfl)
      exact this.symm
  · refine ⟨fun b h => ?_, fun b h => ?_, Or.inl e14, fun _ => e11, fun _ => e13, fun _ => e14, ?_, fun h => ?_, fun b h => ?_, fun b h => ?_⟩
    · rw [e11, has_z] at h; cases h
    · rw [e13, has_z] at h; cases h
    · rw [e13]; decide
    · have : m_coh g h 0 = 0 := by
        have := sm_congr (h := fun x => m_ib (m_has 0 x && g 2 x 0 == h)) (h' := fun _ => 0) (n := (g 0 0 4).toNat) (fun i i0 i1 => by rw [has_z]; rfl)
        have z : ∀ n : Nat, m_sm (fun _ => (0 : Int)) n = 0 := fun n => by induction n with
          | zero => rfl
          | succ n ih => show m_sm _ n + 0 = 0; omega
        exact this.trans (z _)
      rw [e11, eh]
      omega
    · rw [e12] at h
      rw [e4]
      exact (s1 b h).1
    · rw [e17] at h
      have Y := s10 b h
      have X := B.1 b (has_nn h) Y.1
      rw [e4, c2, e8, e9]
      exact ⟨Y.1, Y.2.1, fun z => by omega⟩
  · unfold InvB
    simp only [e4, e8, c2]
    exact ⟨fun b a d => by have := B.1 b a d; exact ⟨this.1, this.2.1, by omega, by omega⟩, B.2⟩
  · unfold InvJ
    simp only [e9, c30]
    refine ⟨K.1, fun j a b => ⟨fun _ => c3 j 7 a b (by simp), fun _ => c3 j 15 a b (by simp), ?_⟩⟩
    have := sm_congr (h := fun x => m_next g 7 j x) (h' := fun _ => 0) (n := 16) (fun i i0 i1 => c7 j i a b i0 i1)
    rw [this]; decide
  · obtain ⟨q1, q2, q3, q4⟩ := Q
    have es : m_soldEver (m_next g) = m_soldEver g := by unfold m_soldEver; rw [e4]; simp only [c2]
    have et : stockAll (m_next g) = stockAll g := by unfold stockAll; rw [e4]; simp only [c2]
    have zz : ∀ n : Nat, m_sm (fun _ => (0 : Int)) n = 0 := fun n => by induction n with
      | zero => rfl
      | succ n ih => show m_sm _ n + 0 = 0; omega
    refine ⟨by rw [es]; unfold coins; simp only [c10]; exact q1, by rw [et, es]; exact q2, ?_, fun h a d => ?_⟩
    · have a1 : m_entCount (m_next g) = 0 := by
        unfold m_entCount
        rw [e4]
        exact (sm_congr (h := fun x => m_ib (m_ent (m_next g) x)) (h' := fun _ => 0) (fun i i0 i1 => by rw [ne i i0 (by omega)]; rfl)).trans (zz _)
      have a2 : used (m_next g) H = 0 := by
        unfold used
        exact (sm_congr (h := fun x => m_next g 1 x 1) (h' := fun _ => 0) (fun i i0 i1 => c11 i i0 (by omega))).trans (zz _)
      omega
    · rw [c11 h a (by omega)]
      have := quota_b (m_next g) h (by rw [e4]; exact bc.1)
      omega
end PNX
section PPA
/-- what a book sells in d days -/
def given (g : m_St) (d b : Int) : Int := min (m_asked g b * d) (g 2 b 8)
theorem asked_0 {g u : m_St} (h : ∀ i, u 0 0 i = g 0 0 i) (b : Int) : m_asked u b = m_asked g b := by
  unfold m_asked
  rw [h, h, h, h]
theorem sell_8 (g : m_St) (d b k : Int) : m_sellStep d b g 2 k 8 = if k = b then g 2 k 8 - given g d b else g 2 k 8 := by
  unfold m_sellStep m_sellB given
  by_cases q : k = b
  · subst q; simp [m_up]
  · simp [m_up, q]
theorem sell_9 (g : m_St) (d b k : Int) : m_sellStep d b g 2 k 9 = if k = b then g 2 k 9 + given g d b else g 2 k 9 := by
  unfold m_sellStep m_sellB given
  by_cases q : k = b
  · subst q; simp [m_up]
  · simp [m_up, q]
theorem sell_10 (g : m_St) (d b k : Int) : m_sellStep d b g 2 k 10 = if k = b then g 2 k 10 + (m_asked g b * d - given g d b) else g 2 k 10 := by
  unfold m_sellStep m_sellB given
  by_cases q : k = b
  · subst q; simp [m_up]
  · simp [m_up, q]
theorem sell_1 (g : m_St) (d b k i : Int) : m_sellStep d b g 1 k i = if k = g 2 b 0 ∧ i = 0 then g 1 k 0 + given g d b else g 1 k i := by
  unfold m_sellStep m_sellB given
  by_cases q : k = g 2 b 0 ∧ i = 0
  · rw [if_pos q, q.1, q.2]; simp [m_up]
  · rw [if_neg q]
    by_cases a : k = g 2 b 0
    · have e : i ≠ 0 := fun z => q ⟨a, z⟩
      simp [m_up, e]
    · simp [m_up, a]
/-- the books sell one after another, those below n done -/
theorem sells_at {g : m_St} {d H : Int} (hH : ∀ b, 0 ≤ b → b < g 0 0 4 → 0 ≤ g 2 b 0 ∧ g 2 b 0 < H) : ∀ n : Nat, (n : Int) ≤ g 0 0 4 → (∀ i, m_fo (m_sellStep d) g n 0 0 i = g 0 0 i) ∧ (∀ b, m_fo (m_sellStep d) g n 2 b 8 = if 0 ≤ b ∧ b < n then g 2 b 8 - given g d b else g 2 b 8) ∧ (∀ b, m_fo (m_sellStep d) g n 2 b 9 = if 0 ≤ b ∧ b < n then g 2 b 9 + given g d b else g 2 b 9) ∧ (∀ b, m_fo (m_sellStep d) g n 2 b 10 = if 0 ≤ b ∧ b < n then g 2 b 10 + (m_asked g b * d - given g d b) else g 2 b 10) ∧ (∀ k, m_fo (m_sellStep d) g n 1 k 1 = g 1 k 1) ∧ (∀ k, m_fo (m_sellStep d) g n 2 k 0 = g 2 k 0) ∧ m_sm (fun k => m_fo (m_sellStep d) g n 1 k 0) H.toNat = m_sm (fun k => g 1 k 0) H.toNat + m_sm (given g d) n
  | 0, _ => ⟨fun _ => rfl, fun b => by rw [if_neg (by omega)]; rfl, fun b => by rw [if_neg (by omega)]; rfl, fun b => by rw [if_neg (by omega)]; rfl, fun _ => rfl, fun _ => rfl, by show _ = _ + 0; rw [Int.add_zero]; rfl⟩
  | n + 1, q => by
    obtain ⟨h0, h8, h9, h10, h11, h20, h1⟩ := sells_at hH n (by omega)
    generalize hu : m_fo (m_sellStep d) g n = u at h0 h8 h9 h10 h11 h20 h1
    have e : m_fo (m_sellStep d) g (n + 1) = m_sellStep d n u := by rw [← hu]; rfl
    rw [e]
    have gi : given u d n = given g d n := by unfold given; rw [asked_0 h0, h8, if_neg (by omega)]
    have hn := hH n (by omega) (by omega)
    refine ⟨fun i => (sell_c (by decide) (by decide)).trans (h0 i), fun b => ?_, fun b => ?_, fun b => ?_, fun k => ?_, fun k => (sell_2 (by decide)).trans (h20 k), ?_⟩
    · rw [sell_8, h8, gi]
      repeat' split
      all_goals first | rfl | (exfalso; omega) | (subst_vars; rfl)
    · rw [sell_9, h9, gi]
      repeat' split
      all_goals first | rfl | (exfalso; omega) | (subst_vars; rfl)
    · rw [sell_10, h10, gi, asked_0 h0]
      repeat' split
      all_goals first | rfl | (exfalso; omega) | (subst_vars; rfl)
    · rw [sell_1, if_neg (by omega)]; exact h11 k
    · have Z := sm_one (h := fun k => u 1 k 0) (h' := fun k => m_sellStep d n u 1 k 0) (n := H.toNat) (k := g 2 n 0) hn.1 (by omega) (fun i _ _ z => by rw [sell_1, h20, if_neg (fun x => z x.1)])
      have z : m_sellStep d n u 1 (g 2 n 0) 0 = u 1 (g 2 n 0) 0 + given g d n := by rw [sell_1, h20, if_pos ⟨rfl, rfl⟩, gi]
      have s : m_sm (given g d) (n + 1) = m_sm (given g d) n + given g d n := rfl
      rw [s]
      omega
theorem inv_pass {H J t p q c n : Int} {g : m_St} (h : Iv H J t p q c g) (hH : H ≤ 5) (hn : 1 ≤ n ∧ n ≤ 6) (ht : t < 90) : Iv H J (t + 1) p q c (m_pass g n) ∧ m_missedEver (m_pass g n) = m_missedEver g + m_wouldMiss g n ∧ (∀ j, 0 ≤ j → j < J → g 3 j 10 ≤ m_pass g n 3 j 10 ∧ m_pass g n 3 j 10 ≤ g 3 j 10 + n * g 3 j 0) ∧ m_pass g n 0 0 9 = g 0 0 9 ∧ ∀ j, m_pass g n 3 j 0 = g 3 j 0 := by
  obtain ⟨W, R, C, N, S, B, K, Q⟩ := h
  have bc := W.bc
  obtain ⟨n1, n2, n3, n4⟩ := N
  have yr := W.1.2.2.2.1
  have ph := W.1.2.2.2.2.1
  have hW : Wf (m_pass g n) := W.pass (by omega) (by omega)
  obtain ⟨w1, w2, w3, w4, w5⟩ := days_of W R n.toNat
  have ev : m_passDays g n = m_fo (fun _ u => m_readDay u) g n.toNat := rfl
  have ep : m_pass g n = m_up (m_sellFor (m_passDays g n) n) 0 0 10 (g 0 0 10 + n) := rfl
  rw [ev] at ep
  generalize hv : m_fo (fun _ u => m_readDay u) g n.toNat = v at w1 w2 w3 w4 w5 ep
  have v0 : ∀ i, v 0 0 i = g 0 0 i := fun i => w3 0 0 i (by decide) (by decide)
  have v2 : ∀ k i, v 2 k i = g 2 k i := fun k i => w3 2 k i (by decide) (by decide)
  have hHv : ∀ b, 0 ≤ b → b < v 0 0 4 → 0 ≤ v 2 b 0 ∧ v 2 b 0 < H := fun b a d => by
    rw [v0] at d
    rw [v2]
    exact ⟨(W.2.2.2.1 b a (by omega)).1.1, (B.1 b a d).1⟩
  have bcv : ((v 0 0 4).toNat : Int) = g 0 0 4 := by rw [v0]; exact Int.toNat_of_nonneg bc.1
  obtain ⟨x0, x8, x9, x10, x11, x20, x1⟩ := sells_at (d := n) hHv (v 0 0 4).toNat (by rw [bcv, v0]; exact Int.le_refl _)
  have S2 := Wf.sells (d := n) w1 (by omega) (v 0 0 4).toNat (by have := bcv; omega)
  have es : m_sellFor v n = m_fo (m_sellStep n) v (v 0 0 4).toNat := rfl
  rw [es] at ep
  generalize m_fo (m_sellStep n) v (v 0 0 4).toNat = u at ep x0 x8 x9 x10 x11 x20 x1 S2
  have gv : ∀ b, given v n b = given g n b := fun b => by unfold given; rw [asked_0 v0, v2]
  have av : ∀ b, m_asked v b = m_asked g b := asked_0 v0
  have e0 : ∀ i, i ≠ 10 → m_pass g n 0 0 i = g 0 0 i := fun i a => by rw [ep, up_i _ _ _ _ _ _ _ a, x0, v0]
  have e10 : m_pass g n 0 0 10 = g 0 0 10 + n := by rw [ep]; exact up_s _ _ _ _ _
  have ec : ∀ (cc : Nat) (k i : Int), cc ≠ 0 → m_pass g n cc k i = u cc k i := fun cc k i a => by rw [ep, up_c _ _ _ _ _ _ _ _ a]
  have e2 : ∀ k i, i < 8 ∨ 10 < i → m_pass g n 2 k i = g 2 k i := fun k i a => by rw [ec 2 k i (by decide), S2.2.2 k i a, v2]
  have er : ∀ (cc : Nat) (k i : Int), cc ≠ 0 → cc ≠ 1 → cc ≠ 2 → m_pass g n cc k i = v cc k i := fun cc k i a b d => (ec cc k i a).trans (S2.2.1 cc k i b d)
  have e8 : ∀ b, m_pass g n 2 b 8 = if 0 ≤ b ∧ b < g 0 0 4 then g 2 b 8 - given g n b else g 2 b 8 := fun b => by rw [ec 2 b 8 (by decide), x8, bcv, v2, gv]
  have e9 : ∀ b, m_pass g n 2 b 9 = if 0 ≤ b ∧ b < g 0 0 4 then g 2 b 9 + given g n b else g 2 b 9 := fun b => by rw [ec 2 b 9 (by decide), x9, bcv, v2, gv]
  have em : ∀ b, m_pass g n 2 b 10 = if 0 ≤ b ∧ b < g 0 0 4 then g 2 b 10 + (m_asked g b * n - given g n b) else g 2 b 10 := fun b => by rw [ec 2 b 10 (by decide), x10, bcv, v2, gv, av]
  have ee : ∀ x, m_ent (m_pass g n) x = m_ent g x := fun x => by unfold m_ent; rw [e2 _ 7 (by decide), e0 8 (by decide)]
  have eh : ∀ h S, m_coh (m_pass g n) h S = m_coh g h S := fun h S => by unfold m_coh; rw [e0 4 (by decide)]; simp only [e2 _ 0 (by decide)]
  have sm3 : ∀ i f, (∀ b, m_pass g n 2 b i = if 0 ≤ b ∧ b < g 0 0 4 then g 2 b i + f b else g 2 b i) → m_sm (fun b => m_pass g n 2 b i) (m_pass g n 0 0 4).toNat = m_sm (fun b => g 2 b i) (g 0 0 4).toNat + m_sm f (g 0 0 4).toNat := fun i f h => by
    rw [e0 4 (by decide), ← sm_add]
    exact sm_congr (fun b a d => by rw [h, if_pos ⟨a, by omega⟩])
  have f8 := sm3 8 (fun b => - given g n b) (fun b => by rw [e8]; split <;> omega)
  have f9 := sm3 9 (given g n) e9
  have f10 := sm3 10 (fun b => m_asked g b * n - given g n b) em
  have neg : ∀ m : Nat, m_sm (fun b => - given g n b) m = - m_sm (given g n) m := fun m => by induction m with
    | zero => rfl
    | succ m ih => show m_sm _ m + - given g n m = - (m_sm _ m + given g n m); rw [ih]; omega
  rw [neg] at f8
  have gx : ∀ m : Nat, m_sm (given v n) m = m_sm (given g n) m := fun m => sm_congr (fun b _ _ => gv b)
  rw [gx] at x1
  have ej : ∀ j i, i ≠ 9 → i ≠ 12 → i ≠ 10 → m_pass g n 3 j i = g 3 j i := fun j i a b d => (er 3 j i (by decide) (by decide) (by decide)).trans (w4 j i a b d)
  refine ⟨⟨hW, ?_, fun b => (C b).same (fun j => ej j 7 (by decide) (by decide) (by decide)) (fun _ _ => (er 4 _ _ (by decide) (by decide) (by decide)).trans (w3 4 _ _ (by decide) (by decide))), ?_, ?_, ?_, ?_, ?_⟩, ?_, fun j a b => ?_, e0 9 (by decide), fun j => ej j 0 (by decide) (by decide) (by decide)⟩
  · refine w2.same (fun j i _ => er 3 j i (by decide) (by decide) (by decide)) (fun _ _ => er 4 _ _ (by decide) (by decide) (by decide)) (fun _ _ => er 5 _ _ (by decide) (by decide) (by decide)) (fun _ _ => er 6 _ _ (by decide) (by decide) (by decide)) (fun x _ _ h => ?_) (by rw [e0 4 (by decide), v0]; exact Int.le_refl _)
    rw [ee]
    unfold m_ent at h ⊢
    rw [v0, v2] at h
    exact h
  · refine ⟨by rw [e0 3 (by decide)]; exact n1, by rw [e0 5 (by decide)]; exact n2, by rw [e0 8 (by decide), e0 9 (by decide)]; omega, by rw [e10]; omega⟩
  · unfold InvS
    simp only [e0 4 (by decide), e0 8 (by decide), e0 9 (by decide), e0 11 (by decide), e0 12 (by decide), e0 13 (by decide), e0 14 (by decide), e0 17 (by decide), ee, eh, e2 _ 7 (by decide)]
    exact S
  · refine ⟨fun b a d => ?_, fun b a d => ?_⟩
    · rw [e0 4 (by decide)] at d
      have Y := B.1 b a d
      have ak := asked_b g b
      have mk : 0 ≤ m_asked g b * n := Int.mul_nonneg (by omega) (by omega)
      have st := (W.2.2.2.1 b a (by omega)).2.2.2.2.2.2.2.2
      rw [e2 _ 0 (by decide), e2 _ 3 (by decide), e2 _ 7 (by decide), e8, e0 8 (by decide), if_pos ⟨a, d⟩]
      unfold given
      exact ⟨Y.1, Y.2.1, Y.2.2.1, by omega⟩
    · rw [e0 4 (by decide)] at a
      have Y := B.2 b a d
      rw [e2 _ 7 (by decide), e8, e9, em, if_neg (by omega), if_neg (by omega), if_neg (by omega)]
      exact Y
  · unfold InvJ
    simp only [e0 9 (by decide), ej _ 0 (by decide) (by decide) (by decide), ej _ 7 (by decide) (by decide) (by decide), ej _ 15 (by decide) (by decide) (by decide), er 7 _ _ (by decide) (by decide) (by decide), w3 7 _ _ (by decide) (by decide)]
    exact K
  · obtain ⟨q1, q2, q3, q4⟩ := Q
    have a1 : coins (m_pass g n) H = coins g H + m_sm (given g n) (g 0 0 4).toNat := by
      unfold coins
      simp only [ec 1 _ _ (by decide)]
      rw [x1, v0]
      simp only [w3 1 _ _ (by decide) (by decide)]
    have a2 : m_soldEver (m_pass g n) = m_soldEver g + m_sm (given g n) (g 0 0 4).toNat := f9
    have a3 : stockAll (m_pass g n) = stockAll g + - m_sm (given g n) (g 0 0 4).toNat := f8
    have a4 : used (m_pass g n) H = used g H := by
      unfold used
      simp only [ec 1 _ _ (by decide), x11, w3 1 _ _ (by decide) (by decide)]
    have a5 : m_entCount (m_pass g n) = m_entCount g := by unfold m_entCount; rw [e0 4 (by decide), funext ee]
    refine ⟨by omega, by omega, by omega, fun h a d => ?_⟩
    rw [ec 1 _ _ (by decide), x11, w3 1 _ _ (by decide) (by decide)]
    unfold m_quota
    rw [eh, e0 12 (by decide)]
    exact q4 h a d
  · have b1 : m_missedEver (m_pass g n) = m_missedEver g + m_sm (fun b => m_asked g b * n - given g n b) (g 0 0 4).toNat := f10
    rw [b1]
    have : m_wouldMiss g n = m_sm (fun b => m_asked g b * n - given g n b) (g 0 0 4).toNat := sm_congr (fun b _ _ => by unfold given; omega)
    omega
  · have X := w5 j a (by omega)
    have Y := K.1 j a b
    rw [er 3 j 10 (by decide) (by decide) (by decide)]
    refine ⟨X.2.1, ?_⟩
    have e : max 10 (g 3 j 0) = g 3 j 0 := by omega
    have e' : (n.toNat : Int) = n := by omega
    rw [e, e'] at X
    exact X.2.2
end PPA
section PSO
/-! what isSo looks at -/
variable {H J t p q c : Int} {g : m_St}
theorem so_mark (h : Iv H J t p q c g) {j b : Int} (hj : 0 ≤ j ∧ j < 5) (hb : 0 ≤ b ∧ b < 16) : -1 ≤ g 6 j b ∧ g 6 j b ≤ 99 ∧ (0 ≤ g 6 j b → b < g 0 0 4 ∧ m_ent g b = true ∧ ∃ k, 0 ≤ k ∧ k < g 3 j 7 ∧ g 4 j k = b) := by
  obtain ⟨W, R, C, N, S, B, K, Q⟩ := h
  have A := (W.2.2.2.2.2.1 j b hj.1 hj.2 hb.1 hb.2).2.2.1
  have X := W.2.2.2.2.1 j hj.1 hj.2
  obtain ⟨RC, RM⟩ := R j hj.1 hj.2
  refine ⟨A.1, A.2, fun z => ?_⟩
  rcases RM.1.2.1 b hb.1 hb.2 with e | ⟨k, k0, k1, k2⟩
  · omega
  · have Y := RC.1 k k0 (by omega)
    rw [k2] at Y
    exact ⟨Y.2.1, Y.2.2, k, k0, by omega, k2⟩
/-- three judges at most have marked a book -/
theorem so_three (h : Iv H J t p q c g) {b : Int} (hb : 0 ≤ b ∧ b < 16) {n : Nat} (hn : n ≤ 5) : m_sm (fun j => m_ib (decide (0 ≤ g 6 j b))) n ≤ 3 := by
  obtain ⟨T, t0, t1, t2⟩ := h.2.2.1 b
  have a : m_sm (fun j => m_ib (decide (0 ≤ g 6 j b))) n ≤ m_sm (fun j => m_ib (m_has T j)) n := sm_le (fun i i0 i1 => by
    by_cases z : 0 ≤ g 6 i b
    · obtain ⟨_, _, k, k0, k1, k2⟩ := (so_mark h (j := i) ⟨i0, by omega⟩ hb).2.2 z
      rw [t2 i k i0 (by omega) k0 k1 k2, decide_eq_true z]
      exact Int.le_refl _
    · rw [decide_eq_false z]; exact ib_nn _)
  have mono : ∀ m : Nat, m_sm (fun j => m_ib (m_has T j)) n ≤ m_sm (fun j => m_ib (m_has T j)) (n + m) := fun m => by
    induction m with
    | zero => exact Int.le_refl _
    | succ m ih =>
      have := ib_nn (m_has T ((n + m : Nat) : Int))
      show _ ≤ m_sm _ (n + m) + m_ib (m_has T ((n + m : Nat) : Int))
      omega
  have e := mono (16 - n)
  rw [show n + (16 - n) = 16 from by omega] at e
  have t1' : m_sm (fun j => m_ib (m_has T j)) 16 ≤ 3 := t1
  omega
theorem so_long (h : Iv H J t p q c g) {b : Int} (hb : 0 ≤ b) : (0 < m_standing g b ↔ m_has (g 0 0 11) b = true) ∧ (1 < m_standing g b ↔ m_has (g 0 0 13) b = true) ∧ (m_standing g b = 3 ↔ g 0 0 14 = b) ∧ 0 ≤ m_standing g b ∧ m_standing g b ≤ 3 := by
  obtain ⟨s1, s2, s3, s4, s5, s6, s7, s8, s9, s10⟩ := h.2.2.2.2.1
  unfold m_standing
  by_cases z : b = g 0 0 14
  · rw [if_pos z]
    rcases s3 with e | ⟨e, _⟩
    · omega
    · rw [← z] at e
      exact ⟨⟨fun _ => s2 b e, fun _ => by decide⟩, ⟨fun _ => e, fun _ => by decide⟩, ⟨fun _ => z.symm, fun _ => rfl⟩, by decide, by decide⟩
  · rw [if_neg z]
    have z' : ¬ g 0 0 14 = b := fun x => z x.symm
    cases x : m_has (g 0 0 13) b with
    | true =>
      have y := s2 b x
      rw [cond_true]
      exact ⟨⟨fun _ => y, fun _ => by decide⟩, ⟨fun _ => rfl, fun _ => by decide⟩, ⟨fun w => absurd w (by decide), fun w => absurd w z'⟩, by decide, by decide⟩
    | false =>
      cases y : m_has (g 0 0 11) b with
      | true => exact ⟨⟨fun _ => rfl, fun _ => by decide⟩, ⟨fun w => absurd w (by decide), fun w => nomatch w⟩, ⟨fun w => absurd w (by decide), fun w => absurd w z'⟩, by decide, by decide⟩
      | false => exact ⟨⟨fun w => absurd w (by decide), fun w => nomatch w⟩, ⟨fun w => absurd w (by decide), fun w => nomatch w⟩, ⟨fun w => absurd w (by decide), fun w => absurd w z'⟩, by decide, by decide⟩
theorem so_spoiled (h : Iv H J t p q c g) {b : Int} (hb : 0 ≤ b) : m_spoiled g b ≠ b ∧ (m_standing g b < 2 → m_spoiled g b = -1) := by
  have L := (so_long h hb).2.1
  unfold m_spoiled
  refine ⟨fun e => ?_, fun e => ?_⟩
  · cases x : m_has (g 0 0 13) b with
    | false => rw [x] at e; simp only [cond_false] at e; omega
    | true =>
      rw [x] at e
      simp only [cond_true] at e
      rcases winner_in g (m_bt b) 0 h.1.bc.1 with z | ⟨_, _, _, _, z⟩
      · omega
      · rw [e, has_bt hb, decide_eq_true rfl] at z; cases z
  · cases x : m_has (g 0 0 13) b with
    | false => rfl
    | true => have := L.mpr x; omega
theorem so_judge (h : Iv H J t p q c g) {j : Int} (hj : 0 ≤ j ∧ j < 5) : g 3 j 9 ≤ g 3 j 7 ∧ 0 ≤ m_pagesLeft g j ∧ 0 ≤ m_ptsLeft g j ∧ m_ptsLeft g j ≤ 12 ∧ (m_pagesLeft g j = 0 ↔ g 3 j 9 = g 3 j 7) := by
  obtain ⟨W, R, C, N, S, B, K, Q⟩ := h
  have X := W.2.2.2.2.1 j hj.1 hj.2
  obtain ⟨RC, RM⟩ := R j hj.1 hj.2
  have nn : 0 ≤ m_sm (fun x => g 7 j x) 16 := sm_nn (fun i a d => (W.2.2.2.2.2.1 j i hj.1 hj.2 a d).2.2.2.1.1)
  have P := (K.2 j hj.1 hj.2).2.2
  unfold m_pagesLeft m_ptsLeft
  refine ⟨by omega, by omega, by omega, by omega, fun z => ?_, fun z => ?_⟩
  · by_cases y : g 3 j 9 < g 3 j 7
    · have a := RM.2 y
      have b := (RC.2.2.1 (g 3 j 9) (by omega) y).2
      omega
    · omega
  · by_cases y : 0 < g 3 j 7
    · have a := RM.1.1 (g 3 j 7 - 1) (by omega) (by omega)
      have b := RC.2.2.2.2.1 y
      omega
    · have := RC.2.2.2.2.2 (by omega)
      omega
/-- who would win -/
theorem so_wins (h : Iv H J t p q c g) : (0 ≤ m_winner g 0 0 → m_has (g 0 0 13) (m_winner g 0 0) = true) ∧ (0 ≤ m_beatsAll g → m_has (g 0 0 13) (m_beatsAll g) = true) ∧ (g 0 0 9 < 3 → m_winner g 0 0 = -1 ∧ m_beatsAll g = -1) ∧ (g 0 0 9 = 3 → g 0 0 13 ≠ 0 → 0 ≤ m_winner g 0 0) := by
  obtain ⟨W, R, C, N, S, B, K, Q⟩ := h
  obtain ⟨s1, s2, s3, s4, s5, s6, s7, s8, s9, s10⟩ := S
  have V := winner_in g 0 0 W.bc.1
  have A := fs_in (fun b => m_has (g 0 0 13) b && m_ahead g b) (g 0 0 4).toNat 0
  refine ⟨fun z => ?_, fun z => ?_, fun z => ⟨?_, ?_⟩, fun z y => ?_⟩
  · rcases V with e | e
    · omega
    · exact e.2.2.1
  · rcases A with e | e
    · unfold m_beatsAll at z; omega
    · exact (Bool.and_eq_true _ _ ▸ e.2.2).1
  · rcases V with e | e
    · exact e
    · have := e.2.2.1; rw [s5 z, has_z] at this; cases this
  · rcases A with e | e
    · exact e
    · have := (Bool.and_eq_true _ _ ▸ e.2.2).1; rw [s5 z, has_z] at this; cases this
  · obtain ⟨b, hb⟩ := set_ne W.2.1.2.2.1.1 y
    refine winner_some g 0 0 W.bc.1 (fun b hb => (s1 b (s2 b hb)).1) hb ?_ (has_z b)
    cases x : m_has (g 0 0 17) b with
    | false => rfl
    | true =>
      have e : g 2 b 7 = g 0 0 8 := eq_of_beq (s1 b (s2 b hb)).2
      have := (s10 b x).2.2 e
      omega
theorem so_readIn (g : m_St) : m_readIn g < 0 ↔ g 0 0 9 ≠ 1 := by
  rw [readIn_mxs]
  split
  · rename_i z
    have := mxs_nn (m_daysLeft g) (g 0 0 5).toNat
    omega
  · rename_i z
    exact ⟨fun _ => z, fun _ => by decide⟩
theorem so_miss (g : m_St) : m_wouldMiss g 1 ≤ m_wouldMiss g 2 := sm_le (fun b _ _ => by have := asked_b g b; omega)
/-- a set below n, put together of its members -/
theorem set_of {S : Int} (h0 : 0 ≤ S) : ∀ n : Nat, (∀ b, m_has (m_fo (fun b L => bif m_has S b then m_bo L (m_bt b) else L) 0 n) b = (m_has S b && decide (b < n))) ∧ 0 ≤ m_fo (fun b L => bif m_has S b then m_bo L (m_bt b) else L) (0 : Int) n
  | 0 => ⟨fun b => by
      show m_has 0 b = _
      rw [has_z]
      by_cases z : b < 0
      · rw [has_n z]; rfl
      · rw [decide_eq_false (by omega), Bool.and_false], Int.le_refl _⟩
  | n + 1 => by
    obtain ⟨ih, i0⟩ := set_of h0 n
    generalize hu : m_fo (fun b L => bif m_has S b then m_bo L (m_bt b) else L) (0 : Int) n = u at ih i0
    have e : m_fo (fun b L => bif m_has S b then m_bo L (m_bt b) else L) (0 : Int) (n + 1) = bif m_has S n then m_bo u (m_bt n) else u := by rw [← hu]; rfl
    rw [e]
    cases x : m_has S n with
    | true =>
      simp only [cond_true]
      refine ⟨fun b => ?_, bo_nn _ _⟩
      rw [has_bo, has_bt (Int.natCast_nonneg n), ih]
      by_cases z : b = n
      · rw [z, x]; simp; omega
      · rw [decide_eq_false z, Bool.or_false]
        congr 1
        exact decide_eq_decide.mpr (by omega)
    | false =>
      simp only [cond_false]
      refine ⟨fun b => ?_, i0⟩
      rw [ih]
      by_cases z : b = n
      · rw [z, x]; rfl
      · congr 1
        exact decide_eq_decide.mpr (by omega)
theorem set_all {S : Int} {n : Nat} (h0 : 0 ≤ S) (h : ∀ b, m_has S b = true → b < n) : m_fo (fun b L => bif m_has S b then m_bo L (m_bt b) else L) (0 : Int) n = S := by
  obtain ⟨a, b⟩ := set_of h0 n
  refine set_eq b h0 (fun x => ?_)
  rw [a]
  cases y : m_has S x with
  | false => rfl
  | true => rw [decide_eq_true (h x y)]; rfl
/-- sums in the other order -/
theorem sm_swap (f : Int → Int → Int) (m : Nat) : ∀ n : Nat, m_sm (fun i => m_sm (fun j => f i j) m) n = m_sm (fun j => m_sm (fun i => f i j) n) m
  | 0 => by
    have z : ∀ n : Nat, m_sm (fun _ => (0 : Int)) n = 0 := fun n => by induction n with
      | zero => rfl
      | succ n ih => show m_sm _ n + 0 = 0; omega
    exact (z m).symm
  | n + 1 => by
    show m_sm _ n + m_sm (fun j => f n j) m = m_sm (fun j => m_sm (fun i => f i j) n + f n j) m
    rw [sm_add, sm_swap f m n]
theorem sm_tail {h : Int → Int} {n : Nat} : ∀ m : Nat, (∀ i : Int, n ≤ i → i < (n + m : Nat) → h i = 0) → m_sm h (n + m) = m_sm h n
  | 0, _ => rfl
  | m + 1, e => by
    have a := sm_tail (h := h) (n := n) m (fun i a b => e i a (by omega))
    have b := e ((n + m : Nat) : Int) (by omega) (by omega)
    show m_sm h (n + m) + h ((n + m : Nat) : Int) = _
    rw [a, b, Int.add_zero]
/-- as many marks stand as books were read; and their sum -/
theorem so_marks (h : Iv H J t p q c g) (hJ : 0 ≤ J ∧ J ≤ 5) : m_sm (fun b => m_sm (fun j => m_ib (decide (0 ≤ g 6 j b))) J.toNat) (g 0 0 4).toNat = m_sm (fun j => g 3 j 9) J.toNat ∧ m_sm (fun b => m_sm (fun j => max 0 (g 6 j b)) J.toNat) (g 0 0 4).toNat = m_sm (fun j => g 3 j 12) J.toNat := by
  have W := h.1
  have R := h.2.1
  have bc := W.bc
  have e16 : (16 : Nat) = (g 0 0 4).toNat + (16 - (g 0 0 4).toNat) := by omega
  constructor
  · rw [sm_swap (fun b j => m_ib (decide (0 ≤ g 6 j b)))]
    refine sm_congr (fun j a b => ?_)
    have M := (R j a (by omega)).2.1.2.2.2.1
    rw [M, m_cnt, e16]
    refine Eq.symm ((sm_tail _ (fun i i0 i1 => ?_)).trans (sm_congr (fun i i0 i1 => ?_)))
    · have := so_mark h (j := j) (b := i) ⟨a, by omega⟩ ⟨by omega, by omega⟩
      have e : g 6 j i = -1 := by
        by_cases z : 0 ≤ g 6 j i
        · have := (this.2.2 z).1; omega
        · omega
      rw [e]; rfl
    · have := so_mark h (j := j) (b := i) ⟨a, by omega⟩ ⟨i0, by omega⟩
      congr 1
      by_cases z : 0 ≤ g 6 j i
      · rw [decide_eq_true z]; simp; omega
      · rw [decide_eq_false z]; simp; omega
  · rw [sm_swap (fun b j => max 0 (g 6 j b))]
    refine sm_congr (fun j a b => ?_)
    have M := (R j a (by omega)).2.1.2.2.2.2
    rw [M, e16]
    refine Eq.symm (sm_tail _ (fun i i0 i1 => ?_))
    have := so_mark h (j := j) (b := i) ⟨a, by omega⟩ ⟨by omega, by omega⟩
    have e : g 6 j i = -1 := by
      by_cases z : 0 ≤ g 6 j i
      · have := (this.2.2 z).1; omega
      · omega
    rw [e]; rfl
end PSO

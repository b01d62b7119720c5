section PWI
/-- the first of those that are so -/
theorem fs_in (p : Int → Bool) : ∀ (n : Nat) (i : Int), m_fs p n i = -1 ∨ (i ≤ m_fs p n i ∧ m_fs p n i < i + n ∧ p (m_fs p n i) = true)
  | 0, _ => Or.inl rfl
  | n + 1, i => by
    unfold m_fs
    cases q : p i with
    | true => exact Or.inr ⟨by simp, by simp only [cond_true]; omega, q⟩
    | false =>
      simp only [cond_false]
      rcases fs_in p n (i + 1) with h | ⟨h1, h2, h3⟩
      · exact Or.inl h
      · exact Or.inr ⟨by omega, by omega, h3⟩
/-- the last that a loop kept: none, or one that it might keep; and none only where there was none -/
theorem keep_in {c : Int → Int → Bool} {S : Int} (N : Nat) : (m_fo (fun b w => bif m_has S b && (w == -1 || c b w) then b else w) (-1) N = -1 ∧ ∀ b : Int, 0 ≤ b → b < N → m_has S b = false) ∨ (0 ≤ m_fo (fun b w => bif m_has S b && (w == -1 || c b w) then b else w) (-1) N ∧ m_fo (fun b w => bif m_has S b && (w == -1 || c b w) then b else w) (-1) N < N ∧ m_has S (m_fo (fun b w => bif m_has S b && (w == -1 || c b w) then b else w) (-1) N) = true) := by
  refine fo_ind (f := fun b w => bif m_has S b && (w == -1 || c b w) then b else w) (a := (-1 : Int)) (N := N) (fun n r => (r = -1 ∧ ∀ b : Int, 0 ≤ b → b < n → m_has S b = false) ∨ (0 ≤ r ∧ r < (n : Int) ∧ m_has S r = true)) (Or.inl ⟨rfl, fun b h0 h1 => by omega⟩) (fun n x hn hx => ?_)
  cases q : m_has S n && (x == -1 || c n x) with
  | true =>
    have q1 := (Bool.and_eq_true _ _ ▸ q).1
    exact Or.inr ⟨Int.natCast_nonneg n, by simp only [cond_true]; omega, q1⟩
  | false =>
    simp only [cond_false]
    rcases hx with ⟨h, h0⟩ | ⟨h1, h2, h3⟩
    · refine Or.inl ⟨h, fun b b0 b1 => ?_⟩
      by_cases e : b = n
      · subst e; subst h
        simpa using q
      · exact h0 b b0 (by omega)
    · exact Or.inr ⟨h1, by omega, h3⟩
theorem weakest_in (g : m_St) (left out : Int) (hb : 0 ≤ g 0 0 4) : (m_weakest g left out = -1 ∧ ∀ b : Int, 0 ≤ b → b < g 0 0 4 → m_has left b = false) ∨ (0 ≤ m_weakest g left out ∧ m_weakest g left out < g 0 0 4 ∧ m_has left (m_weakest g left out) = true) := by
  have h := keep_in (c := m_weaker g left out) (S := left) (g 0 0 4).toNat
  unfold m_weakest
  rw [Int.toNat_of_nonneg hb] at h
  exact h
theorem above_in (g : m_St) (left out : Int) : m_aboveHalf g left out = -1 ∨ (0 ≤ m_aboveHalf g left out ∧ m_aboveHalf g left out < g 0 0 4 ∧ m_has left (m_aboveHalf g left out) = true) := by
  unfold m_aboveHalf
  rcases fs_in (fun b => m_has left b && decide (m_counted g left out < 2 * m_votesFor g left out b)) (g 0 0 4).toNat 0 with h | ⟨h1, h2, h3⟩
  · exact Or.inl h
  · exact Or.inr ⟨h1, by omega, (Bool.and_eq_true _ _ ▸ h3).1⟩
/-- who wins is of what is left -/
theorem win_in (g : m_St) (out : Int) (hb : 0 ≤ g 0 0 4) (left0 : Int) : ∀ (n : Nat) (left last : Int), (∀ b, m_has left b = true → m_has left0 b = true) → (last = -1 ∨ (0 ≤ last ∧ last < g 0 0 4 ∧ m_has left0 last = true)) → (m_winLoop g out n left last = -1 ∨ (0 ≤ m_winLoop g out n left last ∧ m_winLoop g out n left last < g 0 0 4 ∧ m_has left0 (m_winLoop g out n left last) = true))
  | 0, _, _, _, h => h
  | n + 1, left, last, hl, h => by
    unfold m_winLoop
    split
    · exact h
    · split
      · refine win_in g out hb left0 n _ _ (fun b e => hl b ?_) ?_
        · rw [has_bd, Bool.and_eq_true] at e; exact e.1
        · rcases weakest_in g left out hb with ⟨e, -⟩ | ⟨h1, h2, h3⟩
          · exact Or.inl e
          · exact Or.inr ⟨h1, h2, hl _ h3⟩
      · rcases above_in g left out with e | ⟨h1, h2, h3⟩
        · exact Or.inl e
        · exact Or.inr ⟨h1, h2, hl _ h3⟩
theorem winner_in (g : m_St) (bs out : Int) (hb : 0 ≤ g 0 0 4) : m_winner g bs out = -1 ∨ (0 ≤ m_winner g bs out ∧ m_winner g bs out < g 0 0 4 ∧ m_has (g 0 0 13) (m_winner g bs out) = true ∧ m_has (g 0 0 17) (m_winner g bs out) = false ∧ m_has bs (m_winner g bs out) = false) := by
  rcases win_in g out hb (m_bd (m_bd (g 0 0 13) (g 0 0 17)) bs) 16 (m_bd (m_bd (g 0 0 13) (g 0 0 17)) bs) (-1) (fun _ h => h) (Or.inl rfl) with h | ⟨h1, h2, h3⟩
  · exact Or.inl h
  · rw [has_bd, has_bd, Bool.and_eq_true, Bool.and_eq_true] at h3
    refine Or.inr ⟨h1, h2, h3.1.1, ?_, ?_⟩
    · exact (Bool.not_eq_true' _).mp h3.1.2
    · exact (Bool.not_eq_true' _).mp h3.2
/-- with a book left, one wins -/
theorem winLoop_some (g : m_St) (out : Int) (hb : 0 ≤ g 0 0 4) : ∀ (n : Nat) (left last : Int), (∀ b, m_has left b = true → b < g 0 0 4) → 0 ≤ left → (0 ≤ last ∨ (left ≠ 0 ∧ n ≠ 0)) → 0 ≤ m_winLoop g out n left last
  | 0, _, _, _, _, h => by
    rcases h with h | ⟨_, h⟩
    · exact h
    · exact absurd rfl h
  | n + 1, left, last, hl, h0, h => by
    unfold m_winLoop
    split
    · rename_i q
      rcases h with h | ⟨h, _⟩
      · exact h
      · exact absurd q h
    · rename_i q
      split
      · refine winLoop_some g out hb n _ _ (fun b e => hl b ?_) (bd_nn _ _) (Or.inl ?_)
        · rw [has_bd, Bool.and_eq_true] at e; exact e.1
        · rcases weakest_in g left out hb with ⟨_, e⟩ | ⟨h1, _, _⟩
          · obtain ⟨b, hb⟩ := set_ne h0 q
            have := e b (has_nn hb) (hl b hb)
            rw [hb] at this; cases this
          · exact h1
      · rename_i q
        rcases above_in g left out with e | ⟨h1, h2, h3⟩
        · exact absurd e q
        · exact h1
theorem winner_some (g : m_St) (bs out : Int) (hb : 0 ≤ g 0 0 4) (hs : ∀ b, m_has (g 0 0 13) b = true → b < g 0 0 4) {b : Int} (h1 : m_has (g 0 0 13) b = true) (h2 : m_has (g 0 0 17) b = false) (h3 : m_has bs b = false) : 0 ≤ m_winner g bs out := by
  refine winLoop_some g out hb 16 _ _ (fun b e => hs b ?_) (bd_nn _ _) (Or.inr ⟨fun e => ?_, by decide⟩)
  · rw [has_bd, has_bd, Bool.and_eq_true, Bool.and_eq_true] at e; exact e.1.1
  · have := has_bd (m_bd (g 0 0 13) (g 0 0 17)) bs b
    rw [e, has_z, has_bd, h1, h2, h3] at this
    cases this
theorem Wf.crown {g : m_St} {b : Int} (h : Wf g) (hb : b = -1 ∨ (0 ≤ b ∧ b < 16)) : Wf (m_crown g b) := by
  have N := h.1
  have S := h.2.1
  unfold m_crown
  split
  · rename_i q
    refine h.num ?_ S
    exact ⟨N.1, N.2.1, N.2.2.1, N.2.2.2.1, N.2.2.2.2.1, N.2.2.2.2.2.1, by simp [m_up]; omega, N.2.2.2.2.2.2.2⟩
  · refine Wf.num (h.num ?_ S) ?_ ?_
    · exact ⟨N.1, N.2.1, N.2.2.1, N.2.2.2.1, N.2.2.2.2.1, N.2.2.2.2.2.1, by simp [m_up]; omega, N.2.2.2.2.2.2.2⟩
    · exact ⟨N.1, N.2.1, N.2.2.1, N.2.2.2.1, N.2.2.2.2.1, N.2.2.2.2.2.1, by simp [m_up]; omega, N.2.2.2.2.2.2.2⟩
    · exact ⟨S.1, S.2.1, S.2.2.1, bo_16 S.2.2.2.1 (by omega) (by omega), S.2.2.2.2⟩
theorem win_b {g : m_St} (h : Wf g) (bs out : Int) : m_winner g bs out = -1 ∨ (0 ≤ m_winner g bs out ∧ m_winner g bs out < 16) := by
  have := h.bc
  rcases winner_in g bs out this.1 with e | ⟨h1, h2, _⟩
  · exact Or.inl e
  · exact Or.inr ⟨h1, by omega⟩
theorem crown_c (g : m_St) (b : Int) (c : Nat) (k i : Int) (h : c ≠ 0 ∨ (i ≠ 14 ∧ i ≠ 16)) : m_crown g b c k i = g c k i := by
  unfold m_crown
  rcases h with h | ⟨h1, h2⟩ <;> split <;> simp [m_up, *]
theorem Wf.endIt {g : m_St} (h : Wf g) : Wf (m_endIt g) := by
  have C := h.crown (win_b h 0 0)
  have N := C.1
  exact C.num ⟨N.1, N.2.1, N.2.2.1, N.2.2.2.1, by simp [m_up], N.2.2.2.2.2⟩ C.2.1
theorem Wf.strip {g : m_St} (h : Wf g) (hw : 0 ≤ g 0 0 14) : Wf (m_strip g) := by
  have S := h.2.1
  have N := h.1
  have C : Wf (m_up g 0 0 17 (m_bo (g 0 0 17) (m_bt (g 0 0 14)))) := h.num N ⟨S.1, S.2.1, S.2.2.1, S.2.2.2.1, bo_16 S.2.2.2.2 (by have := N.2.2.2.2.2.2.1; omega) hw⟩
  exact C.crown (win_b C 0 0)
end PWI
section PWP
theorem Wf.house {g : m_St} (h : Wf g) (hc : g 0 0 3 < 5) : Wf (m_up g 0 0 3 (g 0 0 3 + 1)) := by
  have N := h.1
  exact h.num ⟨by have := N.1; simp [m_up]; omega, N.2⟩ h.2.1
theorem Wf.book {g : m_St} {hs a f p m l : Int} (h : Wf g) (hc : g 0 0 4 < 16) (h0 : 0 ≤ hs ∧ hs ≤ 4) (h1 : 0 ≤ a ∧ a ≤ 9) (h2 : 0 ≤ f ∧ f ≤ 2) (h3 : 0 ≤ p ∧ p ≤ 900) (h4 : 0 ≤ m ∧ m ≤ 60) (h5 : 0 ≤ l ∧ l ≤ 9) : Wf (m_book g hs a f p m l) := by
  obtain ⟨N, S, H, B, J, A, U⟩ := h
  refine ⟨?_, S, H, ?_, J, A, U⟩
  · exact ⟨N.1, by simp [m_book, m_describeB, m_up]; have := N.2.1; omega, N.2.2⟩
  · intro b b0 b1
    have X := B b b0 b1
    have Y := N.2.2.2.1
    by_cases q : b = g 0 0 4
    · subst q
      simp [m_book, m_describeB, m_up]
      omega
    · simp [m_book, m_describeB, m_up, q]
      omega
theorem Wf.judge {g : m_St} {s t l : Int} (h : Wf g) (hc : g 0 0 5 < 5) (h0 : 0 ≤ s ∧ s ≤ 200) (h1 : 0 ≤ t ∧ t ≤ 9) (h2 : -10 ≤ l ∧ l ≤ 10) : Wf (m_judge g s t l) := by
  obtain ⟨N, S, H, B, J, A, U⟩ := h
  refine ⟨?_, S, H, B, ?_, A, U⟩
  · exact ⟨N.1, N.2.1, by simp [m_judge, m_up]; have := N.2.2.1; omega, N.2.2.2⟩
  · intro b b0 b1
    have X := J b b0 b1
    by_cases q : b = g 0 0 5
    · subst q
      simp [m_judge, m_up]
      omega
    · simp [m_judge, m_up, q]
      omega
theorem bo_10 {S k : Int} (h : 0 ≤ S ∧ S < 1024) (hk : k < 10) (hk0 : 0 ≤ k) : 0 ≤ m_bo S (m_bt k) ∧ m_bo S (m_bt k) < 1024 := by
  refine ⟨bo_nn _ _, set_lt (k := 10) (bo_nn _ _) (fun n hn => ?_)⟩
  rw [has_bo, has_bt hk0] at hn
  cases q : m_has S n with
  | true => exact has_lt (k := 10) h.2 q
  | false => rw [q] at hn; have := of_decide_eq_true hn; omega
theorem Wf.conflict {g : m_St} {j a : Int} (h : Wf g) (h0 : 0 ≤ a ∧ a ≤ 9) : Wf (m_conflict g j a) := by
  obtain ⟨N, S, H, B, J, A, U⟩ := h
  refine ⟨N, S, H, B, ?_, A, U⟩
  intro b b0 b1
  have X := J b b0 b1
  by_cases q : b = j
  · subst q
    have Y := bo_10 (k := a) X.2.2.2.1 (by omega) h0.1
    simp [m_conflict, m_up]
    omega
  · simp [m_conflict, m_up, q]
    omega
theorem Wf.rules {g : m_St} {k f l m e : Int} (h : Wf g) (h0 : 0 ≤ f ∧ f ≤ 7) (h1 : 0 ≤ l ∧ l ≤ 900) (h2 : 0 ≤ m ∧ m ≤ 900) (h3 : 0 ≤ e ∧ e ≤ 50) : Wf (m_setRules g k f l m e) := by
  obtain ⟨N, S, H, B, J, A, U⟩ := h
  refine ⟨N, S, H, B, J, A, ?_⟩
  intro b b0 b1
  have X := U b b0 b1
  by_cases q : b = k
  · subst q
    simp [m_setRules, m_up]
    omega
  · simp [m_setRules, m_up, q]
    omega
theorem Wf.enterFor {g : m_St} {b c : Int} (h : Wf g) : Wf (m_enterFor g b c) := by
  obtain ⟨N, S, H, B, J, A, U⟩ := h
  refine ⟨N, S, ?_, ?_, J, A, U⟩
  · intro h h0 h1
    have X := H h h0 h1
    simp [m_enterFor, m_up]
    exact X
  · intro b' b0 b1
    have X := B b' b0 b1
    have Y := N.2.2.2.1
    by_cases q : b' = b
    · subst q
      simp [m_enterFor, m_up]
      omega
    · simp [m_enterFor, m_up, q]
      omega
theorem coh_b (g : m_St) (h S : Int) (hb : 0 ≤ g 0 0 4) : 0 ≤ m_coh g h S ∧ m_coh g h S ≤ g 0 0 4 := by
  have a := cnt_nn (fun b => m_has S b && g 2 b 0 == h) (g 0 0 4).toNat
  have b := cnt_le (fun b => m_has S b && g 2 b 0 == h) (g 0 0 4).toNat
  rw [Int.toNat_of_nonneg hb] at b
  exact ⟨a, b⟩
theorem quota_b (g : m_St) (h : Int) (hb : 0 ≤ g 0 0 4) : 2 ≤ m_quota g h ∧ m_quota g h ≤ 4 := by
  have := coh_b g h (g 0 0 12) hb
  unfold m_quota
  omega
theorem Wf.enter {g : m_St} {b : Int} (h : Wf g) : Wf (m_enter g b) := by
  unfold m_enter
  cases m_elig g b with
  | false => exact h
  | true =>
    simp only [cond_true]
    split
    · exact h
    · rename_i q
      have Q := quota_b g (g 2 b 0) h.bc.1
      refine Wf.enterFor ?_
      obtain ⟨N, S, H, B, J, A, U⟩ := h
      refine ⟨N, S, ?_, B, J, A, U⟩
      intro k k0 k1
      have X := H k k0 k1
      by_cases q : k = g 2 b 0
      · subst q
        simp [m_up]
        omega
      · simp [m_up, q]
        exact X
theorem Wf.callIn {g : m_St} {j b : Int} (h : Wf g) : Wf (m_callIn g j b) := by
  unfold m_callIn
  cases m_elig g b with
  | false => exact h
  | true =>
    simp only [cond_true]
    split
    · exact h
    · refine Wf.enterFor ?_
      obtain ⟨N, S, H, B, J, A, U⟩ := h
      refine ⟨N, S, H, B, ?_, A, U⟩
      intro k k0 k1
      have X := J k k0 k1
      by_cases q : k = j
      · subst q
        simp [m_up]
        omega
      · simp [m_up, q]
        omega
theorem Wf.print {g : m_St} {b n : Int} (h : Wf g) (hn : 0 ≤ n) : Wf (m_print g b n) := by
  obtain ⟨N, S, H, B, J, A, U⟩ := h
  refine ⟨N, S, H, ?_, J, A, U⟩
  intro k k0 k1
  have X := B k k0 k1
  by_cases q : k = b
  · subst q
    simp [m_print, m_up]
    omega
  · simp [m_print, m_up, q]
    omega
theorem Wf.points {g : m_St} {j b n : Int} (h : Wf g) (hn : 0 ≤ n ∧ n ≤ 12) : Wf (m_points g j b n) := by
  obtain ⟨N, S, H, B, J, A, U⟩ := h
  refine ⟨N, S, H, B, J, ?_, U⟩
  intro i k i0 i1 k0 k1
  have X := A i k i0 i1 k0 k1
  refine ⟨X.1, X.2.1, X.2.2.1, ?_, X.2.2.2.2⟩
  have Y := X.2.2.2.1
  simp only [m_points, m_up]
  split <;> omega
theorem bookAt_b (g : m_St) (place : Int) : ∀ (n : Nat) (i p : Int), 0 ≤ i → m_bookAt g place n i p = -1 ∨ (0 ≤ m_bookAt g place n i p ∧ m_bookAt g place n i p < i + n)
  | 0, _, _, _ => Or.inl rfl
  | n + 1, i, p, h => by
    unfold m_bookAt
    cases m_has (g 0 0 13) i with
    | true =>
      simp only [cond_true]
      split
      · exact Or.inr ⟨h, by omega⟩
      · rcases bookAt_b g place n (i + 1) (p + 1) (by omega) with e | e
        · exact Or.inl e
        · exact Or.inr ⟨e.1, by omega⟩
    | false =>
      simp only [cond_false]
      rcases bookAt_b g place n (i + 1) p (by omega) with e | e
      · exact Or.inl e
      · exact Or.inr ⟨e.1, by omega⟩
theorem Wf.rank {j : Int} : ∀ (n : Nat) {g : m_St} (rest : Int), Wf g → Wf (m_rankLoop j n g rest)
  | 0, _, _, h => h
  | n + 1, g, rest, h => by
    unfold m_rankLoop
    refine Wf.rank n _ ?_
    have R := bookAt_b g (rest.tmod 10) (g 0 0 4).toNat 0 0 (by decide)
    have bc := h.bc
    generalize m_bookAt g (rest.tmod 10) (g 0 0 4).toNat 0 0 = x at R ⊢
    obtain ⟨N, S, H, B, J, A, U⟩ := h
    refine ⟨N, S, H, B, J, ?_, U⟩
    intro i k i0 i1 k0 k1
    have X := A i k i0 i1 k0 k1
    refine ⟨X.1, X.2.1, X.2.2.1, X.2.2.2.1, ?_⟩
    have Y := X.2.2.2.2
    simp only [m_up]
    split <;> omega
theorem pcn_b (S : Int) : 0 ≤ m_pcn S ∧ m_pcn S ≤ 16 := ⟨cnt_nn _ _, cnt_le _ _⟩
theorem Wf.order {g : m_St} {j o : Int} (h : Wf g) : Wf (m_takeOrder g j o) := by
  have R := Wf.rank (j := j) (min 5 (m_pcn (g 0 0 13))).toNat o h
  have P := pcn_b (g 0 0 13)
  unfold m_takeOrder
  generalize m_rankLoop j (min 5 (m_pcn (g 0 0 13))).toNat g o = u at R ⊢
  obtain ⟨N, S, H, B, J, A, U⟩ := R
  refine ⟨N, S, H, B, ?_, A, U⟩
  intro k k0 k1
  have X := J k k0 k1
  by_cases q : k = j
  · subst q
    simp [m_up]
    omega
  · simp [m_up, q]
    omega
/-! a year ends -/
theorem Wf.clear {g : m_St} {j : Int} (h : Wf g) : Wf (m_clearYear j g) := by
  unfold m_clearYear m_clearRows
  have Y : Wf (m_up (m_up (m_up (m_up (m_up (m_up (m_up g 3 j 4 0) 3 j 7 0) 3 j 8 0) 3 j 9 0) 3 j 10 0) 3 j 12 0) 3 j 15 0) := by
    obtain ⟨N, S, H, B, J, A, U⟩ := h
    refine ⟨N, S, H, B, ?_, A, U⟩
    intro k k0 k1
    have X := J k k0 k1
    by_cases q : k = j
    · subst q
      simp [m_up]
      omega
    · simp [m_up, q]
      omega
  refine fo_ind (fun _ u => Wf u) Y (fun n u _ hu => ?_)
  obtain ⟨N, S, H, B, J, A, U⟩ := hu
  refine ⟨N, S, H, B, J, ?_, U⟩
  intro i k i0 i1 k0 k1
  have X := A i k i0 i1 k0 k1
  refine ⟨X.1, X.2.1, ?_, ?_, X.2.2.2.2⟩
  · simp [m_up]; split <;> omega
  · simp [m_up]; split <;> omega
theorem Wf.next {g : m_St} (h : Wf g) (hy : g 0 0 8 < 20) : Wf (m_next g) := by
  have W1 : Wf (m_next2 (m_next1 g)) := by
    obtain ⟨N, S, H, B, J, A, U⟩ := h
    have V := U 1 (by decide) (by decide)
    refine ⟨?_, ?_, H, B, J, A, ?_⟩
    · have e := N
      simp only [Wn] at e
      simp [m_next2, m_next1, m_setRules, m_up, Wn]
      omega
    · have e := S
      simp only [Ws] at e
      simp [m_next2, m_next1, m_setRules, m_up, Ws]
      omega
    · intro k k0 k1
      have X := U k k0 k1
      by_cases q : k = 0
      · subst q
        simp [m_next2, m_next1, m_setRules, m_up]
        omega
      · simp [m_next2, m_next1, m_setRules, m_up, q]
        omega
  unfold m_next
  refine fo_ind (fun _ u => Wf u) ?_ (fun n u _ hu => hu.clear)
  refine fo_ind (fun _ u => Wf u) W1 (fun n u _ hu => ?_)
  obtain ⟨N, S, H, B, J, A, U⟩ := hu
  refine ⟨N, S, ?_, B, J, A, U⟩
  intro k k0 k1
  have X := H k k0 k1
  simp [m_up]
  split <;> omega
end PWP
section PWC
/-- what a crate holds: books below B that are entered, each once; where each ends -/
def Cj (g : m_St) (j B : Int) : Prop := (∀ k, 0 ≤ k → k < g 3 j 7 → 0 ≤ g 4 j k ∧ g 4 j k < B ∧ m_ent g (g 4 j k) = true) ∧ (∀ k, 0 ≤ k → k + 1 < g 3 j 7 → g 4 j k < g 4 j (k + 1)) ∧ (∀ k, 0 ≤ k → k < g 3 j 7 → 0 < g 5 j k ∧ g 5 j k ≤ g 3 j 8) ∧ (∀ k, 0 ≤ k → k + 1 < g 3 j 7 → g 5 j k ≤ g 5 j (k + 1)) ∧ (0 < g 3 j 7 → g 5 j (g 3 j 7 - 1) = g 3 j 8) ∧ (g 3 j 7 = 0 → g 3 j 8 = 0)
/-- each book is in three crates at most -/
def C3 (g : m_St) (b : Int) : Prop := ∃ T : Int, 0 ≤ T ∧ m_pcn T ≤ 3 ∧ ∀ j k, 0 ≤ j → j < 5 → 0 ≤ k → k < g 3 j 7 → g 4 j k = b → m_has T j = true
theorem Cj.mono {g : m_St} {j B B' : Int} (h : Cj g j B) (hb : B ≤ B') : Cj g j B' :=
  ⟨fun k a b => ⟨(h.1 k a b).1, Int.lt_of_lt_of_le (h.1 k a b).2.1 hb, (h.1 k a b).2.2⟩, h.2⟩
theorem Cj.take {g : m_St} {j b p : Int} (h : Cj g j b) (hb : 0 ≤ b) (hc : 0 ≤ g 3 j 7) (he : m_ent g b = true) (hp : 0 < p) (h8 : 0 ≤ g 3 j 8) : Cj (m_takeIn g j b p) j (b + 1) := by
  obtain ⟨h1, h2, h3, h4, h5, h6⟩ := h
  have e7 : m_takeIn g j b p 3 j 7 = g 3 j 7 + 1 := by simp [m_takeIn, m_up]
  have e8 : m_takeIn g j b p 3 j 8 = g 3 j 8 + p := by simp [m_takeIn, m_up]
  have e4 : ∀ k, m_takeIn g j b p 4 j k = if k = g 3 j 7 then b else g 4 j k := fun k => by simp [m_takeIn, m_up]
  have e5 : ∀ k, m_takeIn g j b p 5 j k = if k = g 3 j 7 then g 3 j 8 + p else g 5 j k := fun k => by simp [m_takeIn, m_up]
  have ee : ∀ x, m_ent (m_takeIn g j b p) x = m_ent g x := fun x => by simp [m_ent, m_takeIn, m_up]
  simp only [Cj, e7, e8, e4, e5, ee]
  refine ⟨fun k a c => ?_, fun k a c => ?_, fun k a c => ?_, fun k a c => ?_, fun _ => ?_, fun q => ?_⟩
  · split
    · exact ⟨hb, by omega, he⟩
    · have := h1 k a (by omega); exact ⟨this.1, by omega, this.2.2⟩
  · rw [if_neg (by omega)]
    split
    · exact (h1 k a (by omega)).2.1
    · exact h2 k a (by omega)
  · split
    · omega
    · have := h3 k a (by omega); omega
  · rw [if_neg (by omega)]
    split
    · have := h3 k a (by omega); omega
    · exact h4 k a (by omega)
  · rw [if_pos (by omega)]
  · omega
theorem Cj.same {g g' : m_St} {j B : Int} (h : Cj g j B) (h3 : ∀ i, g' 3 j i = g 3 j i) (h4 : ∀ i, g' 4 j i = g 4 j i) (h5 : ∀ i, g' 5 j i = g 5 j i) (he : ∀ b, m_ent g' b = m_ent g b) : Cj g' j B := by
  simp only [Cj, h3, h4, h5, he]
  exact h
theorem light_in (g : m_St) (taken a : Int) (hj : 0 ≤ g 0 0 5) : m_lightest g taken a = -1 ∨ (0 ≤ m_lightest g taken a ∧ m_lightest g taken a < g 0 0 5 ∧ m_has taken (m_lightest g taken a) = false) := by
  have h := fo_ind (f := fun j l => bif !m_has taken j && (!m_agn g j a && (l == -1 || decide (g 3 j 8 < g 3 l 8))) then j else l) (a := (-1 : Int)) (N := (g 0 0 5).toNat) (fun n r => r = -1 ∨ (0 ≤ r ∧ r < (n : Int) ∧ m_has taken r = false)) (Or.inl rfl) (fun n x hn hx => by
    cases q : !m_has taken n && (!m_agn g n a && (x == -1 || decide (g 3 n 8 < g 3 x 8))) with
    | true =>
      have q1 := (Bool.and_eq_true _ _ ▸ q).1
      exact Or.inr ⟨Int.natCast_nonneg n, by simp only [cond_true]; omega, (Bool.not_eq_true' _).mp q1⟩
    | false =>
      simp only [cond_false]
      rcases hx with h | ⟨h1, h2, h3⟩
      · exact Or.inl h
      · exact Or.inr ⟨h1, by omega, h3⟩)
  rw [Int.toNat_of_nonneg hj] at h
  exact h
/-- as a book is handed out -/
def HO (g : m_St) (b : Int) (n : Nat) (u : m_St × Int) : Prop := Wf u.1 ∧ 0 ≤ u.2 ∧ m_pcn u.2 ≤ n ∧ (∀ j, m_has u.2 j = true → j < 5) ∧ (∀ (c : Nat) (k i : Int), c ≠ 3 → c ≠ 4 → c ≠ 5 → u.1 c k i = g c k i) ∧ (∀ j i, i ≠ 7 → i ≠ 8 → u.1 3 j i = g 3 j i) ∧ ∀ j, 0 ≤ j → j < 5 → Cj u.1 j (b + 1) ∧ (m_has u.2 j = false → (∀ c i, u.1 c j i = g c j i) ∧ Cj u.1 j b) ∧ u.1 3 j 7 ≤ b + 1 ∧ (∀ k, 0 ≤ k → k < g 3 j 7 → u.1 4 j k = g 4 j k) ∧ u.1 3 j 7 = g 3 j 7 + m_ib (m_has u.2 j) ∧ (m_has u.2 j = true → u.1 4 j (g 3 j 7) = b)
theorem take_k (g : m_St) (j b p : Int) (c : Nat) (k i : Int) (h : k ≠ j) : m_takeIn g j b p c k i = g c k i := by simp [m_takeIn, m_up, h]
theorem HO.step {g : m_St} {b : Int} (hb : 0 ≤ b ∧ b < 16) (he : m_ent g b = true) (hp : 0 < g 2 b 3) (hcc : ∀ j, 0 ≤ j → j < 5 → g 3 j 7 ≤ b) {n : Nat} {u : m_St × Int} {x : Int} (h : HO g b n u) : HO g b (n + 1) (m_handStep b x u) := by
  obtain ⟨hW, h0, h1, h2, h3, h8, h4⟩ := h
  unfold m_handStep
  split
  · exact ⟨hW, h0, by omega, h2, h3, h8, h4⟩
  · rename_i q
    have J := hW.jc
    rcases light_in u.1 u.2 (u.1 2 b 1) J.1 with e | ⟨e1, e2, e3⟩
    · exact absurd e q
    · generalize m_lightest u.1 u.2 (u.1 2 b 1) = l at e1 e2 e3 q ⊢
      have L := h4 l e1 (by omega)
      have LS := L.2.1 e3
      have l7 : u.1 3 l 7 = g 3 l 7 := LS.1 3 7
      have lc := hcc l e1 (by omega)
      have u2 : u.1 2 b 3 = g 2 b 3 := h3 2 b 3 (by decide) (by decide) (by decide)
      have eu : ∀ y, m_ent u.1 y = m_ent g y := fun y => by
        unfold m_ent
        rw [h3 2 y 7 (by decide) (by decide) (by decide), h3 0 0 8 (by decide) (by decide) (by decide)]
      have jn := (hW.2.2.2.2.1 l e1 (by omega))
      refine ⟨hW.take hb (fun _ _ => by omega) ⟨e1, by omega⟩, bo_nn _ _, ?_, fun j hj => ?_, fun c k i a b c' => ?_, fun j i a b => ?_, fun j a c => ?_⟩
      · have := pcn_le (k := l) e1 (by omega) h0
        simp only
        omega
      · rw [has_bo, has_bt e1] at hj
        cases q : m_has u.2 j with
        | true => exact h2 j q
        | false => rw [q] at hj; have := of_decide_eq_true hj; omega
      · simp only [m_takeIn, m_up, a, b, c', false_and, if_false]
        exact h3 c k i a b c'
      · have := h8 j i a b
        simp [m_takeIn, m_up, a, b]
        exact this
      · by_cases q : j = l
        · subst q
          refine ⟨Cj.take LS.2 hb.1 (by omega) ((eu b).trans he) (by omega) (by omega), fun z => ?_, ?_, fun k k0 k1 => ?_, ?_, fun _ => ?_⟩
          · rw [has_bo, has_bt e1, decide_eq_true rfl, Bool.or_true] at z; cases z
          · simp [m_takeIn, m_up]; omega
          · have : k ≠ u.1 3 j 7 := by omega
            simp [m_takeIn, m_up, this]
            exact LS.1 4 k
          · rw [has_bo, has_bt e1, decide_eq_true rfl, Bool.or_true]
            simp [m_takeIn, m_up, m_ib]
            omega
          · simp [m_takeIn, m_up, l7]
        · have X := h4 j a c
          have hs : ∀ (c : Nat) (i : Int), m_takeIn u.1 l b (u.1 2 b 3) c j i = u.1 c j i := fun c i => take_k _ _ _ _ c j i q
          have et : ∀ y, m_ent (m_takeIn u.1 l b (u.1 2 b 3)) y = m_ent u.1 y := fun y => by simp [m_ent, m_takeIn, m_up]
          have hh : m_has (m_bo u.2 (m_bt l)) j = m_has u.2 j := by rw [has_bo, has_bt e1, decide_eq_false q, Bool.or_false]
          simp only [hh]
          refine ⟨X.1.same (hs 3) (hs 4) (hs 5) et, fun z => ?_, ?_, fun k k0 k1 => ?_, ?_, fun z => ?_⟩
          · have Y := X.2.1 z
            exact ⟨fun c i => (hs c i).trans (Y.1 c i), Y.2.same (hs 3) (hs 4) (hs 5) et⟩
          · rw [hs]; exact X.2.2.1
          · rw [hs]; exact X.2.2.2.1 k k0 k1
          · rw [hs]; exact X.2.2.2.2.1
          · rw [hs]; exact X.2.2.2.2.2 z
theorem HO.all {g : m_St} {b : Int} (hW : Wf g) (hb : 0 ≤ b ∧ b < 16) (he : m_ent g b = true) (hp : 0 < g 2 b 3) (hC : ∀ j, 0 ≤ j → j < 5 → Cj g j b ∧ g 3 j 7 ≤ b) : HO g b 3 (m_handOut g b) := by
  refine fo_ind (f := m_handStep b) (a := (g, (0 : Int))) (N := 3) (HO g b) ?_ (fun n x _ h => h.step hb he hp (fun j a c => (hC j a c).2))
  refine ⟨hW, Int.le_refl _, (show m_pcn 0 ≤ 0 by decide), fun j h => ?_, fun _ _ _ _ _ _ => rfl, fun _ _ _ _ => rfl, fun j a c => ⟨(hC j a c).1.mono (by omega), fun _ => ⟨fun _ _ => rfl, (hC j a c).1⟩, ?_, fun _ _ _ => rfl, ?_, fun h => ?_⟩⟩
  · rw [has_z] at h; cases h
  · have := (hC j a c).2
    show g 3 j 7 ≤ b + 1
    omega
  · show g 3 j 7 = g 3 j 7 + m_ib (m_has 0 j)
    rw [has_z]; simp [m_ib]
  · rw [has_z] at h; cases h
/-- as the books are handed out one after another, those below n done -/
def RD (g : m_St) (n : Nat) (u : m_St × Int) : Prop := Wf u.1 ∧ (∀ (c : Nat) (k i : Int), c ≠ 3 → c ≠ 4 → c ≠ 5 → u.1 c k i = g c k i) ∧ (∀ j i, i ≠ 7 → i ≠ 8 → u.1 3 j i = g 3 j i) ∧ (∀ j, 0 ≤ j → j < 5 → Cj u.1 j n ∧ u.1 3 j 7 ≤ n) ∧ (∀ b, C3 u.1 b) ∧ 0 ≤ u.2 ∧ u.2 ≤ 3 * m_cnt (m_ent g) n
theorem RD.step {g : m_St} {n : Nat} {u : m_St × Int} (hn : (n : Int) < 16) (hp : 0 < g 2 n 3) (h : RD g n u) : RD g (n + 1) (m_readStep n u) := by
  obtain ⟨hW, h3, h8, hC, hT, g0, g1⟩ := h
  have en : m_ent u.1 n = m_ent g n := by
    unfold m_ent
    rw [h3 2 n 7 (by decide) (by decide) (by decide), h3 0 0 8 (by decide) (by decide) (by decide)]
  have ec : m_cnt (m_ent g) (n + 1) = m_cnt (m_ent g) n + m_ib (m_ent g n) := rfl
  unfold m_readStep
  rw [en, RD, ec]
  cases e : m_ent g n with
  | false =>
    simp only [cond_false, ib_f]
    exact ⟨hW, h3, h8, fun j a b => ⟨(hC j a b).1.mono (by omega), by have := (hC j a b).2; omega⟩, hT, g0, by omega⟩
  | true =>
    simp only [cond_true, ib_t]
    have u2 : u.1 2 n 3 = g 2 n 3 := h3 2 n 3 (by decide) (by decide) (by decide)
    have O := HO.all hW ⟨Int.natCast_nonneg n, hn⟩ (en.trans e) (by omega) hC
    obtain ⟨k1, k2, k3, k4, k5, k6, k7⟩ := O
    generalize m_handOut u.1 n = v at k1 k2 k3 k4 k5 k6 k7 ⊢
    have P := pcn_b v.2
    refine ⟨k1, fun c k i a b d => (k5 c k i a b d).trans (h3 c k i a b d), fun j i a b => (k6 j i a b).trans (h8 j i a b), fun j a b => ⟨by have := (k7 j a b).1; rwa [show ((n + 1 : Nat) : Int) = (n : Int) + 1 from by omega], by have := (k7 j a b).2.2.1; omega⟩, fun b => ?_, by omega, by omega⟩
    by_cases q : b = n
    · refine ⟨v.2, k2, by omega, fun j k a0 a1 b0 b1 e => ?_⟩
      cases t : m_has v.2 j with
      | true => rfl
      | false =>
        have X := ((k7 j a0 a1).2.1 t).2.1 k b0 b1
        omega
    · obtain ⟨T, t0, t1, t2⟩ := hT b
      refine ⟨T, t0, t1, fun j k a0 a1 b0 b1 e => ?_⟩
      have X := k7 j a0 a1
      by_cases z : k < u.1 3 j 7
      · exact t2 j k a0 a1 b0 z ((X.2.2.2.1 k b0 z).symm.trans e)
      · cases t : m_has v.2 j with
        | true =>
          rw [t, ib_t] at X
          have : k = u.1 3 j 7 := by omega
          rw [this, X.2.2.2.2.2 rfl] at e
          exact absurd e.symm q
        | false =>
          rw [t, ib_f] at X
          omega
theorem RD.all {g : m_St} (hW : Wf g) (h0 : ∀ j, 0 ≤ j → j < 5 → g 3 j 7 = 0) (hp : ∀ b, 0 ≤ b → b < g 0 0 4 → 0 < g 2 b 3) : ∀ n : Nat, (n : Int) ≤ g 0 0 4 → RD g n (m_fo m_readStep (g, 0) n)
  | 0, _ => ⟨hW, fun _ _ _ _ _ _ => rfl, fun _ _ _ _ => rfl, fun j a b => by
      have z := h0 j a b
      have w := (hW.2.2.2.2.1 j a b).2.2.2.2.2.2.1
      have e8 : g 3 j 8 = 0 := by omega
      refine ⟨⟨fun k a b => ?_, fun k a b => ?_, fun k a b => ?_, fun k a b => ?_, fun b => ?_, fun _ => e8⟩, ?_⟩
      all_goals (try dsimp only [m_fo] at *) <;> omega, fun b => ⟨0, Int.le_refl _, by decide, fun j k a0 a1 b0 b1 e => by
      have z := h0 j a0 a1
      dsimp only [m_fo] at *
      omega⟩, Int.le_refl _, Int.le_refl _⟩
  | n + 1, q => (RD.all hW h0 hp n (by omega)).step (by have := hW.bc; omega) (hp n (by omega) (by omega))
end PWC
section PMK
theorem Cj.lt {g : m_St} {j B : Int} (h : Cj g j B) : ∀ (d : Nat) (k : Int), 0 ≤ k → k + 1 + d < g 3 j 7 → g 4 j k < g 4 j (k + 1 + d)
  | 0, k, a, b => by
    have := h.2.1 k a (by omega)
    rwa [show k + 1 + ((0 : Nat) : Int) = k + 1 from by omega]
  | d + 1, k, a, b => by
    have e := Cj.lt h d k a (by omega)
    have e2 := h.2.1 (k + 1 + d) (by omega) (by omega)
    rw [show k + 1 + ((d + 1 : Nat) : Int) = k + 1 + d + 1 from by omega]
    omega
theorem Cj.inj {g : m_St} {j B k l : Int} (h : Cj g j B) (a : 0 ≤ k) (b : k < l) (c : l < g 3 j 7) : g 4 j k < g 4 j l := by
  have := h.lt (l - k - 1).toNat k a (by omega)
  rwa [show k + 1 + ((l - k - 1).toNat : Int) = l from by omega] at this
/-- what a judge has read: the books that ended, and their marks -/
def Mj0 (g : m_St) (j : Int) : Prop := (∀ k, 0 ≤ k → k < g 3 j 9 → g 5 j k ≤ g 3 j 10) ∧ (∀ b, 0 ≤ b → b < 16 → g 6 j b = -1 ∨ ∃ k, 0 ≤ k ∧ k < g 3 j 9 ∧ g 4 j k = b) ∧ (∀ k, 0 ≤ k → k < g 3 j 9 → 0 ≤ g 6 j (g 4 j k)) ∧ g 3 j 9 = m_cnt (fun b => g 6 j b != -1) 16 ∧ g 3 j 12 = m_sm (fun b => max 0 (g 6 j b)) 16
def Mj (g : m_St) (j : Int) : Prop := Mj0 g j ∧ (g 3 j 9 < g 3 j 7 → g 3 j 10 < g 5 j (g 3 j 9))
theorem markStep_3 (g : m_St) (j j' i : Int) (h : i ≠ 9 ∧ i ≠ 12) : m_markStep j g 3 j' i = g 3 j' i := by simp [m_markStep, m_up, h.1, h.2]
theorem markStep_c (g : m_St) (j : Int) (c : Nat) (k i : Int) (h : c ≠ 3) (h' : c ≠ 6) : m_markStep j g c k i = g c k i := by simp [m_markStep, m_up, h, h']
theorem markStep_k (g : m_St) (j : Int) (c : Nat) (k i : Int) (h : k ≠ j) : m_markStep j g c k i = g c k i := by simp [m_markStep, m_up, h]
theorem markLoop_3 {j j' i : Int} (h : i ≠ 9 ∧ i ≠ 12) : ∀ (n : Nat) (g : m_St), m_markLoop j n g 3 j' i = g 3 j' i
  | 0, _ => rfl
  | n + 1, g => by unfold m_markLoop; split; exact (markLoop_3 h n _).trans (markStep_3 g j j' i h); rfl
theorem markLoop_c {j : Int} {c : Nat} {k i : Int} (h : c ≠ 3) (h' : c ≠ 6) : ∀ (n : Nat) (g : m_St), m_markLoop j n g c k i = g c k i
  | 0, _ => rfl
  | n + 1, g => by unfold m_markLoop; split; exact (markLoop_c h h' n _).trans (markStep_c g j c k i h h'); rfl
theorem markLoop_k {j : Int} {c : Nat} {k i : Int} (h : k ≠ j) : ∀ (n : Nat) (g : m_St), m_markLoop j n g c k i = g c k i
  | 0, _ => rfl
  | n + 1, g => by unfold m_markLoop; split; exact (markLoop_k h n _).trans (markStep_k g j c k i h); rfl
theorem Mj0.step {g : m_St} {j B : Int} (hC : Cj g j B) (hB : B ≤ 16) (h : Mj0 g j) (hq : g 3 j 9 < g 3 j 7) (he : g 5 j (g 3 j 9) ≤ g 3 j 10) : Mj0 (m_markStep j g) j := by
  obtain ⟨h1, h3, h4, h5, h6⟩ := h
  have hb := cnt_nn (fun b => g 6 j b != -1) 16
  have h9 : 0 ≤ g 3 j 9 := by omega
  have X := hC.1 _ h9 hq
  have M : 0 ≤ m_markFor g j (g 4 j (g 3 j 9)) := by unfold m_markFor; omega
  have e9 : m_markStep j g 3 j 9 = g 3 j 9 + 1 := by simp [m_markStep, m_up]
  have e10 : m_markStep j g 3 j 10 = g 3 j 10 := by simp [m_markStep, m_up]
  have e12 : m_markStep j g 3 j 12 = g 3 j 12 + m_markFor g j (g 4 j (g 3 j 9)) := by simp [m_markStep, m_up]
  have e4 : ∀ k, m_markStep j g 4 j k = g 4 j k := fun k => by simp [m_markStep, m_up]
  have e5 : ∀ k, m_markStep j g 5 j k = g 5 j k := fun k => by simp [m_markStep, m_up]
  have e6 : ∀ k, m_markStep j g 6 j k = if k = g 4 j (g 3 j 9) then m_markFor g j (g 4 j (g 3 j 9)) else g 6 j k := fun k => by simp [m_markStep, m_up]
  have old : g 6 j (g 4 j (g 3 j 9)) = -1 := by
    rcases h3 _ X.1 (by omega) with e | ⟨k, k0, k1, k2⟩
    · exact e
    · have := hC.inj k0 k1 hq
      omega
  simp only [Mj0, e9, e10, e12, e4, e5, e6]
  generalize hb0 : g 4 j (g 3 j 9) = b0 at *
  generalize m_markFor g j b0 = m at M ⊢
  refine ⟨fun k a b => ?_, fun b a c => ?_, fun k a b => ?_, ?_, ?_⟩
  · by_cases q : k = g 3 j 9
    · rw [q]; exact he
    · exact h1 k a (by omega)
  · by_cases q : b = b0
    · exact Or.inr ⟨g 3 j 9, h9, by omega, by omega⟩
    · rw [if_neg q]
      rcases h3 b a c with e | ⟨k, k0, k1, k2⟩
      · exact Or.inl e
      · exact Or.inr ⟨k, k0, by omega, k2⟩
  · by_cases q : k = g 3 j 9
    · rw [q, hb0, if_pos rfl]; exact M
    · have Y := h4 k a (by omega)
      split
      · exact M
      · exact Y
  · have := sm_one (h := fun b => m_ib (g 6 j b != -1)) (h' := fun b => m_ib ((if b = b0 then m else g 6 j b) != -1)) (k := b0) (n := 16) X.1 (by omega) (fun i _ _ q => by simp [q])
    simp only [if_true, old] at this
    have q : (m != -1) = true := by simp; omega
    rw [q] at this
    show g 3 j 9 + 1 = m_sm (fun b => m_ib ((if b = b0 then m else g 6 j b) != -1)) 16
    have h5' : g 3 j 9 = m_sm (fun b => m_ib (g 6 j b != -1)) 16 := h5
    rw [this, ← h5']
    simp [m_ib]
  · have := sm_one (h := fun b => max 0 (g 6 j b)) (h' := fun b => max 0 (if b = b0 then m else g 6 j b)) (k := b0) (n := 16) X.1 (by omega) (fun i _ _ q => by simp [q])
    simp only [if_true, old] at this
    rw [this, h6]
    omega
theorem Mj.loop {j B : Int} (hB : B ≤ 16) : ∀ (n : Nat) {g : m_St}, Cj g j B → Mj0 g j → g 3 j 7 ≤ g 3 j 9 + n → Mj (m_markLoop j n g) j
  | 0, g, _, h, q => ⟨h, fun z => by simp only [m_markLoop] at z; omega⟩
  | n + 1, g, hC, h, q => by
    unfold m_markLoop
    split
    · rename_i z
      have hC' : Cj (m_markStep j g) j B := ⟨fun k a b => by
          rw [markStep_3 g j j 7 (by decide)] at b
          have e4 : ∀ k, m_markStep j g 4 j k = g 4 j k := fun k => by simp [m_markStep, m_up]
          have ee : ∀ x, m_ent (m_markStep j g) x = m_ent g x := fun x => by simp [m_ent, m_markStep, m_up]
          rw [e4, ee]; exact hC.1 k a b, by
          have e4 : ∀ k, m_markStep j g 4 j k = g 4 j k := fun k => by simp [m_markStep, m_up]
          have e5 : ∀ k, m_markStep j g 5 j k = g 5 j k := fun k => by simp [m_markStep, m_up]
          simp only [markStep_3 g j j 7 (by decide), markStep_3 g j j 8 (by decide), e4, e5]
          exact hC.2⟩
      refine Mj.loop hB n hC' (h.step hC hB z.1 z.2) ?_
      rw [markStep_3 g j j 7 (by decide), show m_markStep j g 3 j 9 = g 3 j 9 + 1 from by simp [m_markStep, m_up]]
      omega
    · rename_i z
      refine ⟨h, fun a => ?_⟩
      by_cases y : g 5 j (g 3 j 9) ≤ g 3 j 10
      · exact absurd ⟨a, y⟩ z
      · omega
end PMK

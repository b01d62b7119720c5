section LEN
theorem cnt_s (q : Int → Bool) (n : Nat) : m_cnt q (n + 1) = m_cnt q n + m_ib (q n) := rfl
theorem cnt_t {q : Int → Bool} {n : Nat} (h : q n = true) : m_cnt q (n + 1) = m_cnt q n + 1 := by rw [cnt_s, h]; rfl
theorem cnt_f {q : Int → Bool} {n : Nat} (h : q n = false) : m_cnt q (n + 1) = m_cnt q n := by rw [cnt_s, h]; exact Int.add_zero _
theorem sm_s (q : Int → Int) (n : Nat) : m_sm q (n + 1) = m_sm q n + q n := rfl
theorem bt_16 {n : Int} (h : 0 ≤ n ∧ n ≤ 16) : 1 ≤ m_bt n ∧ m_bt n ≤ 65536 :=
  (by decide : ∀ k : Nat, k < 17 → 1 ≤ ((2 ^ k : Nat) : Int) ∧ ((2 ^ k : Nat) : Int) ≤ 65536) n.toNat (by omega)
theorem tdiv_b {x : Int} (h : 0 ≤ x) : 0 ≤ x.tdiv 500 ∧ x.tdiv 500 ≤ x := ⟨Int.tdiv_nonneg h (by decide), Int.tdiv_le_self 500 h⟩
theorem tdiv_10 {x : Int} (h : 0 ≤ x) : 0 ≤ x.tdiv 10 ∧ x.tdiv 10 ≤ x := ⟨Int.tdiv_nonneg h (by decide), Int.tdiv_le_self 10 h⟩
theorem tmod_10 {x : Int} (h : 0 ≤ x) : 0 ≤ x.tmod 10 ∧ x.tmod 10 ≤ 9 := by
  rw [Int.tmod_eq_emod_of_nonneg h]; omega
theorem mean_b {g : m_St} (W : Wf g) {jj : Int} (h : 0 ≤ jj ∧ jj < 5) : 0 ≤ m_mean10 g jj ∧ m_mean10 g jj ≤ 990 := by
  have a := W.j12 h.1 h.2
  have b := W.j9 h.1 h.2
  unfold m_mean10
  split
  · omega
  · rename_i z
    rw [Int.tdiv_eq_ediv_of_nonneg (by omega)]
    refine ⟨Int.ediv_nonneg (by omega) b.1, ?_⟩
    exact Int.ediv_le_of_le_mul (by omega) (by omega)
theorem sm_5 {g : m_St} (W : Wf g) {f : Int → Int} {B : Int} (h0 : ∀ i : Int, 0 ≤ i → i < 5 → 0 ≤ f i) (hB : ∀ i : Int, 0 ≤ i → i < 5 → f i ≤ B) (hb : 0 ≤ B) : 0 ≤ m_sm f (g 0 0 5).toNat ∧ m_sm f (g 0 0 5).toNat ≤ 5 * B := by
  have m5 := W.m5
  refine ⟨sm_nn (fun i a b => h0 i a (by omega)), ?_⟩
  have q := sm_bd (h := f) (B := B) (n := (g 0 0 5).toNat) (fun i a b => hB i a (by omega))
  have : B * ((g 0 0 5).toNat : Int) ≤ B * 5 := Int.mul_le_mul_of_nonneg_left (by omega) hb
  omega
theorem pts_b {g : m_St} (W : Wf g) {bb : Int} (h : 0 ≤ bb ∧ bb < 16) : 0 ≤ m_pts g bb ∧ m_pts g bb ≤ 60 := by
  have q := sm_5 W (f := fun j => bif m_agn g j (g 2 bb 1) then 0 else g 7 j bb) (B := 12) (fun i a b => by
    have := W.r7 (j := i) (k := bb) a b h.1 h.2
    show 0 ≤ (bif m_agn g i (g 2 bb 1) then 0 else g 7 i bb)
    cases m_agn g i (g 2 bb 1) <;> simp <;> omega) (fun i a b => by
    have := W.r7 (j := i) (k := bb) a b h.1 h.2
    show (bif m_agn g i (g 2 bb 1) then 0 else g 7 i bb) ≤ 12
    cases m_agn g i (g 2 bb 1) <;> simp <;> omega) (by omega)
  exact ⟨q.1, by have := q.2; unfold m_pts; omega⟩
theorem stand_b (g : m_St) (bb : Int) : 0 ≤ m_standing g bb ∧ m_standing g bb ≤ 3 := by
  unfold m_standing
  split
  · omega
  · cases m_has (g 0 0 13) bb <;> cases m_has (g 0 0 11) bb <;> simp
theorem left_b {g : m_St} (W : Wf g) {jj : Int} (h : 0 ≤ jj ∧ jj < 5) : 0 ≤ m_pagesLeft g jj ∧ m_pagesLeft g jj ≤ 14400 := by
  have a := W.j8 h.1 h.2
  have b := W.j10 h.1 h.2
  unfold m_pagesLeft
  omega
theorem mark_b (g : m_St) (jj bb : Int) : 0 ≤ m_markFor g jj bb ∧ m_markFor g jj bb ≤ 99 := by unfold m_markFor; omega
theorem ptsl_b {g : m_St} (W : Wf g) {jj : Int} (h : 0 ≤ jj ∧ jj < 5) : -180 ≤ m_ptsLeft g jj ∧ m_ptsLeft g jj ≤ 12 := by
  have a := sm_nn (h := fun b => g 7 jj b) (n := 16) (fun i x y => (W.r7 h.1 h.2 x (by omega)).1)
  have b := sm_bd (h := fun b => g 7 jj b) (B := 12) (n := 16) (fun i x y => (W.r7 h.1 h.2 x (by omega)).2)
  unfold m_ptsLeft
  omega
theorem scs_b {g : m_St} (W : Wf g) {bb : Int} (h : 0 ≤ bb ∧ bb < 16) (n : Nat) (hn : n ≤ (g 0 0 5).toNat) : -5000 ≤ m_sm (fun j => bif m_fair g j bb then 10 * g 6 j bb - m_mean10 g j else 0) n ∧ m_sm (fun j => bif m_fair g j bb then 10 * g 6 j bb - m_mean10 g j else 0) n ≤ 4950 := by
  have m5 := W.m5
  have a := sm_bd (h := fun j => bif m_fair g j bb then 10 * g 6 j bb - m_mean10 g j else 0) (B := 990) (n := n) (fun i x y => by
    have := W.r6 (j := i) (k := bb) x (by omega) h.1 h.2
    have := mean_b W (jj := i) ⟨x, by omega⟩
    show (bif m_fair g i bb then 10 * g 6 i bb - m_mean10 g i else 0) ≤ 990
    cases m_fair g i bb <;> simp <;> omega)
  have b := sm_lo (h := fun j => bif m_fair g j bb then 10 * g 6 j bb - m_mean10 g j else 0) (B := -1000) (n := n) (fun i x y => by
    have := W.r6 (j := i) (k := bb) x (by omega) h.1 h.2
    have := mean_b W (jj := i) ⟨x, by omega⟩
    show -1000 ≤ (bif m_fair g i bb then 10 * g 6 i bb - m_mean10 g i else 0)
    cases m_fair g i bb <;> simp <;> omega)
  omega
theorem score_b {g : m_St} (W : Wf g) {bb : Int} (h : 0 ≤ bb ∧ bb < 16) : -6000 ≤ m_score g bb ∧ m_score g bb ≤ 6000 := by
  have a := scs_b W h _ (Nat.le_refl _)
  have c := cnt_nn (fun j => m_fair g j bb) (g 0 0 5).toNat
  unfold m_score
  split
  · omega
  · rename_i z
    have := fdv_b (x := m_scoreSum g bb) (y := m_fairCount g bb) (by unfold m_fairCount at *; omega) 5000 (by unfold m_scoreSum; omega) (by omega)
    omega
theorem dayl_b (sp cp : Int) : ∀ (n : Nat) (p d : Int), d ≤ m_dayLoop sp cp n p d ∧ m_dayLoop sp cp n p d ≤ d + n
  | 0, p, d => by unfold m_dayLoop; omega
  | n + 1, p, d => by
    unfold m_dayLoop
    split
    · have := dayl_b sp cp n (p + m_pace sp p) (d + 1)
      omega
    · omega
theorem days_b (g : m_St) (jj : Int) : 0 ≤ m_daysLeft g jj ∧ m_daysLeft g jj ≤ 10000 := by
  have := dayl_b (g 3 jj 0) (g 3 jj 8) 10000 (g 3 jj 10) 0
  unfold m_daysLeft
  omega
end LEN

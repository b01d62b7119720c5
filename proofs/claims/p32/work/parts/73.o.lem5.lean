section LX5
theorem open_9 (g : m_St) (x j : Int) : m_openTo (m_up g 0 0 9 x) j = m_openTo g j := rfl
theorem firstL_9 (g : m_St) (x j S : Int) : ∀ (n : Nat) (k : Int), m_firstLoop (m_up g 0 0 9 x) j S n k = m_firstLoop g j S n k
  | 0, _ => rfl
  | n + 1, k => by
    unfold m_firstLoop
    rw [firstL_9 g x j S n]
    rfl
theorem chosen_9 (g : m_St) (x left out j : Int) : m_chosen (m_up g 0 0 9 x) left out j = m_chosen g left out j := by
  unfold m_chosen m_firstIn
  rw [firstL_9, open_9]
  rfl
theorem counted_9 (g : m_St) (x left out : Int) : m_counted (m_up g 0 0 9 x) left out = m_counted g left out := by
  unfold m_counted
  simp only [chosen_9]
  rfl
theorem votes_9 (g : m_St) (x left out b : Int) : m_votesFor (m_up g 0 0 9 x) left out b = m_votesFor g left out b := by
  unfold m_votesFor
  simp only [chosen_9]
  rfl
theorem score_9 (g : m_St) (x b : Int) : m_score (m_up g 0 0 9 x) b = m_score g b := rfl
theorem above_9 (g : m_St) (x left out : Int) : m_aboveHalf (m_up g 0 0 9 x) left out = m_aboveHalf g left out := by
  unfold m_aboveHalf
  simp only [counted_9, votes_9]
  rfl
theorem weakest_9 (g : m_St) (x left out : Int) : m_weakest (m_up g 0 0 9 x) left out = m_weakest g left out := by
  unfold m_weakest m_weaker
  simp only [votes_9, score_9]
  rfl
theorem winLoop_9 (g : m_St) (x out : Int) : ∀ (n : Nat) (left last : Int), m_winLoop (m_up g 0 0 9 x) out n left last = m_winLoop g out n left last
  | 0, _, _ => rfl
  | n + 1, left, last => by
    unfold m_winLoop
    rw [above_9, weakest_9, winLoop_9 g x out n]
theorem winner_9 (g : m_St) (x bs out : Int) : m_winner (m_up g 0 0 9 x) bs out = m_winner g bs out := by
  unfold m_winner
  rw [winLoop_9]
  rfl
theorem open_14 (g : m_St) (x j : Int) : m_openTo (m_up g 0 0 14 x) j = m_openTo g j := rfl
theorem firstL_14 (g : m_St) (x j S : Int) : ∀ (n : Nat) (k : Int), m_firstLoop (m_up g 0 0 14 x) j S n k = m_firstLoop g j S n k
  | 0, _ => rfl
  | n + 1, k => by
    unfold m_firstLoop
    rw [firstL_14 g x j S n]
    rfl
theorem chosen_14 (g : m_St) (x left out j : Int) : m_chosen (m_up g 0 0 14 x) left out j = m_chosen g left out j := by
  unfold m_chosen m_firstIn
  rw [firstL_14, open_14]
  rfl
theorem counted_14 (g : m_St) (x left out : Int) : m_counted (m_up g 0 0 14 x) left out = m_counted g left out := by
  unfold m_counted
  simp only [chosen_14]
  rfl
theorem votes_14 (g : m_St) (x left out b : Int) : m_votesFor (m_up g 0 0 14 x) left out b = m_votesFor g left out b := by
  unfold m_votesFor
  simp only [chosen_14]
  rfl
theorem score_14 (g : m_St) (x b : Int) : m_score (m_up g 0 0 14 x) b = m_score g b := rfl
theorem above_14 (g : m_St) (x left out : Int) : m_aboveHalf (m_up g 0 0 14 x) left out = m_aboveHalf g left out := by
  unfold m_aboveHalf
  simp only [counted_14, votes_14]
  rfl
theorem weakest_14 (g : m_St) (x left out : Int) : m_weakest (m_up g 0 0 14 x) left out = m_weakest g left out := by
  unfold m_weakest m_weaker
  simp only [votes_14, score_14]
  rfl
theorem winLoop_14 (g : m_St) (x out : Int) : ∀ (n : Nat) (left last : Int), m_winLoop (m_up g 0 0 14 x) out n left last = m_winLoop g out n left last
  | 0, _, _ => rfl
  | n + 1, left, last => by
    unfold m_winLoop
    rw [above_14, weakest_14, winLoop_14 g x out n]
theorem winner_14 (g : m_St) (x bs out : Int) : m_winner (m_up g 0 0 14 x) bs out = m_winner g bs out := by
  unfold m_winner
  rw [winLoop_14]
  rfl
theorem open_16 (g : m_St) (x j : Int) : m_openTo (m_up g 0 0 16 x) j = m_openTo g j := rfl
theorem firstL_16 (g : m_St) (x j S : Int) : ∀ (n : Nat) (k : Int), m_firstLoop (m_up g 0 0 16 x) j S n k = m_firstLoop g j S n k
  | 0, _ => rfl
  | n + 1, k => by
    unfold m_firstLoop
    rw [firstL_16 g x j S n]
    rfl
theorem chosen_16 (g : m_St) (x left out j : Int) : m_chosen (m_up g 0 0 16 x) left out j = m_chosen g left out j := by
  unfold m_chosen m_firstIn
  rw [firstL_16, open_16]
  rfl
theorem counted_16 (g : m_St) (x left out : Int) : m_counted (m_up g 0 0 16 x) left out = m_counted g left out := by
  unfold m_counted
  simp only [chosen_16]
  rfl
theorem votes_16 (g : m_St) (x left out b : Int) : m_votesFor (m_up g 0 0 16 x) left out b = m_votesFor g left out b := by
  unfold m_votesFor
  simp only [chosen_16]
  rfl
theorem score_16 (g : m_St) (x b : Int) : m_score (m_up g 0 0 16 x) b = m_score g b := rfl
theorem above_16 (g : m_St) (x left out : Int) : m_aboveHalf (m_up g 0 0 16 x) left out = m_aboveHalf g left out := by
  unfold m_aboveHalf
  simp only [counted_16, votes_16]
  rfl
theorem weakest_16 (g : m_St) (x left out : Int) : m_weakest (m_up g 0 0 16 x) left out = m_weakest g left out := by
  unfold m_weakest m_weaker
  simp only [votes_16, score_16]
  rfl
theorem winLoop_16 (g : m_St) (x out : Int) : ∀ (n : Nat) (left last : Int), m_winLoop (m_up g 0 0 16 x) out n left last = m_winLoop g out n left last
  | 0, _, _ => rfl
  | n + 1, left, last => by
    unfold m_winLoop
    rw [above_16, weakest_16, winLoop_16 g x out n]
theorem winner_16 (g : m_St) (x bs out : Int) : m_winner (m_up g 0 0 16 x) bs out = m_winner g bs out := by
  unfold m_winner
  rw [winLoop_16]
  rfl
theorem mv_endw (g : m_St) : m_winner (m_endIt g) 0 0 = m_winner g 0 0 := by
  unfold m_endIt m_crown
  rw [winner_9]
  split
  · rw [winner_14]
  · rw [winner_16, winner_14]
theorem mv_end9 (g : m_St) : m_endIt g 0 0 9 = 4 := rfl
theorem mv_end8 (g : m_St) : m_endIt g 0 0 8 = g 0 0 8 := by
  unfold m_endIt m_crown
  rw [up_i _ _ _ _ _ _ _ (by decide)]
  split <;> rfl
theorem mv_end14 (g : m_St) : m_endIt g 0 0 14 = m_winner g 0 0 := by
  unfold m_endIt
  rw [up_i _ _ _ _ _ _ _ (by decide)]
  exact crown_14 g _
theorem mv_read9 (g : m_St) : m_read g 0 0 9 = 1 := rfl
theorem mv_next9 (g : m_St) : m_next g 0 0 9 = 0 := by rw [next_0]; rfl
theorem mv_next8 (g : m_St) : m_next g 0 0 8 = g 0 0 8 + 1 := by rw [next_0]; rfl
theorem mul_c {x y : Int} (hx : 1 ≤ x ∧ x ≤ 6) (hy : 0 ≤ y ∧ y ≤ 200) : 0 ≤ x * y ∧ x * y ≤ 1200 := by
  refine ⟨Int.mul_nonneg (by omega) hy.1, ?_⟩
  have a := Int.mul_le_mul_of_nonneg_right hx.2 hy.1
  omega
theorem upd_in {g : m_St} {n : Nat} {f f1 : Nat → Int32} (hf : ∀ j : Int, 0 ≤ j → j < (n : Int) → f j.toNat = iI (g 3 j 10)) (he : f1 = upd f ((n : Nat) : Int).toNat (iI (g 3 ((n : Nat) : Int) 10))) : ∀ j : Int, 0 ≤ j → j < ((n + 1 : Nat) : Int) → f1 j.toNat = iI (g 3 j 10) := fun j h0 h1 => by
  rw [he]
  unfold upd
  by_cases q : j = (n : Int)
  · subst q; simp
  · have q' : ¬ j.toNat = ((n : Nat) : Int).toNat := by omega
    rw [if_neg q']
    exact hf j h0 (by omega)
theorem pts_new {g : m_St} (W : Wf g) {j b n : Int} (hj : 0 ≤ j ∧ j < g 0 0 5) (hb : 0 ≤ b ∧ b < 16) (hn : 0 ≤ n) (hag : m_agn g j (g 2 b 1) = false) : n ≤ m_pts (m_points g j b n) b := by
  have m5 := W.m5
  have t := sm_ge (h := fun i => bif m_agn (m_points g j b n) i (m_points g j b n 2 b 1) then 0 else m_points g j b n 7 i b) (n := (g 0 0 5).toNat) (k := j) (fun i a d => by
    have r := W.r7 (j := i) (k := b) a (by omega) hb.1 hb.2
    cases m_agn (m_points g j b n) i (m_points g j b n 2 b 1)
    · show 0 ≤ m_up g 7 j b n 7 i b
      unfold m_up
      split <;> omega
    · exact Int.le_refl _) hj.1 (by omega)
  have e : (bif m_agn (m_points g j b n) j (m_points g j b n 2 b 1) then 0 else m_points g j b n 7 j b) = n := by
    show (bif m_agn g j (g 2 b 1) then 0 else m_up g 7 j b n 7 j b) = n
    rw [hag, up_s]
    rfl
  rw [e] at t
  exact t
theorem orders_1 {g : m_St} (W : Wf g) {j : Int} (hj : 0 ≤ j ∧ j < g 0 0 5) (h : 0 < g 3 j 15) : 1 ≤ m_orderCount g ∧ m_orderCount g ≤ 5 := by
  have a := cnt_pos (p := fun j => decide (0 < g 3 j 15)) (n := (g 0 0 5).toNat) hj.1 (by omega) (decide_eq_true h)
  have b := cnt5 W (fun j => decide (0 < g 3 j 15))
  unfold m_orderCount
  omega
theorem rd_days (n : Nat) {g : m_St} (h : g 0 0 9 ≠ 1) : m_fo (fun _ u => m_readDay u) g n = g := by
  induction n with
  | zero => rfl
  | succ n ih => rw [fo_s, ih]; unfold m_readDay; rw [if_neg h]
theorem passf_0 {g : m_St} {n : Int} (h : g 0 0 9 ≠ 1) : m_sm (passf g) n.toNat = 0 := by
  have e : ∀ d : Int, passf g d = 0 := fun d => by
    unfold passf m_dayFin
    rw [rd_days _ h, if_neg h]
  have z : ∀ k : Nat, m_sm (passf g) k = 0 := fun k => by
    induction k with
    | zero => rfl
    | succ k ih => rw [sm_s, ih, e]; rfl
  exact z _
theorem enter_4 (g : m_St) (b : Int) : m_enter g b 0 0 4 = g 0 0 4 := by
  unfold m_enter
  cases m_elig g b
  · rfl
  · rw [cond_true]
    split <;> rfl
theorem mv_read8 {H J t p q c : Int} {g : m_St} (h : Iv H J t p q c g) (hp : g 0 0 9 = 0) : m_read g 0 0 8 = g 0 0 8 := by
  obtain ⟨W, R, C, N, S, B, K, Q⟩ := h
  have bc := W.bc
  have D := RD.all W (fun j a b => (K.2 j a b).1 hp) (fun b a d => by have := B.1 b a d; omega) (g 0 0 4).toNat (by omega)
  have eA : m_fo m_readStep (g, 0) (g 0 0 4).toNat = m_readAll g := rfl
  rw [eA] at D
  obtain ⟨V, k1, _⟩ := D
  show m_up (m_readAll g).1 0 0 9 1 0 0 8 = _
  rw [up_i _ _ _ _ _ _ _ (by decide)]
  exact k1 0 0 8 (by decide) (by decide) (by decide)
theorem al_all {f : Int → Bool} : ∀ (n : Nat) (i : Int), (∀ j : Int, i ≤ j → j < i + n → f j = true) → m_al f n i = true
  | 0, _, _ => rfl
  | n + 1, i, h => by
    show (f i && m_al f n (i + 1)) = true
    rw [h i (by omega) (by omega), al_all n (i + 1) (fun j a b => h j (by omega) (by omega))]
    rfl
theorem crates_read {H J t p q c : Int} {g : m_St} (h : Iv H J t p q c g) (hp : g 0 0 9 = 1) (hr : m_readIn g ≤ 0) : m_cratesRead g = true := by
  rw [readIn_mxs, if_pos hp] at hr
  have z := mxs_0 hr
  refine al_all _ _ (fun j a b => ?_)
  have d := z j a (by omega)
  by_cases y : 0 < m_pagesLeft g j
  · have e := dayLoop_0 (g 3 j 0) (g 3 j 8) (g 3 j 10) (by unfold m_pagesLeft at y; omega)
    unfold m_daysLeft at d
    omega
  · rw [decide_eq_false y]
    rfl
end LX5

section LEQ
def m_many (g : m_St) (ww : Int) : Int := if ww = 0 then g 0 0 8 else if ww = 1 then g 0 0 9 else if ww = 2 then g 0 0 10 else if ww = 3 then g 0 0 3 else if ww = 4 then g 0 0 4 else if ww = 5 then g 0 0 5 else if ww = 6 then m_entCount g else if ww = 7 then g 0 0 11 else if ww = 8 then g 0 0 13 else if ww = 9 then g 0 0 14 else if ww = 10 then g 0 0 15 else if ww = 11 then m_pcn (g 0 0 17) else if ww = 12 then m_soldEver g else if ww = 13 then m_missedEver g else g 9 0 3
def m_ofHouse (g : m_St) (hh ww : Int) : Int := if ww = 0 then g 1 hh 0 else if ww = 1 then m_quota g hh else if ww = 2 then g 1 hh 1 else if ww = 3 then m_coh g hh (m_bt (g 0 0 4) - 1) else m_coh g hh (m_bd (g 0 0 16) (g 0 0 17))
def m_ofBook (g : m_St) (bb ww : Int) : Int := if ww = 0 then g 2 bb 0 else if ww = 1 then g 2 bb 1 else if ww = 2 then g 2 bb 8 else if ww = 3 then g 2 bb 9 else if ww = 4 then g 2 bb 10 else if ww = 5 then m_ib (m_elig g bb) else if ww = 6 then m_ib (m_ent g bb) else if ww = 7 then m_standing g bb else if ww = 8 then m_score g bb else if ww = 9 then m_fairCount g bb else m_pts g bb
def m_ofJudge (g : m_St) (jj ww : Int) : Int := if ww = 0 then g 3 jj 0 else if ww = 1 then g 3 jj 3 else if ww = 2 then g 3 jj 7 else if ww = 3 then m_pagesLeft g jj else if ww = 4 then g 3 jj 9 else if ww = 5 then g 3 jj 10 else if ww = 6 then m_ib (decide (0 < g 3 jj 15)) else m_ptsLeft g jj
def m_mean (g : m_St) : UInt64 := if m_sm (fun j => g 3 j 9) (g 0 0 5).toNat = 0 then FP.dconst0 else FP.ddiv (FP.i2d (iI (m_sm (fun j => g 3 j 12) (g 0 0 5).toNat))) (FP.i2d (iI (m_sm (fun j => g 3 j 9) (g 0 0 5).toNat)))
theorem readIn_b (g : m_St) : -1 ≤ m_readIn g ∧ m_readIn g ≤ 10000 := by
  unfold m_readIn
  split
  · have := fo_ind (f := fun j d => max d (m_daysLeft g j)) (a := (0 : Int)) (fun _ d => 0 ≤ d ∧ d ≤ 10000) (N := (g 0 0 5).toNat) (by omega) (fun n x hn hx => by
      have := days_b g n
      show 0 ≤ max x (m_daysLeft g n) ∧ max x (m_daysLeft g n) ≤ 10000
      omega)
    omega
  · omega
theorem mul_b {x y : Int} (hx : 1 ≤ x ∧ x ≤ 90) (hy : 1 ≤ y ∧ y ≤ 60) : 0 ≤ x * y ∧ x * y ≤ 5400 := by
  refine ⟨Int.mul_nonneg (by omega) (by omega), ?_⟩
  have a := Int.mul_le_mul_of_nonneg_right hx.2 (show 0 ≤ y by omega)
  omega
theorem spo_b {g : m_St} (W : Wf g) (bb : Int) : -1 ≤ m_spoiled g bb ∧ m_spoiled g bb ≤ 15 := by
  have := win_b W (m_bt bb) 0
  unfold m_spoiled
  cases m_has (g 0 0 13) bb <;> simp <;> omega
end LEQ

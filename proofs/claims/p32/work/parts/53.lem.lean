section LEN
theorem cnt_s (q : Int → Bool) (n : Nat) : m_cnt q (n + 1) = m_cnt q n + m_ib (q n) := rfl
theorem cnt_t {q : Int → Bool} {n : Nat} (h : q n = true) : m_cnt q (n + 1) = m_cnt q n + 1 := by rw [cnt_s, h]; rfl
theorem cnt_f {q : Int → Bool} {n : Nat} (h : q n = false) : m_cnt q (n + 1) = m_cnt q n := by rw [cnt_s, h]; exact Int.add_zero _
theorem sm_s (q : Int → Int) (n : Nat) : m_sm q (n + 1) = m_sm q n + q n := rfl
theorem bt_16 {n : Int} (h : 0 ≤ n ∧ n ≤ 16) : 1 ≤ m_bt n ∧ m_bt n ≤ 65536 :=
  (by decide : ∀ k : Nat, k < 17 → 1 ≤ ((2 ^ k : Nat) : Int) ∧ ((2 ^ k : Nat) : Int) ≤ 65536) n.toNat (by omega)
theorem tdiv_b {x : Int} (h : 0 ≤ x) : 0 ≤ x.tdiv 500 ∧ x.tdiv 500 ≤ x := ⟨Int.tdiv_nonneg h (by decide), Int.tdiv_le_self 500 h⟩
theorem tdiv_10 {x : Int} (h : 0 ≤ x) : 0 ≤ x.tdiv 10 ∧ x.tdiv 10 ≤ x := ⟨Int.tdiv_nonneg h (by decide), Int.tdiv_le_self 10 h⟩
theorem tmod_10 {x : Int} (h : 0 ≤ x) : 0 ≤ x.tmod 10 ∧ x.tmod 10 ≤ 9 := by
  rw [Int.tmod_eq_emod_of_nonneg h]; omega
theorem mean_b {g : m_St} (W : Wf g) {jj : Int} (h : 0 ≤ jj ∧ jj < 5) : 0 ≤ m_mean10 g jj ∧ m_mean10 g jj ≤ 990 := by
  have a := W.j12 h.1 h.2
  have b := W.j9 h.1 h.2
  unfold m_mean10
  split
  · omega
  · rename_i z
    rw [Int.tdiv_eq_ediv_of_nonneg (by omega)]
    refine ⟨Int.ediv_nonneg (by omega) b.1, ?_⟩
    exact Int.ediv_le_of_le_mul (by omega) (by omega)
theorem sm_5 {g : m_St} (W : Wf g) {f : Int → Int} {B : Int} (h0 : ∀ i : Int, 0 ≤ i → i < 5 → 0 ≤ f i) (hB : ∀ i : Int, 0 ≤ i → i < 5 → f i ≤ B) (hb : 0 ≤ B) : 0 ≤ m_sm f (g 0 0 5).toNat ∧ m_sm f (g 0 0 5).toNat ≤ 5 * B := by
  have m5 := W.m5
  refine ⟨sm_nn (fun i a b => h0 i a (by omega)), ?_⟩
  have q := sm_bd (h := f) (B := B) (n := (g 0 0 5).toNat) (fun i a b => hB i a (by omega))
  have : B * ((g 0 0 5).toNat : Int) ≤ B * 5 := Int.mul_le_mul_of_nonneg_left (by omega) hb
  omega
theorem pts_b {g : m_St} (W : Wf g) {bb : Int} (h : 0 ≤ bb ∧ bb < 16) : 0 ≤ m_pts g bb ∧ m_pts g bb ≤ 60 := by
  have q := sm_5 W (f := fun j => bif m_agn g j (g 2 bb 1) then 0 else g 7 j bb) (B := 12) (fun i a b => by
    have := W.r7 (j := i) (k := bb) a b h.1 h.2
    show 0 ≤ (bif m_agn g i (g 2 bb 1) then 0 else g 7 i bb)
    cases m_agn g i (g 2 bb 1) <;> simp <;> omega) (fun i a b => by
    have := W.r7 (j := i) (k := bb) a b h.1 h.2
    show (bif m_agn g i (g 2 bb 1) then 0 else g 7 i bb) ≤ 12
    cases m_agn g i (g 2 bb 1) <;> simp <;> omega) (by omega)
  exact ⟨q.1, by have := q.2; unfold m_pts; omega⟩
theorem stand_b (g : m_St) (bb : Int) : 0 ≤ m_standing g bb ∧ m_standing g bb ≤ 3 := by
  unfold m_standing
  split
  · omega
  · cases m_has (g 0 0 13) bb <;> cases m_has (g 0 0 11) bb <;> simp
theorem left_b {g : m_St} (W : Wf g) {jj : Int} (h : 0 ≤ jj ∧ jj < 5) : 0 ≤ m_pagesLeft g jj ∧ m_pagesLeft g jj ≤ 14400 := by
  have a := W.j8 h.1 h.2
  have b := W.j10 h.1 h.2
  unfold m_pagesLeft
  omega
theorem mark_b (g : m_St) (jj bb : Int) : 0 ≤ m_markFor g jj bb ∧ m_markFor g jj bb ≤ 99 := by unfold m_markFor; omega
theorem ptsl_b {g : m_St} (W : Wf g) {jj : Int} (h : 0 ≤ jj ∧ jj < 5) : -180 ≤ m_ptsLeft g jj ∧ m_ptsLeft g jj ≤ 12 := by
  have a := sm_nn (h := fun b => g 7 jj b) (n := 16) (fun i x y => (W.r7 h.1 h.2 x (by omega)).1)
  have b := sm_bd (h := fun b => g 7 jj b) (B := 12) (n := 16) (fun i x y => (W.r7 h.1 h.2 x (by omega)).2)
  unfold m_ptsLeft
  omega
theorem scs_b {g : m_St} (W : Wf g) {bb : Int} (h : 0 ≤ bb ∧ bb < 16) (n : Nat) (hn : n ≤ (g 0 0 5).toNat) : -5000 ≤ m_sm (fun j => bif m_fair g j bb then 10 * g 6 j bb - m_mean10 g j else 0) n ∧ m_sm (fun j => bif m_fair g j bb then 10 * g 6 j bb - m_mean10 g j else 0) n ≤ 4950 := by
  have m5 := W.m5
  have a := sm_bd (h := fun j => bif m_fair g j bb then 10 * g 6 j bb - m_mean10 g j else 0) (B := 990) (n := n) (fun i x y => by
    have := W.r6 (j := i) (k := bb) x (by omega) h.1 h.2
    have := mean_b W (jj := i) ⟨x, by omega⟩
    show (bif m_fair g i bb then 10 * g 6 i bb - m_mean10 g i else 0) ≤ 990
    cases m_fair g i bb <;> simp <;> omega)
  have b := sm_lo (h := fun j => bif m_fair g j bb then 10 * g 6 j bb - m_mean10 g j else 0) (B := -1000) (n := n) (fun i x y => by
    have := W.r6 (j := i) (k := bb) x (by omega) h.1 h.2
    have := mean_b W (jj := i) ⟨x, by omega⟩
    show -1000 ≤ (bif m_fair g i bb then 10 * g 6 i bb - m_mean10 g i else 0)
    cases m_fair g i bb <;> simp <;> omega)
  omega
theorem score_b {g : m_St} (W : Wf g) {bb : Int} (h : 0 ≤ bb ∧ bb < 16) : -6000 ≤ m_score g bb ∧ m_score g bb ≤ 6000 := by
  have a := scs_b W h _ (Nat.le_refl _)
  have c := cnt_nn (fun j => m_fair g j bb) (g 0 0 5).toNat
  unfold m_score
  split
  · omega
  · rename_i z
    have := fdv_b (x := m_scoreSum g bb) (y := m_fairCount g bb) (by unfold m_fairCount at *; omega) 5000 (by unfold m_scoreSum; omega) (by omega)
    omega
theorem dayl_b (sp cp : Int) : ∀ (n : Nat) (p d : Int), d ≤ m_dayLoop sp cp n p d ∧ m_dayLoop sp cp n p d ≤ d + n
  | 0, p, d => by unfold m_dayLoop; omega
  | n + 1, p, d => by
    unfold m_dayLoop
    split
    · have := dayl_b sp cp n (p + m_pace sp p) (d + 1)
      omega
    · omega
theorem days_b (g : m_St) (jj : Int) : 0 ≤ m_daysLeft g jj ∧ m_daysLeft g jj ≤ 10000 := by
  have := dayl_b (g 3 jj 0) (g 3 jj 8) 10000 (g 3 jj 10) 0
  unfold m_daysLeft
  omega
theorem tdiv_le {x y : Int} (rx : -2147483648 ≤ x ∧ x ≤ 2147483647) (h : 0 < y) : -2147483648 ≤ x.tdiv y ∧ x.tdiv y ≤ 2147483647 := by
  by_cases q : 0 ≤ x
  · have a1 := Int.tdiv_nonneg q (Int.le_of_lt h)
    have a2 := Int.tdiv_le_self y q
    omega
  · have e : x = -(-x) := by omega
    rw [e, Int.neg_tdiv]
    have a1 := Int.tdiv_nonneg (show 0 ≤ -x by omega) (Int.le_of_lt h)
    have a2 := Int.tdiv_le_self y (show 0 ≤ -x by omega)
    omega
theorem tdiv_mul_le {x y : Int} (rx : -2147483648 ≤ x ∧ x ≤ 2147483647) (h : 0 < y) : -2147483648 ≤ x.tdiv y * y ∧ x.tdiv y * y ≤ 2147483647 := by
  by_cases q : 0 ≤ x
  · have a1 := Int.tdiv_nonneg q (Int.le_of_lt h)
    have a2 := Int.mul_nonneg a1 (Int.le_of_lt h)
    have a3 := Int.ediv_mul_le x (show y ≠ 0 by omega)
    rw [Int.tdiv_eq_ediv_of_nonneg q] at *
    omega
  · have e : x = -(-x) := by omega
    rw [e, Int.neg_tdiv]
    have q' : 0 ≤ -x := by omega
    have a1 := Int.tdiv_nonneg q' (Int.le_of_lt h)
    have a2 := Int.mul_nonneg a1 (Int.le_of_lt h)
    have a3 := Int.ediv_mul_le (-x) (show y ≠ 0 by omega)
    rw [Int.tdiv_eq_ediv_of_nonneg q'] at *
    rw [Int.neg_mul]
    omega
theorem firstl_b {g : m_St} (W : Wf g) {jj S : Int} (h : 0 ≤ jj ∧ jj < 5) : ∀ (n : Nat) (k : Int), 0 ≤ k → k + n ≤ 5 → -1 ≤ m_firstLoop g jj S n k ∧ m_firstLoop g jj S n k ≤ 15
  | 0, k, _, _ => by unfold m_firstLoop; omega
  | n + 1, k, h0, h1 => by
    unfold m_firstLoop
    have := W.r8 (j := jj) (k := k) h.1 h.2 h0 (by omega)
    cases m_has S (g 8 jj k)
    · exact firstl_b W h n (k + 1) (by omega) (by omega)
    · exact ⟨by simp; omega, by simp; omega⟩
theorem first_b {g : m_St} (W : Wf g) {jj S : Int} (h : 0 ≤ jj ∧ jj < 5) : -1 ≤ m_firstIn g jj S ∧ m_firstIn g jj S ≤ 15 := by
  have := W.j15 h.1 h.2
  exact firstl_b W h _ 0 (by omega) (by omega)
theorem list_b {g : m_St} (W : Wf g) : 0 ≤ m_listable g ∧ m_listable g < 65536 := by
  have m4 := W.m4
  exact fo_ind (f := fun b S => bif m_ent g b && m_marksEnough g b then m_bo S (m_bt b) else S) (a := (0 : Int)) (fun _ S => 0 ≤ S ∧ S < 65536) (by omega) (fun n x hn hx => by
    show 0 ≤ (bif m_ent g n && m_marksEnough g n then m_bo x (m_bt n) else x) ∧ (bif m_ent g n && m_marksEnough g n then m_bo x (m_bt n) else x) < 65536
    cases m_ent g n && m_marksEnough g n
    · exact hx
    · exact bo_16 hx (by omega) (by omega))
theorem open_b {g : m_St} (W : Wf g) (jj : Int) : 0 ≤ m_openTo g jj ∧ m_openTo g jj < 65536 := by
  have m4 := W.m4
  exact fo_ind (f := fun b S => bif m_agn g jj (g 2 b 1) then S else m_bo S (m_bt b)) (a := (0 : Int)) (fun _ S => 0 ≤ S ∧ S < 65536) (by omega) (fun n x hn hx => by
    show 0 ≤ (bif m_agn g jj (g 2 n 1) then x else m_bo x (m_bt n)) ∧ (bif m_agn g jj (g 2 n 1) then x else m_bo x (m_bt n)) < 65536
    cases m_agn g jj (g 2 n 1)
    · exact bo_16 hx (by omega) (by omega)
    · exact hx)
theorem bo_17 {S k : Int} (h : 0 ≤ S ∧ S < 131072) (hk : 0 ≤ k ∧ k ≤ 16) : 0 ≤ m_bo S (m_bt k) ∧ m_bo S (m_bt k) < 131072 := by
  refine ⟨bo_nn _ _, set_lt (k := 17) (bo_nn _ _) (fun n hn => ?_)⟩
  rw [has_bo, has_bt hk.1] at hn
  cases e : m_has S n
  · rw [e, Bool.false_or] at hn
    have := of_decide_eq_true hn
    omega
  · exact has_lt (k := 17) h.2 e
theorem bkat_b {g : m_St} (W : Wf g) {pl : Int} : m_bookAt g pl (g 0 0 4).toNat 0 0 = -1 ∨ (0 ≤ m_bookAt g pl (g 0 0 4).toNat 0 0 ∧ m_bookAt g pl (g 0 0 4).toNat 0 0 < 16) := by
  have m4 := W.m4
  have := bookAt_b g pl (g 0 0 4).toNat 0 0 (by omega)
  omega
theorem cmp_0 (x y : Int) : m_cmp x y = 0 ↔ x = y := by unfold m_cmp; split; omega; split <;> omega
theorem cmp_p (x y : Int) : 0 < m_cmp x y ↔ y < x := by unfold m_cmp; split; omega; split <;> omega
theorem better_1 {g : m_St} {b o : Int} (h : m_cmp (m_pts g b) (m_pts g o) ≠ 0) (h2 : 0 < m_cmp (m_pts g b) (m_pts g o)) : m_better g b o = true := by
  unfold m_better; rw [if_pos (fun q => h ((cmp_0 _ _).mpr q))]; exact decide_eq_true ((cmp_p _ _).mp h2)
theorem better_2 {g : m_St} {b o : Int} (h : m_cmp (m_pts g b) (m_pts g o) ≠ 0) (h2 : m_cmp (m_pts g b) (m_pts g o) ≤ 0) : m_better g b o = false := by
  unfold m_better; rw [if_pos (fun q => h ((cmp_0 _ _).mpr q))]; exact decide_eq_false (fun q => by have := (cmp_p _ _).mpr q; omega)
theorem better_3 {g : m_St} {b o : Int} (h : m_cmp (m_pts g b) (m_pts g o) = 0) (h' : m_cmp (m_giv g b) (m_giv g o) ≠ 0) (h2 : 0 < m_cmp (m_giv g b) (m_giv g o)) : m_better g b o = true := by
  unfold m_better; rw [if_neg (fun q => q ((cmp_0 _ _).mp h)), if_pos (fun q => h' ((cmp_0 _ _).mpr q))]; exact decide_eq_true ((cmp_p _ _).mp h2)
theorem better_4 {g : m_St} {b o : Int} (h : m_cmp (m_pts g b) (m_pts g o) = 0) (h' : m_cmp (m_giv g b) (m_giv g o) ≠ 0) (h2 : m_cmp (m_giv g b) (m_giv g o) ≤ 0) : m_better g b o = false := by
  unfold m_better; rw [if_neg (fun q => q ((cmp_0 _ _).mp h)), if_pos (fun q => h' ((cmp_0 _ _).mpr q))]; exact decide_eq_false (fun q => by have := (cmp_p _ _).mpr q; omega)
theorem better_5 {g : m_St} {b o : Int} (h : m_cmp (m_pts g b) (m_pts g o) = 0) (h' : m_cmp (m_giv g b) (m_giv g o) = 0) (h2 : m_score g o < m_score g b) : m_better g b o = true := by
  unfold m_better; rw [if_neg (fun q => q ((cmp_0 _ _).mp h)), if_neg (fun q => q ((cmp_0 _ _).mp h'))]; exact decide_eq_true h2
theorem better_6 {g : m_St} {b o : Int} (h : m_cmp (m_pts g b) (m_pts g o) = 0) (h' : m_cmp (m_giv g b) (m_giv g o) = 0) (h2 : m_score g b ≤ m_score g o) : m_better g b o = false := by
  unfold m_better; rw [if_neg (fun q => q ((cmp_0 _ _).mp h)), if_neg (fun q => q ((cmp_0 _ _).mp h'))]; exact decide_eq_false (by omega)
theorem votes_0 {vt : Nat → Int32} {n : Nat} (h : ∀ b : Int, 0 ≤ b → b < ((n : Nat) : Int) → vt b.toNat = iI 0) : ∀ b : Int, 0 ≤ b → b < ((n + 1 : Nat) : Int) → upd vt ((n : Nat) : Int).toNat (iI 0) b.toNat = iI 0 := by
  intro b h0 h1
  unfold upd
  by_cases e : b.toNat = ((n : Nat) : Int).toNat
  · rw [if_pos e]
  · rw [if_neg e]; exact h b h0 (by omega)
theorem votes_stay {vt : Nat → Int32} {n : Nat} {q : Int → Int} (h : ∀ b : Int, 0 ≤ b → b < 16 → vt b.toNat = iI (m_cnt (fun j => q j == b) n)) (hn : q n = -1) : ∀ b : Int, 0 ≤ b → b < 16 → vt b.toNat = iI (m_cnt (fun j => q j == b) (n + 1)) := by
  intro b h0 h1
  rw [h b h0 h1, cnt_f (q := fun j => q j == b) (n := n) (by rw [hn]; exact beq_false_of_ne (by omega))]
theorem votes_step {vt : Nat → Int32} {n : Nat} {q : Int → Int} {ch : Int} (hc : 0 ≤ ch ∧ ch < 16) (h : ∀ b : Int, 0 ≤ b → b < 16 → vt b.toNat = iI (m_cnt (fun j => q j == b) n)) (hn : q n = ch) : ∀ b : Int, 0 ≤ b → b < 16 → upd vt ch.toNat (iI (m_cnt (fun j => q j == ch) n + 1)) b.toNat = iI (m_cnt (fun j => q j == b) (n + 1)) := by
  intro b h0 h1
  unfold upd
  by_cases e : b.toNat = ch.toNat
  · have e2 : b = ch := by omega
    subst e2
    rw [if_pos rfl, cnt_t (q := fun j => q j == b) (n := n) (by rw [hn]; exact beq_self_eq_true b)]
  · rw [if_neg e, h b h0 h1, cnt_f (q := fun j => q j == b) (n := n) (by rw [hn]; exact beq_false_of_ne (by omega))]
theorem weak_nn {g : m_St} {left out : Int} (W : Wf g) (h0 : 0 ≤ left) (hne : left ≠ 0) (hsub : ∀ b, m_has left b = true → b < g 0 0 4) : 0 ≤ m_weakest g left out ∧ m_weakest g left out < g 0 0 4 ∧ g 0 0 4 ≤ 16 := by
  have m4 := W.m4
  rcases weakest_in g left out m4.1 with h | h
  · obtain ⟨b, hb⟩ := set_ne h0 hne
    have := h.2 b (has_nn hb) (hsub b hb)
    rw [hb] at this; cases this
  · exact ⟨h.1, h.2.1, m4.2⟩
theorem bt_65 {bb : Int} (h : 0 ≤ bb ∧ bb < 16) : 0 ≤ m_bt bb ∧ m_bt bb < 65536 := by
  have := bo_16 (S := 0) (k := bb) (by omega) h.2 h.1
  rw [show m_bo 0 (m_bt bb) = m_bt bb from set_eq (bo_nn _ _) (bt_nn _) (fun n => by rw [has_bo, has_z, Bool.false_or])] at this
  exact this
theorem lead_b {g : m_St} (W : Wf g) (bb oo : Int) : -5 ≤ m_lead g bb oo ∧ m_lead g bb oo ≤ 5 := by
  have m5 := W.m5
  have a := sm_bd (h := fun j => bif decide (0 < g 3 j 15) && m_ba (m_openTo g j) (m_bo (m_bt bb) (m_bt oo)) == m_bo (m_bt bb) (m_bt oo) then (bif m_firstIn g j (m_bo (m_bt bb) (m_bt oo)) == bb then (1 : Int) else -1) else 0) (B := 1) (n := (g 0 0 5).toNat) (fun i x y => by
    show (bif _ then (bif _ then (1 : Int) else -1) else 0) ≤ 1
    cases (decide (0 < g 3 i 15) && m_ba (m_openTo g i) (m_bo (m_bt bb) (m_bt oo)) == m_bo (m_bt bb) (m_bt oo)) <;> cases (m_firstIn g i (m_bo (m_bt bb) (m_bt oo)) == bb) <;> decide)
  have b := sm_lo (h := fun j => bif decide (0 < g 3 j 15) && m_ba (m_openTo g j) (m_bo (m_bt bb) (m_bt oo)) == m_bo (m_bt bb) (m_bt oo) then (bif m_firstIn g j (m_bo (m_bt bb) (m_bt oo)) == bb then (1 : Int) else -1) else 0) (B := -1) (n := (g 0 0 5).toNat) (fun i x y => by
    show -1 ≤ (bif _ then (bif _ then (1 : Int) else -1) else 0)
    cases (decide (0 < g 3 i 15) && m_ba (m_openTo g i) (m_bo (m_bt bb) (m_bt oo)) == m_bo (m_bt bb) (m_bt oo)) <;> cases (m_firstIn g i (m_bo (m_bt bb) (m_bt oo)) == bb) <;> decide)
  unfold m_lead
  omega
theorem beats_b {g : m_St} (W : Wf g) : -1 ≤ m_beatsAll g ∧ m_beatsAll g ≤ 15 := by
  have m4 := W.m4
  have := fs_in (fun b => m_has (g 0 0 13) b && m_ahead g b) (g 0 0 4).toNat 0
  unfold m_beatsAll
  omega
end LEN

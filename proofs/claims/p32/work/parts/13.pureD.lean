section PEN
/-- a book is entered: what it costs its house -/
theorem inv_enterFor {H J t p q c b cost : Int} {g g1 : m_St} (h : Iv H J t p q c g) (hH : H ≤ 5) (hb : 0 ≤ b ∧ b < g 0 0 4) (hp : g 0 0 9 = 0) (he : g 2 b 7 = -1)
    (hW : Wf g1) (k0 : ∀ (cc : Nat) (k i : Int), cc ≠ 1 → cc ≠ 3 → g1 cc k i = g cc k i) (k3 : ∀ j i, i ≠ 4 → g1 3 j i = g 3 j i) (k1 : ∀ k i, i ≠ 1 → g1 1 k i = g 1 k i) (c' : Int)
    (hu : used g1 H + c' = used g H + c + 1) (hq : ∀ x, 0 ≤ x → x < H → g1 1 x 1 ≤ m_quota g x) :
    Iv H J t (p + cost) q c' (m_enterFor g1 b cost) ∧ m_entCount (m_enterFor g1 b cost) = m_entCount g + 1 ∧ m_ent (m_enterFor g1 b cost) b = true := by
  obtain ⟨W, R, C, N, S, B, K, Q⟩ := h
  have bc := W.bc
  have yr := W.1.2.2.2.1
  have X := B.1 b hb.1 hb.2
  have e2 : ∀ k i, i ≠ 7 → m_enterFor g1 b cost 2 k i = g 2 k i := fun k i h => by
    show m_up (m_up g1 2 b 7 _) 1 _ 0 _ 2 k i = _
    rw [up_c _ _ _ _ _ _ _ _ (by decide), up_i _ _ _ _ _ _ _ h, k0 2 k i (by decide) (by decide)]
  have e27 : ∀ k, k ≠ b → m_enterFor g1 b cost 2 k 7 = g 2 k 7 := fun k h => by
    show m_up (m_up g1 2 b 7 _) 1 _ 0 _ 2 k 7 = _
    rw [up_c _ _ _ _ _ _ _ _ (by decide), up_k _ _ _ _ _ _ _ h, k0 2 k 7 (by decide) (by decide)]
  have e2b : m_enterFor g1 b cost 2 b 7 = g 0 0 8 := by
    show m_up (m_up g1 2 b 7 _) 1 _ 0 _ 2 b 7 = _
    rw [up_c _ _ _ _ _ _ _ _ (by decide), up_s, k0 0 0 8 (by decide) (by decide)]
  have e0 : ∀ (cc : Nat) k i, cc ≠ 1 → cc ≠ 2 → cc ≠ 3 → m_enterFor g1 b cost cc k i = g cc k i := fun cc k i h h' h3 => by
    show m_up (m_up g1 2 b 7 _) 1 _ 0 _ cc k i = _
    rw [up_c _ _ _ _ _ _ _ _ h, up_c _ _ _ _ _ _ _ _ h', k0 cc k i h h3]
  have e3 : ∀ k i, i ≠ 4 → m_enterFor g1 b cost 3 k i = g 3 k i := fun k i h => by
    show m_up (m_up g1 2 b 7 _) 1 _ 0 _ 3 k i = _
    rw [up_c _ _ _ _ _ _ _ _ (by decide), up_c _ _ _ _ _ _ _ _ (by decide), k3 k i h]
  have e11 : ∀ k, m_enterFor g1 b cost 1 k 1 = g1 1 k 1 := fun k => by
    show m_up (m_up g1 2 b 7 _) 1 _ 0 _ 1 k 1 = _
    rw [up_i _ _ _ _ _ _ _ (by decide), up_c _ _ _ _ _ _ _ _ (by decide)]
  have g120 : g1 2 b 0 = g 2 b 0 := k0 2 b 0 (by decide) (by decide)
  have e10 : ∀ k, m_enterFor g1 b cost 1 k 0 = if k = g 2 b 0 then g 1 k 0 - cost else g 1 k 0 := fun k => by
    show m_up (m_up g1 2 b 7 _) 1 _ 0 _ 1 k 0 = _
    have a1 : m_up g1 2 b 7 (g1 0 0 8) 2 b 0 = g 2 b 0 := by rw [up_i _ _ _ _ _ _ _ (by decide), g120]
    have a2 : ∀ x, m_up g1 2 b 7 (g1 0 0 8) 1 x 0 = g 1 x 0 := fun x => by rw [up_c _ _ _ _ _ _ _ _ (by decide), k1 x 0 (by decide)]
    rw [g120, k1 _ 0 (by decide)]
    split
    · rename_i z; rw [z, up_s]
    · rename_i z; rw [up_k _ _ _ _ _ _ _ z, a2]
  have ee : ∀ x, m_ent (m_enterFor g1 b cost) x = if x = b then true else m_ent g x := fun x => by
    unfold m_ent
    rw [e0 0 0 8 (by decide) (by decide) (by decide)]
    split
    · rename_i z; rw [z, e2b]; simp
    · rename_i z; rw [e27 x z]
  have eb : m_ent g b = false := ent_old W he
  have em : ∀ x, m_ent g x = true → m_ent (m_enterFor g1 b cost) x = true := fun x h => by rw [ee]; split <;> simp [h]
  have ec : ∀ h S, m_coh (m_enterFor g1 b cost) h S = m_coh g h S := fun h S => by
    unfold m_coh
    rw [e0 0 0 4 (by decide) (by decide) (by decide)]
    simp only [e2 _ 0 (by decide)]
  have en : m_entCount (m_enterFor g1 b cost) = m_entCount g + 1 := by
    have Z := sm_one (h := fun x => m_ib (m_ent g x)) (h' := fun x => m_ib (m_ent (m_enterFor g1 b cost) x)) (n := (g 0 0 4).toNat) (k := b) hb.1 (by omega) (fun i _ _ z => by rw [ee, if_neg z])
    simp only [ee, if_true, eb, ib_t, ib_f] at Z
    unfold m_entCount
    rw [e0 0 0 4 (by decide) (by decide) (by decide)]
    show m_sm (fun x => m_ib (m_ent (m_enterFor g1 b cost) x)) _ = m_sm (fun x => m_ib (m_ent g x)) _ + 1
    simp only [ee]
    omega
  have es : m_soldEver (m_enterFor g1 b cost) = m_soldEver g := by
    unfold m_soldEver
    rw [e0 0 0 4 (by decide) (by decide) (by decide)]
    simp only [e2 _ 9 (by decide)]
  have et : stockAll (m_enterFor g1 b cost) = stockAll g := by
    unfold stockAll
    rw [e0 0 0 4 (by decide) (by decide) (by decide)]
    simp only [e2 _ 8 (by decide)]
  have eu : used (m_enterFor g1 b cost) H = used g1 H := by unfold used; simp only [e11]
  have eo : coins (m_enterFor g1 b cost) H = coins g H - cost := by
    have bh := (W.2.2.2.1 b hb.1 (by omega)).1
    have Z := sm_one (h := fun x => g 1 x 0) (h' := fun x => m_enterFor g1 b cost 1 x 0) (n := H.toNat) (k := g 2 b 0) bh.1 (by omega) (fun i _ _ z => by rw [e10, if_neg z])
    have z := e10 (g 2 b 0)
    rw [if_pos rfl] at z
    unfold coins
    omega
  have e5 := e0 5
  refine ⟨⟨hW.enterFor, R.same (fun j i h => e3 j i (by omega)) (fun _ _ => e0 4 _ _ (by decide) (by decide) (by decide)) (fun _ _ => e0 5 _ _ (by decide) (by decide) (by decide)) (fun _ _ => e0 6 _ _ (by decide) (by decide) (by decide)) (fun x _ _ h => em x h) (by rw [e0 0 0 4 (by decide) (by decide) (by decide)]; omega), fun b => (C b).same (fun _ => e3 _ _ (by decide)) (fun _ _ => e0 4 _ _ (by decide) (by decide) (by decide)), ?_, ?_, ?_, ?_, ?_⟩, en, by rw [ee, if_pos rfl]⟩
  · unfold InvN
    simp only [e0 0 _ _ (by decide) (by decide) (by decide)]
    exact N
  · obtain ⟨s1, s2, s3, s4, s5, s6, s7, s8, s9, s10⟩ := S
    unfold InvS
    simp only [e0 0 _ _ (by decide) (by decide) (by decide), ec]
    refine ⟨fun x h => ⟨(s1 x h).1, em x (s1 x h).2⟩, s2, s3, s4, s5, s6, s7, s8, s9, fun x h => ?_⟩
    have Y := s10 x h
    rw [e27 x (fun z => by rw [z, he] at Y; omega)]
    exact Y
  · refine ⟨fun x a d => ?_, fun x a d => ?_⟩
    · rw [e0 0 _ _ (by decide) (by decide) (by decide)] at d
      have Y := B.1 x a d
      rw [e2 _ 0 (by decide), e2 _ 3 (by decide), e2 _ 8 (by decide), e0 0 _ _ (by decide) (by decide) (by decide)]
      by_cases z : x = b
      · subst z; rw [e2b]; exact ⟨Y.1, Y.2.1, Int.le_refl _, Y.2.2.2⟩
      · rw [e27 x z]; exact Y
    · rw [e0 0 _ _ (by decide) (by decide) (by decide)] at a
      rw [e2 _ 8 (by decide), e2 _ 9 (by decide), e2 _ 10 (by decide), e27 x (by omega)]
      exact B.2 x a d
  · unfold InvJ
    simp only [e0 0 _ _ (by decide) (by decide) (by decide), e0 7 _ _ (by decide) (by decide) (by decide), e3 _ 0 (by decide), e3 _ 7 (by decide), e3 _ 15 (by decide)]
    exact K
  · obtain ⟨q1, q2, q3, q4⟩ := Q
    refine ⟨by rw [eo, es]; omega, by rw [et, es]; exact q2, by rw [en, eu]; omega, fun x a d => ?_⟩
    rw [e11]
    unfold m_quota
    rw [ec, e0 0 _ _ (by decide) (by decide) (by decide)]
    exact hq x a d
theorem elig_old {g : m_St} {b : Int} (h : m_elig g b = true) (he : m_ent g b = false) : g 2 b 7 = -1 := by
  unfold m_elig at h
  unfold m_ent at he
  rw [Bool.and_eq_true, Bool.or_eq_true] at h
  rcases h.1 with e | e
  · exact eq_of_beq e
  · rw [he] at e; cases e
theorem inv_enter {H J t p q c b : Int} {g : m_St} (h : Iv H J t p q c g) (hH : H ≤ 5) (hb : 0 ≤ b ∧ b < g 0 0 4) (hp : g 0 0 9 = 0) (he : m_ent g b = false) :
    (m_elig g b = false → m_enter g b = g) ∧ (m_elig g b = true → m_quota g (g 2 b 0) ≤ g 1 (g 2 b 0) 1 → m_enter g b = g) ∧
    (m_elig g b = true → g 1 (g 2 b 0) 1 < m_quota g (g 2 b 0) → Iv H J t (p + g 9 0 3) q c (m_enter g b) ∧ m_entCount (m_enter g b) = m_entCount g + 1 ∧ m_ent (m_enter g b) b = true) := by
  refine ⟨fun e => by unfold m_enter; rw [e]; rfl, fun e z => by unfold m_enter; rw [e, cond_true, if_pos z], fun e z => ?_⟩
  have W := h.1
  have bc := W.bc
  have X := h.2.2.2.2.2.1.1 b hb.1 hb.2
  have Y := (W.2.2.2.1 b hb.1 (by omega)).1
  have U := W.2.2.1 (g 2 b 0) Y.1 (by omega)
  have Qb := quota_b g (g 2 b 0) bc.1
  have hE : m_enter g b = m_enterFor (m_up g 1 (g 2 b 0) 1 (g 1 (g 2 b 0) 1 + 1)) b (g 9 0 3) := by unfold m_enter; rw [e, cond_true, if_neg (by omega)]
  rw [hE]
  have q4 := h.2.2.2.2.2.2.2.2.2.2
  refine inv_enterFor (g1 := m_up g 1 (g 2 b 0) 1 (g 1 (g 2 b 0) 1 + 1)) (cost := g 9 0 3) h hH hb hp (elig_old e he) ?_ (fun cc k i a _ => up_c _ _ _ _ _ _ _ _ a) (fun _ _ _ => rfl) (fun k i a => up_i _ _ _ _ _ _ _ a) c ?_ (fun x a d => ?_)
  · obtain ⟨N, S, HH, B, JJ, A, UU⟩ := W
    refine ⟨N, S, ?_, B, JJ, A, UU⟩
    intro k k0 k1
    have Z := HH k k0 k1
    by_cases q : k = g 2 b 0
    · subst q; simp [m_up]; omega
    · simp [m_up, q]; exact Z
  · have Z := sm_one (h := fun x => g 1 x 1) (h' := fun x => m_up g 1 (g 2 b 0) 1 (g 1 (g 2 b 0) 1 + 1) 1 x 1) (n := H.toNat) (k := g 2 b 0) Y.1 (by omega) (fun i _ _ z => up_k _ _ _ _ _ _ _ z)
    simp only [up_s] at Z
    unfold used
    omega
  · by_cases q : x = g 2 b 0
    · rw [q, up_s]; omega
    · rw [up_k _ _ _ _ _ _ _ q]; exact q4 x a d
theorem inv_callIn {H J t p q c j b : Int} {g : m_St} (h : Iv H J t p q c g) (hH : H ≤ 5) (hb : 0 ≤ b ∧ b < g 0 0 4) (hp : g 0 0 9 = 0) (he : m_ent g b = false) :
    (m_elig g b = false → m_callIn g j b = g) ∧ (m_elig g b = true → (g 3 j 4 ≠ 0 ∨ m_agn g j (g 2 b 1) = true) → m_callIn g j b = g) ∧
    (m_elig g b = true → ¬ (g 3 j 4 ≠ 0 ∨ m_agn g j (g 2 b 1) = true) → Iv H J t (p + (g 9 0 3).tdiv 2) q (c + 1) (m_callIn g j b) ∧ m_entCount (m_callIn g j b) = m_entCount g + 1) := by
  refine ⟨fun e => by unfold m_callIn; rw [e]; rfl, fun e z => by unfold m_callIn; rw [e, cond_true, if_pos z], fun e z => ?_⟩
  have W := h.1
  have hE : m_callIn g j b = m_enterFor (m_up g 3 j 4 1) b ((g 9 0 3).tdiv 2) := by unfold m_callIn; rw [e, cond_true, if_neg z]
  rw [hE]
  have q4 := h.2.2.2.2.2.2.2.2.2.2
  have F := inv_enterFor (g1 := m_up g 3 j 4 1) (cost := (g 9 0 3).tdiv 2) h hH hb hp (elig_old e he) (by
      obtain ⟨N, S, HH, B, JJ, A, UU⟩ := W
      refine ⟨N, S, HH, B, ?_, A, UU⟩
      intro k k0 k1
      have Z := JJ k k0 k1
      by_cases q : k = j
      · subst q; simp [m_up]; omega
      · simp [m_up, q]; omega) (fun cc k i _ a => up_c _ _ _ _ _ _ _ _ a) (fun j' i a => up_i _ _ _ _ _ _ _ a) (fun _ _ _ => rfl) (c + 1) (by show used g H + (c + 1) = _; omega) (fun x a d => q4 x a d)
  exact ⟨F.1, F.2.1⟩
end PEN
section PLI
/-- only the object's own numbers change -/
theorem iv_num {H J t t' p q c : Int} {g g' : m_St} (h : Iv H J t p q c g) (hW : Wf g') (hc : ∀ (cc : Nat) (k i : Int), cc ≠ 0 → g' cc k i = g cc k i) (h0 : ∀ i, i ≠ 9 → i ≠ 11 → i ≠ 13 → i ≠ 14 → i ≠ 16 → i ≠ 17 → g' 0 0 i = g 0 0 i)
    (ht : 5 * g 0 0 8 + g' 0 0 9 ≤ t') (htt : t ≤ t') (hS : InvS g') (h9 : g' 0 0 9 ≠ 0) (h3 : g' 0 0 9 < 3 → g 0 0 9 < 3) : Iv H J t' p q c g' := by
  obtain ⟨W, R, C, N, S, B, K, Q⟩ := h
  have ee : ∀ x, m_ent g' x = m_ent g x := fun x => by unfold m_ent; rw [hc 2 _ _ (by decide), h0 8 (by decide) (by decide) (by decide) (by decide) (by decide) (by decide)]
  have e4 : g' 0 0 4 = g 0 0 4 := h0 4 (by decide) (by decide) (by decide) (by decide) (by decide) (by decide)
  have e8 : g' 0 0 8 = g 0 0 8 := h0 8 (by decide) (by decide) (by decide) (by decide) (by decide) (by decide)
  obtain ⟨n1, n2, n3, n4⟩ := N
  refine ⟨hW, R.same (fun _ _ _ => hc 3 _ _ (by decide)) (fun _ _ => hc 4 _ _ (by decide)) (fun _ _ => hc 5 _ _ (by decide)) (fun _ _ => hc 6 _ _ (by decide)) (fun x _ _ h => (ee x).trans h) (by rw [e4]; exact Int.le_refl _), fun b => (C b).same (fun _ => hc 3 _ _ (by decide)) (fun _ _ => hc 4 _ _ (by decide)), ⟨?_, ?_, ?_, ?_⟩, hS, ⟨fun b a d => ?_, fun b a d => ?_⟩, ⟨fun j a d => ?_, fun j a d => ?_⟩, ?_⟩
  · rw [h0 3 (by decide) (by decide) (by decide) (by decide) (by decide) (by decide)]; exact n1
  · rw [h0 5 (by decide) (by decide) (by decide) (by decide) (by decide) (by decide)]; exact n2
  · rw [e8]; exact ht
  · rw [h0 10 (by decide) (by decide) (by decide) (by decide) (by decide) (by decide)]; omega
  · rw [e4] at d
    have Y := B.1 b a d
    simp only [hc 2 _ _ (by decide), e8]
    exact ⟨Y.1, Y.2.1, Y.2.2.1, by omega⟩
  · rw [e4] at a
    simp only [hc 2 _ _ (by decide)]
    exact B.2 b a d
  · rw [hc 3 _ _ (by decide)]; exact K.1 j a d
  · have Y := K.2 j a d
    simp only [hc 3 _ _ (by decide), hc 7 _ _ (by decide)]
    exact ⟨fun z => absurd z h9, fun z => Y.2.1 (h3 z), Y.2.2⟩
  · obtain ⟨q1, q2, q3, q4⟩ := Q
    have ec : ∀ h S, m_coh g' h S = m_coh g h S := fun h S => by unfold m_coh; rw [e4]; simp only [hc 2 _ _ (by decide)]
    have es : m_soldEver g' = m_soldEver g := by unfold m_soldEver; rw [e4]; simp only [hc 2 _ _ (by decide)]
    have et : stockAll g' = stockAll g := by unfold stockAll; rw [e4]; simp only [hc 2 _ _ (by decide)]
    have en : m_entCount g' = m_entCount g := by unfold m_entCount; rw [e4, funext ee]
    refine ⟨?_, by rw [et, es]; exact q2, ?_, fun h a d => ?_⟩
    · rw [es]; unfold coins; simp only [hc 1 _ _ (by decide)]; exact q1
    · rw [en]; unfold used; simp only [hc 1 _ _ (by decide)]; exact q3
    · rw [hc 1 _ _ (by decide)]
      unfold m_quota
      rw [ec, h0 12 (by decide) (by decide) (by decide) (by decide) (by decide) (by decide)]
      exact q4 h a d
end PLI
section PLJ
theorem listable_in (g : m_St) (b : Int) (h : m_has (m_listable g) b = true) : b < g 0 0 4 ∧ m_ent g b = true := by
  have F := fo_ind (f := fun b S => bif m_ent g b && m_marksEnough g b then m_bo S (m_bt b) else S) (a := (0 : Int)) (N := (g 0 0 4).toNat) (fun n S => ∀ b, m_has S b = true → b < (n : Int) ∧ m_ent g b = true) (fun b h => by rw [has_z] at h; cases h) (fun n S hn hS b hb => by
    cases q : m_ent g n && m_marksEnough g n with
    | true =>
      rw [Bool.and_eq_true] at q
      simp only [q.1, q.2, Bool.and_self, cond_true] at hb
      rw [has_bo, has_bt (Int.natCast_nonneg n), Bool.or_eq_true] at hb
      rcases hb with e | e
      · have := hS b e; exact ⟨by omega, this.2⟩
      · have e := of_decide_eq_true e
        exact ⟨by omega, by rw [e]; exact q.1⟩
    | false =>
      simp only [q, cond_false] at hb
      have := hS b hb; exact ⟨by omega, this.2⟩)
  have := F b h
  have z := has_nn h
  exact ⟨by omega, this.2⟩
theorem coh_add {g : m_St} {S b : Int} (hb : 0 ≤ b ∧ b < g 0 0 4) (h : Int) : m_coh g h (m_bo S (m_bt b)) ≤ m_coh g h S + m_ib (g 2 b 0 == h) := by
  have Z := sm_one (h := fun x => m_ib (m_has S x && g 2 x 0 == h)) (h' := fun x => m_ib (m_has (m_bo S (m_bt b)) x && g 2 x 0 == h)) (n := (g 0 0 4).toNat) (k := b) hb.1 (by omega) (fun i _ _ z => by rw [has_bo, has_bt hb.1, decide_eq_false z, Bool.or_false])
  simp only [has_bo, has_bt hb.1, decide_true, Bool.or_true, Bool.true_and] at Z
  have e1 : m_coh g h (m_bo S (m_bt b)) = m_sm (fun x => m_ib ((m_has S x || decide (x = b)) && g 2 x 0 == h)) (g 0 0 4).toNat := by
    unfold m_coh m_cnt
    simp only [has_bo, has_bt hb.1]
  have e2 : m_coh g h S = m_sm (fun x => m_ib (m_has S x && g 2 x 0 == h)) (g 0 0 4).toNat := rfl
  have := ib_nn (m_has S b && g 2 b 0 == h)
  omega
theorem inv_longList {H J t p q c many : Int} {g : m_St} (h : Iv H J t p q c g) (hp : g 0 0 9 = 1) : Iv H J (t + 1) p q c (m_longList g many) := by
  have W := h.1
  have N := h.2.2.2.1
  have S := h.2.2.2.2.1
  obtain ⟨s1, s2, s3, s4, s5, s6, s7, s8, s9, s10⟩ := S
  have z11 := s4 (by omega)
  have z13 := s5 (by omega)
  have z14 := s6 (by omega)
  have F := long_of g many (fun L => (∀ b, m_has L b = true → b < g 0 0 4 ∧ m_ent g b = true) ∧ ∀ h, m_coh g h L ≤ 2) (fun b => m_ent g b = true) (fun L b hl b0 b1 hq hc => ⟨fun x hx => by
      rw [has_bo, has_bt b0, Bool.or_eq_true] at hx
      rcases hx with e | e
      · exact hl.1 x e
      · have e := of_decide_eq_true e
        rw [e]; exact ⟨b1, hq⟩, fun h => by
      have Y := coh_add (S := L) (g := g) ⟨b0, b1⟩ h
      by_cases e : g 2 b 0 = h
      · subst e
        have := ib_le (g 2 b 0 == g 2 b 0)
        omega
      · have z : (g 2 b 0 == h) = false := by simpa using e
        rw [z, ib_f] at Y
        have := hl.2 h
        omega⟩) 16 (m_listable g) (g 0 0 11) (fun b hb => (listable_in g b hb).2) ⟨s1, s8⟩
  have e0 : ∀ i, i ≠ 9 → i ≠ 11 → m_longList g many 0 0 i = g 0 0 i := fun i h h' => by
    show m_up (m_up g 0 0 11 _) 0 0 9 2 0 0 i = _
    rw [up_i _ _ _ _ _ _ _ h, up_i _ _ _ _ _ _ _ h']
  have e9 : m_longList g many 0 0 9 = 2 := up_s _ _ _ _ _
  refine iv_num h W.longList (fun cc k i a => ?_) (fun i a b _ _ _ _ => e0 i a b) ?_ (by omega) ?_ (by rw [e9]; decide) (fun _ => by omega)
  · show m_up (m_up g 0 0 11 _) 0 0 9 2 cc k i = _
    rw [up_c _ _ _ _ _ _ _ _ a, up_c _ _ _ _ _ _ _ _ a]
  · rw [e9]; have := N.2.2.1; omega
  · unfold InvS
    simp only [e9, e0 4 (by decide) (by decide), e0 8 (by decide) (by decide), e0 12 (by decide) (by decide), e0 13 (by decide) (by decide), e0 14 (by decide) (by decide), e0 17 (by decide) (by decide), z13, z14]
    refine ⟨F.1, fun b h => ?_, Or.inl trivial, fun z => absurd z (by decide), fun _ => trivial, fun _ => trivial, by decide, F.2, s9, fun b h => ?_⟩
    · rw [has_z] at h; cases h
    · have Y := s10 b h
      exact ⟨Y.1, Y.2.1, fun z => by have := Y.2.2 z; omega⟩
theorem inv_shortList {H J t p q c many : Int} {g : m_St} (h : Iv H J t p q c g) (hp : g 0 0 9 = 2) (hm : 0 ≤ many ∧ many ≤ 5) : Iv H J (t + 1) p q c (m_shortList g many) := by
  have W := h.1
  have N := h.2.2.2.1
  obtain ⟨s1, s2, s3, s4, s5, s6, s7, s8, s9, s10⟩ := h.2.2.2.2.1
  have z13 := s5 (by omega)
  have z14 := s6 (by omega)
  have F := short_of g (fun S => ∀ b, m_has S b = true → m_has (g 0 0 11) b = true) (fun S b hS b0 b1 hl hs x hx => by
      rw [has_bo, has_bt b0, Bool.or_eq_true] at hx
      rcases hx with e | e
      · exact hS x e
      · have e := of_decide_eq_true e
        rw [e]; exact hl) many.toNat (g 0 0 13) s2
  have P := short_pc g W.bc.2 many.toNat (g 0 0 13) W.2.1.2.2.1.1
  have e0 : ∀ i, i ≠ 9 → i ≠ 13 → m_shortList g many 0 0 i = g 0 0 i := fun i h h' => by
    show m_up (m_up g 0 0 13 _) 0 0 9 3 0 0 i = _
    rw [up_i _ _ _ _ _ _ _ h, up_i _ _ _ _ _ _ _ h']
  have e9 : m_shortList g many 0 0 9 = 3 := up_s _ _ _ _ _
  have e13 : m_shortList g many 0 0 13 = m_fillShort g many.toNat (g 0 0 13) := by
    show m_up (m_up g 0 0 13 _) 0 0 9 3 0 0 13 = _
    rw [up_i _ _ _ _ _ _ _ (by decide), up_s]
  have hc : ∀ (cc : Nat) (k i : Int), cc ≠ 0 → m_shortList g many cc k i = g cc k i := fun cc k i a => by
    show m_up (m_up g 0 0 13 _) 0 0 9 3 cc k i = _
    rw [up_c _ _ _ _ _ _ _ _ a, up_c _ _ _ _ _ _ _ _ a]
  refine iv_num h W.shortList hc (fun i a _ b _ _ _ => e0 i a b) ?_ (by omega) ?_ (by rw [e9]; decide) (fun z => by rw [e9] at z; exact absurd z (by decide))
  · rw [e9]; have := N.2.2.1; omega
  · have ee : ∀ x, m_ent (m_shortList g many) x = m_ent g x := fun x => by unfold m_ent; rw [hc 2 _ _ (by decide), e0 8 (by decide) (by decide)]
    have ec : ∀ h S, m_coh (m_shortList g many) h S = m_coh g h S := fun h S => by unfold m_coh; rw [e0 4 (by decide) (by decide)]; simp only [hc 2 _ _ (by decide)]
    unfold InvS
    simp only [e9, e13, e0 4 (by decide) (by decide), e0 8 (by decide) (by decide), e0 11 (by decide) (by decide), e0 12 (by decide) (by decide), e0 14 (by decide) (by decide), e0 17 (by decide) (by decide), z14, ee, ec, hc 2 _ _ (by decide)]
    rw [z13] at P
    have p0 : m_pcn 0 = 0 := by decide
    rw [z13] at F
    rw [z13]
    refine ⟨s1, F, Or.inl trivial, fun z => absurd z (by decide), fun z => absurd z (by decide), fun _ => trivial, by omega, s8, s9, fun b h => ?_⟩
    have Y := s10 b h
    exact ⟨Y.1, Y.2.1, fun z => by have := Y.2.2 z; omega⟩
theorem crown_14 (g : m_St) (b : Int) : m_crown g b 0 0 14 = b := by
  unfold m_crown
  split
  · exact up_s _ _ _ _ _
  · rw [up_i _ _ _ _ _ _ _ (by decide), up_s]
theorem inv_end {H J t p q c : Int} {g : m_St} (h : Iv H J t p q c g) (hp : g 0 0 9 = 3) : Iv H J (t + 1) p q c (m_endIt g) := by
  have W := h.1
  have N := h.2.2.2.1
  obtain ⟨s1, s2, s3, s4, s5, s6, s7, s8, s9, s10⟩ := h.2.2.2.2.1
  have V := winner_in g 0 0 W.bc.1
  have e0 : ∀ i, i ≠ 9 → i ≠ 14 → i ≠ 16 → m_endIt g 0 0 i = g 0 0 i := fun i a b d => by
    show m_up (m_crown g _) 0 0 9 4 0 0 i = _
    rw [up_i _ _ _ _ _ _ _ a, crown_c _ _ _ _ _ (Or.inr ⟨b, d⟩)]
  have e9 : m_endIt g 0 0 9 = 4 := up_s _ _ _ _ _
  have e14 : m_endIt g 0 0 14 = m_winner g 0 0 := by
    show m_up (m_crown g _) 0 0 9 4 0 0 14 = _
    rw [up_i _ _ _ _ _ _ _ (by decide), crown_14]
  have hc : ∀ (cc : Nat) (k i : Int), cc ≠ 0 → m_endIt g cc k i = g cc k i := fun cc k i a => by
    show m_up (m_crown g _) 0 0 9 4 cc k i = _
    rw [up_c _ _ _ _ _ _ _ _ a, crown_c _ _ _ _ _ (Or.inl a)]
  refine iv_num h W.endIt hc (fun i a _ _ b d _ => e0 i a b d) ?_ (by omega) ?_ (by rw [e9]; decide) (fun z => by rw [e9] at z; exact absurd z (by decide))
  · rw [e9]; have := N.2.2.1; omega
  · have ee : ∀ x, m_ent (m_endIt g) x = m_ent g x := fun x => by unfold m_ent; rw [hc 2 _ _ (by decide), e0 8 (by decide) (by decide) (by decide)]
    have ec : ∀ h S, m_coh (m_endIt g) h S = m_coh g h S := fun h S => by unfold m_coh; rw [e0 4 (by decide) (by decide) (by decide)]; simp only [hc 2 _ _ (by decide)]
    unfold InvS
    simp only [e9, e14, e0 4 (by decide) (by decide) (by decide), e0 8 (by decide) (by decide) (by decide), e0 11 (by decide) (by decide) (by decide), e0 12 (by decide) (by decide) (by decide), e0 13 (by decide) (by decide) (by decide), e0 17 (by decide) (by decide) (by decide), ee, ec, hc 2 _ _ (by decide)]
    refine ⟨s1, s2, ?_, fun z => absurd z (by decide), fun z => absurd z (by decide), fun z => absurd z (by decide), s7, s8, s9, fun b h => ⟨(s10 b h).1, (s10 b h).2.1, fun _ => trivial⟩⟩
    rcases V with e | ⟨_, _, e, e', _⟩
    · exact Or.inl e
    · exact Or.inr ⟨e, e'⟩
/-- counting reads nothing of what was stripped -/
theorem open_17 (g : m_St) (x j : Int) : m_openTo (m_up g 0 0 17 x) j = m_openTo g j := rfl
theorem firstL_17 (g : m_St) (x j S : Int) : ∀ (n : Nat) (k : Int), m_firstLoop (m_up g 0 0 17 x) j S n k = m_firstLoop g j S n k
  | 0, _ => rfl
  | n + 1, k => by
    unfold m_firstLoop
    rw [firstL_17 g x j S n]
    rfl
theorem chosen_17 (g : m_St) (x left out j : Int) : m_chosen (m_up g 0 0 17 x) left out j = m_chosen g left out j := by
  unfold m_chosen m_firstIn
  rw [firstL_17, open_17]
  rfl
theorem counted_17 (g : m_St) (x left out : Int) : m_counted (m_up g 0 0 17 x) left out = m_counted g left out := by
  unfold m_counted
  simp only [chosen_17]
  rfl
theorem votes_17 (g : m_St) (x left out b : Int) : m_votesFor (m_up g 0 0 17 x) left out b = m_votesFor g left out b := by
  unfold m_votesFor
  simp only [chosen_17]
  rfl
theorem score_17 (g : m_St) (x b : Int) : m_score (m_up g 0 0 17 x) b = m_score g b := rfl
theorem above_17 (g : m_St) (x left out : Int) : m_aboveHalf (m_up g 0 0 17 x) left out = m_aboveHalf g left out := by
  unfold m_aboveHalf
  simp only [counted_17, votes_17]
  rfl
theorem weakest_17 (g : m_St) (x left out : Int) : m_weakest (m_up g 0 0 17 x) left out = m_weakest g left out := by
  unfold m_weakest m_weaker
  simp only [votes_17, score_17]
  rfl
theorem winLoop_17 (g : m_St) (x out : Int) : ∀ (n : Nat) (left last : Int), m_winLoop (m_up g 0 0 17 x) out n left last = m_winLoop g out n left last
  | 0, _, _ => rfl
  | n + 1, left, last => by
    unfold m_winLoop
    rw [above_17, weakest_17, winLoop_17 g x out n]
theorem inv_strip {H J t p q c : Int} {g : m_St} (h : Iv H J t p q c g) (hp : g 0 0 9 = 4) (hw : g 0 0 14 ≠ -1) : Iv H J (t + 1) p q c (m_strip g) ∧ m_strip g 0 0 14 = m_spoiled g (g 0 0 14) ∧ m_strip g 0 0 14 ≠ g 0 0 14 ∧ m_pcn (m_strip g 0 0 17) = m_pcn (g 0 0 17) + 1 := by
  have W := h.1
  have N := h.2.2.2.1
  obtain ⟨s1, s2, s3, s4, s5, s6, s7, s8, s9, s10⟩ := h.2.2.2.2.1
  rcases s3 with e | ⟨w1, w2⟩
  · exact absurd e hw
  have w0 := has_nn w1
  have wl := s1 _ (s2 _ w1)
  have bc := W.bc
  generalize hg1 : m_up g 0 0 17 (m_bo (g 0 0 17) (m_bt (g 0 0 14))) = g1
  have hs : m_strip g = m_crown g1 (m_winner g1 0 0) := by rw [← hg1]; rfl
  have f17 : g1 0 0 17 = m_bo (g 0 0 17) (m_bt (g 0 0 14)) := by rw [← hg1]; exact up_s _ _ _ _ _
  have f0 : ∀ i, i ≠ 17 → g1 0 0 i = g 0 0 i := fun i a => by rw [← hg1]; exact up_i _ _ _ _ _ _ _ a
  have fc : ∀ (cc : Nat) (k i : Int), cc ≠ 0 → g1 cc k i = g cc k i := fun cc k i a => by rw [← hg1]; exact up_c _ _ _ _ _ _ _ _ a
  have e0 : ∀ i, i ≠ 14 → i ≠ 16 → i ≠ 17 → m_strip g 0 0 i = g 0 0 i := fun i a b d => by rw [hs, crown_c _ _ _ _ _ (Or.inr ⟨a, b⟩), f0 i d]
  have e17 : m_strip g 0 0 17 = m_bo (g 0 0 17) (m_bt (g 0 0 14)) := by rw [hs, crown_c _ _ _ _ _ (Or.inr ⟨by decide, by decide⟩), f17]
  have e14 : m_strip g 0 0 14 = m_winner g1 0 0 := by rw [hs, crown_14]
  have hc : ∀ (cc : Nat) (k i : Int), cc ≠ 0 → m_strip g cc k i = g cc k i := fun cc k i a => by rw [hs, crown_c _ _ _ _ _ (Or.inl a), fc cc k i a]
  have V := winner_in g1 0 0 (by rw [f0 4 (by decide)]; exact bc.1)
  rw [f0 4 (by decide), f0 13 (by decide), f17] at V
  refine ⟨?_, ?_, ?_, ?_⟩
  · refine iv_num h (W.strip w0) hc (fun i _ _ _ a b d => e0 i a b d) ?_ (by omega) ?_ (by rw [e0 9 (by decide) (by decide) (by decide)]; omega) (fun z => by rw [e0 9 (by decide) (by decide) (by decide)] at z; exact z)
    · rw [e0 9 (by decide) (by decide) (by decide)]; have := N.2.2.1; omega
    · have ee : ∀ x, m_ent (m_strip g) x = m_ent g x := fun x => by unfold m_ent; rw [hc 2 _ _ (by decide), e0 8 (by decide) (by decide) (by decide)]
      have ec : ∀ h S, m_coh (m_strip g) h S = m_coh g h S := fun h S => by unfold m_coh; rw [e0 4 (by decide) (by decide) (by decide)]; simp only [hc 2 _ _ (by decide)]
      unfold InvS
      simp only [e14, e17, e0 9 (by decide) (by decide) (by decide), e0 4 (by decide) (by decide) (by decide), e0 8 (by decide) (by decide) (by decide), e0 11 (by decide) (by decide) (by decide), e0 12 (by decide) (by decide) (by decide), e0 13 (by decide) (by decide) (by decide), ee, ec, hc 2 _ _ (by decide)]
      refine ⟨s1, s2, ?_, fun z => by omega, fun z => by omega, fun z => by omega, s7, s8, s9, fun b h => ?_⟩
      · rcases V with e | ⟨_, _, e, e', _⟩
        · exact Or.inl e
        · exact Or.inr ⟨e, e'⟩
      · rw [has_bo, has_bt w0, Bool.or_eq_true] at h
        rcases h with e | e
        · have Y := s10 b e; exact ⟨Y.1, Y.2.1, fun _ => hp⟩
        · have e := of_decide_eq_true e
          rw [e]
          have y := W.1.2.2.2.1
          have z : g 2 (g 0 0 14) 7 = g 0 0 8 := eq_of_beq wl.2
          exact ⟨wl.1, by omega, fun _ => hp⟩
  · rw [e14]
    unfold m_spoiled
    rw [w1, cond_true]
    unfold m_winner
    rw [← hg1, winLoop_17]
    have L : m_bd (m_bd (m_up g 0 0 17 (m_bo (g 0 0 17) (m_bt (g 0 0 14))) 0 0 13) (m_up g 0 0 17 (m_bo (g 0 0 17) (m_bt (g 0 0 14))) 0 0 17)) 0 = m_bd (m_bd (g 0 0 13) (g 0 0 17)) (m_bt (g 0 0 14)) := by
      refine set_eq (bd_nn _ _) (bd_nn _ _) (fun n => ?_)
      rw [up_s, up_i _ _ _ _ _ _ _ (by decide)]
      simp only [has_bd, has_bo, has_z]
      cases m_has (g 0 0 13) n <;> cases m_has (g 0 0 17) n <;> cases m_has (m_bt (g 0 0 14)) n <;> rfl
    rw [L]
  · rw [e14]
    intro z
    rcases V with e | ⟨_, _, _, e', _⟩
    · exact hw (by rw [← z]; exact e)
    · rw [z, has_bo, has_bt w0, decide_eq_true rfl, Bool.or_true] at e'; cases e'
  · rw [e17, pcn_add w0 (by omega) w2]
end PLJ
section PRE
/-- rows that nothing else looks at change: points, orders -/
theorem iv_rows {H J t p q c : Int} {g g' : m_St} (h : Iv H J t p q c g) (hW : Wf g') (hc : ∀ (cc : Nat) (k i : Int), cc ≠ 3 → cc ≠ 7 → cc ≠ 8 → g' cc k i = g cc k i) (h3 : ∀ k i, i ≠ 15 → g' 3 k i = g 3 k i) (hp : g 0 0 9 = 3 ∨ ∀ k, g' 3 k 15 = g 3 k 15) (h7 : ∀ j, 0 ≤ j → j < 5 → m_sm (fun b => g' 7 j b) 16 ≤ 12) : Iv H J t p q c g' := by
  obtain ⟨W, R, C, N, S, B, K, Q⟩ := h
  have ee : ∀ x, m_ent g' x = m_ent g x := fun x => by unfold m_ent; rw [hc 2 _ _ (by decide) (by decide) (by decide), hc 0 _ _ (by decide) (by decide) (by decide)]
  have ec : ∀ h S, m_coh g' h S = m_coh g h S := fun h S => by unfold m_coh; rw [hc 0 _ _ (by decide) (by decide) (by decide)]; simp only [hc 2 _ _ (by decide) (by decide) (by decide)]
  refine ⟨hW, R.same (fun _ i h => h3 _ _ (by omega)) (fun _ _ => hc 4 _ _ (by decide) (by decide) (by decide)) (fun _ _ => hc 5 _ _ (by decide) (by decide) (by decide)) (fun _ _ => hc 6 _ _ (by decide) (by decide) (by decide)) (fun x _ _ h => (ee x).trans h) (by rw [hc 0 _ _ (by decide) (by decide) (by decide)]; exact Int.le_refl _), fun b => (C b).same (fun _ => h3 _ _ (by decide)) (fun _ _ => hc 4 _ _ (by decide) (by decide) (by decide)), ?_, ?_, ?_, ?_, ?_⟩
  · unfold InvN
    simp only [hc 0 _ _ (by decide) (by decide) (by decide)]
    exact N
  · unfold InvS
    simp only [hc 0 _ _ (by decide) (by decide) (by decide), hc 2 _ _ (by decide) (by decide) (by decide), ee, ec]
    exact S
  · unfold InvB
    simp only [hc 0 _ _ (by decide) (by decide) (by decide), hc 2 _ _ (by decide) (by decide) (by decide)]
    exact B
  · unfold InvJ
    simp only [hc 0 _ _ (by decide) (by decide) (by decide), h3 _ 0 (by decide), h3 _ 7 (by decide)]
    refine ⟨K.1, fun j a b => ⟨(K.2 j a b).1, fun z => ?_, h7 j a b⟩⟩
    rcases hp with e | e
    · omega
    · rw [e]; exact (K.2 j a b).2.1 z
  · unfold InvQ coins used stockAll m_soldEver m_entCount m_quota
    simp only [hc 0 _ _ (by decide) (by decide) (by decide), hc 1 _ _ (by decide) (by decide) (by decide), hc 2 _ _ (by decide) (by decide) (by decide), ec, funext ee]
    exact Q
theorem inv_points {H J t p q c j b n : Int} {g : m_St} (h : Iv H J t p q c g) (hj : 0 ≤ j ∧ j < 5) (hb : 0 ≤ b ∧ b < 16) (hn : 0 ≤ n ∧ n ≤ m_ptsLeft g j) : Iv H J t p q c (m_points g j b n) ∧ m_ptsLeft (m_points g j b n) j = m_ptsLeft g j + g 7 j b - n ∧ n ≤ 12 := by
  have K := h.2.2.2.2.2.2.1
  have W := h.1
  have A := (W.2.2.2.2.2.1 j b hj.1 hj.2 hb.1 hb.2).2.2.2.1
  have Z := sm_one (h := fun x => g 7 j x) (h' := fun x => m_points g j b n 7 j x) (n := 16) (k := b) hb.1 hb.2 (fun i _ _ z => up_i _ _ _ _ _ _ _ z)
  have nn : 0 ≤ m_sm (fun x => g 7 j x) 16 := sm_nn (fun i a d => (W.2.2.2.2.2.1 j i hj.1 hj.2 a d).2.2.2.1.1)
  have eb : m_points g j b n 7 j b = n := up_s _ _ _ _ _
  unfold m_ptsLeft at hn ⊢
  simp only [eb] at Z
  refine ⟨iv_rows h (W.points ⟨hn.1, by omega⟩) (fun cc k i _ a _ => up_c _ _ _ _ _ _ _ _ a) (fun _ _ _ => rfl) (Or.inr fun _ => rfl) (fun j' a d => ?_), by omega, by omega⟩
  by_cases z : j' = j
  · subst z; omega
  · have e : ∀ x, m_points g j b n 7 j' x = g 7 j' x := fun x => up_k _ _ _ _ _ _ _ z
    simp only [e]
    exact (K.2 j' a d).2.2
theorem rank_c {j : Int} {cc : Nat} {k i : Int} (hc : cc ≠ 8) : ∀ (n : Nat) (g : m_St) (rest : Int), m_rankLoop j n g rest cc k i = g cc k i
  | 0, _, _ => rfl
  | n + 1, g, rest => (rank_c hc n _ _).trans (up_c _ _ _ _ _ _ _ _ hc)
theorem order_c (g : m_St) (j o : Int) (cc : Nat) (k i : Int) (h3 : cc ≠ 3) (h8 : cc ≠ 8) : m_takeOrder g j o cc k i = g cc k i := (up_c _ _ _ _ _ _ _ _ h3).trans (rank_c h8 _ _ _)
theorem inv_vote {H J t p q c j o : Int} {g : m_St} (h : Iv H J t p q c g) (hp : g 0 0 9 = 3) : Iv H J t p q c (m_takeOrder g j o) ∧ m_takeOrder g j o 3 j 15 = m_pcn (g 0 0 13) := by
  have K := h.2.2.2.2.2.2.1
  have s7 := h.2.2.2.2.1.2.2.2.2.2.2.1
  refine ⟨iv_rows h h.1.order (fun cc k i a _ d => order_c g j o cc k i a d) (fun k i a => ?_) (Or.inl hp) (fun j' a d => ?_), ?_⟩
  · exact (up_i _ _ _ _ _ _ _ a).trans (rank_c (by decide) _ _ _)
  · simp only [order_c g j o 7 _ _ (by decide) (by decide)]
    exact (K.2 j' a d).2.2
  · have e : m_takeOrder g j o 3 j 15 = min 5 (m_pcn (g 0 0 13)) := up_s _ _ _ _ _
    rw [e]; omega
/-! the books are handed out -/
theorem inv_read {H J t p q c : Int} {g : m_St} (h : Iv H J t p q c g) (hp : g 0 0 9 = 0) : Iv H J (t + 1) p q c (m_read g) ∧ 0 ≤ (m_readAll g).2 ∧ (m_readAll g).2 ≤ 3 * m_entCount g := by
  obtain ⟨W, R, C, N, S, B, K, Q⟩ := h
  have bc := W.bc
  have D := RD.all W (fun j a b => (K.2 j a b).1 hp) (fun b a d => by have := B.1 b a d; omega) (g 0 0 4).toNat (by omega)
  have eA : m_fo m_readStep (g, 0) (g 0 0 4).toNat = m_readAll g := rfl
  rw [eA] at D
  obtain ⟨V, k1, k2, k3, k4, k5, k6⟩ := D
  have er : m_read g = m_up (m_readAll g).1 0 0 9 1 := rfl
  generalize (m_readAll g).1 = v at V k1 k2 k3 k4 er
  have e0 : ∀ i, i ≠ 9 → m_read g 0 0 i = g 0 0 i := fun i a => by rw [er, up_i _ _ _ _ _ _ _ a]; exact k1 0 0 i (by decide) (by decide) (by decide)
  have e9 : m_read g 0 0 9 = 1 := by rw [er]; exact up_s _ _ _ _ _
  have ev : ∀ (cc : Nat) (k i : Int), cc ≠ 0 → m_read g cc k i = v cc k i := fun cc k i a => by rw [er, up_c _ _ _ _ _ _ _ _ a]
  have ec : ∀ (cc : Nat) (k i : Int), cc ≠ 0 → cc ≠ 3 → cc ≠ 4 → cc ≠ 5 → m_read g cc k i = g cc k i := fun cc k i a b d e => (ev cc k i a).trans (k1 cc k i b d e)
  have e3 : ∀ j i, i ≠ 7 → i ≠ 8 → m_read g 3 j i = g 3 j i := fun j i a b => (ev 3 j i (by decide)).trans (k2 j i a b)
  have ee : ∀ x, m_ent (m_read g) x = m_ent g x := fun x => by unfold m_ent; rw [ec 2 _ _ (by decide) (by decide) (by decide) (by decide), e0 8 (by decide)]
  have ve : ∀ x, m_ent v x = m_ent g x := fun x => by unfold m_ent; rw [k1 2 _ _ (by decide) (by decide) (by decide), k1 0 _ _ (by decide) (by decide) (by decide)]
  have eh : ∀ h S, m_coh (m_read g) h S = m_coh g h S := fun h S => by unfold m_coh; rw [e0 4 (by decide)]; simp only [ec 2 _ _ (by decide) (by decide) (by decide) (by decide)]
  have hW : Wf (m_read g) := by
    have V1 := V.1
    rw [er]
    refine V.num ⟨V1.1, V1.2.1, V1.2.2.1, V1.2.2.2.1, by simp [m_up], V1.2.2.2.2.2⟩ V.2.1
  have e4' : ((g 0 0 4).toNat : Int) = g 0 0 4 := Int.toNat_of_nonneg bc.1
  obtain ⟨n1, n2, n3, n4⟩ := N
  have yr := W.1.2.2.2.1
  refine ⟨⟨hW, fun j a b => ?_, fun b => (k4 b).same (fun _ => ev 3 _ _ (by decide)) (fun _ _ => ev 4 _ _ (by decide)), ?_, ?_, ?_, ?_, ?_⟩, k5, k6⟩
  · have X := k3 j a b
    have M := (R j a b).2
    have z7 := (K.2 j a b).1 hp
    have w := W.2.2.2.2.1 j a b
    have z9 : g 3 j 9 = 0 := by omega
    have z10 : g 3 j 10 = 0 := by omega
    rw [e4'] at X
    refine ⟨X.1.same (fun i => ev 3 j i (by decide)) (fun i => ev 4 j i (by decide)) (fun i => ev 5 j i (by decide)) (fun x => (ee x).trans (ve x).symm) |> fun h => by rw [e0 4 (by decide)]; exact h, ?_⟩
    obtain ⟨⟨m1, m2, m3, m4, m5⟩, m6⟩ := M
    simp only [Mj, Mj0, e3 j 9 (by decide) (by decide), e3 j 10 (by decide) (by decide), e3 j 12 (by decide) (by decide), ec 6 _ _ (by decide) (by decide) (by decide) (by decide), z9, z10]
    refine ⟨⟨fun k k0 k1 => by omega, fun b b0 b1 => ?_, fun k k0 k1 => by omega, ?_, m5⟩, fun z => ?_⟩
    · rcases m2 b b0 b1 with e | ⟨k, x, y, _⟩
      · exact Or.inl e
      · omega
    · rw [← z9]; exact m4
    · rw [ev 3 j 7 (by decide)] at z
      rw [ev 5 j 0 (by decide)]
      have := X.1.2.2.1 0 (Int.le_refl _) z
      exact this.1
  · refine ⟨by rw [e0 3 (by decide)]; exact n1, by rw [e0 5 (by decide)]; exact n2, ?_, ?_⟩
    · rw [e0 8 (by decide), e9]; omega
    · rw [e0 10 (by decide)]; omega
  · obtain ⟨s1, s2, s3, s4, s5, s6, s7, s8, s9, s10⟩ := S
    have z11 := s4 (by omega)
    have z13 := s5 (by omega)
    have z14 := s6 (by omega)
    unfold InvS
    simp only [e9, e0 4 (by decide), e0 8 (by decide), e0 11 (by decide), e0 12 (by decide), e0 13 (by decide), e0 14 (by decide), e0 17 (by decide), ee, eh, ec 2 _ _ (by decide) (by decide) (by decide) (by decide)]
    refine ⟨s1, s2, s3, fun _ => z11, fun _ => z13, fun _ => z14, s7, s8, s9, fun b h => ?_⟩
    have Y := s10 b h
    exact ⟨Y.1, Y.2.1, fun z => by have := Y.2.2 z; omega⟩
  · unfold InvB
    simp only [e0 4 (by decide), e0 8 (by decide), ec 2 _ _ (by decide) (by decide) (by decide) (by decide)]
    exact ⟨fun b a d => by have := B.1 b a d; exact ⟨this.1, this.2.1, this.2.2.1, by omega⟩, B.2⟩
  · unfold InvJ
    simp only [e9, e3 _ 0 (by decide) (by decide), e3 _ 15 (by decide) (by decide), ec 7 _ _ (by decide) (by decide) (by decide) (by decide)]
    exact ⟨K.1, fun j a b => ⟨fun z => absurd z (by decide), fun _ => (K.2 j a b).2.1 (by omega), (K.2 j a b).2.2⟩⟩
  · unfold InvQ coins used stockAll m_soldEver m_entCount m_quota
    simp only [e0 4 (by decide), e0 12 (by decide), ec 1 _ _ (by decide) (by decide) (by decide) (by decide), ec 2 _ _ (by decide) (by decide) (by decide) (by decide), eh, funext ee]
    exact Q
end PRE

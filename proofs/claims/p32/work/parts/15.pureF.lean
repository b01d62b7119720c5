section PST0
/-! the fresh object -/
def m_g0 : m_St := fun c _ i => if c = 0 then (if i = 14 ∨ i = 15 then -1 else 0) else if c = 1 then (if i = 0 then 100 else 0) else if c = 2 then (if i = 7 then -1 else 0) else if c = 6 then -1 else if c = 9 then (if i = 0 then 7 else if i = 1 then 100 else if i = 2 then 800 else if i = 3 then 10 else 0) else 0
def Fresh (g : m_St) : Prop := g 0 0 4 = 0 ∧ g 0 0 8 = 0 ∧ g 0 0 9 = 0 ∧ g 0 0 10 = 0 ∧ g 0 0 12 = 0 ∧ ∀ h, g 1 h 0 = 100 ∧ g 1 h 1 = 0
theorem zero_sum : ∀ n : Nat, m_sm (fun _ => (0 : Int)) n = 0
  | 0 => rfl
  | n + 1 => by show m_sm _ n + 0 = 0; rw [zero_sum n]; rfl
theorem iv_start : Iv 0 0 0 0 0 0 m_g0 ∧ Fresh m_g0 := by
  refine ⟨⟨⟨?_, ?_, ?_, ?_, ?_, ?_, ?_⟩, ?_, ?_, ?_, ?_, ?_, ?_, ?_⟩, ?_⟩
  · simp [Wn, m_g0]
  · simp [Ws, m_g0]
  · intro h _ _; simp [m_g0]
  · intro b _ _; simp [m_g0]
  · intro j _ _; simp [m_g0]
  · intro j k _ _ _ _; simp [m_g0]
  · intro k _ _; simp [m_g0]
  · intro j a b
    have z7 : m_g0 3 j 7 = 0 := rfl
    have z9 : m_g0 3 j 9 = 0 := rfl
    refine ⟨⟨fun k x y => by omega, fun k x y => by omega, fun k x y => by omega, fun k x y => by omega, fun x => by omega, fun _ => rfl⟩, ⟨⟨fun k x y => by omega, fun x _ _ => Or.inl rfl, fun k x y => by omega, (show (0 : Int) = m_cnt (fun _ => (-1 : Int) != -1) 16 by decide), (show (0 : Int) = m_sm (fun _ => max 0 (-1)) 16 by decide)⟩, fun x => by omega⟩⟩
  · intro b
    refine ⟨0, Int.le_refl _, by decide, fun j k _ _ b0 b1 _ => ?_⟩
    have z7 : m_g0 3 j 7 = 0 := rfl
    omega
  · simp [InvN, m_g0]
  · refine ⟨fun b h => ?_, fun b h => h, Or.inl rfl, fun _ => rfl, fun _ => rfl, fun _ => rfl, by decide, fun h => by show (0 : Int) ≤ 2; decide, fun b h => ?_, fun b h => ?_⟩
    · have : m_has 0 b = true := h
      rw [has_z] at this; cases this
    · have : m_has 0 b = true := h
      rw [has_z] at this; cases this
    · have : m_has 0 b = true := h
      rw [has_z] at this; cases this
  · refine ⟨fun b a d => ?_, fun b _ _ => ⟨rfl, rfl, rfl, rfl⟩⟩
    have : b < 0 := d
    omega
  · exact ⟨fun j a b => by omega, fun j a b => ⟨fun _ => rfl, fun _ => rfl, (show m_sm (fun _ => (0 : Int)) 16 ≤ 12 by decide)⟩⟩
  · exact ⟨rfl, rfl, rfl, fun h a b => by omega⟩
  · exact ⟨rfl, rfl, rfl, rfl, rfl, fun h => ⟨rfl, rfl⟩⟩
theorem inv_house {H J : Int} {g : m_St} (h : Iv H J 0 0 0 0 g) (f : Fresh g) (hH : 0 ≤ H ∧ H < 5) : Iv (H + 1) J 0 0 0 0 (m_up g 0 0 3 (g 0 0 3 + 1)) ∧ Fresh (m_up g 0 0 3 (g 0 0 3 + 1)) := by
  obtain ⟨W, R, C, N, S, B, K, Q⟩ := h
  obtain ⟨f1, f2, f3, f4, f6, f5⟩ := f
  obtain ⟨n1, n2, n3, n4⟩ := N
  refine ⟨⟨W.house (by omega), R, C, ⟨?_, n2, n3, n4⟩, S, ⟨fun b a d => ?_, B.2⟩, K, ?_⟩, ⟨f1, f2, f3, f4, f6, f5⟩⟩
  · rw [up_s, n1]
  · have : b < g 0 0 4 := d
    omega
  · obtain ⟨q1, q2, q3, q4⟩ := Q
    have e : (H + 1).toNat = H.toNat + 1 := by omega
    refine ⟨?_, q2, ?_, fun x a d => ?_⟩
    · show m_sm (fun h => g 1 h 0) (H + 1).toNat = 100 * (H + 1) - 0 + m_soldEver g
      rw [e]
      show m_sm (fun h => g 1 h 0) H.toNat + g 1 (H.toNat : Int) 0 = _
      rw [(f5 _).1]
      have q1' : m_sm (fun h => g 1 h 0) H.toNat = 100 * H - 0 + m_soldEver g := q1
      omega
    · show m_entCount g = m_sm (fun h => g 1 h 1) (H + 1).toNat + 0
      rw [e]
      show m_entCount g = m_sm (fun h => g 1 h 1) H.toNat + g 1 (H.toNat : Int) 1 + 0
      rw [(f5 _).2]
      have q3' : m_entCount g = m_sm (fun h => g 1 h 1) H.toNat + 0 := q3
      omega
    · show g 1 x 1 ≤ m_quota g x
      rw [(f5 x).2]
      have := quota_b g x W.bc.1
      omega
theorem judge_c (g : m_St) (s t l : Int) (c : Nat) (k i : Int) (h0 : c ≠ 0) (h3 : c ≠ 3) : m_judge g s t l c k i = g c k i := by simp [m_judge, m_up, h0, h3]
theorem judge_0 (g : m_St) (s t l : Int) (i : Int) (h : i ≠ 5) : m_judge g s t l 0 0 i = g 0 0 i := by simp [m_judge, m_up, h]
theorem judge_3 (g : m_St) (s t l : Int) (k i : Int) (h : 3 ≤ i) : m_judge g s t l 3 k i = g 3 k i := by
  have e0 : i ≠ 0 := by omega
  have e1 : i ≠ 1 := by omega
  have e2 : i ≠ 2 := by omega
  simp [m_judge, m_up, e0, e1, e2]
theorem inv_judge {H J s t l : Int} {g : m_St} (h : Iv H J 0 0 0 0 g) (f : Fresh g) (hJ : 0 ≤ J ∧ J < 5) (h0 : 40 ≤ s ∧ s ≤ 200) (h1 : 0 ≤ t ∧ t ≤ 9) (h2 : -10 ≤ l ∧ l ≤ 10) : Iv H (J + 1) 0 0 0 0 (m_judge g s t l) ∧ Fresh (m_judge g s t l) := by
  obtain ⟨W, R, C, N, S, B, K, Q⟩ := h
  obtain ⟨f1, f2, f3, f4, f6, f5⟩ := f
  obtain ⟨n1, n2, n3, n4⟩ := N
  have ee : ∀ x, m_ent (m_judge g s t l) x = m_ent g x := fun x => by unfold m_ent; rw [judge_c _ _ _ _ 2 _ _ (by decide) (by decide), judge_0 _ _ _ _ 8 (by decide)]
  have eh : ∀ h S, m_coh (m_judge g s t l) h S = m_coh g h S := fun h S => by unfold m_coh; rw [judge_0 _ _ _ _ 4 (by decide)]; simp only [judge_c _ _ _ _ 2 _ _ (by decide) (by decide)]
  refine ⟨⟨W.judge (by omega) ⟨by omega, h0.2⟩ h1 h2, R.same (fun j i a => judge_3 _ _ _ _ _ _ (by omega)) (fun _ _ => judge_c _ _ _ _ _ _ _ (by decide) (by decide)) (fun _ _ => judge_c _ _ _ _ _ _ _ (by decide) (by decide)) (fun _ _ => judge_c _ _ _ _ _ _ _ (by decide) (by decide)) (fun x _ _ a => (ee x).trans a) (by rw [judge_0 _ _ _ _ 4 (by decide)]; exact Int.le_refl _), fun b => (C b).same (fun j => judge_3 _ _ _ _ _ _ (by decide)) (fun _ _ => judge_c _ _ _ _ _ _ _ (by decide) (by decide)), ⟨?_, ?_, ?_, ?_⟩, ?_, ?_, ?_, ?_⟩, ?_⟩
  · rw [judge_0 _ _ _ _ 3 (by decide)]; exact n1
  · have : m_judge g s t l 0 0 5 = g 0 0 5 + 1 := up_s _ _ _ _ _
    rw [this, n2]
  · rw [judge_0 _ _ _ _ 8 (by decide), judge_0 _ _ _ _ 9 (by decide)]; exact n3
  · rw [judge_0 _ _ _ _ 10 (by decide)]; exact n4
  · unfold InvS
    simp only [judge_0 _ _ _ _ 4 (by decide), judge_0 _ _ _ _ 8 (by decide), judge_0 _ _ _ _ 9 (by decide), judge_0 _ _ _ _ 11 (by decide), judge_0 _ _ _ _ 12 (by decide), judge_0 _ _ _ _ 13 (by decide), judge_0 _ _ _ _ 14 (by decide), judge_0 _ _ _ _ 17 (by decide), judge_c _ _ _ _ 2 _ _ (by decide) (by decide), ee, eh]
    exact S
  · unfold InvB
    simp only [judge_0 _ _ _ _ 4 (by decide), judge_0 _ _ _ _ 8 (by decide), judge_c _ _ _ _ 2 _ _ (by decide) (by decide)]
    exact B
  · unfold InvJ
    simp only [judge_0 _ _ _ _ 9 (by decide), judge_3 _ _ _ _ _ 7 (by decide), judge_3 _ _ _ _ _ 15 (by decide), judge_c _ _ _ _ 7 _ _ (by decide) (by decide)]
    refine ⟨fun j a b => ?_, K.2⟩
    by_cases z : j = J
    · have : m_judge g s t l 3 j 0 = s := by simp [m_judge, m_up, z, n2]
      rw [this]; exact h0.1
    · have : m_judge g s t l 3 j 0 = g 3 j 0 := by simp [m_judge, m_up, show j ≠ g 0 0 5 by omega]
      rw [this]; exact K.1 j a (by omega)
  · unfold InvQ coins used stockAll m_soldEver m_entCount m_quota
    simp only [judge_0 _ _ _ _ 4 (by decide), judge_0 _ _ _ _ 12 (by decide), judge_c _ _ _ _ 1 _ _ (by decide) (by decide), judge_c _ _ _ _ 2 _ _ (by decide) (by decide), eh, funext ee]
    exact Q
  · unfold Fresh
    simp only [judge_0 _ _ _ _ 4 (by decide), judge_0 _ _ _ _ 8 (by decide), judge_0 _ _ _ _ 9 (by decide), judge_0 _ _ _ _ 10 (by decide), judge_0 _ _ _ _ 12 (by decide), judge_c _ _ _ _ 1 _ _ (by decide) (by decide)]
    exact ⟨f1, f2, f3, f4, f6, f5⟩
end PST0
section PNU
/-! the class's ints as whole numbers -/
def iI (z : Int) : Int32 := Int32.ofInt z
def RI (z : Int) : Prop := -2147483648 ≤ z ∧ z ≤ 2147483647
theorem iI_add (a b : Int) : iI a + iI b = iI (a + b) := (Int32.ofInt_add a b).symm
theorem iI_sub (a b : Int) : iI a - iI b = iI (a - b) := (Int32.ofInt_sub a b).symm
theorem iI_mul (a b : Int) : iI a * iI b = iI (a * b) := (Int32.ofInt_mul a b).symm
theorem iI_int {a : Int} (h : RI a) : (iI a).toInt = a := by
  unfold RI at h
  unfold iI
  exact Int32.toInt_ofInt_of_le (by omega) (by omega)
theorem iI_nat {a : Int} (h : RI a) : (iI a).toNatClampNeg = a.toNat := by
  unfold Int32.toNatClampNeg
  rw [iI_int h]
theorem iI_le {a b : Int} (ha : RI a) (hb : RI b) : iI a ≤ iI b ↔ a ≤ b := by
  rw [Int32.le_iff_toInt_le, iI_int ha, iI_int hb]
theorem iI_lt {a b : Int} (ha : RI a) (hb : RI b) : iI a < iI b ↔ a < b := by
  rw [Int32.lt_iff_toInt_lt, iI_int ha, iI_int hb]
theorem iI_eq {a b : Int} (ha : RI a) (hb : RI b) : iI a = iI b ↔ a = b := by
  constructor
  · intro h
    have := congrArg Int32.toInt h
    rwa [iI_int ha, iI_int hb] at this
  · intro h; rw [h]
theorem iI_of (x : Int32) : iI x.toInt = x := Int32.ofInt_toInt x
theorem iI_div {a b : Int} (ha : RI a) (hb : RI b) : iI a / iI b = iI (a.tdiv b) := (Int32.ofInt_tdiv ha.1 ha.2 hb.1 hb.2).symm
theorem iI_mod {a b : Int} (ha : RI a) (hb : RI b) : iI a % iI b = iI (a.tmod b) := (Int32.ofInt_tmod ha.1 ha.2 hb.1 hb.2).symm
theorem iI_bv (a : Nat) : (iI a).toBitVec = BitVec.ofNat 32 a := by
  unfold iI
  rw [Int32.toBitVec_ofInt]
  exact BitVec.ofInt_natCast 32 a
theorem iI_and (a b : Nat) : iI a &&& iI b = iI ((a &&& b : Nat) : Int) := by
  apply Int32.toBitVec_inj.mp
  rw [Int32.toBitVec_and, iI_bv, iI_bv, iI_bv]
  apply BitVec.eq_of_toNat_eq
  simp
theorem iI_or (a b : Nat) : iI a ||| iI b = iI ((a ||| b : Nat) : Int) := by
  apply Int32.toBitVec_inj.mp
  rw [Int32.toBitVec_or, iI_bv, iI_bv, iI_bv]
  apply BitVec.eq_of_toNat_eq
  simp
theorem iI_xor (a b : Nat) : iI a ^^^ iI b = iI ((a ^^^ b : Nat) : Int) := by
  apply Int32.toBitVec_inj.mp
  rw [Int32.toBitVec_xor, iI_bv, iI_bv, iI_bv]
  apply BitVec.eq_of_toNat_eq
  simp
theorem iI_bt0 : ∀ n : Nat, n < 32 → iI 1 <<< iI n = iI ((2 ^ n : Nat) : Int) := by decide +kernel
theorem iI_bt {n : Int} (h0 : 0 ≤ n) (h1 : n < 32) : iI 1 <<< iI n = iI (m_bt n) := by
  have := iI_bt0 n.toNat (by omega)
  rw [Int.toNat_of_nonneg h0] at this
  exact this
theorem iI_ba {S T : Int} (h : 0 ≤ S) (h' : 0 ≤ T) : iI S &&& iI T = iI (m_ba S T) := by
  have := iI_and S.toNat T.toNat
  rw [Int.toNat_of_nonneg h, Int.toNat_of_nonneg h'] at this
  exact this
theorem iI_bo {S T : Int} (h : 0 ≤ S) (h' : 0 ≤ T) : iI S ||| iI T = iI (m_bo S T) := by
  have := iI_or S.toNat T.toNat
  rw [Int.toNat_of_nonneg h, Int.toNat_of_nonneg h'] at this
  exact this
theorem iI_bd {S T : Int} (h : 0 ≤ S ∧ S < 2147483648) (h' : 0 ≤ T ∧ T < 2147483648) : iI S &&& (iI T ^^^ iI (-1)) = iI (m_bd S T) := by
  have e1 : iI (-1) = iI ((4294967295 : Nat) : Int) := by decide
  have e2 := iI_xor T.toNat 4294967295
  have e3 := iI_and S.toNat (T.toNat ^^^ 4294967295)
  rw [Int.toNat_of_nonneg h'.1] at e2
  rw [Int.toNat_of_nonneg h.1] at e3
  rw [e1, e2, e3]
  unfold m_bd
  congr 2
  apply Nat.eq_of_testBit_eq
  intro i
  rw [Nat.testBit_and, Nat.testBit_xor, Nat.testBit_xor, Nat.testBit_and, show (4294967295 : Nat) = 2 ^ 32 - 1 from rfl, Nat.testBit_two_pow_sub_one]
  by_cases z : i < 32
  · rw [decide_eq_true z]
    cases S.toNat.testBit i <;> cases T.toNat.testBit i <;> rfl
  · have : S.toNat.testBit i = false := Nat.testBit_lt_two_pow (Nat.lt_of_lt_of_le (show S.toNat < 2 ^ 32 by omega) (Nat.pow_le_pow_right (by decide) (by omega)))
    rw [this]; simp
theorem ba_z (S n : Int) (h : 0 ≤ n) : m_ba S (m_bt n) = 0 ↔ m_has S n = false := by
  constructor
  · intro e
    have := has_ba S (m_bt n) n
    rw [e, has_z, has_bt h, decide_eq_true rfl, Bool.and_true] at this
    exact this.symm
  · intro e
    refine set_z (ba_nn _ _) (fun k => ?_)
    rw [has_ba, has_bt h]
    by_cases z : k = n
    · rw [z, e]; rfl
    · rw [decide_eq_false z, Bool.and_false]
theorem bt_lt {n : Int} (h0 : 0 ≤ n) (h1 : n < 31) : m_bt n < 2147483648 := by
  have := set_lt (S := m_bt n) (k := 31) (bt_nn n) (fun k hk => by rw [has_bt h0] at hk; have := of_decide_eq_true hk; omega)
  exact this
theorem ba_le {S T : Int} (h : 0 ≤ S) : m_ba S T ≤ S := by
  have := @Nat.and_le_left S.toNat T.toNat
  unfold m_ba
  omega
/-- the test of a member, as the class makes it -/
theorem iI_has {S n : Int} (hS : 0 ≤ S ∧ S < 2147483648) (h0 : 0 ≤ n) (h1 : n < 31) : iI S &&& (iI 1 <<< iI n) = iI (m_ba S (m_bt n)) ∧ (iI (m_ba S (m_bt n)) = 0 ↔ m_has S n = false) := by
  rw [iI_bt h0 (by omega), iI_ba hS.1 (bt_nn n)]
  refine ⟨rfl, ?_⟩
  have a := ba_nn S (m_bt n)
  have b := ba_le (T := m_bt n) hS.1
  rw [← ba_z S n h0, show (0 : Int32) = iI 0 from rfl, iI_eq ⟨by omega, by omega⟩ ⟨by decide, by decide⟩]
def bi (c : Bool) : Int32 := bif c then 1 else 0
theorem bi_z (c : Bool) : bi c = 0 ↔ c = false := by cases c <;> decide
theorem bi_i (c : Bool) : bi c = iI (m_ib c) := by cases c <;> decide
end PNU
section POR
/-- the order that the law tells: the places from f on, around -/
def lawOrder (n f : Int) : Nat → Int
  | 0 => 0
  | k + 1 => 10 * lawOrder n f k + 1 + (f + k).tmod n
theorem lawOrder_ok : ∀ n : Nat, n < 6 → ∀ f : Nat, f < n → m_orderOk n n 0 (lawOrder n f n) = true ∧ 0 ≤ lawOrder n f n ∧ lawOrder n f n ≤ 99999 := by decide +kernel
theorem isOrder_law {H J t p q c f : Int} {g : m_St} (h : Iv H J t p q c g) (h0 : 0 < m_pcn (g 0 0 13)) (hf : 0 ≤ f ∧ f < m_pcn (g 0 0 13)) : m_isOrder g (lawOrder (m_pcn (g 0 0 13)) f (m_pcn (g 0 0 13)).toNat) = true ∧ 0 ≤ lawOrder (m_pcn (g 0 0 13)) f (m_pcn (g 0 0 13)).toNat ∧ lawOrder (m_pcn (g 0 0 13)) f (m_pcn (g 0 0 13)).toNat ≤ 99999 := by
  have s7 := h.2.2.2.2.1.2.2.2.2.2.2.1
  have L := lawOrder_ok (m_pcn (g 0 0 13)).toNat (by omega) f.toNat (by omega)
  rw [Int.toNat_of_nonneg (Int.le_of_lt h0), Int.toNat_of_nonneg hf.1] at L
  refine ⟨?_, L.2⟩
  unfold m_isOrder
  rw [L.1, decide_eq_true h0]
  rfl
/-- a set with a member has a count -/
theorem pcn_pos {S : Int} (h0 : 0 ≤ S ∧ S < 65536) (h : S ≠ 0) : 0 < m_pcn S := by
  obtain ⟨b, hb⟩ := set_ne h0.1 h
  exact cnt_pos (p := fun i => m_has S i) (has_nn hb) (set_16 h0.2 hb) hb
theorem pcn_zero : m_pcn 0 = 0 := by decide
end POR

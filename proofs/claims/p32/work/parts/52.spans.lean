section SPN
theorem Wf.m3 {g : m_St} (h : Wf g) : 0 ≤ g 0 0 3 ∧ g 0 0 3 ≤ 5 := h.1.1
theorem Wf.m4 {g : m_St} (h : Wf g) : 0 ≤ g 0 0 4 ∧ g 0 0 4 ≤ 16 := h.1.2.1
theorem Wf.m5 {g : m_St} (h : Wf g) : 0 ≤ g 0 0 5 ∧ g 0 0 5 ≤ 5 := h.1.2.2.1
theorem Wf.m8 {g : m_St} (h : Wf g) : 0 ≤ g 0 0 8 ∧ g 0 0 8 ≤ 20 := h.1.2.2.2.1
theorem Wf.m9 {g : m_St} (h : Wf g) : 0 ≤ g 0 0 9 ∧ g 0 0 9 ≤ 4 := h.1.2.2.2.2.1
theorem Wf.m10 {g : m_St} (h : Wf g) : 0 ≤ g 0 0 10 ∧ g 0 0 10 ≤ 9999 := h.1.2.2.2.2.2.1
theorem Wf.m14 {g : m_St} (h : Wf g) : -1 ≤ g 0 0 14 ∧ g 0 0 14 ≤ 15 := h.1.2.2.2.2.2.2.1
theorem Wf.m15 {g : m_St} (h : Wf g) : -1 ≤ g 0 0 15 ∧ g 0 0 15 ≤ 15 := h.1.2.2.2.2.2.2.2
theorem Wf.m11 {g : m_St} (h : Wf g) : 0 ≤ g 0 0 11 ∧ g 0 0 11 < 65536 := h.2.1.1
theorem Wf.m12 {g : m_St} (h : Wf g) : 0 ≤ g 0 0 12 ∧ g 0 0 12 < 65536 := h.2.1.2.1
theorem Wf.m13 {g : m_St} (h : Wf g) : 0 ≤ g 0 0 13 ∧ g 0 0 13 < 65536 := h.2.1.2.2.1
theorem Wf.m16 {g : m_St} (h : Wf g) : 0 ≤ g 0 0 16 ∧ g 0 0 16 < 65536 := h.2.1.2.2.2.1
theorem Wf.m17 {g : m_St} (h : Wf g) : 0 ≤ g 0 0 17 ∧ g 0 0 17 < 65536 := h.2.1.2.2.2.2
theorem Wf.h1 {g : m_St} (h : Wf g) {k : Int} (h0 : 0 ≤ k) (h1 : k < 5) : 0 ≤ g 1 k 1 ∧ g 1 k 1 ≤ 16 := h.2.2.1 k h0 h1
theorem Wf.b0 {g : m_St} (h : Wf g) {k : Int} (h0 : 0 ≤ k) (h1 : k < 16) : 0 ≤ g 2 k 0 ∧ g 2 k 0 ≤ 4 := (h.2.2.2.1 k h0 h1).1
theorem Wf.b1 {g : m_St} (h : Wf g) {k : Int} (h0 : 0 ≤ k) (h1 : k < 16) : 0 ≤ g 2 k 1 ∧ g 2 k 1 ≤ 9 := (h.2.2.2.1 k h0 h1).2.1
theorem Wf.b2 {g : m_St} (h : Wf g) {k : Int} (h0 : 0 ≤ k) (h1 : k < 16) : 0 ≤ g 2 k 2 ∧ g 2 k 2 ≤ 2 := (h.2.2.2.1 k h0 h1).2.2.1
theorem Wf.b3 {g : m_St} (h : Wf g) {k : Int} (h0 : 0 ≤ k) (h1 : k < 16) : 0 ≤ g 2 k 3 ∧ g 2 k 3 ≤ 900 := (h.2.2.2.1 k h0 h1).2.2.2.1
theorem Wf.b4 {g : m_St} (h : Wf g) {k : Int} (h0 : 0 ≤ k) (h1 : k < 16) : 0 ≤ g 2 k 4 ∧ g 2 k 4 ≤ 60 := (h.2.2.2.1 k h0 h1).2.2.2.2.1
theorem Wf.b5 {g : m_St} (h : Wf g) {k : Int} (h0 : 0 ≤ k) (h1 : k < 16) : 0 ≤ g 2 k 5 ∧ g 2 k 5 ≤ 9 := (h.2.2.2.1 k h0 h1).2.2.2.2.2.1
theorem Wf.b6 {g : m_St} (h : Wf g) {k : Int} (h0 : 0 ≤ k) (h1 : k < 16) : 0 ≤ g 2 k 6 ∧ g 2 k 6 ≤ 20 := (h.2.2.2.1 k h0 h1).2.2.2.2.2.2.1
theorem Wf.b7 {g : m_St} (h : Wf g) {k : Int} (h0 : 0 ≤ k) (h1 : k < 16) : -1 ≤ g 2 k 7 ∧ g 2 k 7 ≤ 20 := (h.2.2.2.1 k h0 h1).2.2.2.2.2.2.2.1
theorem Wf.b8 {g : m_St} (h : Wf g) {k : Int} (h0 : 0 ≤ k) (h1 : k < 16) : 0 ≤ g 2 k 8 ∧ g 2 k 8 ≤ 9999 := (h.2.2.2.1 k h0 h1).2.2.2.2.2.2.2.2
theorem Wf.j0 {g : m_St} (h : Wf g) {k : Int} (h0 : 0 ≤ k) (h1 : k < 5) : 0 ≤ g 3 k 0 ∧ g 3 k 0 ≤ 200 := by have := h.2.2.2.2.1 k h0 h1; omega
theorem Wf.j1 {g : m_St} (h : Wf g) {k : Int} (h0 : 0 ≤ k) (h1 : k < 5) : 0 ≤ g 3 k 1 ∧ g 3 k 1 ≤ 9 := by have := h.2.2.2.2.1 k h0 h1; omega
theorem Wf.j2 {g : m_St} (h : Wf g) {k : Int} (h0 : 0 ≤ k) (h1 : k < 5) : -10 ≤ g 3 k 2 ∧ g 3 k 2 ≤ 10 := by have := h.2.2.2.2.1 k h0 h1; omega
theorem Wf.j3 {g : m_St} (h : Wf g) {k : Int} (h0 : 0 ≤ k) (h1 : k < 5) : 0 ≤ g 3 k 3 ∧ g 3 k 3 < 1024 := by have := h.2.2.2.2.1 k h0 h1; omega
theorem Wf.j4 {g : m_St} (h : Wf g) {k : Int} (h0 : 0 ≤ k) (h1 : k < 5) : 0 ≤ g 3 k 4 ∧ g 3 k 4 ≤ 1 := by have := h.2.2.2.2.1 k h0 h1; omega
theorem Wf.j7 {g : m_St} (h : Wf g) {k : Int} (h0 : 0 ≤ k) (h1 : k < 5) : 0 ≤ g 3 k 7 ∧ g 3 k 7 ≤ 16 := by have := h.2.2.2.2.1 k h0 h1; omega
theorem Wf.j8 {g : m_St} (h : Wf g) {k : Int} (h0 : 0 ≤ k) (h1 : k < 5) : 0 ≤ g 3 k 8 ∧ g 3 k 8 ≤ 14400 ∧ g 3 k 8 ≤ 900 * g 3 k 7 := by have := h.2.2.2.2.1 k h0 h1; omega
theorem Wf.j9 {g : m_St} (h : Wf g) {k : Int} (h0 : 0 ≤ k) (h1 : k < 5) : 0 ≤ g 3 k 9 ∧ g 3 k 9 ≤ g 3 k 7 ∧ g 3 k 9 ≤ 16 := by have := h.2.2.2.2.1 k h0 h1; omega
theorem Wf.j10 {g : m_St} (h : Wf g) {k : Int} (h0 : 0 ≤ k) (h1 : k < 5) : 0 ≤ g 3 k 10 ∧ g 3 k 10 ≤ g 3 k 8 ∧ g 3 k 10 ≤ 14400 := by have := h.2.2.2.2.1 k h0 h1; omega
theorem Wf.j12 {g : m_St} (h : Wf g) {k : Int} (h0 : 0 ≤ k) (h1 : k < 5) : 0 ≤ g 3 k 12 ∧ g 3 k 12 ≤ 1584 ∧ g 3 k 12 ≤ 99 * g 3 k 9 := by have := h.2.2.2.2.1 k h0 h1; omega
theorem Wf.j15 {g : m_St} (h : Wf g) {k : Int} (h0 : 0 ≤ k) (h1 : k < 5) : 0 ≤ g 3 k 15 ∧ g 3 k 15 ≤ 5 := by have := h.2.2.2.2.1 k h0 h1; omega
theorem Wf.r4 {g : m_St} (h : Wf g) {j k : Int} (j0 : 0 ≤ j) (j1 : j < 5) (h0 : 0 ≤ k) (h1 : k < 16) : 0 ≤ g 4 j k ∧ g 4 j k ≤ 15 := by have := h.2.2.2.2.2.1 j k j0 j1 h0 h1; omega
theorem Wf.r5 {g : m_St} (h : Wf g) {j k : Int} (j0 : 0 ≤ j) (j1 : j < 5) (h0 : 0 ≤ k) (h1 : k < 16) : 0 ≤ g 5 j k ∧ g 5 j k ≤ 14400 := by have := h.2.2.2.2.2.1 j k j0 j1 h0 h1; omega
theorem Wf.r6 {g : m_St} (h : Wf g) {j k : Int} (j0 : 0 ≤ j) (j1 : j < 5) (h0 : 0 ≤ k) (h1 : k < 16) : -1 ≤ g 6 j k ∧ g 6 j k ≤ 99 := by have := h.2.2.2.2.2.1 j k j0 j1 h0 h1; omega
theorem Wf.r7 {g : m_St} (h : Wf g) {j k : Int} (j0 : 0 ≤ j) (j1 : j < 5) (h0 : 0 ≤ k) (h1 : k < 16) : 0 ≤ g 7 j k ∧ g 7 j k ≤ 12 := by have := h.2.2.2.2.2.1 j k j0 j1 h0 h1; omega
theorem Wf.r8 {g : m_St} (h : Wf g) {j k : Int} (j0 : 0 ≤ j) (j1 : j < 5) (h0 : 0 ≤ k) (h1 : k < 16) : -1 ≤ g 8 j k ∧ g 8 j k ≤ 15 := by have := h.2.2.2.2.2.1 j k j0 j1 h0 h1; omega
theorem Wf.u0 {g : m_St} (h : Wf g) {k : Int} (h0 : 0 ≤ k) (h1 : k < 2) : 0 ≤ g 9 k 0 ∧ g 9 k 0 ≤ 7 := by have := h.2.2.2.2.2.2 k h0 h1; omega
theorem Wf.u1 {g : m_St} (h : Wf g) {k : Int} (h0 : 0 ≤ k) (h1 : k < 2) : 0 ≤ g 9 k 1 ∧ g 9 k 1 ≤ 900 := by have := h.2.2.2.2.2.2 k h0 h1; omega
theorem Wf.u2 {g : m_St} (h : Wf g) {k : Int} (h0 : 0 ≤ k) (h1 : k < 2) : 0 ≤ g 9 k 2 ∧ g 9 k 2 ≤ 900 := by have := h.2.2.2.2.2.2 k h0 h1; omega
theorem Wf.u3 {g : m_St} (h : Wf g) {k : Int} (h0 : 0 ≤ k) (h1 : k < 2) : 0 ≤ g 9 k 3 ∧ g 9 k 3 ≤ 50 := by have := h.2.2.2.2.2.2 k h0 h1; omega
end SPN
section LEM
theorem bd_span {S T : Int} (h : 0 ≤ S) : 0 ≤ m_bd S T ∧ m_bd S T ≤ S := by
  refine ⟨bd_nn S T, ?_⟩
  have e : S.toNat ^^^ (S.toNat &&& T.toNat) = S.toNat &&& (S.toNat ^^^ (S.toNat &&& T.toNat)) := by
    apply Nat.eq_of_testBit_eq
    intro i
    simp only [Nat.testBit_and, Nat.testBit_xor]
    cases S.toNat.testBit i <;> cases T.toNat.testBit i <;> rfl
  have := @Nat.and_le_left S.toNat (S.toNat ^^^ (S.toNat &&& T.toNat))
  unfold m_bd
  rw [e]
  omega
theorem ba_f {S n : Int} (h0 : 0 ≤ n) (h : m_ba S (m_bt n) = 0) : m_has S n = false := (ba_z S n h0).mp h
theorem ba_t {S n : Int} (h0 : 0 ≤ n) (h : m_ba S (m_bt n) ≠ 0) : m_has S n = true := by
  cases e : m_has S n
  · exact absurd ((ba_z S n h0).mpr e) h
  · rfl
theorem bt_m1 {S : Int} (h : 0 ≤ S ∧ S < 2147483648) : iI S &&& (iI 1 <<< (iI (-1) &&& 31)) = iI 0 := by
  have e : iI 1 <<< (iI (-1) &&& 31) = iI ((2147483648 : Nat) : Int) := by decide
  have f := iI_and S.toNat 2147483648
  rw [Int.toNat_of_nonneg h.1] at f
  rw [e, f]
  have z : S.toNat &&& 2147483648 = 0 := by
    apply Nat.eq_of_testBit_eq
    intro i
    rw [Nat.testBit_and, show (2147483648 : Nat) = 2 ^ 31 from rfl, Nat.testBit_two_pow, Nat.zero_testBit]
    by_cases q : 31 = i
    · subst q
      rw [Nat.testBit_lt_two_pow (show S.toNat < 2 ^ 31 by omega)]; rfl
    · rw [decide_eq_false q, Bool.and_false]
  rw [z]; rfl
def m_cmp (x y : Int) : Int := if x < y then -1 else if x = y then 0 else 1
theorem cmp_b (x y : Int) : -1 ≤ m_cmp x y ∧ m_cmp x y ≤ 1 := by unfold m_cmp; split; omega; split <;> omega
theorem fdv_b {x y : Int} (h : 0 < y) (B : Int) (hx : -B ≤ x ∧ x ≤ B) (hB : 0 ≤ B) : -B - 1 ≤ m_fdv x y ∧ m_fdv x y ≤ B := by
  have t1 : -B ≤ x.tdiv y ∧ x.tdiv y ≤ B := by
    by_cases q : 0 ≤ x
    · have a1 := Int.tdiv_nonneg q (Int.le_of_lt h)
      have a2 := Int.tdiv_le_self y q
      omega
    · have e : x = -(-x) := by omega
      rw [e, Int.neg_tdiv]
      have a1 := Int.tdiv_nonneg (show 0 ≤ -x by omega) (Int.le_of_lt h)
      have a2 := Int.tdiv_le_self y (show 0 ≤ -x by omega)
      omega
  unfold m_fdv
  split <;> omega
theorem xor_neg {x y : Int} (rx : RI x) (ry : RI y) (h : 0 < y) : (iI x ^^^ iI y < 0) ↔ x < 0 := by
  have e : ∀ z : Int32, z < 0 ↔ z.toBitVec.msb = true := fun z => by
    rw [Int32.lt_iff_toInt_lt, ← Int32.toInt_toBitVec, BitVec.msb_eq_toInt]
    simp
  rw [e, Int32.toBitVec_xor, BitVec.msb_xor]
  have hy : (iI y).toBitVec.msb = false := by
    cases q : (iI y).toBitVec.msb
    · rfl
    · have := (e (iI y)).mpr q
      rw [iI_0, iI_lt ry RI_0] at this
      omega
  rw [hy, Bool.xor_false, ← e, iI_0, iI_lt rx RI_0]
theorem ent_b {g : m_St} (W : Wf g) : 0 ≤ m_entCount g ∧ m_entCount g ≤ 16 := by
  have a := cnt_nn (m_ent g) (g 0 0 4).toNat
  have b := cnt_le (m_ent g) (g 0 0 4).toNat
  have c := W.m4
  unfold m_entCount
  omega
theorem cnt5 {g : m_St} (W : Wf g) (p : Int → Bool) : 0 ≤ m_cnt p (g 0 0 5).toNat ∧ m_cnt p (g 0 0 5).toNat ≤ 5 := by
  have a := cnt_nn p (g 0 0 5).toNat
  have b := cnt_le p (g 0 0 5).toNat
  have c := W.m5
  omega
theorem coh_16 {g : m_St} (W : Wf g) (h S : Int) : 0 ≤ m_coh g h S ∧ m_coh g h S ≤ 16 := by
  have a := coh_b g h S W.m4.1
  have c := W.m4
  omega
theorem m_ib_b (c : Bool) : 0 ≤ m_ib c ∧ m_ib c ≤ 1 := ⟨ib_nn c, ib_le c⟩
end LEM

section PCN
/-! Integer.bitCount below 2^16: its arithmetic, told over whole numbers, and looked through -/
def sh32 (x : Int32) (k : Int) : Int32 := (x.toUInt32 >>> ((iI k).toUInt32 &&& Int32.toUInt32 31)).toInt32
def bc1 (x : Int32) : Int32 := x - (sh32 x 1 &&& (1431655765 : Int32))
def bc2 (x : Int32) : Int32 := (x &&& (858993459 : Int32)) + (sh32 x 2 &&& (858993459 : Int32))
def bc3 (x : Int32) : Int32 := (x + sh32 x 4) &&& (252645135 : Int32)
def bc4 (x : Int32) : Int32 := x + sh32 x 8
def bc5 (x : Int32) : Int32 := x + sh32 x 16
def bcf (x : Int32) : Int32 := bc5 (bc4 (bc3 (bc2 (bc1 x)))) &&& iI 63
theorem sh_n {n k : Nat} (hn : n < 4294967296) (hb : (((iI (k : Int)).toUInt32 &&& Int32.toUInt32 31).toBitVec % 32).toNat = k) : sh32 (iI (n : Int)) k = iI ((n >>> k : Nat) : Int) := by
  apply Int32.toBitVec_inj.mp
  rw [iI_bv]
  show ((iI (n : Int)).toUInt32 >>> ((iI (k : Int)).toUInt32 &&& Int32.toUInt32 31)).toBitVec = _
  rw [UInt32.toBitVec_shiftRight]
  apply BitVec.eq_of_toNat_eq
  rw [BitVec.ushiftRight_eq', BitVec.toNat_ushiftRight, hb]
  have e : (iI (n : Int)).toUInt32.toBitVec = BitVec.ofNat 32 n := iI_bv n
  rw [e, BitVec.toNat_ofNat, BitVec.toNat_ofNat, Nat.mod_eq_of_lt (show n < 2 ^ 32 from hn)]
  have := Nat.shiftRight_le n k
  rw [Nat.mod_eq_of_lt (show n >>> k < 2 ^ 32 by omega)]
def nb1 (n : Nat) : Nat := n - (n >>> 1 &&& 1431655765)
def nb2 (n : Nat) : Nat := (n &&& 858993459) + (n >>> 2 &&& 858993459)
def nb3 (n : Nat) : Nat := (n + n >>> 4) &&& 252645135
def nb4 (n : Nat) : Nat := n + n >>> 8
def nb5 (n : Nat) : Nat := n + n >>> 16
def nbf (n : Nat) : Nat := nb5 (nb4 (nb3 (nb2 (nb1 n)))) &&& 63
theorem bc1_n {n : Nat} (h : n < 65536) : bc1 (iI (n : Int)) = iI (nb1 n : Nat) ∧ nb1 n < 65536 := by
  have a1 := @Nat.and_le_left (n >>> 1) 1431655765
  have a2 := Nat.shiftRight_le n 1
  unfold bc1 nb1
  refine ⟨?_, by omega⟩
  have e := sh_n (n := n) (k := 1) (by omega) (by decide)
  rw [show sh32 (iI (n : Int)) 1 = _ from e, show (1431655765 : Int32) = iI ((1431655765 : Nat) : Int) from rfl, iI_and, iI_sub]
  congr 1
  omega
theorem bc2_n {n : Nat} (h : n < 65536) : bc2 (iI (n : Int)) = iI (nb2 n : Nat) ∧ nb2 n < 131072 := by
  have a1 := @Nat.and_le_left n 858993459
  have a2 := @Nat.and_le_left (n >>> 2) 858993459
  have a3 := Nat.shiftRight_le n 2
  unfold bc2 nb2
  refine ⟨?_, by omega⟩
  have e := sh_n (n := n) (k := 2) (by omega) (by decide)
  rw [show sh32 (iI (n : Int)) 2 = _ from e, show (858993459 : Int32) = iI ((858993459 : Nat) : Int) from rfl, iI_and, iI_and, iI_add]
  congr 1
theorem bc3_n {n : Nat} (h : n < 131072) : bc3 (iI (n : Int)) = iI (nb3 n : Nat) ∧ nb3 n < 262144 := by
  have a1 := @Nat.and_le_left (n + n >>> 4) 252645135
  have a3 := Nat.shiftRight_le n 4
  unfold bc3 nb3
  refine ⟨?_, by omega⟩
  have e := sh_n (n := n) (k := 4) (by omega) (by decide)
  rw [show sh32 (iI (n : Int)) 4 = _ from e, show (252645135 : Int32) = iI ((252645135 : Nat) : Int) from rfl, iI_add, show (n : Int) + ((n >>> 4 : Nat) : Int) = ((n + n >>> 4 : Nat) : Int) from rfl, iI_and]
theorem bc4_n {n : Nat} (h : n < 262144) : bc4 (iI (n : Int)) = iI (nb4 n : Nat) ∧ nb4 n < 524288 := by
  have a3 := Nat.shiftRight_le n 8
  unfold bc4 nb4
  refine ⟨?_, by omega⟩
  have e := sh_n (n := n) (k := 8) (by omega) (by decide)
  rw [show sh32 (iI (n : Int)) 8 = _ from e, iI_add]
  congr 1
theorem bc5_n {n : Nat} (h : n < 524288) : bc5 (iI (n : Int)) = iI (nb5 n : Nat) := by
  unfold bc5 nb5
  have e := sh_n (n := n) (k := 16) (by omega) (by decide)
  rw [show sh32 (iI (n : Int)) 16 = _ from e, iI_add]
  congr 1
theorem bcf_n {n : Nat} (h : n < 65536) : bcf (iI (n : Int)) = iI (nbf n : Nat) := by
  have q1 := bc1_n h
  have q2 := bc2_n q1.2
  have q3 := bc3_n q2.2
  have q4 := bc4_n q3.2
  have q5 := bc5_n q4.2
  unfold bcf nbf
  rw [q1.1, q2.1, q3.1, q4.1, q5, show iI 63 = iI ((63 : Nat) : Int) from rfl, iI_and]
/-- the bits, one by one -/
def bsum (n : Nat) : Nat := n % 2 + ((n >>> 1) % 2 + ((n >>> 2) % 2 + ((n >>> 3) % 2 + ((n >>> 4) % 2 + ((n >>> 5) % 2 + ((n >>> 6) % 2 + ((n >>> 7) % 2 + ((n >>> 8) % 2 + ((n >>> 9) % 2 + ((n >>> 10) % 2 + ((n >>> 11) % 2 + ((n >>> 12) % 2 + ((n >>> 13) % 2 + ((n >>> 14) % 2 + (n >>> 15) % 2))))))))))))))
theorem ib_bit (n k : Nat) : m_ib (m_has (n : Int) (k : Int)) = (((n >>> k) % 2 : Nat) : Int) := by
  have e : m_has (n : Int) (k : Int) = n.testBit k := by
    unfold m_has
    rw [decide_eq_true (Int.natCast_nonneg k), Bool.true_and]
    rfl
  rw [e, Nat.testBit_eq_decide_div_mod_eq, Nat.shiftRight_eq_div_pow]
  have := Nat.mod_lt (n / 2 ^ k) (show 2 > 0 by decide)
  by_cases q : n / 2 ^ k % 2 = 1
  · rw [decide_eq_true q, q]; rfl
  · rw [decide_eq_false q, show n / 2 ^ k % 2 = 0 by omega]; rfl
theorem bsum_pcn (n : Nat) : (bsum n : Int) = m_pcn n := by
  have b := ib_bit n
  have b0 := b 0; have b1 := b 1; have b2 := b 2; have b3 := b 3; have b4 := b 4; have b5 := b 5; have b6 := b 6; have b7 := b 7
  have b8 := b 8; have b9 := b 9; have b10 := b 10; have b11 := b 11; have b12 := b 12; have b13 := b 13; have b14 := b 14; have b15 := b 15
  rw [Nat.shiftRight_zero] at b0
  have e : m_pcn (n : Int) = (((((((((((((((0 + m_ib (m_has (n : Int) ((0 : Nat) : Int))) + m_ib (m_has (n : Int) ((1 : Nat) : Int))) + m_ib (m_has (n : Int) ((2 : Nat) : Int))) + m_ib (m_has (n : Int) ((3 : Nat) : Int))) + m_ib (m_has (n : Int) ((4 : Nat) : Int))) + m_ib (m_has (n : Int) ((5 : Nat) : Int))) + m_ib (m_has (n : Int) ((6 : Nat) : Int))) + m_ib (m_has (n : Int) ((7 : Nat) : Int))) + m_ib (m_has (n : Int) ((8 : Nat) : Int))) + m_ib (m_has (n : Int) ((9 : Nat) : Int))) + m_ib (m_has (n : Int) ((10 : Nat) : Int))) + m_ib (m_has (n : Int) ((11 : Nat) : Int))) + m_ib (m_has (n : Int) ((12 : Nat) : Int))) + m_ib (m_has (n : Int) ((13 : Nat) : Int))) + m_ib (m_has (n : Int) ((14 : Nat) : Int))) + m_ib (m_has (n : Int) ((15 : Nat) : Int)) := rfl
  rw [e, b0, b1, b2, b3, b4, b5, b6, b7, b8, b9, b10, b11, b12, b13, b14, b15]
  unfold bsum
  omega
def pchk : Nat → Nat → Bool
  | 0, _ => true
  | k + 1, n => Nat.beq (nbf n) (bsum n) && pchk k (n + 1)
theorem pchk_ok : ∀ (k n : Nat), pchk k n = true → ∀ x, n ≤ x → x < n + k → (nbf x : Int) = m_pcn x
  | 0, _, _, _, h1, h2 => absurd h2 (by omega)
  | k + 1, n, h, x, h1, h2 => by
    rw [pchk, Bool.and_eq_true] at h
    by_cases e : x = n
    · subst e; rw [Nat.eq_of_beq_eq_true h.1]; exact bsum_pcn x
    · exact pchk_ok k (n + 1) h.2 x (by omega) (by omega)
theorem pck_0 : pchk 4096 0 = true := by decide +kernel
theorem pck_1 : pchk 4096 4096 = true := by decide +kernel
theorem pck_2 : pchk 4096 8192 = true := by decide +kernel
theorem pck_3 : pchk 4096 12288 = true := by decide +kernel
theorem pck_4 : pchk 4096 16384 = true := by decide +kernel
theorem pck_5 : pchk 4096 20480 = true := by decide +kernel
theorem pck_6 : pchk 4096 24576 = true := by decide +kernel
theorem pck_7 : pchk 4096 28672 = true := by decide +kernel
theorem pck_8 : pchk 4096 32768 = true := by decide +kernel
theorem pck_9 : pchk 4096 36864 = true := by decide +kernel
theorem pck_10 : pchk 4096 40960 = true := by decide +kernel
theorem pck_11 : pchk 4096 45056 = true := by decide +kernel
theorem pck_12 : pchk 4096 49152 = true := by decide +kernel
theorem pck_13 : pchk 4096 53248 = true := by decide +kernel
theorem pck_14 : pchk 4096 57344 = true := by decide +kernel
theorem pck_15 : pchk 4096 61440 = true := by decide +kernel
theorem nbf_pcn {n : Nat} (h : n < 65536) : (nbf n : Int) = m_pcn n := by
  by_cases h0 : n < 4096
  · exact pchk_ok _ _ pck_0 n (by omega) (by omega)
  by_cases h1 : n < 8192
  · exact pchk_ok _ _ pck_1 n (by omega) (by omega)
  by_cases h2 : n < 12288
  · exact pchk_ok _ _ pck_2 n (by omega) (by omega)
  by_cases h3 : n < 16384
  · exact pchk_ok _ _ pck_3 n (by omega) (by omega)
  by_cases h4 : n < 20480
  · exact pchk_ok _ _ pck_4 n (by omega) (by omega)
  by_cases h5 : n < 24576
  · exact pchk_ok _ _ pck_5 n (by omega) (by omega)
  by_cases h6 : n < 28672
  · exact pchk_ok _ _ pck_6 n (by omega) (by omega)
  by_cases h7 : n < 32768
  · exact pchk_ok _ _ pck_7 n (by omega) (by omega)
  by_cases h8 : n < 36864
  · exact pchk_ok _ _ pck_8 n (by omega) (by omega)
  by_cases h9 : n < 40960
  · exact pchk_ok _ _ pck_9 n (by omega) (by omega)
  by_cases h10 : n < 45056
  · exact pchk_ok _ _ pck_10 n (by omega) (by omega)
  by_cases h11 : n < 49152
  · exact pchk_ok _ _ pck_11 n (by omega) (by omega)
  by_cases h12 : n < 53248
  · exact pchk_ok _ _ pck_12 n (by omega) (by omega)
  by_cases h13 : n < 57344
  · exact pchk_ok _ _ pck_13 n (by omega) (by omega)
  by_cases h14 : n < 61440
  · exact pchk_ok _ _ pck_14 n (by omega) (by omega)
  by_cases h15 : n < 65536
  · exact pchk_ok _ _ pck_15 n (by omega) (by omega)
  omega
theorem pcn_bits {S : Int} (h : 0 ≤ S ∧ S < 65536) : bcf (iI S) = iI (m_pcn S) := by
  have e := bcf_n (n := S.toNat) (by omega)
  have f := nbf_pcn (n := S.toNat) (by omega)
  rw [Int.toNat_of_nonneg h.1] at e f
  rw [e, f]
end PCN

section LER
theorem up_same (g : m_St) (c : Nat) (k i : Int) : m_up g c k i (g c k i) = g := by
  funext c' k' i'
  unfold m_up
  split
  · rename_i h; rw [h.1, h.2.1, h.2.2]
  · rfl
theorem up_up (g : m_St) (c : Nat) (k i x y : Int) : m_up (m_up g c k i x) c k i y = m_up g c k i y := by
  funext c' k' i'
  unfold m_up
  split
  · rfl
  · rfl
theorem Wf.s11 {g : m_St} {x : Int} (h : Wf g) (hx : 0 ≤ x ∧ x < 65536) : Wf (m_up g 0 0 11 x) := Wf.num h h.1 ⟨hx, h.2.1.2⟩
theorem Wf.s13 {g : m_St} {x : Int} (h : Wf g) (hx : 0 ≤ x ∧ x < 65536) : Wf (m_up g 0 0 13 x) := Wf.num h h.1 ⟨h.2.1.1, h.2.1.2.1, hx, h.2.1.2.2.2⟩
theorem Wf.s17 {g : m_St} {x : Int} (h : Wf g) (hx : 0 ≤ x ∧ x < 65536) : Wf (m_up g 0 0 17 x) := Wf.num h h.1 ⟨h.2.1.1, h.2.1.2.1, h.2.1.2.2.1, h.2.1.2.2.2.1, hx⟩
theorem Wf.up8 {g : m_St} {j k x : Int} (h : Wf g) (hx : -1 ≤ x ∧ x ≤ 15) : Wf (m_up g 8 j k x) := by
  obtain ⟨N, S, H, B, J, A, U⟩ := h
  refine ⟨N, S, H, B, J, ?_, U⟩
  intro i q i0 i1 k0 k1
  have X := A i q i0 i1 k0 k1
  refine ⟨X.1, X.2.1, X.2.2.1, X.2.2.2.1, ?_⟩
  have Y := X.2.2.2.2
  simp only [m_up]
  split <;> omega
theorem Wf.q1 {g : m_St} {hh : Int} (h : Wf g) (hx : g 1 hh 1 ≤ 15) : Wf (m_up g 1 hh 1 (g 1 hh 1 + 1)) := by
  obtain ⟨N, S, H, B, J, A, U⟩ := h
  refine ⟨N, S, ?_, B, J, A, U⟩
  intro k k0 k1
  have X := H k k0 k1
  by_cases e : k = hh
  · subst e
    simp [m_up]; omega
  · simp [m_up, e]; exact X
theorem Wf.j4u {g : m_St} {jj : Int} (h : Wf g) : Wf (m_up g 3 jj 4 1) := by
  obtain ⟨N, S, H, B, J, A, U⟩ := h
  refine ⟨N, S, H, B, ?_, A, U⟩
  intro k k0 k1
  have X := J k k0 k1
  by_cases e : k = jj
  · subst e
    simp [m_up]; omega
  · simp [m_up, e]; exact X
theorem ho_0 {g : m_St} {b : Int} (hW : Wf g) (hC : ∀ j, 0 ≤ j → j < 5 → Cj g j b ∧ g 3 j 7 ≤ b) : HO g b 0 (g, 0) := by
  refine ⟨hW, Int.le_refl _, (show m_pcn 0 ≤ 0 by decide), fun j h => ?_, fun _ _ _ _ _ _ => rfl, fun _ _ _ _ => rfl, fun j a c => ⟨(hC j a c).1.mono (by omega), fun _ => ⟨fun _ _ => rfl, (hC j a c).1⟩, ?_, fun _ _ _ => rfl, ?_, fun h => ?_⟩⟩
  · rw [has_z] at h; cases h
  · have := (hC j a c).2
    show g 3 j 7 ≤ b + 1
    omega
  · show g 3 j 7 = g 3 j 7 + m_ib (m_has 0 j)
    rw [has_z]; simp [m_ib]
  · rw [has_z] at h; cases h
theorem ho_lt {g v : m_St} {b x : Int} {n : Nat} (ho : HO g b n (v, x)) (hb : 0 ≤ b ∧ b < 16) (hcc : ∀ j, 0 ≤ j → j < 5 → g 3 j 7 ≤ b) (hne : m_lightest v x (v 2 b 1) ≠ -1) : v 3 (m_lightest v x (v 2 b 1)) 7 < 16 ∧ 0 ≤ m_lightest v x (v 2 b 1) ∧ m_lightest v x (v 2 b 1) < 5 := by
  have W : Wf v := ho.1
  have m5 := W.m5
  rcases light_in v x (v 2 b 1) m5.1 with e | ⟨e1, e2, e3⟩
  · exact absurd e hne
  · have X := ((ho.2.2.2.2.2.2 _ e1 (by omega)).2.1 e3).1 3 7
    have Y := hcc _ e1 (by omega)
    have X' : v 3 (m_lightest v x (v 2 b 1)) 7 = g 3 (m_lightest v x (v 2 b 1)) 7 := X
    exact ⟨by omega, e1, by omega⟩
theorem ho_x {g v : m_St} {b x : Int} {n : Nat} (ho : HO g b n (v, x)) : 0 ≤ x ∧ x < 65536 := ⟨ho.2.1, set_lt (k := 16) ho.2.1 (fun j hj => by have := ho.2.2.2.1 j hj; omega)⟩
def dayf (g : m_St) (j : Int) : Int := m_readJ (m_fo (fun j u => m_readJ u j) g j.toNat) j 3 j 9 - m_fo (fun j u => m_readJ u j) g j.toNat 3 j 9
def m_dayFin (g : m_St) : Int := if g 0 0 9 = 1 then m_sm (dayf g) (g 0 0 5).toNat else 0
def passf (g : m_St) (d : Int) : Int := m_dayFin (m_fo (fun _ u => m_readDay u) g d.toNat)
def m_enterRet (g : m_St) (b : Int) : Int := bif m_elig g b then (if m_quota g (g 2 b 0) ≤ g 1 (g 2 b 0) 1 then -3 else m_entCount (m_enter g b)) else -2
def m_callRet (g : m_St) (j b : Int) : Int := bif m_elig g b then (if g 3 j 4 ≠ 0 ∨ m_agn g j (g 2 b 1) = true then -3 else m_entCount (m_callIn g j b)) else -2
theorem flong_b {g : m_St} (W : Wf g) (mm : Int) : 0 ≤ m_fillLong g mm 16 (m_listable g) (g 0 0 11) ∧ m_fillLong g mm 16 (m_listable g) (g 0 0 11) < 65536 :=
  long_in g mm (fun L => 0 ≤ L ∧ L < 65536) (fun L b hl h0 h1 _ => bo_16 hl (by have := W.bc; omega) h0) 16 (m_listable g) (g 0 0 11) W.m11
theorem fshort_b {g : m_St} (W : Wf g) (n : Nat) : 0 ≤ m_fillShort g n (g 0 0 13) ∧ m_fillShort g n (g 0 0 13) < 65536 :=
  short_of g (fun L => 0 ≤ L ∧ L < 65536) (fun L b hl h0 h1 _ _ => bo_16 hl (by have := W.bc; omega) h0) n (g 0 0 13) W.m13
theorem next_c1 (g : m_St) (i : Int) : ∀ n : Nat, m_fo (fun h u => m_up u 1 h 1 0) g n 0 0 i = g 0 0 i
  | 0 => rfl
  | n + 1 => by
    show m_up (m_fo (fun h u => m_up u 1 h 1 0) g n) 1 n 1 0 0 0 i = _
    rw [up_c _ _ _ _ _ _ _ _ (by decide)]
    exact next_c1 g i n
theorem next_c2 (g : m_St) (i : Int) : ∀ n : Nat, m_fo (fun j u => m_clearYear j u) g n 0 0 i = g 0 0 i
  | 0 => rfl
  | n + 1 => by
    show m_clearYear n (m_fo (fun j u => m_clearYear j u) g n) 0 0 i = _
    rw [clear_at]
    simp
    exact next_c2 g i n
def dg (d : Int64) (x : Int) : Int64 := d * 31 + (iI x).toInt64
def m_dig1 (g : m_St) : Int64 := m_fo (fun w d => dg d (m_many g w)) 9117 15
def m_digH (g : m_St) (h : Int) (d : Int64) : Int64 := m_fo (fun w d => dg d (m_ofHouse g h w)) d 5
def m_digB (g : m_St) (b : Int) (d : Int64) : Int64 := dg (m_fo (fun w d => dg d (m_ofBook g b w)) d 11) (m_spoiled g b)
def m_digJ (g : m_St) (j : Int) (d : Int64) : Int64 := m_fo (fun b d => dg d (g 6 j b)) (m_fo (fun w d => dg d (m_ofJudge g j w)) d 8) (g 0 0 4).toNat
def m_dig2 (g : m_St) : Int64 := m_fo (m_digH g) (m_dig1 g) (g 0 0 3).toNat
def m_dig3 (g : m_St) : Int64 := m_fo (m_digB g) (m_dig2 g) (g 0 0 4).toNat
def m_dig4 (g : m_St) : Int64 := m_fo (m_digJ g) (m_dig3 g) (g 0 0 5).toNat
def m_digest (g : m_St) : Int64 := dg (dg (dg (dg (dg (m_dig4 g) (m_winner g 0 0)) (m_winner g 0 1)) (m_beatsAll g)) (m_readIn g)) (m_wouldMiss g 7)
end LER

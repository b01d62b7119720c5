section SOX
theorem sx_no {g : m_St} {S : Int} {n : Nat} {f : Nat → Int32} (hf : ∀ h : Int, 0 ≤ h → h < g 0 0 3 → f h.toNat = iI (m_cnt (fun b => m_has S b && g 2 b 0 == h) n)) (hh : m_has S n = false) : ∀ h : Int, 0 ≤ h → h < g 0 0 3 → f h.toNat = iI (m_cnt (fun b => m_has S b && g 2 b 0 == h) (n + 1)) := fun h h0 h1 => by
  rw [hf h h0 h1, cnt_s, hh]
  simp [m_ib]
theorem sx_yes {g : m_St} {S : Int} {n : Nat} {f f1 : Nat → Int32} (hf : ∀ h : Int, 0 ≤ h → h < g 0 0 3 → f h.toNat = iI (m_cnt (fun b => m_has S b && g 2 b 0 == h) n)) (hh : m_has S n = true) (h9 : 0 ≤ g 2 n 0) (he : f1 = upd f (g 2 n 0).toNat (iI (m_cnt (fun b => m_has S b && g 2 b 0 == g 2 n 0) n + 1))) : ∀ h : Int, 0 ≤ h → h < g 0 0 3 → f1 h.toNat = iI (m_cnt (fun b => m_has S b && g 2 b 0 == h) (n + 1)) := fun h h0 h1 => by
  rw [he, cnt_s, hh]
  unfold upd
  by_cases q : g 2 n 0 = h
  · subst q; simp [m_ib]
  · have q' : ¬ h.toNat = (g 2 n 0).toNat := by omega
    have q2 : ((g 2 n 0 == h) : Bool) = false := by simp [q]
    simp [q', q2, m_ib]
    exact hf h h0 h1
theorem so_stand {H J t p q c : Int} {g : m_St} (h : Iv H J t p q c g) {b : Int} (hb : 0 ≤ b) : (m_standing g b = 0 → m_has (g 0 0 11) b = false ∧ m_has (g 0 0 13) b = false ∧ g 0 0 14 ≠ b) ∧ (m_standing g b = 1 → m_has (g 0 0 11) b = true ∧ m_has (g 0 0 13) b = false ∧ g 0 0 14 ≠ b) ∧ (m_standing g b = 2 → m_has (g 0 0 11) b = true ∧ m_has (g 0 0 13) b = true ∧ g 0 0 14 ≠ b) ∧ (m_standing g b = 3 → m_has (g 0 0 11) b = true ∧ m_has (g 0 0 13) b = true ∧ g 0 0 14 = b) := by
  obtain ⟨a1, a2, a3, _, _⟩ := so_long h hb
  have ff : ∀ {x : Bool} {P : Prop}, (P ↔ x = true) → ¬ P → x = false := fun {x P} i n => by cases x; rfl; exact absurd (i.mpr rfl) n
  refine ⟨fun e => ?_, fun e => ?_, fun e => ?_, fun e => ?_⟩
  · exact ⟨ff a1 (by omega), ff a2 (by omega), fun z => by have := a3.mpr z; omega⟩
  · exact ⟨a1.mp (by omega), ff a2 (by omega), fun z => by have := a3.mpr z; omega⟩
  · exact ⟨a1.mp (by omega), a2.mp (by omega), fun z => by have := a3.mpr z; omega⟩
  · exact ⟨a1.mp (by omega), a2.mp (by omega), a3.mp e⟩
theorem miss_b {g : m_St} (W : Wf g) {n : Int} (hn : 1 ≤ n ∧ n ≤ 60) : 0 ≤ m_wouldMiss g n ∧ m_wouldMiss g n ≤ 86400 := by
  have m4 := W.m4
  have a : ∀ N : Nat, N ≤ 16 → 0 ≤ m_sm (fun b => max 0 (m_asked g b * n - g 2 b 8)) N ∧ m_sm (fun b => max 0 (m_asked g b * n - g 2 b 8)) N ≤ 5400 * N := fun N => by
    induction N with
    | zero => intro _; exact ⟨Int.le_refl _, Int.le_refl _⟩
    | succ N ih =>
      intro hN
      have i := ih (by omega)
      have b := mul_b (asked_b g N) hn
      have d := W.b8 (k := N) (by omega) (by omega)
      rw [sm_s]
      show 0 ≤ m_sm _ N + max 0 (m_asked g N * n - g 2 N 8) ∧ m_sm _ N + max 0 (m_asked g N * n - g 2 N 8) ≤ _
      omega
  have := a (g 0 0 4).toNat (by omega)
  unfold m_wouldMiss
  omega
section
variable {p : Program} {l : Launch} {e : Env} {R : Room} {s : State} {m : MethodId} {args : Array Value} {below : List Frame} {meth : Method} {c : Code} {H : Heap} {locs : List Loc} {cells slots : Nat} {Q : State → Prop}
variable {cc : ByteArray} {pc : Nat} {ls : Array Slot} {rest : List Value}
/-- two ints that are the same -/
theorem n_same (hx : p.tables.exec = Jvm.exec) (hb : c.code = cc) {x : Int32} {off : Int} {tgt : Nat} (hdg : decode cc pc = .ok (.if_icmp .ne off, 3)) (ht : (pc : Int) + off = (tgt : Int)) (kf : W p l e R s m args below meth c H locs cells slots Q (F0 m (pc + 3) ls rest)) : W p l e R s m args below meth c H locs cells slots Q (F0 m pc ls (.int x :: .int x :: rest)) := lv_icmp_ne hx hb hdg ht (fun h => absurd rfl h) (fun _ => kf)
end
/-! the mean mark -/
def MeanQ (n t : Int) : UInt64 := if n = 0 then FP.dconst0 else FP.ddiv (FP.i2d (iI t)) (FP.i2d (iI n))
def MeanD (n t : Int) : UInt64 := FP.dsub (FP.dmul (MeanQ n t) (FP.i2d (iI n))) (FP.i2d (iI t))
def MeanOk (n t : Int) : Prop := (n ≠ 0 → vf_n64 (FP.ddiv (FP.i2d (iI t)) (FP.i2d (iI n)))) ∧ vf_n64 (FP.dmul (MeanQ n t) (FP.i2d (iI n))) ∧ vf_n64 (MeanD n t) ∧ Op.cmpValue (FP.dcmp (MeanD n t &&& 0x7fffffffffffffff) 4547007122018943789) .l ≤ 0
theorem mean_t {g : m_St} (W : Wf g) : ∀ N : Nat, N ≤ 5 → 0 ≤ m_sm (fun j => g 3 j 12) N ∧ m_sm (fun j => g 3 j 12) N ≤ 99 * m_sm (fun j => g 3 j 9) N := fun N => by
  induction N with
  | zero => intro _; exact ⟨Int.le_refl _, Int.le_refl _⟩
  | succ N ih =>
    intro hN
    have i := ih (by omega)
    have d := W.j12 (k := N) (by omega) (by omega)
    rw [sm_s, sm_s]
    show 0 ≤ m_sm (fun j => g 3 j 12) N + g 3 N 12 ∧ m_sm (fun j => g 3 j 12) N + g 3 N 12 ≤ 99 * (m_sm (fun j => g 3 j 9) N + g 3 N 9)
    omega
theorem mean_n {H J t p q c : Int} {g : m_St} (h : Iv H J t p q c g) {n : Nat} (hn : n ≤ 5) : ∀ N : Nat, N ≤ 16 → m_sm (fun b => m_sm (fun j => m_ib (decide (0 ≤ g 6 j b))) n) N ≤ 3 * N := fun N => by
  induction N with
  | zero => intro _; exact Int.le_refl _
  | succ N ih =>
    intro hN
    have i := ih (by omega)
    have d := so_three h (b := N) (by omega) hn
    rw [sm_s]
    omega
end SOX


section LAWEV
def ev_flat : List Cond := flatC (Jvm.Cond.and given_1 narrow_1)
theorem sh_len {L : Nat} (h : L < 7) : (Int32.ofNat L - 7) < 0 := (by decide : ∀ k, k < 7 → (Int32.ofNat k - 7) < 0) L h
theorem many_cases (w : Int32) : (w = 0 ∨ w = 1 ∨ w = 2 ∨ w = 3 ∨ w = 4 ∨ w = 5 ∨ w = 6 ∨ w = 7 ∨ w = 8 ∨ w = 9 ∨ w = 10 ∨ w = 11 ∨ w = 12 ∨ w = 13 ∨ w = 14) ∨ ((w.toInt < 0 ∨ 14 < w.toInt) ∧ ¬ (0 ≤ w ∧ w ≤ 14)) := by
  by_cases h : 0 ≤ w ∧ w ≤ 14
  · obtain ⟨j, hj, rfl⟩ := nI_of2 (M := 14) (n := 14) rfl (i_le h.1) h.2
    exact Or.inl ((by decide : ∀ j, j ≤ 14 → nI j = 0 ∨ nI j = 1 ∨ nI j = 2 ∨ nI j = 3 ∨ nI j = 4 ∨ nI j = 5 ∨ nI j = 6 ∨ nI j = 7 ∨ nI j = 8 ∨ nI j = 9 ∨ nI j = 10 ∨ nI j = 11 ∨ nI j = 12 ∨ nI j = 13 ∨ nI j = 14) j hj)
  · refine Or.inr ⟨?_, h⟩
    by_cases h1 : w.toInt < 0
    · exact Or.inl h1
    · by_cases h2 : 14 < w.toInt
      · exact Or.inr h2
      · exact absurd ⟨Int32.le_iff_toInt_le.mpr (Int.not_lt.mp h1), Int32.le_iff_toInt_le.mpr (Int.not_lt.mp h2)⟩ h
theorem ev_mem_s : ∀ q ∈ ev_S, Cond.stringRef RX4 q.1 q.2 ∈ lw_tbl := by decide +kernel
theorem ev_mem_x : ∀ q ∈ ev_S, Cond.exactly (.string RX4 q.1) "java/lang/String" ∈ ev_flat := by decide +kernel
theorem ev_ref {args : Array Value} {s : State} {t : Term} {n : String} (h : (Cond.exactly t n).before args s = true) : ∃ a : Nat, t.eval args s none [] s = some (.ref a) := by
  simp only [Cond.before, Cond.holds, Cond.value] at h
  cases hv : t.eval args s none [] s with
  | none => simp [hv] at h
  | some v =>
    cases v with
    | ref a => exact ⟨a, rfl⟩
    | null => cases hc : s.vm.findClass n <;> simp [hv, hc] at h
    | _ => simp [hv] at h
theorem ev_str0 {args : Array Value} {s : State} {own : String} {k a : Nat} (h : (Term.string own k).eval args s none [] s = some (.ref a)) : (Term.string own k).eval #[] s none [] s = some (.ref a) := h
set_option maxRecDepth 100000 in
theorem law_ev {args : Array Value} {s : State} (hts : ∀ w ∈ lw_tbl, w.before args s = true) (hgv : (Jvm.Cond.and given_1 narrow_1).before args s = true) : ∃ eT : Nat, ev eT (fun q : Nat => s.heap.size ≤ q) s s.heap := by
  have hs : ∀ c ∈ ev_flat, c.before args s = true := flat_of_before _ hgv
  have hA : ∀ a : Nat, a < s.heap.size → ¬ (fun q : Nat => s.heap.size ≤ q) a := fun a h => Nat.not_le.mpr h
  have hw : ev_w s := ⟨va_Nw.of rfl (hts (.methodLinkNest RX4 29 yX3_init RX4) (by decide +kernel)), va_Nw.of rfl (hts (.methodLinkNest RX4 51 yX1_init RX4) (by decide +kernel)), va_Nw.of rfl (hts (.methodLinkNest RX4 52 yX0_init RX4) (by decide +kernel)), va_Nw.of rfl (hts (.fieldLinkNest RJx35411 28 RJx4a65c "size" "I" RJx4a65c) (by decide +kernel)), va_Nw.of rfl (hts (.castable eISE eISE) (by decide +kernel)), va_Nw.of rfl (hts (.castable eIOB eIOB) (by decide +kernel)), va_Nw.of rfl (hts (.castable eIAE eIAE) (by decide +kernel)), va_Nw.of rfl (hts (.castable "[I" eOb) (by decide +kernel)), va_Nw.of rfl (hts (.castable RJx4a65c eOb) (by decide +kernel))⟩
  have hst : ev_s s := fun q hq => by
    obtain ⟨a, ha⟩ := ev_ref (hs _ (ev_mem_x q hq))
    exact ⟨a, vk_R.of (hts _ (ev_mem_s q hq)) ha⟩
  have hi : ev_i s := ⟨va_Fw.of (hts (.declares xHas) (by decide +kernel)) (hts (.interfaceMethod xHas.cls xHas.cls xHas.name xHas.desc) (by decide +kernel)) (hts (.publicMethod yJx35411_hasNext_aae02) (by decide +kernel)) (hts (.unhidden RJx35411 xHas.name xHas.desc) (by decide +kernel)) (hts (.castable RJx35411 xHas.cls) (by decide +kernel)), va_AO.of (hts (.arrayOver (.object RX1)) (by decide +kernel)), va_AO.of (hts (.arrayOver (.object RX0)) (by decide +kernel)), va_AO.of (hts (.arrayOver (.object RX2)) (by decide +kernel)), va_AO.of (hts (.arrayOver (.object eOb)) (by decide +kernel)), va_AOA.of (hts (.arrayOver (.array .int)) (by decide +kernel)), va_Nc.of (hs (.not (.castable eISE eIAE)) (by decide +kernel)), va_Nw.of rfl (hts (.declares (Bundle.initS "java/lang/RuntimeException")) (by decide +kernel)), va_Nw.of rfl (hts (.declares (Bundle.initS "java/lang/Exception")) (by decide +kernel)), va_Nw.of rfl (hts (.declares (Bundle.initS "java/lang/Throwable")) (by decide +kernel))⟩
  obtain ⟨eT, h1, h2⟩ := va_Tof (ty := .object eOb) (N := 0) (f := fun _ => .null) (A := fun q : Nat => s.heap.size ≤ q) (tm := .static RJx4a65c "DEFAULTCAPACITY_EMPTY_ELEMENTDATA" "[Ljava/lang/Object;") (by decide) (hs _ (by decide +kernel)) (va_eqt (hs (.eq (.length (.static RJx4a65c "DEFAULTCAPACITY_EMPTY_ELEMENTDATA" "[Ljava/lang/Object;")) (.int 0)) (by decide +kernel))) (fun j hj => absurd hj (Nat.not_lt_zero j)) hA
  exact ⟨eT, hw, hst, hi, vx_Zqof (hts _ (by decide +kernel)) (hts _ (by decide +kernel)) (hs _ (by decide +kernel)) hA, vx_Zqof (hts _ (by decide +kernel)) (hts _ (by decide +kernel)) (hs _ (by decide +kernel)) hA, va_Zof (hts _ (by decide +kernel)) (hts _ (by decide +kernel)) h1 hA, h2⟩
end LAWEV


set_option maxHeartbeats 4000000 in
set_option maxRecDepth 100000 in
theorem law_end {p : Program} {l : Launch} {e : Env} {s : State} {m : MethodId} {args : Array Value} {below : List Frame} {meth : Method} {c : Code} {Q : State → Prop} {b : Nat} {D : va_G} {a : Nat → Nat} {cH cB cJ cI : ClassId} (hx : p.tables.exec = Jvm.exec) (hb : c.code = cL_law) (hml : c.maxLocals = 23) (hown : s.vm.findClass RL = some m.cls) (hw : ∀ w ∈ wsL_law0, w.before args s = true) (ha : pj a) (hB : ∀ k, k < 58 → s.heap.size ≤ a k) (hK : va_K D vwCl (pT cH cB cJ cI) s) (hE : ew s) (hmo : ∀ n t : Int, 0 ≤ n ∧ n ≤ 48 → 0 ≤ t ∧ t ≤ 99 * n → MeanOk n t) {g : m_St} {vt : Nat → Int32} {hh jj paid printed called : Int} {cells slots : Nat} (hcc : cells + 1 ≤ 600074) (hss : slots + 5 ≤ 7301550) (hhh : 2 ≤ hh ∧ hh ≤ 5) (hjj : 3 ≤ jj ∧ jj ≤ 5) (hIv : Iv hh jj ((90 : Nat) : Int) paid printed called g) {H : Heap} {locs : List Loc} {ls : Array Slot} (hP : va_P D vwCl (pw a cH cB cJ cI g vt) H) (hS : va_S (fun q => s.heap.size ≤ q) s.heap H locs) (hl : lv_has ls 23 [(0, .ref b), (1, .ref (a 0)), (2, .int (iI hh)), (3, .int (iI jj)), (4, .int (iI paid)), (5, .int (iI printed)), (6, .int (iI called)), (7, .int (iI ((90 : Nat) : Int)))]) (kx : ∀ (H : Heap) (locs : List Loc) (ls : Array Slot), va_S (fun q => s.heap.size ≤ q) s.heap H locs → W p l e room_1 s m args below meth c H locs (cells + 1) (slots + 5) Q (F0 m 1776 ls [.int (iI 1)])) : W p l e room_1 s m args below meth c H locs cells slots Q (F0 m 1746 ls []) := by
  have hWf : Wf g := hIv.1
  have m3 := Wf.m3 hWf
  have m4 := Wf.m4 hWf
  have m5 := Wf.m5 hWf
  have m8 := Wf.m8 hWf
  have m9 := Wf.m9 hWf
  have m10 := Wf.m10 hWf
  have m11 := Wf.m11 hWf
  have m13 := Wf.m13 hWf
  have m14 := Wf.m14 hWf
  have hS5 := hIv.2.2.2.2.1
  have hsb : ∀ b, m_has (g 0 0 13) b = true → b < g 0 0 4 := fun b hb => (hS5.1 b (hS5.2.1 b hb)).1
  have hN3 : g 0 0 3 = hh := hIv.2.2.2.1.1
  have hN5 : g 0 0 5 = jj := hIv.2.2.2.1.2.1
  have hN8 : 5 * g 0 0 8 + g 0 0 9 ≤ ((90 : Nat) : Int) := hIv.2.2.2.1.2.2.1
  have hN10 : g 0 0 10 ≤ 6 * ((90 : Nat) : Int) := hIv.2.2.2.1.2.2.2
  have hA : ∀ q : Nat, s.heap.size ≤ q → (fun q : Nat => s.heap.size ≤ q) q := fun _ h => h
  refine lv_aload_n hx hb dL_law_1746 rfl (lv_at hl 1 rfl) ?_
  refine va_calll (va_runV (As := []) (rest := []) ⟨hx, hb, hml, hown, hw⟩ (c_digest l D a cH cB cJ cI ha g vt H.size  hWf (hsb)) (cwV 0 hw (gA_V kw_538 kw_539 kw_540 kw_2 kw_541) rfl rfl rfl (by decide +kernel) ⟨Nat.le_of_ble_eq_true rfl, Nat.le_of_ble_eq_true rfl⟩) (pS_v (ci := 4) (q0 := 0) rfl pw_0 hP hK hE) rfl rfl hl.1 rfl (lv_room (Nat.le_of_ble_eq_true rfl)) dL_law_1747 ⟨rm_c (by omega), rm_s (by omega)⟩) hS (fun q _ h => rw_A hS hA hB q h) (fun q h => rw_A hS hA hB q h) (fun r u t H1 locs ht hvm hw9 hB9 hz1 hk1 hS => ?_)
  have hw9 : r = (m_digest g) := hw9
  subst hw9
  obtain ⟨v1, hP1⟩ := hB9
  rw [ht] at hP1
  have hP : va_P D vwCl (pw a cH cB cJ cI g v1) H1 := hP1
  generalize H1 = H at hP hS ⊢
  refine lv_lstore (lv' := [(7, .long (m_digest g)), (0, .ref b), (1, .ref (a 0)), (2, .int (iI hh)), (3, .int (iI jj)), (4, .int (iI paid)), (5, .int (iI printed)), (6, .int (iI called))]) hx hb dL_law_1750 hl (by decide) rfl (fun ls hl => ?_)
  refine lv_aload_n hx hb dL_law_1752 rfl (lv_at hl 2 rfl) ?_
  refine lv_iload_n hx hb dL_law_1753 rfl (lv_at hl 3 rfl) ?_
  refine lv_iload_n hx hb dL_law_1754 rfl (lv_at hl 4 rfl) ?_
  rw [← hN3, ← hN5]
  refine va_calli (va_runS (As := [.ref (a 0), .int (iI (g 0 0 3)), .int (iI (g 0 0 5))]) (rest := []) ⟨hx, hb, hml, hown, hw⟩ (c_isSo l D a cH cB cJ cI ha g v1 H.size ((90 : Nat) : Int) paid printed called (by rw [hN3, hN5]; exact hIv) (hmo)) (va_cwS 3 hw (gA_S kw_506 kw_507 kw_61 kw_508) rfl rfl rfl (by decide +kernel) ⟨Nat.le_of_ble_eq_true rfl, Nat.le_of_ble_eq_true rfl⟩) (pS_s hP hK hE) rfl rfl hl.1 rfl (lv_room (Nat.le_of_ble_eq_true rfl)) dL_law_1755 ⟨rm_c (by omega), rm_s (by omega)⟩) hS (fun q _ h => rw_A hS hA hB q h) (fun q h => rw_A hS hA hB q h) (fun r u t H1 locs ht hvm hw9 hB9 hz1 hk1 hS => ?_)
  have hw9 : r = (bi true) := hw9
  subst hw9
  obtain ⟨v2, hP1⟩ := hB9
  rw [ht] at hP1
  have hP : va_P D vwCl (pw a cH cB cJ cI g v2) H1 := hP1
  generalize H1 = H at hP hS ⊢
  refine n_b_eq hx hb (tgt := 1775) dL_law_1758 (by decide) (fun h3 => absurd h3 (by intro h3; cases h3)) (fun h3 => ?_)
  refine lv_aload_n hx hb dL_law_1761 rfl (lv_at hl 2 rfl) ?_
  refine va_calll (va_runV (As := []) (rest := []) ⟨hx, hb, hml, hown, hw⟩ (c_digest l D a cH cB cJ cI ha g v2 H.size  hWf (hsb)) (cwV 0 hw (gA_V kw_538 kw_539 kw_540 kw_2 kw_541) rfl rfl rfl (by decide +kernel) ⟨Nat.le_of_ble_eq_true rfl, Nat.le_of_ble_eq_true rfl⟩) (pS_v (ci := 4) (q0 := 0) rfl pw_0 hP hK hE) rfl rfl hl.1 rfl (lv_room (Nat.le_of_ble_eq_true rfl)) dL_law_1762 ⟨rm_c (by omega), rm_s (by omega)⟩) hS (fun q _ h => rw_A hS hA hB q h) (fun q h => rw_A hS hA hB q h) (fun r u t H1 locs ht hvm hw9 hB9 hz1 hk1 hS => ?_)
  have hw9 : r = (m_digest g) := hw9
  subst hw9
  obtain ⟨v4, hP1⟩ := hB9
  rw [ht] at hP1
  have hP : va_P D vwCl (pw a cH cB cJ cI g v4) H1 := hP1
  generalize H1 = H at hP hS ⊢
  refine lv_lload hx hb dL_law_1765 (lv_at hl 0 rfl) ?_
  refine W.lcmp hx hb dL_law_1767 ?_
  rw [show lg_cmp (m_digest g) (m_digest g) = iI 0 from by unfold lg_cmp; simp; rfl]
  refine n_if_ne hx hb (by unfold RI; omega) (tgt := 1775) dL_law_1768 (by decide) (fun h5 => absurd h5 (by intro h5; omega)) (fun h5 => ?_)
  refine lv_iconst (v := iI 1) hx hb dL_law_1771 (by decide) ?_
  refine lv_goto (tgt := 1776) hx hb dL_law_1772 (by decide) ?_
  exact kx H locs ls hS

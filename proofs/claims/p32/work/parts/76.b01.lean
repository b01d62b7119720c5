set_option maxHeartbeats 4000000 in
set_option maxRecDepth 100000 in
theorem law_conflict {p : Program} {l : Launch} {e : Env} {s : State} {m : MethodId} {args : Array Value} {below : List Frame} {meth : Method} {c : Code} {Q : State → Prop} {b : Nat} {D : va_G} {a : Nat → Nat} {cH cB cJ cI : ClassId} (hx : p.tables.exec = Jvm.exec) (hb : c.code = cL_law) (hml : c.maxLocals = 23) (hown : s.vm.findClass RL = some m.cls) (hw : ∀ w ∈ wsL_law0, w.before args s = true) (ha : pj a) (hB : ∀ k, k < 58 → s.heap.size ≤ a k) (hK : va_K D vwCl (pT cH cB cJ cI) s) (hE : ew s) {g : m_St} {vt : Nat → Int32} {hh jj paid printed called : Int} {tn cells slots : Nat} (ht9 : tn < 90) (hcc : cells + 2 ≤ 600074) (hss : slots + 10 ≤ 7301550) (hhh : 2 ≤ hh ∧ hh ≤ 5) (hjj : 3 ≤ jj ∧ jj ≤ 5) (hIv : Iv hh jj ((tn : Nat) : Int) paid printed called g) {x8 : Int32} {bk jd : Int} (hbk : -1 ≤ bk ∧ bk < g 0 0 4) (hjd : 0 ≤ jd ∧ jd < g 0 0 5) {H : Heap} {locs : List Loc} {ls : Array Slot} (hP : va_P D vwCl (pw a cH cB cJ cI g vt) H) (hS : va_S (fun q => s.heap.size ≤ q) s.heap H locs) (hl : lv_has ls 23 [(0, .ref b), (1, .ref (a 0)), (2, .int (iI hh)), (3, .int (iI jj)), (4, .int (iI paid)), (5, .int (iI printed)), (6, .int (iI called)), (7, .int (iI ((tn : Nat) : Int))), (8, .int x8), (9, .int (iI (g 0 0 4))), (10, .int (iI bk)), (11, .int (iI jd)), (12, .int (iI (g 0 0 9))), (13, .int (iI (g 0 0 8))), (14, .int (iI (m_entCount g))), (15, .int (iI (g 9 0 3)))]) (kx : ∀ (g1 : m_St) (v1 : Nat → Int32) (p1 p2 p3 : Int) (H : Heap) (locs : List Loc) (ls : Array Slot), Iv hh jj ((tn : Int) + 1) p1 p2 p3 g1 → va_P D vwCl (pw a cH cB cJ cI g1 v1) H → va_S (fun q => s.heap.size ≤ q) s.heap H locs → lv_has ls 23 [(0, .ref b), (1, .ref (a 0)), (2, .int (iI hh)), (3, .int (iI jj)), (4, .int (iI p1)), (5, .int (iI p2)), (6, .int (iI p3)), (7, .int (iI ((tn : Nat) : Int)))] → W p l e room_1 s m args below meth c H locs (cells + 1) (slots + 5) Q (F0 m 1603 ls [])) : W p l e room_1 s m args below meth c H locs cells slots Q (F0 m 419 ls []) := by
  have hWf : Wf g := hIv.1
  have m3 := Wf.m3 hWf
  have m4 := Wf.m4 hWf
  have m5 := Wf.m5 hWf
  have m8 := Wf.m8 hWf
  have m9 := Wf.m9 hWf
  have m10 := Wf.m10 hWf
  have m11 := Wf.m11 hWf
  have m13 := Wf.m13 hWf
  have m14 := Wf.m14 hWf
  have hS5 := hIv.2.2.2.2.1
  have hsb : ∀ b, m_has (g 0 0 13) b = true → b < g 0 0 4 := fun b hb => (hS5.1 b (hS5.2.1 b hb)).1
  have hN3 : g 0 0 3 = hh := hIv.2.2.2.1.1
  have hN5 : g 0 0 5 = jj := hIv.2.2.2.1.2.1
  have hN8 : 5 * g 0 0 8 + g 0 0 9 ≤ tn := hIv.2.2.2.1.2.2.1
  have hN10 : g 0 0 10 ≤ 6 * tn := hIv.2.2.2.1.2.2.2
  have hA : ∀ q : Nat, s.heap.size ≤ q → (fun q : Nat => s.heap.size ≤ q) q := fun _ h => h
  refine lv_iload hx hb dL_law_419 (lv_at hl 8 rfl) ?_
  refine lv_bipush (v := iI 6) hx hb dL_law_421 (by decide) ?_
  refine lv_ishr hx hb dL_law_423 ?_
  refine lv_iconst (v := iI 3) hx hb dL_law_424 (by decide) ?_
  refine va_calli (va_runS (As := [.int (x8 >>> (iI 6 &&& 31)), .int (iI 3)]) (rest := []) ⟨hx, hb, hml, hown, hw⟩ (c_below l D a cH cB cJ cI ha g vt H.size (x8 >>> (iI 6 &&& 31)) 3 (by omega)) (va_cwS 2 hw (gA_S kw_64 kw_65 kw_61 kw_66) rfl rfl rfl (by decide +kernel) ⟨Nat.le_of_ble_eq_true rfl, Nat.le_of_ble_eq_true rfl⟩) (pS_s hP hK hE) rfl rfl hl.1 rfl (lv_room (Nat.le_of_ble_eq_true rfl)) dL_law_425 ⟨rm_c (by omega), rm_s (by omega)⟩) hS (fun q h1 h2 => ro_A h1 h2) (fun q h => ro_F hS hA q h) (fun r u t H1 locs ht hvm hw9 hB9 hz1 hk1 hS => ?_)
  have hw9 : r = (iI (m_bel (x8 >>> (iI 6 &&& 31)) 3)) := hw9
  subst hw9
  have hP := ro_P hP hk1
  generalize H1 = H at hP hS ⊢
  have s2 := bel_b (x8 >>> (iI 6 &&& 31)) (n := 3) (by omega)
  obtain ⟨u1, hu1⟩ : ∃ z, z = (m_bel (x8 >>> (iI 6 &&& 31)) 3) := ⟨_, rfl⟩
  have hbu1 : 0 ≤ u1 ∧ u1 < 3 := by rw [hu1]; exact bel_b _ (by omega)
  rw [show (m_bel (x8 >>> (iI 6 &&& 31)) 3) = u1 from hu1.symm]
  refine n_if_ne hx hb (by unfold RI; omega) (tgt := 1603) dL_law_428 (by decide) (fun h3 => ?_) (fun h3 => ?_)
  · skip
    refine W.widen (k := cells + 1) (n := slots + 5) (by omega) (by omega) ?_
    exact kx g vt paid printed called H locs ls (inv_later hIv) hP hS (lv_sub hl [0, 1, 2, 3, 4, 5, 6, 7] rfl)
  · skip
    refine lv_aload_n hx hb dL_law_431 rfl (lv_at hl 1 rfl) ?_
    refine lv_iload hx hb dL_law_432 (lv_at hl 11 rfl) ?_
    refine lv_iload hx hb dL_law_434 (lv_at hl 8 rfl) ?_
    refine lv_iconst (v := iI 3) hx hb dL_law_436 (by decide) ?_
    refine lv_ishr hx hb dL_law_437 ?_
    refine lv_bipush (v := iI 10) hx hb dL_law_438 (by decide) ?_
    refine va_calli (va_runS (As := [.int (x8 >>> (iI 3 &&& 31)), .int (iI 10)]) (rest := [.int (iI jd), .ref (a 0)]) ⟨hx, hb, hml, hown, hw⟩ (c_below l D a cH cB cJ cI ha g vt H.size (x8 >>> (iI 3 &&& 31)) 10 (by omega)) (va_cwS 2 hw (gA_S kw_64 kw_65 kw_61 kw_66) rfl rfl rfl (by decide +kernel) ⟨Nat.le_of_ble_eq_true rfl, Nat.le_of_ble_eq_true rfl⟩) (pS_s hP hK hE) rfl rfl hl.1 rfl (lv_room (Nat.le_of_ble_eq_true rfl)) dL_law_440 ⟨rm_c (by omega), rm_s (by omega)⟩) hS (fun q h1 h2 => ro_A h1 h2) (fun q h => ro_F hS hA q h) (fun r u t H1 locs ht hvm hw9 hB9 hz1 hk1 hS => ?_)
    have hw9 : r = (iI (m_bel (x8 >>> (iI 3 &&& 31)) 10)) := hw9
    subst hw9
    have hP := ro_P hP hk1
    generalize H1 = H at hP hS ⊢
    have s5 := bel_b (x8 >>> (iI 3 &&& 31)) (n := 10) (by omega)
    obtain ⟨u4, hu4⟩ : ∃ z, z = (m_bel (x8 >>> (iI 3 &&& 31)) 10) := ⟨_, rfl⟩
    have hbu4 : 0 ≤ u4 ∧ u4 < 10 := by rw [hu4]; exact bel_b _ (by omega)
    rw [show (m_bel (x8 >>> (iI 3 &&& 31)) 10) = u4 from hu4.symm]
    refine va_calli (va_runV (As := [.int (iI jd), .int (iI u4)]) (rest := []) ⟨hx, hb, hml, hown, hw⟩ (c_conflict l D a cH cB cJ cI ha g vt H.size jd u4 hWf (by omega) (by omega)) (cwV 2 hw (gA_V kw_166 kw_167 kw_168 kw_2 kw_169) rfl rfl rfl (by decide +kernel) ⟨Nat.le_of_ble_eq_true rfl, Nat.le_of_ble_eq_true rfl⟩) (pS_v (ci := 4) (q0 := 0) rfl pw_0 hP hK hE) rfl rfl hl.1 rfl (lv_room (Nat.le_of_ble_eq_true rfl)) dL_law_443 ⟨rm_c (by omega), rm_s (by omega)⟩) hS (fun q _ h => rw_A hS hA hB q h) (fun q h => rw_A hS hA hB q h) (fun r u t H1 locs ht hvm hw9 hB9 hz1 hk1 hS => ?_)
    have hw9 : r = (iI (m_pcn (m_bo (g 3 jd 3) (m_bt u4)))) := hw9
    subst hw9
    obtain ⟨v6, hP1⟩ := hB9
    rw [ht] at hP1
    obtain ⟨g7, hg7⟩ : ∃ z, z = (m_conflict g jd u4) := ⟨_, rfl⟩
    rw [← hg7] at hP1
    have hP : va_P D vwCl (pw a cH cB cJ cI g7 v6) H1 := hP1
    generalize H1 = H at hP hS ⊢
    have hivg7 : Iv hh jj ((tn : Nat) : Int) paid printed called g7 := by rw [hg7]; exact inv_conflict hIv (by omega)
    have hn5g7 : g7 0 0 5 = jj := hivg7.2.2.2.1.2.1
    have hj3 := Wf.j3 hWf (k := jd) (by omega) (by omega)
    have hb10 := bo_10 (S := g 3 jd 3) (k := u4) (by omega) (by omega) (by omega)
    have hWg7 : Wf g7 := hivg7.1
    refine lv_aload_n hx hb dL_law_446 rfl (lv_at hl 1 rfl) ?_
    refine lv_iload hx hb dL_law_447 (lv_at hl 11 rfl) ?_
    refine lv_iconst (v := iI 1) hx hb dL_law_449 (by decide) ?_
    refine va_calli (va_runV (As := [.int (iI jd), .int (iI 1)]) (rest := [.int (iI (m_pcn (m_bo (g 3 jd 3) (m_bt u4))))]) ⟨hx, hb, hml, hown, hw⟩ (c_ofJudge l D a cH cB cJ cI ha g7 v6 H.size jd 1 hWg7 (by omega) (by omega)) (cwV 2 hw (gA_V kw_174 kw_175 kw_176 kw_2 kw_177) rfl rfl rfl (by decide +kernel) ⟨Nat.le_of_ble_eq_true rfl, Nat.le_of_ble_eq_true rfl⟩) (pS_v (ci := 4) (q0 := 0) rfl pw_0 hP hK hE) rfl rfl hl.1 rfl (lv_room (Nat.le_of_ble_eq_true rfl)) dL_law_450 ⟨rm_c (by omega), rm_s (by omega)⟩) hS (fun q h1 h2 => ro_A h1 h2) (fun q h => ro_F hS hA q h) (fun r u t H1 locs ht hvm hw9 hB9 hz1 hk1 hS => ?_)
    have hw9 : r = (iI (m_ofJudge g7 jd 1)) := hw9
    subst hw9
    have hP := ro_P hP hk1
    generalize H1 = H at hP hS ⊢
    rw [show (m_ofJudge g7 jd 1) = (m_bo (g 3 jd 3) (m_bt u4)) from (by rw [hg7]; show m_conflict g jd u4 3 jd 3 = _; unfold m_conflict; rw [up_s])]
    refine va_calli (va_runS (As := [.int (iI (m_bo (g 3 jd 3) (m_bt u4)))]) (rest := [.int (iI (m_pcn (m_bo (g 3 jd 3) (m_bt u4))))]) ⟨hx, hb, hml, hown, hw⟩ (c_bitCount l D a cH cB cJ cI ha g7 v6 H.size (m_bo (g 3 jd 3) (m_bt u4)) (by omega)) (va_cwS 1 hw (gA_S kw_197 kw_113 kw_114 kw_115) rfl rfl rfl (by decide +kernel) ⟨Nat.le_of_ble_eq_true rfl, Nat.le_of_ble_eq_true rfl⟩) (pS_s hP hK hE) rfl rfl hl.1 rfl (lv_room (Nat.le_of_ble_eq_true rfl)) dL_law_453 ⟨rm_c (by omega), rm_s (by omega)⟩) hS (fun q h1 h2 => ro_A h1 h2) (fun q h => ro_F hS hA q h) (fun r u t H1 locs ht hvm hw9 hB9 hz1 hk1 hS => ?_)
    have hw9 : r = (iI (m_pcn (m_bo (g 3 jd 3) (m_bt u4)))) := hw9
    subst hw9
    have hP := ro_P hP hk1
    generalize H1 = H at hP hS ⊢
    have s8 := pcn_b (m_bo (g 3 jd 3) (m_bt u4))
    refine n_icmp_eq hx hb (by unfold RI; omega) (by unfold RI; omega) (tgt := 1603) dL_law_456 (by decide) (fun h9 => ?_) (fun h9 => absurd h9 (by intro h9; exact h9 rfl))
    refine W.widen (k := cells + 1) (n := slots + 5) (by omega) (by omega) ?_
    exact kx g7 v6 paid printed called H locs ls (inv_later hivg7) hP hS (lv_sub hl [0, 1, 2, 3, 4, 5, 6, 7] rfl)

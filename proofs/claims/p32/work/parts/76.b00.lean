set_option maxHeartbeats 4000000 in
set_option maxRecDepth 100000 in
theorem law_book {p : Program} {l : Launch} {e : Env} {s : State} {m : MethodId} {args : Array Value} {below : List Frame} {meth : Method} {c : Code} {Q : State → Prop} {b : Nat} {D : va_G} {a : Nat → Nat} {cH cB cJ cI : ClassId} (hx : p.tables.exec = Jvm.exec) (hb : c.code = cL_law) (hml : c.maxLocals = 23) (hown : s.vm.findClass RL = some m.cls) (hw : ∀ w ∈ wsL_law0, w.before args s = true) (ha : pj a) (hB : ∀ k, k < 58 → s.heap.size ≤ a k) (hK : va_K D vwCl (pT cH cB cJ cI) s) (hE : ew s) {g : m_St} {vt : Nat → Int32} {hh jj paid printed called : Int} {tn cells slots : Nat} (ht9 : tn < 90) (hcc : cells + 2 ≤ 600074) (hss : slots + 10 ≤ 7301550) (hhh : 2 ≤ hh ∧ hh ≤ 5) (hjj : 3 ≤ jj ∧ jj ≤ 5) (hIv : Iv hh jj ((tn : Nat) : Int) paid printed called g) {x8 : Int32} {bk jd : Int} (hbk : -1 ≤ bk ∧ bk < g 0 0 4) (hjd : 0 ≤ jd ∧ jd < g 0 0 5) {H : Heap} {locs : List Loc} {ls : Array Slot} (hP : va_P D vwCl (pw a cH cB cJ cI g vt) H) (hS : va_S (fun q => s.heap.size ≤ q) s.heap H locs) (hl : lv_has ls 23 [(0, .ref b), (1, .ref (a 0)), (2, .int (iI hh)), (3, .int (iI jj)), (4, .int (iI paid)), (5, .int (iI printed)), (6, .int (iI called)), (7, .int (iI ((tn : Nat) : Int))), (8, .int x8), (9, .int (iI (g 0 0 4))), (10, .int (iI bk)), (11, .int (iI jd)), (12, .int (iI (g 0 0 9))), (13, .int (iI (g 0 0 8))), (14, .int (iI (m_entCount g))), (15, .int (iI (g 9 0 3)))]) (kx : ∀ (g1 : m_St) (v1 : Nat → Int32) (p1 p2 p3 : Int) (H : Heap) (locs : List Loc) (ls : Array Slot), Iv hh jj ((tn : Int) + 1) p1 p2 p3 g1 → va_P D vwCl (pw a cH cB cJ cI g1 v1) H → va_S (fun q => s.heap.size ≤ q) s.heap H locs → lv_has ls 23 [(0, .ref b), (1, .ref (a 0)), (2, .int (iI hh)), (3, .int (iI jj)), (4, .int (iI p1)), (5, .int (iI p2)), (6, .int (iI p3)), (7, .int (iI ((tn : Nat) : Int)))] → W p l e room_1 s m args below meth c H locs (cells + 1) (slots + 5) Q (F0 m 1603 ls [])) : W p l e room_1 s m args below meth c H locs cells slots Q (F0 m 328 ls []) := by
  have hWf : Wf g := hIv.1
  have m3 := Wf.m3 hWf
  have m4 := Wf.m4 hWf
  have m5 := Wf.m5 hWf
  have m8 := Wf.m8 hWf
  have m9 := Wf.m9 hWf
  have m10 := Wf.m10 hWf
  have m11 := Wf.m11 hWf
  have m13 := Wf.m13 hWf
  have m14 := Wf.m14 hWf
  have hS5 := hIv.2.2.2.2.1
  have hsb : ∀ b, m_has (g 0 0 13) b = true → b < g 0 0 4 := fun b hb => (hS5.1 b (hS5.2.1 b hb)).1
  have hN3 : g 0 0 3 = hh := hIv.2.2.2.1.1
  have hN5 : g 0 0 5 = jj := hIv.2.2.2.1.2.1
  have hN8 : 5 * g 0 0 8 + g 0 0 9 ≤ tn := hIv.2.2.2.1.2.2.1
  have hN10 : g 0 0 10 ≤ 6 * tn := hIv.2.2.2.1.2.2.2
  have hA : ∀ q : Nat, s.heap.size ≤ q → (fun q : Nat => s.heap.size ≤ q) q := fun _ h => h
  refine lv_iload hx hb dL_law_328 (lv_at hl 9 rfl) ?_
  refine lv_bipush (v := iI 16) hx hb dL_law_330 (by decide) ?_
  refine n_icmp_ne hx hb (by unfold RI; omega) (by unfold RI; omega) (tgt := 338) dL_law_332 (by decide) (fun h1 => ?_) (fun h1 => ?_)
  · skip
    refine lv_aload_n hx hb dL_law_338 rfl (lv_at hl 1 rfl) ?_
    refine lv_iload hx hb dL_law_339 (lv_at hl 8 rfl) ?_
    refine lv_iconst (v := iI 3) hx hb dL_law_341 (by decide) ?_
    refine lv_ishr hx hb dL_law_342 ?_
    refine lv_iload_n hx hb dL_law_343 rfl (lv_at hl 2 rfl) ?_
    refine va_calli (va_runS (As := [.int (x8 >>> (iI 3 &&& 31)), .int (iI hh)]) (rest := [.ref (a 0)]) ⟨hx, hb, hml, hown, hw⟩ (c_below l D a cH cB cJ cI ha g vt H.size (x8 >>> (iI 3 &&& 31)) hh (by omega)) (va_cwS 2 hw (gA_S kw_64 kw_65 kw_61 kw_66) rfl rfl rfl (by decide +kernel) ⟨Nat.le_of_ble_eq_true rfl, Nat.le_of_ble_eq_true rfl⟩) (pS_s hP hK hE) rfl rfl hl.1 rfl (lv_room (Nat.le_of_ble_eq_true rfl)) dL_law_344 ⟨rm_c (by omega), rm_s (by omega)⟩) hS (fun q h1 h2 => ro_A h1 h2) (fun q h => ro_F hS hA q h) (fun r u t H1 locs ht hvm hw9 hB9 hz1 hk1 hS => ?_)
    have hw9 : r = (iI (m_bel (x8 >>> (iI 3 &&& 31)) hh)) := hw9
    subst hw9
    have hP := ro_P hP hk1
    generalize H1 = H at hP hS ⊢
    have s3 := bel_b (x8 >>> (iI 3 &&& 31)) (n := hh) (by omega)
    obtain ⟨u2, hu2⟩ : ∃ z, z = (m_bel (x8 >>> (iI 3 &&& 31)) hh) := ⟨_, rfl⟩
    have hbu2 : 0 ≤ u2 ∧ u2 < hh := by rw [hu2]; exact bel_b _ (by omega)
    rw [show (m_bel (x8 >>> (iI 3 &&& 31)) hh) = u2 from hu2.symm]
    refine lv_iload hx hb dL_law_347 (lv_at hl 8 rfl) ?_
    refine lv_iconst (v := iI 2) hx hb dL_law_349 (by decide) ?_
    refine lv_ishr hx hb dL_law_350 ?_
    refine lv_bipush (v := iI 10) hx hb dL_law_351 (by decide) ?_
    refine va_calli (va_runS (As := [.int (x8 >>> (iI 2 &&& 31)), .int (iI 10)]) (rest := [.int (iI u2), .ref (a 0)]) ⟨hx, hb, hml, hown, hw⟩ (c_below l D a cH cB cJ cI ha g vt H.size (x8 >>> (iI 2 &&& 31)) 10 (by omega)) (va_cwS 2 hw (gA_S kw_64 kw_65 kw_61 kw_66) rfl rfl rfl (by decide +kernel) ⟨Nat.le_of_ble_eq_true rfl, Nat.le_of_ble_eq_true rfl⟩) (pS_s hP hK hE) rfl rfl hl.1 rfl (lv_room (Nat.le_of_ble_eq_true rfl)) dL_law_353 ⟨rm_c (by omega), rm_s (by omega)⟩) hS (fun q h1 h2 => ro_A h1 h2) (fun q h => ro_F hS hA q h) (fun r u t H1 locs ht hvm hw9 hB9 hz1 hk1 hS => ?_)
    have hw9 : r = (iI (m_bel (x8 >>> (iI 2 &&& 31)) 10)) := hw9
    subst hw9
    have hP := ro_P hP hk1
    generalize H1 = H at hP hS ⊢
    have s5 := bel_b (x8 >>> (iI 2 &&& 31)) (n := 10) (by omega)
    obtain ⟨u4, hu4⟩ : ∃ z, z = (m_bel (x8 >>> (iI 2 &&& 31)) 10) := ⟨_, rfl⟩
    have hbu4 : 0 ≤ u4 ∧ u4 < 10 := by rw [hu4]; exact bel_b _ (by omega)
    rw [show (m_bel (x8 >>> (iI 2 &&& 31)) 10) = u4 from hu4.symm]
    refine lv_iload hx hb dL_law_356 (lv_at hl 8 rfl) ?_
    refine lv_iconst (v := iI 4) hx hb dL_law_358 (by decide) ?_
    refine lv_ishr hx hb dL_law_359 ?_
    refine lv_iconst (v := iI 3) hx hb dL_law_360 (by decide) ?_
    refine va_calli (va_runS (As := [.int (x8 >>> (iI 4 &&& 31)), .int (iI 3)]) (rest := [.int (iI u4), .int (iI u2), .ref (a 0)]) ⟨hx, hb, hml, hown, hw⟩ (c_below l D a cH cB cJ cI ha g vt H.size (x8 >>> (iI 4 &&& 31)) 3 (by omega)) (va_cwS 2 hw (gA_S kw_64 kw_65 kw_61 kw_66) rfl rfl rfl (by decide +kernel) ⟨Nat.le_of_ble_eq_true rfl, Nat.le_of_ble_eq_true rfl⟩) (pS_s hP hK hE) rfl rfl hl.1 rfl (lv_room (Nat.le_of_ble_eq_true rfl)) dL_law_361 ⟨rm_c (by omega), rm_s (by omega)⟩) hS (fun q h1 h2 => ro_A h1 h2) (fun q h => ro_F hS hA q h) (fun r u t H1 locs ht hvm hw9 hB9 hz1 hk1 hS => ?_)
    have hw9 : r = (iI (m_bel (x8 >>> (iI 4 &&& 31)) 3)) := hw9
    subst hw9
    have hP := ro_P hP hk1
    generalize H1 = H at hP hS ⊢
    have s7 := bel_b (x8 >>> (iI 4 &&& 31)) (n := 3) (by omega)
    obtain ⟨u6, hu6⟩ : ∃ z, z = (m_bel (x8 >>> (iI 4 &&& 31)) 3) := ⟨_, rfl⟩
    have hbu6 : 0 ≤ u6 ∧ u6 < 3 := by rw [hu6]; exact bel_b _ (by omega)
    rw [show (m_bel (x8 >>> (iI 4 &&& 31)) 3) = u6 from hu6.symm]
    refine lv_bipush (v := iI 60) hx hb dL_law_364 (by decide) ?_
    refine lv_iload hx hb dL_law_366 (lv_at hl 8 rfl) ?_
    refine lv_iconst (v := iI 5) hx hb dL_law_368 (by decide) ?_
    refine lv_ishr hx hb dL_law_369 ?_
    refine lv_sipush (v := iI 200) hx hb dL_law_370 (by decide) ?_
    refine va_calli (va_runS (As := [.int (x8 >>> (iI 5 &&& 31)), .int (iI 200)]) (rest := [.int (iI 60), .int (iI u6), .int (iI u4), .int (iI u2), .ref (a 0)]) ⟨hx, hb, hml, hown, hw⟩ (c_below l D a cH cB cJ cI ha g vt H.size (x8 >>> (iI 5 &&& 31)) 200 (by omega)) (va_cwS 2 hw (gA_S kw_64 kw_65 kw_61 kw_66) rfl rfl rfl (by decide +kernel) ⟨Nat.le_of_ble_eq_true rfl, Nat.le_of_ble_eq_true rfl⟩) (pS_s hP hK hE) rfl rfl hl.1 rfl (lv_room (Nat.le_of_ble_eq_true rfl)) dL_law_373 ⟨rm_c (by omega), rm_s (by omega)⟩) hS (fun q h1 h2 => ro_A h1 h2) (fun q h => ro_F hS hA q h) (fun r u t H1 locs ht hvm hw9 hB9 hz1 hk1 hS => ?_)
    have hw9 : r = (iI (m_bel (x8 >>> (iI 5 &&& 31)) 200)) := hw9
    subst hw9
    have hP := ro_P hP hk1
    generalize H1 = H at hP hS ⊢
    have s9 := bel_b (x8 >>> (iI 5 &&& 31)) (n := 200) (by omega)
    obtain ⟨u8, hu8⟩ : ∃ z, z = (m_bel (x8 >>> (iI 5 &&& 31)) 200) := ⟨_, rfl⟩
    have hbu8 : 0 ≤ u8 ∧ u8 < 200 := by rw [hu8]; exact bel_b _ (by omega)
    rw [show (m_bel (x8 >>> (iI 5 &&& 31)) 200) = u8 from hu8.symm]
    refine n_add hx hb dL_law_376 ?_
    refine lv_iload hx hb dL_law_377 (lv_at hl 8 rfl) ?_
    refine lv_bipush (v := iI 6) hx hb dL_law_379 (by decide) ?_
    refine lv_ishr hx hb dL_law_381 ?_
    refine lv_bipush (v := iI 61) hx hb dL_law_382 (by decide) ?_
    refine va_calli (va_runS (As := [.int (x8 >>> (iI 6 &&& 31)), .int (iI 61)]) (rest := [.int (iI (60 + u8)), .int (iI u6), .int (iI u4), .int (iI u2), .ref (a 0)]) ⟨hx, hb, hml, hown, hw⟩ (c_below l D a cH cB cJ cI ha g vt H.size (x8 >>> (iI 6 &&& 31)) 61 (by omega)) (va_cwS 2 hw (gA_S kw_64 kw_65 kw_61 kw_66) rfl rfl rfl (by decide +kernel) ⟨Nat.le_of_ble_eq_true rfl, Nat.le_of_ble_eq_true rfl⟩) (pS_s hP hK hE) rfl rfl hl.1 rfl (lv_room (Nat.le_of_ble_eq_true rfl)) dL_law_384 ⟨rm_c (by omega), rm_s (by omega)⟩) hS (fun q h1 h2 => ro_A h1 h2) (fun q h => ro_F hS hA q h) (fun r u t H1 locs ht hvm hw9 hB9 hz1 hk1 hS => ?_)
    have hw9 : r = (iI (m_bel (x8 >>> (iI 6 &&& 31)) 61)) := hw9
    subst hw9
    have hP := ro_P hP hk1
    generalize H1 = H at hP hS ⊢
    have s11 := bel_b (x8 >>> (iI 6 &&& 31)) (n := 61) (by omega)
    obtain ⟨u10, hu10⟩ : ∃ z, z = (m_bel (x8 >>> (iI 6 &&& 31)) 61) := ⟨_, rfl⟩
    have hbu10 : 0 ≤ u10 ∧ u10 < 61 := by rw [hu10]; exact bel_b _ (by omega)
    rw [show (m_bel (x8 >>> (iI 6 &&& 31)) 61) = u10 from hu10.symm]
    refine lv_iload hx hb dL_law_387 (lv_at hl 8 rfl) ?_
    refine lv_bipush (v := iI 7) hx hb dL_law_389 (by decide) ?_
    refine lv_ishr hx hb dL_law_391 ?_
    refine lv_bipush (v := iI 10) hx hb dL_law_392 (by decide) ?_
    refine va_calli (va_runS (As := [.int (x8 >>> (iI 7 &&& 31)), .int (iI 10)]) (rest := [.int (iI u10), .int (iI (60 + u8)), .int (iI u6), .int (iI u4), .int (iI u2), .ref (a 0)]) ⟨hx, hb, hml, hown, hw⟩ (c_below l D a cH cB cJ cI ha g vt H.size (x8 >>> (iI 7 &&& 31)) 10 (by omega)) (va_cwS 2 hw (gA_S kw_64 kw_65 kw_61 kw_66) rfl rfl rfl (by decide +kernel) ⟨Nat.le_of_ble_eq_true rfl, Nat.le_of_ble_eq_true rfl⟩) (pS_s hP hK hE) rfl rfl hl.1 rfl (lv_room (Nat.le_of_ble_eq_true rfl)) dL_law_394 ⟨rm_c (by omega), rm_s (by omega)⟩) hS (fun q h1 h2 => ro_A h1 h2) (fun q h => ro_F hS hA q h) (fun r u t H1 locs ht hvm hw9 hB9 hz1 hk1 hS => ?_)
    have hw9 : r = (iI (m_bel (x8 >>> (iI 7 &&& 31)) 10)) := hw9
    subst hw9
    have hP := ro_P hP hk1
    generalize H1 = H at hP hS ⊢
    have s13 := bel_b (x8 >>> (iI 7 &&& 31)) (n := 10) (by omega)
    obtain ⟨u12, hu12⟩ : ∃ z, z = (m_bel (x8 >>> (iI 7 &&& 31)) 10) := ⟨_, rfl⟩
    have hbu12 : 0 ≤ u12 ∧ u12 < 10 := by rw [hu12]; exact bel_b _ (by omega)
    rw [show (m_bel (x8 >>> (iI 7 &&& 31)) 10) = u12 from hu12.symm]
    refine va_calli (va_runV (As := [.int (iI u2), .int (iI u4), .int (iI u6), .int (iI (60 + u8)), .int (iI u10), .int (iI u12)]) (rest := []) ⟨hx, hb, hml, hown, hw⟩ (c_book l D a cH cB cJ cI ha g vt H.size u2 u4 u6 (60 + u8) u10 u12 hWf (by omega) (by omega) (by omega) (by omega) (by omega) (by omega) (by omega)) (cwV 6 hw (gA_V kw_129 kw_130 kw_131 kw_2 kw_132) rfl rfl rfl (by decide +kernel) ⟨Nat.le_of_ble_eq_true rfl, Nat.le_of_ble_eq_true rfl⟩) (pS_v (ci := 4) (q0 := 0) rfl pw_0 hP hK hE) rfl rfl hl.1 rfl (lv_room (Nat.le_of_ble_eq_true rfl)) dL_law_397 ⟨rm_c (by omega), rm_s (by omega)⟩) hS (fun q _ h => rw_A hS hA hB q h) (fun q h => rw_A hS hA hB q h) (fun r u t H1 locs ht hvm hw9 hB9 hz1 hk1 hS => ?_)
    have hw9 : r = (iI (g 0 0 4)) := hw9
    subst hw9
    obtain ⟨v14, hP1⟩ := hB9
    rw [ht] at hP1
    obtain ⟨g15, hg15⟩ : ∃ z, z = (m_book g u2 u4 u6 (60 + u8) u10 u12) := ⟨_, rfl⟩
    rw [← hg15] at hP1
    have hP : va_P D vwCl (pw a cH cB cJ cI g15 v14) H1 := hP1
    generalize H1 = H at hP hS ⊢
    obtain ⟨hivg15, hmkg15⟩ : (Iv hh jj ((tn : Nat) : Int) paid printed called g15) ∧ ∀ j, 0 ≤ j → j < 5 → g15 6 j (g 0 0 4) = -1 := by rw [hg15]; exact inv_book hIv (by omega) (by omega) (by omega) (by omega) (by omega) (by omega) (by omega) (by omega)
    have hn5g15 : g15 0 0 5 = jj := hivg15.2.2.2.1.2.1
    have hn4g15 : g15 0 0 4 = g 0 0 4 + 1 := by rw [hg15]; exact book_4 _ _ _ _ _ _ _
    have hm1 := hmkg15 jd (by omega) (by omega)
    have hWg15 : Wf g15 := hivg15.1
    refine lv_iload hx hb dL_law_400 (lv_at hl 9 rfl) ?_
    refine n_icmp_ne hx hb (by unfold RI; omega) (by unfold RI; omega) (tgt := 417) dL_law_402 (by decide) (fun h16 => absurd h16 (by intro h16; exact h16 rfl)) (fun h16 => ?_)
    refine lv_aload_n hx hb dL_law_405 rfl (lv_at hl 1 rfl) ?_
    refine lv_iload hx hb dL_law_406 (lv_at hl 11 rfl) ?_
    refine lv_iload hx hb dL_law_408 (lv_at hl 9 rfl) ?_
    refine va_calli (va_runV (As := [.int (iI jd), .int (iI (g 0 0 4))]) (rest := []) ⟨hx, hb, hml, hown, hw⟩ (c_mark l D a cH cB cJ cI ha g15 v14 H.size jd (g 0 0 4) hWg15 (by omega) (by omega)) (cwV 2 hw (gA_V kw_153 kw_154 kw_155 kw_2 kw_156) rfl rfl rfl (by decide +kernel) ⟨Nat.le_of_ble_eq_true rfl, Nat.le_of_ble_eq_true rfl⟩) (pS_v (ci := 4) (q0 := 0) rfl pw_0 hP hK hE) rfl rfl hl.1 rfl (lv_room (Nat.le_of_ble_eq_true rfl)) dL_law_410 ⟨rm_c (by omega), rm_s (by omega)⟩) hS (fun q h1 h2 => ro_A h1 h2) (fun q h => ro_F hS hA q h) (fun r u t H1 locs ht hvm hw9 hB9 hz1 hk1 hS => ?_)
    have hw9 : r = (iI (g15 6 jd (g 0 0 4))) := hw9
    subst hw9
    have hP := ro_P hP hk1
    generalize H1 = H at hP hS ⊢
    have s17 := Wf.r6 hWg15 (j := jd) (k := (g 0 0 4)) (by omega) (by have := Wf.m5 hWg15; omega) (by omega) (by have := Wf.m4 hWg15; omega)
    refine lv_iconst (v := iI (-1)) hx hb dL_law_413 (by decide) ?_
    refine n_icmp_eq hx hb (by unfold RI; omega) (by unfold RI; omega) (tgt := 1603) dL_law_414 (by decide) (fun h18 => ?_) (fun h18 => absurd h18 (by intro h18; omega))
    refine W.widen (k := cells + 1) (n := slots + 5) (by omega) (by omega) ?_
    exact kx g15 v14 paid printed called H locs ls (inv_later hivg15) hP hS (lv_sub hl [0, 1, 2, 3, 4, 5, 6, 7] rfl)
  · skip
    refine lv_goto (tgt := 1603) hx hb dL_law_335 (by decide) ?_
    refine W.widen (k := cells + 1) (n := slots + 5) (by omega) (by omega) ?_
    exact kx g vt paid printed called H locs ls (inv_later hIv) hP hS (lv_sub hl [0, 1, 2, 3, 4, 5, 6, 7] rfl)

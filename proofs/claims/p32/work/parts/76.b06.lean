set_option maxHeartbeats 4000000 in
set_option maxRecDepth 100000 in
theorem law_strip {p : Program} {l : Launch} {e : Env} {s : State} {m : MethodId} {args : Array Value} {below : List Frame} {meth : Method} {c : Code} {Q : State → Prop} {b : Nat} {D : va_G} {a : Nat → Nat} {cH cB cJ cI : ClassId} (hx : p.tables.exec = Jvm.exec) (hb : c.code = cL_law) (hml : c.maxLocals = 23) (hown : s.vm.findClass RL = some m.cls) (hw : ∀ w ∈ wsL_law0, w.before args s = true) (ha : pj a) (hB : ∀ k, k < 58 → s.heap.size ≤ a k) (hK : va_K D vwCl (pT cH cB cJ cI) s) (hE : ew s) {g : m_St} {vt : Nat → Int32} {hh jj paid printed called : Int} {tn cells slots : Nat} (ht9 : tn < 90) (hcc : cells + 2 ≤ 600074) (hss : slots + 10 ≤ 7301550) (hhh : 2 ≤ hh ∧ hh ≤ 5) (hjj : 3 ≤ jj ∧ jj ≤ 5) (hIv : Iv hh jj ((tn : Nat) : Int) paid printed called g) {x8 : Int32} {bk jd : Int} (hbk : -1 ≤ bk ∧ bk < g 0 0 4) (hjd : 0 ≤ jd ∧ jd < g 0 0 5) {H : Heap} {locs : List Loc} {ls : Array Slot} (hP : va_P D vwCl (pw a cH cB cJ cI g vt) H) (hS : va_S (fun q => s.heap.size ≤ q) s.heap H locs) (hl : lv_has ls 23 [(0, .ref b), (1, .ref (a 0)), (2, .int (iI hh)), (3, .int (iI jj)), (4, .int (iI paid)), (5, .int (iI printed)), (6, .int (iI called)), (7, .int (iI ((tn : Nat) : Int))), (8, .int x8), (9, .int (iI (g 0 0 4))), (10, .int (iI bk)), (11, .int (iI jd)), (12, .int (iI (g 0 0 9))), (13, .int (iI (g 0 0 8))), (14, .int (iI (m_entCount g))), (15, .int (iI (g 9 0 3)))]) (kx : ∀ (g1 : m_St) (v1 : Nat → Int32) (p1 p2 p3 : Int) (H : Heap) (locs : List Loc) (ls : Array Slot), Iv hh jj ((tn : Int) + 1) p1 p2 p3 g1 → va_P D vwCl (pw a cH cB cJ cI g1 v1) H → va_S (fun q => s.heap.size ≤ q) s.heap H locs → lv_has ls 23 [(0, .ref b), (1, .ref (a 0)), (2, .int (iI hh)), (3, .int (iI jj)), (4, .int (iI p1)), (5, .int (iI p2)), (6, .int (iI p3)), (7, .int (iI ((tn : Nat) : Int)))] → W p l e room_1 s m args below meth c H locs (cells + 1) (slots + 5) Q (F0 m 1603 ls [])) : W p l e room_1 s m args below meth c H locs cells slots Q (F0 m 1348 ls []) := by
  have hWf : Wf g := hIv.1
  have m3 := Wf.m3 hWf
  have m4 := Wf.m4 hWf
  have m5 := Wf.m5 hWf
  have m8 := Wf.m8 hWf
  have m9 := Wf.m9 hWf
  have m10 := Wf.m10 hWf
  have m11 := Wf.m11 hWf
  have m13 := Wf.m13 hWf
  have m14 := Wf.m14 hWf
  have hS5 := hIv.2.2.2.2.1
  have hsb : ∀ b, m_has (g 0 0 13) b = true → b < g 0 0 4 := fun b hb => (hS5.1 b (hS5.2.1 b hb)).1
  have hN3 : g 0 0 3 = hh := hIv.2.2.2.1.1
  have hN5 : g 0 0 5 = jj := hIv.2.2.2.1.2.1
  have hN8 : 5 * g 0 0 8 + g 0 0 9 ≤ tn := hIv.2.2.2.1.2.2.1
  have hN10 : g 0 0 10 ≤ 6 * tn := hIv.2.2.2.1.2.2.2
  have hA : ∀ q : Nat, s.heap.size ≤ q → (fun q : Nat => s.heap.size ≤ q) q := fun _ h => h
  have hw14 : g 0 0 14 < g 0 0 4 := by
    rcases hS5.2.2.1 with h | h
    · omega
    · exact hsb _ h.1
  refine lv_aload_n hx hb dL_law_1348 rfl (lv_at hl 1 rfl) ?_
  refine lv_bipush (v := iI 9) hx hb dL_law_1349 (by decide) ?_
  refine va_calli (va_runV (As := [.int (iI 9)]) (rest := []) ⟨hx, hb, hml, hown, hw⟩ (c_many l D a cH cB cJ cI ha g vt H.size 9 hWf (by omega)) (cwV 1 hw (gA_V kw_92 kw_93 kw_94 kw_2 kw_95) rfl rfl rfl (by decide +kernel) ⟨Nat.le_of_ble_eq_true rfl, Nat.le_of_ble_eq_true rfl⟩) (pS_v (ci := 4) (q0 := 0) rfl pw_0 hP hK hE) rfl rfl hl.1 rfl (lv_room (Nat.le_of_ble_eq_true rfl)) dL_law_1351 ⟨rm_c (by omega), rm_s (by omega)⟩) hS (fun q h1 h2 => ro_A h1 h2) (fun q h => ro_F hS hA q h) (fun r u t H1 locs ht hvm hw9 hB9 hz1 hk1 hS => ?_)
  have hw9 : r = (iI (m_many g 9)) := hw9
  subst hw9
  have hP := ro_P hP hk1
  generalize H1 = H at hP hS ⊢
  rw [show (m_many g 9) = (g 0 0 14) from rfl]
  have s1 := Wf.m14 hWf
  refine lv_istore (lv' := [(16, .int (iI (g 0 0 14))), (0, .ref b), (1, .ref (a 0)), (2, .int (iI hh)), (3, .int (iI jj)), (4, .int (iI paid)), (5, .int (iI printed)), (6, .int (iI called)), (7, .int (iI ((tn : Nat) : Int))), (8, .int x8), (9, .int (iI (g 0 0 4))), (10, .int (iI bk)), (11, .int (iI jd)), (12, .int (iI (g 0 0 9))), (13, .int (iI (g 0 0 8))), (14, .int (iI (m_entCount g))), (15, .int (iI (g 9 0 3)))]) hx hb dL_law_1354 hl (by decide) rfl (fun ls hl => ?_)
  refine lv_aload_n hx hb dL_law_1356 rfl (lv_at hl 2 rfl) ?_
  refine lv_bipush (v := iI 11) hx hb dL_law_1357 (by decide) ?_
  refine va_calli (va_runV (As := [.int (iI 11)]) (rest := []) ⟨hx, hb, hml, hown, hw⟩ (c_many l D a cH cB cJ cI ha g vt H.size 11 hWf (by omega)) (cwV 1 hw (gA_V kw_92 kw_93 kw_94 kw_2 kw_95) rfl rfl rfl (by decide +kernel) ⟨Nat.le_of_ble_eq_true rfl, Nat.le_of_ble_eq_true rfl⟩) (pS_v (ci := 4) (q0 := 0) rfl pw_0 hP hK hE) rfl rfl hl.1 rfl (lv_room (Nat.le_of_ble_eq_true rfl)) dL_law_1359 ⟨rm_c (by omega), rm_s (by omega)⟩) hS (fun q h1 h2 => ro_A h1 h2) (fun q h => ro_F hS hA q h) (fun r u t H1 locs ht hvm hw9 hB9 hz1 hk1 hS => ?_)
  have hw9 : r = (iI (m_many g 11)) := hw9
  subst hw9
  have hP := ro_P hP hk1
  generalize H1 = H at hP hS ⊢
  have hp17 := pcn_b (g 0 0 17)
  rw [show (m_many g 11) = (m_pcn (g 0 0 17)) from rfl]
  refine lv_istore (lv' := [(17, .int (iI (m_pcn (g 0 0 17)))), (16, .int (iI (g 0 0 14))), (0, .ref b), (1, .ref (a 0)), (2, .int (iI hh)), (3, .int (iI jj)), (4, .int (iI paid)), (5, .int (iI printed)), (6, .int (iI called)), (7, .int (iI ((tn : Nat) : Int))), (8, .int x8), (9, .int (iI (g 0 0 4))), (10, .int (iI bk)), (11, .int (iI jd)), (12, .int (iI (g 0 0 9))), (13, .int (iI (g 0 0 8))), (14, .int (iI (m_entCount g))), (15, .int (iI (g 9 0 3)))]) hx hb dL_law_1362 hl (by decide) rfl (fun ls hl => ?_)
  refine lv_iload hx hb dL_law_1364 (lv_at hl 14 rfl) ?_
  refine lv_iconst (v := iI 4) hx hb dL_law_1366 (by decide) ?_
  refine n_icmp_ne hx hb (by unfold RI; omega) (by unfold RI; omega) (tgt := 1603) dL_law_1367 (by decide) (fun h2 => ?_) (fun h2 => ?_)
  · skip
    refine W.widen (k := cells + 1) (n := slots + 5) (by omega) (by omega) ?_
    exact kx g vt paid printed called H locs ls (inv_later hIv) hP hS (lv_sub hl [2, 3, 4, 5, 6, 7, 8, 9] rfl)
  · skip
    refine lv_iload hx hb dL_law_1370 (lv_at hl 1 rfl) ?_
    refine n_if_ge hx hb (by unfold RI; omega) (tgt := 1378) dL_law_1372 (by decide) (fun h3 => ?_) (fun h3 => ?_)
    · skip
      refine lv_aload_n hx hb dL_law_1378 rfl (lv_at hl 3 rfl) ?_
      refine lv_iload hx hb dL_law_1379 (lv_at hl 1 rfl) ?_
      refine va_calli (va_runV (As := [.int (iI (g 0 0 14))]) (rest := []) ⟨hx, hb, hml, hown, hw⟩ (c_spoiled l D a cH cB cJ cI ha g vt H.size (g 0 0 14) hWf (by omega) (hsb)) (cwV 1 hw (gA_V kw_455 kw_456 kw_457 kw_2 kw_458) rfl rfl rfl (by decide +kernel) ⟨Nat.le_of_ble_eq_true rfl, Nat.le_of_ble_eq_true rfl⟩) (pS_v (ci := 4) (q0 := 0) rfl pw_0 hP hK hE) rfl rfl hl.1 rfl (lv_room (Nat.le_of_ble_eq_true rfl)) dL_law_1381 ⟨rm_c (by omega), rm_s (by omega)⟩) hS (fun q _ h => rw_A hS hA hB q h) (fun q h => rw_A hS hA hB q h) (fun r u t H1 locs ht hvm hw9 hB9 hz1 hk1 hS => ?_)
      have hw9 : r = (iI (m_spoiled g (g 0 0 14))) := hw9
      subst hw9
      obtain ⟨v4, hP1⟩ := hB9
      rw [ht] at hP1
      have hP : va_P D vwCl (pw a cH cB cJ cI g v4) H1 := hP1
      generalize H1 = H at hP hS ⊢
      have s5 := spo_b hWf (g 0 0 14)
      refine lv_aload_n hx hb dL_law_1384 rfl (lv_at hl 3 rfl) ?_
      refine va_calli (va_runV (As := []) (rest := [.int (iI (m_spoiled g (g 0 0 14)))]) ⟨hx, hb, hml, hown, hw⟩ (c_strip l D a cH cB cJ cI ha g v4 H.size  hWf (by omega) (by omega) (hsb)) (cwV 0 hw (gA_V kw_459 kw_460 kw_461 kw_2 kw_462) rfl rfl rfl (by decide +kernel) ⟨Nat.le_of_ble_eq_true rfl, Nat.le_of_ble_eq_true rfl⟩) (pS_v (ci := 4) (q0 := 0) rfl pw_0 hP hK hE) rfl rfl hl.1 rfl (lv_room (Nat.le_of_ble_eq_true rfl)) dL_law_1385 ⟨rm_c (by omega), rm_s (by omega)⟩) hS (fun q _ h => rw_A hS hA hB q h) (fun q h => rw_A hS hA hB q h) (fun r u t H1 locs ht hvm hw9 hB9 hz1 hk1 hS => ?_)
      have hw9 : r = (iI (m_winner (m_up g 0 0 17 (m_bo (g 0 0 17) (m_bt (g 0 0 14)))) 0 0)) := hw9
      subst hw9
      obtain ⟨v6, hP1⟩ := hB9
      rw [ht] at hP1
      obtain ⟨g7, hg7⟩ : ∃ z, z = (m_strip g) := ⟨_, rfl⟩
      rw [← hg7] at hP1
      have hP : va_P D vwCl (pw a cH cB cJ cI g7 v6) H1 := hP1
      generalize H1 = H at hP hS ⊢
      have hw1 : m_winner (m_up g 0 0 17 (m_bo (g 0 0 17) (m_bt (g 0 0 14)))) 0 0 = m_spoiled g (g 0 0 14) := (crown_14 _ _).symm.trans (inv_strip hIv (by omega) (by omega)).2.1
      rw [show (m_winner (m_up g 0 0 17 (m_bo (g 0 0 17) (m_bt (g 0 0 14)))) 0 0) = (m_spoiled g (g 0 0 14)) from hw1]
      have hivg7 : Iv hh jj (((tn : Nat) : Int) + 1) paid printed called g7 := by rw [hg7]; exact (inv_strip hIv (by omega) (by omega)).1
      have hw2g7 : g7 0 0 14 ≠ g 0 0 14 := by rw [hg7]; exact (inv_strip hIv (by omega) (by omega)).2.2.1
      have hw3g7 : m_pcn (g7 0 0 17) = m_pcn (g 0 0 17) + 1 := by rw [hg7]; exact (inv_strip hIv (by omega) (by omega)).2.2.2
      have hpcg7 := pcn_b (g7 0 0 17)
      have hm14g7 := Wf.m14 hivg7.1
      have hWg7 : Wf g7 := hivg7.1
      refine n_icmp_ne hx hb (by unfold RI; omega) (by unfold RI; omega) (tgt := 1415) dL_law_1388 (by decide) (fun h8 => absurd h8 (by intro h8; exact h8 rfl)) (fun h8 => ?_)
      refine lv_aload_n hx hb dL_law_1391 rfl (lv_at hl 3 rfl) ?_
      refine lv_bipush (v := iI 9) hx hb dL_law_1392 (by decide) ?_
      refine va_calli (va_runV (As := [.int (iI 9)]) (rest := []) ⟨hx, hb, hml, hown, hw⟩ (c_many l D a cH cB cJ cI ha g7 v6 H.size 9 hWg7 (by omega)) (cwV 1 hw (gA_V kw_92 kw_93 kw_94 kw_2 kw_95) rfl rfl rfl (by decide +kernel) ⟨Nat.le_of_ble_eq_true rfl, Nat.le_of_ble_eq_true rfl⟩) (pS_v (ci := 4) (q0 := 0) rfl pw_0 hP hK hE) rfl rfl hl.1 rfl (lv_room (Nat.le_of_ble_eq_true rfl)) dL_law_1394 ⟨rm_c (by omega), rm_s (by omega)⟩) hS (fun q h1 h2 => ro_A h1 h2) (fun q h => ro_F hS hA q h) (fun r u t H1 locs ht hvm hw9 hB9 hz1 hk1 hS => ?_)
      have hw9 : r = (iI (m_many g7 9)) := hw9
      subst hw9
      have hP := ro_P hP hk1
      generalize H1 = H at hP hS ⊢
      rw [show (m_many g7 9) = (g7 0 0 14) from rfl]
      have s9 := Wf.m14 hWg7
      refine lv_iload hx hb dL_law_1397 (lv_at hl 1 rfl) ?_
      refine n_icmp_eq hx hb (by unfold RI; omega) (by unfold RI; omega) (tgt := 1415) dL_law_1399 (by decide) (fun h10 => absurd h10 (by intro h10; omega)) (fun h10 => ?_)
      refine lv_aload_n hx hb dL_law_1402 rfl (lv_at hl 3 rfl) ?_
      refine lv_bipush (v := iI 11) hx hb dL_law_1403 (by decide) ?_
      refine va_calli (va_runV (As := [.int (iI 11)]) (rest := []) ⟨hx, hb, hml, hown, hw⟩ (c_many l D a cH cB cJ cI ha g7 v6 H.size 11 hWg7 (by omega)) (cwV 1 hw (gA_V kw_92 kw_93 kw_94 kw_2 kw_95) rfl rfl rfl (by decide +kernel) ⟨Nat.le_of_ble_eq_true rfl, Nat.le_of_ble_eq_true rfl⟩) (pS_v (ci := 4) (q0 := 0) rfl pw_0 hP hK hE) rfl rfl hl.1 rfl (lv_room (Nat.le_of_ble_eq_true rfl)) dL_law_1405 ⟨rm_c (by omega), rm_s (by omega)⟩) hS (fun q h1 h2 => ro_A h1 h2) (fun q h => ro_F hS hA q h) (fun r u t H1 locs ht hvm hw9 hB9 hz1 hk1 hS => ?_)
      have hw9 : r = (iI (m_many g7 11)) := hw9
      subst hw9
      have hP := ro_P hP hk1
      generalize H1 = H at hP hS ⊢
      rw [show (m_many g7 11) = (m_pcn (g7 0 0 17)) from rfl]
      refine lv_iload hx hb dL_law_1408 (lv_at hl 0 rfl) ?_
      refine lv_iconst (v := iI 1) hx hb dL_law_1410 (by decide) ?_
      refine n_add hx hb dL_law_1411 ?_
      refine n_icmp_eq hx hb (by unfold RI; omega) (by unfold RI; omega) (tgt := 1603) dL_law_1412 (by decide) (fun h11 => ?_) (fun h11 => absurd h11 (by intro h11; omega))
      refine W.widen (k := cells + 1) (n := slots + 5) (by omega) (by omega) ?_
      exact kx g7 v6 paid printed called H locs ls hivg7 hP hS (lv_sub hl [2, 3, 4, 5, 6, 7, 8, 9] rfl)
    · skip
      refine lv_goto (tgt := 1603) hx hb dL_law_1375 (by decide) ?_
      refine W.widen (k := cells + 1) (n := slots + 5) (by omega) (by omega) ?_
      exact kx g vt paid printed called H locs ls (inv_later hIv) hP hS (lv_sub hl [2, 3, 4, 5, 6, 7, 8, 9] rfl)

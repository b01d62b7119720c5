set_option maxHeartbeats 4000000 in
set_option maxRecDepth 100000 in
theorem law_pass {p : Program} {l : Launch} {e : Env} {s : State} {m : MethodId} {args : Array Value} {below : List Frame} {meth : Method} {c : Code} {Q : State → Prop} {b : Nat} {D : va_G} {a : Nat → Nat} {cH cB cJ cI : ClassId} (hx : p.tables.exec = Jvm.exec) (hb : c.code = cL_law) (hml : c.maxLocals = 23) (hown : s.vm.findClass RL = some m.cls) (hw : ∀ w ∈ wsL_law0, w.before args s = true) (ha : pj a) (hB : ∀ k, k < 58 → s.heap.size ≤ a k) (hK : va_K D vwCl (pT cH cB cJ cI) s) (hE : ew s) {g : m_St} {vt : Nat → Int32} {hh jj paid printed called : Int} {tn cells slots : Nat} (ht9 : tn < 90) (hcc : cells + 2 ≤ 600074) (hss : slots + 10 ≤ 7301550) (hhh : 2 ≤ hh ∧ hh ≤ 5) (hjj : 3 ≤ jj ∧ jj ≤ 5) (hIv : Iv hh jj ((tn : Nat) : Int) paid printed called g) {x8 : Int32} {bk jd : Int} (hbk : -1 ≤ bk ∧ bk < g 0 0 4) (hjd : 0 ≤ jd ∧ jd < g 0 0 5) {H : Heap} {locs : List Loc} {ls : Array Slot} (hP : va_P D vwCl (pw a cH cB cJ cI g vt) H) (hS : va_S (fun q => s.heap.size ≤ q) s.heap H locs) (hl : lv_has ls 23 [(0, .ref b), (1, .ref (a 0)), (2, .int (iI hh)), (3, .int (iI jj)), (4, .int (iI paid)), (5, .int (iI printed)), (6, .int (iI called)), (7, .int (iI ((tn : Nat) : Int))), (8, .int x8), (9, .int (iI (g 0 0 4))), (10, .int (iI bk)), (11, .int (iI jd)), (12, .int (iI (g 0 0 9))), (13, .int (iI (g 0 0 8))), (14, .int (iI (m_entCount g))), (15, .int (iI (g 9 0 3)))]) (kx : ∀ (g1 : m_St) (v1 : Nat → Int32) (p1 p2 p3 : Int) (H : Heap) (locs : List Loc) (ls : Array Slot), Iv hh jj ((tn : Int) + 1) p1 p2 p3 g1 → va_P D vwCl (pw a cH cB cJ cI g1 v1) H → va_S (fun q => s.heap.size ≤ q) s.heap H locs → lv_has ls 23 [(0, .ref b), (1, .ref (a 0)), (2, .int (iI hh)), (3, .int (iI jj)), (4, .int (iI p1)), (5, .int (iI p2)), (6, .int (iI p3)), (7, .int (iI ((tn : Nat) : Int)))] → W p l e room_1 s m args below meth c H locs (cells + 1) (slots + 5) Q (F0 m 1603 ls [])) : W p l e room_1 s m args below meth c H locs cells slots Q (F0 m 1417 ls []) := by
  have hWf : Wf g := hIv.1
  have m3 := Wf.m3 hWf
  have m4 := Wf.m4 hWf
  have m5 := Wf.m5 hWf
  have m8 := Wf.m8 hWf
  have m9 := Wf.m9 hWf
  have m10 := Wf.m10 hWf
  have m11 := Wf.m11 hWf
  have m13 := Wf.m13 hWf
  have m14 := Wf.m14 hWf
  have hS5 := hIv.2.2.2.2.1
  have hsb : ∀ b, m_has (g 0 0 13) b = true → b < g 0 0 4 := fun b hb => (hS5.1 b (hS5.2.1 b hb)).1
  have hN3 : g 0 0 3 = hh := hIv.2.2.2.1.1
  have hN5 : g 0 0 5 = jj := hIv.2.2.2.1.2.1
  have hN8 : 5 * g 0 0 8 + g 0 0 9 ≤ tn := hIv.2.2.2.1.2.2.1
  have hN10 : g 0 0 10 ≤ 6 * tn := hIv.2.2.2.1.2.2.2
  have hA : ∀ q : Nat, s.heap.size ≤ q → (fun q : Nat => s.heap.size ≤ q) q := fun _ h => h
  refine lv_iconst (v := iI 1) hx hb dL_law_1417 (by decide) ?_
  refine lv_iload hx hb dL_law_1418 (lv_at hl 8 rfl) ?_
  refine lv_iconst (v := iI 3) hx hb dL_law_1420 (by decide) ?_
  refine lv_ishr hx hb dL_law_1421 ?_
  refine lv_bipush (v := iI 6) hx hb dL_law_1422 (by decide) ?_
  refine va_calli (va_runS (As := [.int (x8 >>> (iI 3 &&& 31)), .int (iI 6)]) (rest := [.int (iI 1)]) ⟨hx, hb, hml, hown, hw⟩ (c_below l D a cH cB cJ cI ha g vt H.size (x8 >>> (iI 3 &&& 31)) 6 (by omega)) (va_cwS 2 hw (gA_S kw_64 kw_65 kw_61 kw_66) rfl rfl rfl (by decide +kernel) ⟨Nat.le_of_ble_eq_true rfl, Nat.le_of_ble_eq_true rfl⟩) (pS_s hP hK hE) rfl rfl hl.1 rfl (lv_room (Nat.le_of_ble_eq_true rfl)) dL_law_1424 ⟨rm_c (by omega), rm_s (by omega)⟩) hS (fun q h1 h2 => ro_A h1 h2) (fun q h => ro_F hS hA q h) (fun r u t H1 locs ht hvm hw9 hB9 hz1 hk1 hS => ?_)
  have hw9 : r = (iI (m_bel (x8 >>> (iI 3 &&& 31)) 6)) := hw9
  subst hw9
  have hP := ro_P hP hk1
  generalize H1 = H at hP hS ⊢
  have s2 := bel_b (x8 >>> (iI 3 &&& 31)) (n := 6) (by omega)
  obtain ⟨u1, hu1⟩ : ∃ z, z = (m_bel (x8 >>> (iI 3 &&& 31)) 6) := ⟨_, rfl⟩
  have hbu1 : 0 ≤ u1 ∧ u1 < 6 := by rw [hu1]; exact bel_b _ (by omega)
  rw [show (m_bel (x8 >>> (iI 3 &&& 31)) 6) = u1 from hu1.symm]
  refine n_add hx hb dL_law_1427 ?_
  refine lv_istore (lv' := [(16, .int (iI (1 + u1))), (0, .ref b), (1, .ref (a 0)), (2, .int (iI hh)), (3, .int (iI jj)), (4, .int (iI paid)), (5, .int (iI printed)), (6, .int (iI called)), (7, .int (iI ((tn : Nat) : Int))), (8, .int x8), (9, .int (iI (g 0 0 4))), (10, .int (iI bk)), (11, .int (iI jd)), (12, .int (iI (g 0 0 9))), (13, .int (iI (g 0 0 8))), (14, .int (iI (m_entCount g))), (15, .int (iI (g 9 0 3)))]) hx hb dL_law_1428 hl (by decide) rfl (fun ls hl => ?_)
  refine lv_aload_n hx hb dL_law_1430 rfl (lv_at hl 2 rfl) ?_
  refine va_calli (va_runV (As := []) (rest := []) ⟨hx, hb, hml, hown, hw⟩ (c_readIn l D a cH cB cJ cI ha g vt H.size  hWf) (cwV 0 hw (gA_V kw_302 kw_303 kw_304 kw_2 kw_305) rfl rfl rfl (by decide +kernel) ⟨Nat.le_of_ble_eq_true rfl, Nat.le_of_ble_eq_true rfl⟩) (pS_v (ci := 4) (q0 := 0) rfl pw_0 hP hK hE) rfl rfl hl.1 rfl (lv_room (Nat.le_of_ble_eq_true rfl)) dL_law_1431 ⟨rm_c (by omega), rm_s (by omega)⟩) hS (fun q h1 h2 => ro_A h1 h2) (fun q h => ro_F hS hA q h) (fun r u t H1 locs ht hvm hw9 hB9 hz1 hk1 hS => ?_)
  have hw9 : r = (iI (m_readIn g)) := hw9
  subst hw9
  have hP := ro_P hP hk1
  generalize H1 = H at hP hS ⊢
  have s3 := readIn_b g
  refine lv_istore (lv' := [(17, .int (iI (m_readIn g))), (16, .int (iI (1 + u1))), (0, .ref b), (1, .ref (a 0)), (2, .int (iI hh)), (3, .int (iI jj)), (4, .int (iI paid)), (5, .int (iI printed)), (6, .int (iI called)), (7, .int (iI ((tn : Nat) : Int))), (8, .int x8), (9, .int (iI (g 0 0 4))), (10, .int (iI bk)), (11, .int (iI jd)), (12, .int (iI (g 0 0 9))), (13, .int (iI (g 0 0 8))), (14, .int (iI (m_entCount g))), (15, .int (iI (g 9 0 3)))]) hx hb dL_law_1434 hl (by decide) rfl (fun ls hl => ?_)
  refine lv_aload_n hx hb dL_law_1436 rfl (lv_at hl 3 rfl) ?_
  refine lv_bipush (v := iI 13) hx hb dL_law_1437 (by decide) ?_
  refine va_calli (va_runV (As := [.int (iI 13)]) (rest := []) ⟨hx, hb, hml, hown, hw⟩ (c_many l D a cH cB cJ cI ha g vt H.size 13 hWf (by omega)) (cwV 1 hw (gA_V kw_92 kw_93 kw_94 kw_2 kw_95) rfl rfl rfl (by decide +kernel) ⟨Nat.le_of_ble_eq_true rfl, Nat.le_of_ble_eq_true rfl⟩) (pS_v (ci := 4) (q0 := 0) rfl pw_0 hP hK hE) rfl rfl hl.1 rfl (lv_room (Nat.le_of_ble_eq_true rfl)) dL_law_1439 ⟨rm_c (by omega), rm_s (by omega)⟩) hS (fun q h1 h2 => ro_A h1 h2) (fun q h => ro_F hS hA q h) (fun r u t H1 locs ht hvm hw9 hB9 hz1 hk1 hS => ?_)
  have hw9 : r = (iI (m_many g 13)) := hw9
  subst hw9
  have hP := ro_P hP hk1
  generalize H1 = H at hP hS ⊢
  rw [show (m_many g 13) = (m_missedEver g) from rfl]
  refine lv_istore (lv' := [(18, .int (iI (m_missedEver g))), (17, .int (iI (m_readIn g))), (16, .int (iI (1 + u1))), (0, .ref b), (1, .ref (a 0)), (2, .int (iI hh)), (3, .int (iI jj)), (4, .int (iI paid)), (5, .int (iI printed)), (6, .int (iI called)), (7, .int (iI ((tn : Nat) : Int))), (8, .int x8), (9, .int (iI (g 0 0 4))), (10, .int (iI bk)), (11, .int (iI jd)), (12, .int (iI (g 0 0 9))), (13, .int (iI (g 0 0 8))), (14, .int (iI (m_entCount g))), (15, .int (iI (g 9 0 3)))]) hx hb dL_law_1442 hl (by decide) rfl (fun ls hl => ?_)
  refine lv_aload_n hx hb dL_law_1444 rfl (lv_at hl 4 rfl) ?_
  refine lv_iload hx hb dL_law_1445 (lv_at hl 2 rfl) ?_
  refine va_calli (va_runV (As := [.int (iI (1 + u1))]) (rest := []) ⟨hx, hb, hml, hown, hw⟩ (c_wouldMiss l D a cH cB cJ cI ha g vt H.size (1 + u1) hWf (by omega)) (cwV 1 hw (gA_V kw_463 kw_464 kw_465 kw_2 kw_466) rfl rfl rfl (by decide +kernel) ⟨Nat.le_of_ble_eq_true rfl, Nat.le_of_ble_eq_true rfl⟩) (pS_v (ci := 4) (q0 := 0) rfl pw_0 hP hK hE) rfl rfl hl.1 rfl (lv_room (Nat.le_of_ble_eq_true rfl)) dL_law_1447 ⟨rm_c (by omega), rm_s (by omega)⟩) hS (fun q h1 h2 => ro_A h1 h2) (fun q h => ro_F hS hA q h) (fun r u t H1 locs ht hvm hw9 hB9 hz1 hk1 hS => ?_)
  have hw9 : r = (iI (m_wouldMiss g (1 + u1))) := hw9
  subst hw9
  have hP := ro_P hP hk1
  generalize H1 = H at hP hS ⊢
  refine lv_istore (lv' := [(19, .int (iI (m_wouldMiss g (1 + u1)))), (18, .int (iI (m_missedEver g))), (17, .int (iI (m_readIn g))), (16, .int (iI (1 + u1))), (0, .ref b), (1, .ref (a 0)), (2, .int (iI hh)), (3, .int (iI jj)), (4, .int (iI paid)), (5, .int (iI printed)), (6, .int (iI called)), (7, .int (iI ((tn : Nat) : Int))), (8, .int x8), (9, .int (iI (g 0 0 4))), (10, .int (iI bk)), (11, .int (iI jd)), (12, .int (iI (g 0 0 9))), (13, .int (iI (g 0 0 8))), (14, .int (iI (m_entCount g))), (15, .int (iI (g 9 0 3)))]) hx hb dL_law_1450 hl (by decide) rfl (fun ls hl => ?_)
  refine lv_iload_n hx hb dL_law_1452 rfl (lv_at hl 7 rfl) ?_
  refine p_xnew hx hb (hw _ kw_3) hK hP ha hS hA hB (N := jj) (by omega) (rm_c (by omega)) (rm_s (by omega)) dL_law_1453 (fun q9 H hP hX hq hqA hS => ?_)
  refine lv_astore (lv' := [(20, .ref q9), (19, .int (iI (m_wouldMiss g (1 + u1)))), (18, .int (iI (m_missedEver g))), (17, .int (iI (m_readIn g))), (16, .int (iI (1 + u1))), (0, .ref b), (1, .ref (a 0)), (2, .int (iI hh)), (3, .int (iI jj)), (4, .int (iI paid)), (5, .int (iI printed)), (6, .int (iI called)), (7, .int (iI ((tn : Nat) : Int))), (8, .int x8), (9, .int (iI (g 0 0 4))), (10, .int (iI bk)), (11, .int (iI jd)), (12, .int (iI (g 0 0 9))), (13, .int (iI (g 0 0 8))), (14, .int (iI (m_entCount g))), (15, .int (iI (g 9 0 3)))]) hx hb dL_law_1455 hl (by decide) rfl (fun ls hl => ?_)
  have hsg := inv_pass hIv (n := 1 + u1) (by omega) (by omega) (by omega)
  refine lv_iconst (v := iI 0) hx hb dL_law_1457 (by decide) ?_
  refine lv_istore (lv' := [(21, .int (iI 0)), (20, .ref q9), (19, .int (iI (m_wouldMiss g (1 + u1)))), (18, .int (iI (m_missedEver g))), (17, .int (iI (m_readIn g))), (16, .int (iI (1 + u1))), (0, .ref b), (1, .ref (a 0)), (2, .int (iI hh)), (3, .int (iI jj)), (4, .int (iI paid)), (5, .int (iI printed)), (6, .int (iI called)), (7, .int (iI ((tn : Nat) : Int))), (8, .int x8), (9, .int (iI (g 0 0 4))), (10, .int (iI bk)), (11, .int (iI jd)), (12, .int (iI (g 0 0 9))), (13, .int (iI (g 0 0 8))), (14, .int (iI (m_entCount g))), (15, .int (iI (g 9 0 3)))]) hx hb dL_law_1458 hl (by decide) rfl (fun ls hl => ?_)
  have loop1460 : ∀ (d n : Nat) (fq : Nat → Int32) (H : Heap) (locs : List Loc) (ls : Array Slot), n + d = jj.toNat → (∀ j : Int, 0 ≤ j → j < ((n : Nat) : Int) → fq j.toNat = iI (g 3 j 10)) → va_P D vwCl [(q9, zC cI jj.toNat fq)] H → va_P D vwCl (pw a cH cB cJ cI g vt) H → va_S (fun q => s.heap.size ≤ q) s.heap H locs → lv_has ls 23 [(21, .int (iI ((n : Nat) : Int))), (20, .ref q9), (19, .int (iI (m_wouldMiss g (1 + u1)))), (18, .int (iI (m_missedEver g))), (17, .int (iI (m_readIn g))), (16, .int (iI (1 + u1))), (0, .ref b), (1, .ref (a 0)), (2, .int (iI hh)), (3, .int (iI jj)), (4, .int (iI paid)), (5, .int (iI printed)), (6, .int (iI called)), (7, .int (iI ((tn : Nat) : Int))), (8, .int x8), (9, .int (iI (g 0 0 4))), (10, .int (iI bk)), (11, .int (iI jd)), (12, .int (iI (g 0 0 9))), (13, .int (iI (g 0 0 8))), (14, .int (iI (m_entCount g))), (15, .int (iI (g 9 0 3)))] → W p l e room_1 s m args below meth c H locs (cells + 1) (slots + 5) Q (F0 m 1460 ls []) := by
    intro d
    induction d with
    | zero =>
      intro n fq H locs ls hn hxf hX hP hS hl
      obtain rfl : n = jj.toNat := by omega
      refine lv_iload hx hb dL_law_1460 (lv_at hl 0 rfl) ?_
      refine lv_iload_n hx hb dL_law_1462 rfl (lv_at hl 9 rfl) ?_
      refine n_icmp_ge hx hb (by unfold RI; omega) (by unfold RI; omega) (tgt := 1484) dL_law_1463 (by decide) (fun h4 => ?_) (fun h4 => absurd h4 (by intro h4; omega))
      refine lv_aload_n hx hb dL_law_1484 rfl (lv_at hl 7 rfl) ?_
      refine lv_iload hx hb dL_law_1485 (lv_at hl 5 rfl) ?_
      refine va_calli (va_runV (As := [.int (iI (1 + u1))]) (rest := []) ⟨hx, hb, hml, hown, hw⟩ (c_pass l D a cH cB cJ cI ha g vt H.size (1 + u1) hWf (by omega) (by omega)) (cwV 1 hw (gA_V kw_471 kw_472 kw_473 kw_2 kw_474) rfl rfl rfl (by decide +kernel) ⟨Nat.le_of_ble_eq_true rfl, Nat.le_of_ble_eq_true rfl⟩) (pS_v (ci := 4) (q0 := 0) rfl pw_0 hP hK hE) rfl rfl hl.1 rfl (lv_room (Nat.le_of_ble_eq_true rfl)) dL_law_1487 ⟨rm_c (by omega), rm_s (by omega)⟩) hS (fun q _ h => rw_A hS hA hB q h) (fun q h => rw_A hS hA hB q h) (fun r u t H1 locs ht hvm hw9 hB9 hz1 hk1 hS => ?_)
      have hw9 : r = (iI (m_sm (passf g) (1 + u1).toNat)) := hw9
      subst hw9
      obtain ⟨v5, hP1⟩ := hB9
      rw [ht] at hP1
      obtain ⟨g6, hg6⟩ : ∃ z, z = (m_pass g (1 + u1)) := ⟨_, rfl⟩
      rw [← hg6] at hP1
      have hP : va_P D vwCl (pw a cH cB cJ cI g6 v5) H1 := hP1
      have hX := rw_X hX hq hk1
      generalize H1 = H at hP hX hS ⊢
      have hivg6 : Iv hh jj (((tn : Nat) : Int) + 1) paid printed called g6 := by rw [hg6]; exact hsg.1
      have hn5g6 : g6 0 0 5 = jj := hivg6.2.2.2.1.2.1
      have hmsg6 : m_missedEver g6 = m_missedEver g + m_wouldMiss g (1 + u1) := by rw [hg6]; exact hsg.2.1
      have hdyg6 : ∀ j, 0 ≤ j → j < jj → g 3 j 10 ≤ g6 3 j 10 ∧ g6 3 j 10 ≤ g 3 j 10 + (1 + u1) * g 3 j 0 := by rw [hg6]; exact hsg.2.2.1
      have hj0g6 : ∀ j, g6 3 j 0 = g 3 j 0 := by rw [hg6]; exact hsg.2.2.2.2
      have hrig6 : m_readIn g6 = if g 0 0 9 = 1 then max 0 (m_readIn g - (1 + u1)) else -1 := by rw [hg6]; exact readIn_pass hWf hIv.2.1 (by omega)
      have hrb := readIn_b g
      have hWg6 : Wf g6 := hivg6.1
      refine lv_istore (lv' := [(21, .int (iI (m_sm (passf g) (1 + u1).toNat))), (20, .ref q9), (19, .int (iI (m_wouldMiss g (1 + u1)))), (18, .int (iI (m_missedEver g))), (17, .int (iI (m_readIn g))), (16, .int (iI (1 + u1))), (0, .ref b), (1, .ref (a 0)), (2, .int (iI hh)), (3, .int (iI jj)), (4, .int (iI paid)), (5, .int (iI printed)), (6, .int (iI called)), (7, .int (iI ((tn : Nat) : Int))), (8, .int x8), (9, .int (iI (g 0 0 4))), (10, .int (iI bk)), (11, .int (iI jd)), (12, .int (iI (g 0 0 9))), (13, .int (iI (g 0 0 8))), (14, .int (iI (m_entCount g))), (15, .int (iI (g 9 0 3)))]) hx hb dL_law_1490 hl (by decide) rfl (fun ls hl => ?_)
      refine lv_aload_n hx hb dL_law_1492 rfl (lv_at hl 7 rfl) ?_
      refine lv_bipush (v := iI 13) hx hb dL_law_1493 (by decide) ?_
      refine va_calli (va_runV (As := [.int (iI 13)]) (rest := []) ⟨hx, hb, hml, hown, hw⟩ (c_many l D a cH cB cJ cI ha g6 v5 H.size 13 hWg6 (by omega)) (cwV 1 hw (gA_V kw_92 kw_93 kw_94 kw_2 kw_95) rfl rfl rfl (by decide +kernel) ⟨Nat.le_of_ble_eq_true rfl, Nat.le_of_ble_eq_true rfl⟩) (pS_v (ci := 4) (q0 := 0) rfl pw_0 hP hK hE) rfl rfl hl.1 rfl (lv_room (Nat.le_of_ble_eq_true rfl)) dL_law_1495 ⟨rm_c (by omega), rm_s (by omega)⟩) hS (fun q h1 h2 => ro_A h1 h2) (fun q h => ro_F hS hA q h) (fun r u t H1 locs ht hvm hw9 hB9 hz1 hk1 hS => ?_)
      have hw9 : r = (iI (m_many g6 13)) := hw9
      subst hw9
      have hP := ro_P hP hk1
      have hX := ro_P hX hk1
      generalize H1 = H at hP hX hS ⊢
      rw [show (m_many g6 13) = (m_missedEver g6) from rfl]
      refine lv_iload hx hb dL_law_1498 (lv_at hl 3 rfl) ?_
      refine lv_iload hx hb dL_law_1500 (lv_at hl 2 rfl) ?_
      refine n_add hx hb dL_law_1502 ?_
      rw [hmsg6]
      refine n_same hx hb (tgt := 1543) dL_law_1503 (by decide) ?_
      refine lv_iload hx hb dL_law_1506 (lv_at hl 18 rfl) ?_
      refine lv_iconst (v := iI 1) hx hb dL_law_1508 (by decide) ?_
      refine n_icmp_eq hx hb (by unfold RI; omega) (by unfold RI; omega) (tgt := 1517) dL_law_1509 (by decide) (fun h7 => ?_) (fun h7 => ?_)
      · skip
        refine lv_aload_n hx hb dL_law_1517 rfl (lv_at hl 7 rfl) ?_
        refine va_calli (va_runV (As := []) (rest := []) ⟨hx, hb, hml, hown, hw⟩ (c_readIn l D a cH cB cJ cI ha g6 v5 H.size  hWg6) (cwV 0 hw (gA_V kw_302 kw_303 kw_304 kw_2 kw_305) rfl rfl rfl (by decide +kernel) ⟨Nat.le_of_ble_eq_true rfl, Nat.le_of_ble_eq_true rfl⟩) (pS_v (ci := 4) (q0 := 0) rfl pw_0 hP hK hE) rfl rfl hl.1 rfl (lv_room (Nat.le_of_ble_eq_true rfl)) dL_law_1518 ⟨rm_c (by omega), rm_s (by omega)⟩) hS (fun q h1 h2 => ro_A h1 h2) (fun q h => ro_F hS hA q h) (fun r u t H1 locs ht hvm hw9 hB9 hz1 hk1 hS => ?_)
        have hw9 : r = (iI (m_readIn g6)) := hw9
        subst hw9
        have hP := ro_P hP hk1
        have hX := ro_P hX hk1
        generalize H1 = H at hP hX hS ⊢
        have s8 := readIn_b g6
        refine lv_iload hx hb dL_law_1521 (lv_at hl 18 rfl) ?_
        refine lv_iconst (v := iI 1) hx hb dL_law_1523 (by decide) ?_
        refine n_icmp_ne hx hb (by unfold RI; omega) (by unfold RI; omega) (tgt := 1539) dL_law_1524 (by decide) (fun h9 => ?_) (fun h9 => ?_)
        · skip
          refine lv_iconst (v := iI (-1)) hx hb dL_law_1539 (by decide) ?_
          rw [hrig6, if_neg (by omega)]
          refine lv_icmp_eq hx hb (tgt := 1545) dL_law_1540 (by decide) (fun _ => ?_) (fun h => absurd rfl h)
          refine lv_iconst (v := iI 0) hx hb dL_law_1545 (by decide) ?_
          refine lv_istore (lv' := [(22, .int (iI 0)), (21, .int (iI (m_sm (passf g) (1 + u1).toNat))), (20, .ref q9), (19, .int (iI (m_wouldMiss g (1 + u1)))), (18, .int (iI (m_missedEver g))), (17, .int (iI (m_readIn g))), (16, .int (iI (1 + u1))), (0, .ref b), (1, .ref (a 0)), (2, .int (iI hh)), (3, .int (iI jj)), (4, .int (iI paid)), (5, .int (iI printed)), (6, .int (iI called)), (7, .int (iI ((tn : Nat) : Int))), (8, .int x8), (9, .int (iI (g 0 0 4))), (10, .int (iI bk)), (11, .int (iI jd)), (12, .int (iI (g 0 0 9))), (13, .int (iI (g 0 0 8))), (14, .int (iI (m_entCount g))), (15, .int (iI (g 9 0 3)))]) hx hb dL_law_1546 hl (by decide) rfl (fun ls hl => ?_)
          have loop1548 : ∀ (d1 n1 : Nat) (fq1 : Nat → Int32) (H : Heap) (locs : List Loc) (ls : Array Slot), n1 + d1 = jj.toNat → (∀ j : Int, 0 ≤ j → j < jj → fq1 j.toNat = iI (g 3 j 10)) → va_P D vwCl [(q9, zC cI jj.toNat fq1)] H → va_P D vwCl (pw a cH cB cJ cI g6 v5) H → va_S (fun q => s.heap.size ≤ q) s.heap H locs → lv_has ls 23 [(22, .int (iI ((n1 : Nat) : Int))), (21, .int (iI (m_sm (passf g) (1 + u1).toNat))), (20, .ref q9), (19, .int (iI (m_wouldMiss g (1 + u1)))), (18, .int (iI (m_missedEver g))), (17, .int (iI (m_readIn g))), (16, .int (iI (1 + u1))), (0, .ref b), (1, .ref (a 0)), (2, .int (iI hh)), (3, .int (iI jj)), (4, .int (iI paid)), (5, .int (iI printed)), (6, .int (iI called)), (7, .int (iI ((tn : Nat) : Int))), (8, .int x8), (9, .int (iI (g 0 0 4))), (10, .int (iI bk)), (11, .int (iI jd)), (12, .int (iI (g 0 0 9))), (13, .int (iI (g 0 0 8))), (14, .int (iI (m_entCount g))), (15, .int (iI (g 9 0 3)))] → W p l e room_1 s m args below meth c H locs (cells + 1) (slots + 5) Q (F0 m 1548 ls []) := by
            intro d1
            induction d1 with
            | zero =>
              intro n1 fq1 H locs ls hn1 hxf1 hX hP hS hl
              obtain rfl : n1 = jj.toNat := by omega
              refine lv_iload hx hb dL_law_1548 (lv_at hl 0 rfl) ?_
              refine lv_iload_n hx hb dL_law_1550 rfl (lv_at hl 10 rfl) ?_
              refine n_icmp_ge hx hb (by unfold RI; omega) (by unfold RI; omega) (tgt := 1603) dL_law_1551 (by decide) (fun h10 => ?_) (fun h10 => absurd h10 (by intro h10; omega))
              exact kx g6 v5 paid printed called H locs ls hivg6 hP hS (lv_sub hl [7, 8, 9, 10, 11, 12, 13, 14] rfl)
            | succ d1 ih1548 =>
              intro n1 fq1 H locs ls hn1 hxf1 hX hP hS hl
              have hdyn := hdyg6 ((n1 : Nat) : Int) (by omega) (by omega)
              rw [← hj0g6] at hdyn
              have hsp0 := Wf.j0 hivg6.1 (k := ((n1 : Nat) : Int)) (by omega) (by omega)
              have hmc := mul_c (x := 1 + u1) (y := g6 3 ((n1 : Nat) : Int) 0) (by omega) (by omega)
              have hg10 := Wf.j10 hWf (k := ((n1 : Nat) : Int)) (by omega) (by omega)
              refine lv_iload hx hb dL_law_1548 (lv_at hl 0 rfl) ?_
              refine lv_iload_n hx hb dL_law_1550 rfl (lv_at hl 10 rfl) ?_
              refine n_icmp_ge hx hb (by unfold RI; omega) (by unfold RI; omega) (tgt := 1603) dL_law_1551 (by decide) (fun h11 => absurd h11 (by intro h11; omega)) (fun h11 => ?_)
              refine lv_aload_n hx hb dL_law_1554 rfl (lv_at hl 8 rfl) ?_
              refine lv_iload hx hb dL_law_1555 (lv_at hl 0 rfl) ?_
              refine lv_iconst (v := iI 5) hx hb dL_law_1557 (by decide) ?_
              refine va_calli (va_runV (As := [.int (iI ((n1 : Nat) : Int)), .int (iI 5)]) (rest := []) ⟨hx, hb, hml, hown, hw⟩ (c_ofJudge l D a cH cB cJ cI ha g6 v5 H.size ((n1 : Nat) : Int) 5 hWg6 (by omega) (by omega)) (cwV 2 hw (gA_V kw_174 kw_175 kw_176 kw_2 kw_177) rfl rfl rfl (by decide +kernel) ⟨Nat.le_of_ble_eq_true rfl, Nat.le_of_ble_eq_true rfl⟩) (pS_v (ci := 4) (q0 := 0) rfl pw_0 hP hK hE) rfl rfl hl.1 rfl (lv_room (Nat.le_of_ble_eq_true rfl)) dL_law_1558 ⟨rm_c (by omega), rm_s (by omega)⟩) hS (fun q h1 h2 => ro_A h1 h2) (fun q h => ro_F hS hA q h) (fun r u t H1 locs ht hvm hw9 hB9 hz1 hk1 hS => ?_)
              have hw9 : r = (iI (m_ofJudge g6 ((n1 : Nat) : Int) 5)) := hw9
              subst hw9
              have hP := ro_P hP hk1
              have hX := ro_P hX hk1
              generalize H1 = H at hP hX hS ⊢
              rw [show (m_ofJudge g6 ((n1 : Nat) : Int) 5) = (g6 3 ((n1 : Nat) : Int) 10) from rfl]
              have s12 := Wf.j10 hWg6 (k := ((n1 : Nat) : Int)) (by omega) (by omega)
              refine lv_aload hx hb dL_law_1561 (lv_at hl 2 rfl) ?_
              refine lv_iload hx hb dL_law_1563 (lv_at hl 0 rfl) ?_
              refine p_xrd hx hb hK hX (k := ((n1 : Nat) : Int)) (by omega) (by omega) (by omega) dL_law_1565 ?_
              rw [show fq1 (((n1 : Nat) : Int)).toNat = iI (g 3 ((n1 : Nat) : Int) 10) from hxf1 _ (by omega) (by omega)]
              refine n_icmp_lt hx hb (by unfold RI; omega) (by unfold RI; omega) (tgt := 1595) dL_law_1566 (by decide) (fun h13 => absurd h13 (by intro h13; omega)) (fun h13 => ?_)
              refine lv_aload_n hx hb dL_law_1569 rfl (lv_at hl 8 rfl) ?_
              refine lv_iload hx hb dL_law_1570 (lv_at hl 0 rfl) ?_
              refine lv_iconst (v := iI 5) hx hb dL_law_1572 (by decide) ?_
              refine va_calli (va_runV (As := [.int (iI ((n1 : Nat) : Int)), .int (iI 5)]) (rest := []) ⟨hx, hb, hml, hown, hw⟩ (c_ofJudge l D a cH cB cJ cI ha g6 v5 H.size ((n1 : Nat) : Int) 5 hWg6 (by omega) (by omega)) (cwV 2 hw (gA_V kw_174 kw_175 kw_176 kw_2 kw_177) rfl rfl rfl (by decide +kernel) ⟨Nat.le_of_ble_eq_true rfl, Nat.le_of_ble_eq_true rfl⟩) (pS_v (ci := 4) (q0 := 0) rfl pw_0 hP hK hE) rfl rfl hl.1 rfl (lv_room (Nat.le_of_ble_eq_true rfl)) dL_law_1573 ⟨rm_c (by omega), rm_s (by omega)⟩) hS (fun q h1 h2 => ro_A h1 h2) (fun q h => ro_F hS hA q h) (fun r u t H1 locs ht hvm hw9 hB9 hz1 hk1 hS => ?_)
              have hw9 : r = (iI (m_ofJudge g6 ((n1 : Nat) : Int) 5)) := hw9
              subst hw9
              have hP := ro_P hP hk1
              have hX := ro_P hX hk1
              generalize H1 = H at hP hX hS ⊢
              rw [show (m_ofJudge g6 ((n1 : Nat) : Int) 5) = (g6 3 ((n1 : Nat) : Int) 10) from rfl]
              refine lv_aload hx hb dL_law_1576 (lv_at hl 2 rfl) ?_
              refine lv_iload hx hb dL_law_1578 (lv_at hl 0 rfl) ?_
              refine p_xrd hx hb hK hX (k := ((n1 : Nat) : Int)) (by omega) (by omega) (by omega) dL_law_1580 ?_
              rw [show fq1 (((n1 : Nat) : Int)).toNat = iI (g 3 ((n1 : Nat) : Int) 10) from hxf1 _ (by omega) (by omega)]
              refine lv_iload hx hb dL_law_1581 (lv_at hl 6 rfl) ?_
              refine lv_aload_n hx hb dL_law_1583 rfl (lv_at hl 8 rfl) ?_
              refine lv_iload hx hb dL_law_1584 (lv_at hl 0 rfl) ?_
              refine lv_iconst (v := iI 0) hx hb dL_law_1586 (by decide) ?_
              refine va_calli (va_runV (As := [.int (iI ((n1 : Nat) : Int)), .int (iI 0)]) (rest := [.int (iI (1 + u1)), .int (iI (g 3 ((n1 : Nat) : Int) 10)), .int (iI (g6 3 ((n1 : Nat) : Int) 10))]) ⟨hx, hb, hml, hown, hw⟩ (c_ofJudge l D a cH cB cJ cI ha g6 v5 H.size ((n1 : Nat) : Int) 0 hWg6 (by omega) (by omega)) (cwV 2 hw (gA_V kw_174 kw_175 kw_176 kw_2 kw_177) rfl rfl rfl (by decide +kernel) ⟨Nat.le_of_ble_eq_true rfl, Nat.le_of_ble_eq_true rfl⟩) (pS_v (ci := 4) (q0 := 0) rfl pw_0 hP hK hE) rfl rfl hl.1 rfl (lv_room (Nat.le_of_ble_eq_true rfl)) dL_law_1587 ⟨rm_c (by omega), rm_s (by omega)⟩) hS (fun q h1 h2 => ro_A h1 h2) (fun q h => ro_F hS hA q h) (fun r u t H1 locs ht hvm hw9 hB9 hz1 hk1 hS => ?_)
              have hw9 : r = (iI (m_ofJudge g6 ((n1 : Nat) : Int) 0)) := hw9
              subst hw9
              have hP := ro_P hP hk1
              have hX := ro_P hX hk1
              generalize H1 = H at hP hX hS ⊢
              rw [show (m_ofJudge g6 ((n1 : Nat) : Int) 0) = (g6 3 ((n1 : Nat) : Int) 0) from rfl]
              have s14 := Wf.j0 hWg6 (k := ((n1 : Nat) : Int)) (by omega) (by omega)
              refine n_mul hx hb dL_law_1590 ?_
              refine n_add hx hb dL_law_1591 ?_
              refine n_icmp_le hx hb (by unfold RI; omega) (by unfold RI; omega) (tgt := 1597) dL_law_1592 (by decide) (fun h15 => ?_) (fun h15 => absurd h15 (by intro h15; omega))
              refine n_inc (lv' := [(22, .int (iI (((n1 : Nat) : Int) + 1))), (21, .int (iI (m_sm (passf g) (1 + u1).toNat))), (20, .ref q9), (19, .int (iI (m_wouldMiss g (1 + u1)))), (18, .int (iI (m_missedEver g))), (17, .int (iI (m_readIn g))), (16, .int (iI (1 + u1))), (0, .ref b), (1, .ref (a 0)), (2, .int (iI hh)), (3, .int (iI jj)), (4, .int (iI paid)), (5, .int (iI printed)), (6, .int (iI called)), (7, .int (iI ((tn : Nat) : Int))), (8, .int x8), (9, .int (iI (g 0 0 4))), (10, .int (iI bk)), (11, .int (iI jd)), (12, .int (iI (g 0 0 9))), (13, .int (iI (g 0 0 8))), (14, .int (iI (m_entCount g))), (15, .int (iI (g 9 0 3)))]) hx hb dL_law_1597 hl (k := 0) rfl (by decide) rfl (fun ls hl => ?_)
              refine lv_goto (tgt := 1548) hx hb dL_law_1600 (by decide) ?_
              have hl : lv_has ls 23 [(22, .int (iI (((n1 : Nat) : Int) + 1))), (21, .int (iI (m_sm (passf g) (1 + u1).toNat))), (20, .ref q9), (19, .int (iI (m_wouldMiss g (1 + u1)))), (18, .int (iI (m_missedEver g))), (17, .int (iI (m_readIn g))), (16, .int (iI (1 + u1))), (0, .ref b), (1, .ref (a 0)), (2, .int (iI hh)), (3, .int (iI jj)), (4, .int (iI paid)), (5, .int (iI printed)), (6, .int (iI called)), (7, .int (iI ((tn : Nat) : Int))), (8, .int x8), (9, .int (iI (g 0 0 4))), (10, .int (iI bk)), (11, .int (iI jd)), (12, .int (iI (g 0 0 9))), (13, .int (iI (g 0 0 8))), (14, .int (iI (m_entCount g))), (15, .int (iI (g 9 0 3)))] := lv_sub hl [0, 1, 2, 3, 4, 5, 6, 7, 8, 9, 10, 11, 12, 13, 14, 15, 16, 17, 18, 19, 20, 21, 22] rfl
              have e16 : (((n1 : Nat) : Int) + 1) = (((n1 + 1) : Nat) : Int) := by rfl
              have hl : lv_has ls 23 [(22, .int (iI (((n1 + 1) : Nat) : Int))), (21, .int (iI (m_sm (passf g) (1 + u1).toNat))), (20, .ref q9), (19, .int (iI (m_wouldMiss g (1 + u1)))), (18, .int (iI (m_missedEver g))), (17, .int (iI (m_readIn g))), (16, .int (iI (1 + u1))), (0, .ref b), (1, .ref (a 0)), (2, .int (iI hh)), (3, .int (iI jj)), (4, .int (iI paid)), (5, .int (iI printed)), (6, .int (iI called)), (7, .int (iI ((tn : Nat) : Int))), (8, .int x8), (9, .int (iI (g 0 0 4))), (10, .int (iI bk)), (11, .int (iI jd)), (12, .int (iI (g 0 0 9))), (13, .int (iI (g 0 0 8))), (14, .int (iI (m_entCount g))), (15, .int (iI (g 9 0 3)))] := lv_cast hl (by rw [e16])
              exact ih1548 (n1 + 1) fq1 H locs ls (by omega) hxf1 hX hP hS hl
          have hl : lv_has ls 23 [(22, .int (iI 0)), (21, .int (iI (m_sm (passf g) (1 + u1).toNat))), (20, .ref q9), (19, .int (iI (m_wouldMiss g (1 + u1)))), (18, .int (iI (m_missedEver g))), (17, .int (iI (m_readIn g))), (16, .int (iI (1 + u1))), (0, .ref b), (1, .ref (a 0)), (2, .int (iI hh)), (3, .int (iI jj)), (4, .int (iI paid)), (5, .int (iI printed)), (6, .int (iI called)), (7, .int (iI ((tn : Nat) : Int))), (8, .int x8), (9, .int (iI (g 0 0 4))), (10, .int (iI bk)), (11, .int (iI jd)), (12, .int (iI (g 0 0 9))), (13, .int (iI (g 0 0 8))), (14, .int (iI (m_entCount g))), (15, .int (iI (g 9 0 3)))] := lv_sub hl [0, 1, 2, 3, 4, 5, 6, 7, 8, 9, 10, 11, 12, 13, 14, 15, 16, 17, 18, 19, 20, 21, 22] rfl
          have hl : lv_has ls 23 [(22, .int (iI ((0 : Nat) : Int))), (21, .int (iI (m_sm (passf g) (1 + u1).toNat))), (20, .ref q9), (19, .int (iI (m_wouldMiss g (1 + u1)))), (18, .int (iI (m_missedEver g))), (17, .int (iI (m_readIn g))), (16, .int (iI (1 + u1))), (0, .ref b), (1, .ref (a 0)), (2, .int (iI hh)), (3, .int (iI jj)), (4, .int (iI paid)), (5, .int (iI printed)), (6, .int (iI called)), (7, .int (iI ((tn : Nat) : Int))), (8, .int x8), (9, .int (iI (g 0 0 4))), (10, .int (iI bk)), (11, .int (iI jd)), (12, .int (iI (g 0 0 9))), (13, .int (iI (g 0 0 8))), (14, .int (iI (m_entCount g))), (15, .int (iI (g 9 0 3)))] := hl
          exact loop1548 jj.toNat 0 fq H locs ls (by omega) (fun j h0 h1 => hxf j h0 (by omega)) hX hP hS hl
        · skip
          refine lv_iconst (v := iI 0) hx hb dL_law_1527 (by decide) ?_
          refine lv_iload hx hb dL_law_1528 (lv_at hl 4 rfl) ?_
          refine lv_iload hx hb dL_law_1530 (lv_at hl 5 rfl) ?_
          refine n_sub hx hb dL_law_1532 ?_
          refine va_mmax hx hb (hml.trans hl.1.symm) hown (hw _ kw_4) (hw _ kw_5) (hw _ kw_6) (hw _ kw_7) (by first | exact Nat.le_of_ble_eq_true rfl | exact rm_s (by omega) | exact rm_c (by omega)) (by first | exact Nat.le_of_ble_eq_true rfl | exact rm_s (by omega) | exact rm_c (by omega)) (by first | exact Nat.le_of_ble_eq_true rfl | exact rm_s (by omega) | exact rm_c (by omega)) (by first | exact Nat.le_of_ble_eq_true rfl | exact rm_s (by omega) | exact rm_c (by omega)) dL_law_1533 ?_
          rw [n_max (by unfold RI; omega) (by unfold RI; omega)]
          refine lv_goto (tgt := 1540) hx hb dL_law_1536 (by decide) ?_
          rw [hrig6, if_pos (by omega)]
          refine lv_icmp_eq hx hb (tgt := 1545) dL_law_1540 (by decide) (fun _ => ?_) (fun h => absurd rfl h)
          refine lv_iconst (v := iI 0) hx hb dL_law_1545 (by decide) ?_
          refine lv_istore (lv' := [(22, .int (iI 0)), (21, .int (iI (m_sm (passf g) (1 + u1).toNat))), (20, .ref q9), (19, .int (iI (m_wouldMiss g (1 + u1)))), (18, .int (iI (m_missedEver g))), (17, .int (iI (m_readIn g))), (16, .int (iI (1 + u1))), (0, .ref b), (1, .ref (a 0)), (2, .int (iI hh)), (3, .int (iI jj)), (4, .int (iI paid)), (5, .int (iI printed)), (6, .int (iI called)), (7, .int (iI ((tn : Nat) : Int))), (8, .int x8), (9, .int (iI (g 0 0 4))), (10, .int (iI bk)), (11, .int (iI jd)), (12, .int (iI (g 0 0 9))), (13, .int (iI (g 0 0 8))), (14, .int (iI (m_entCount g))), (15, .int (iI (g 9 0 3)))]) hx hb dL_law_1546 hl (by decide) rfl (fun ls hl => ?_)
          have loop1548 : ∀ (d1 n1 : Nat) (fq1 : Nat → Int32) (H : Heap) (locs : List Loc) (ls : Array Slot), n1 + d1 = jj.toNat → (∀ j : Int, 0 ≤ j → j < jj → fq1 j.toNat = iI (g 3 j 10)) → va_P D vwCl [(q9, zC cI jj.toNat fq1)] H → va_P D vwCl (pw a cH cB cJ cI g6 v5) H → va_S (fun q => s.heap.size ≤ q) s.heap H locs → lv_has ls 23 [(22, .int (iI ((n1 : Nat) : Int))), (21, .int (iI (m_sm (passf g) (1 + u1).toNat))), (20, .ref q9), (19, .int (iI (m_wouldMiss g (1 + u1)))), (18, .int (iI (m_missedEver g))), (17, .int (iI (m_readIn g))), (16, .int (iI (1 + u1))), (0, .ref b), (1, .ref (a 0)), (2, .int (iI hh)), (3, .int (iI jj)), (4, .int (iI paid)), (5, .int (iI printed)), (6, .int (iI called)), (7, .int (iI ((tn : Nat) : Int))), (8, .int x8), (9, .int (iI (g 0 0 4))), (10, .int (iI bk)), (11, .int (iI jd)), (12, .int (iI (g 0 0 9))), (13, .int (iI (g 0 0 8))), (14, .int (iI (m_entCount g))), (15, .int (iI (g 9 0 3)))] → W p l e room_1 s m args below meth c H locs (cells + 1) (slots + 5) Q (F0 m 1548 ls []) := by
            intro d1
            induction d1 with
            | zero =>
              intro n1 fq1 H locs ls hn1 hxf1 hX hP hS hl
              obtain rfl : n1 = jj.toNat := by omega
              refine lv_iload hx hb dL_law_1548 (lv_at hl 0 rfl) ?_
              refine lv_iload_n hx hb dL_law_1550 rfl (lv_at hl 10 rfl) ?_
              refine n_icmp_ge hx hb (by unfold RI; omega) (by unfold RI; omega) (tgt := 1603) dL_law_1551 (by decide) (fun h17 => ?_) (fun h17 => absurd h17 (by intro h17; omega))
              exact kx g6 v5 paid printed called H locs ls hivg6 hP hS (lv_sub hl [7, 8, 9, 10, 11, 12, 13, 14] rfl)
            | succ d1 ih1548 =>
              intro n1 fq1 H locs ls hn1 hxf1 hX hP hS hl
              have hdyn := hdyg6 ((n1 : Nat) : Int) (by omega) (by omega)
              rw [← hj0g6] at hdyn
              have hsp0 := Wf.j0 hivg6.1 (k := ((n1 : Nat) : Int)) (by omega) (by omega)
              have hmc := mul_c (x := 1 + u1) (y := g6 3 ((n1 : Nat) : Int) 0) (by omega) (by omega)
              have hg10 := Wf.j10 hWf (k := ((n1 : Nat) : Int)) (by omega) (by omega)
              refine lv_iload hx hb dL_law_1548 (lv_at hl 0 rfl) ?_
              refine lv_iload_n hx hb dL_law_1550 rfl (lv_at hl 10 rfl) ?_
              refine n_icmp_ge hx hb (by unfold RI; omega) (by unfold RI; omega) (tgt := 1603) dL_law_1551 (by decide) (fun h18 => absurd h18 (by intro h18; omega)) (fun h18 => ?_)
              refine lv_aload_n hx hb dL_law_1554 rfl (lv_at hl 8 rfl) ?_
              refine lv_iload hx hb dL_law_1555 (lv_at hl 0 rfl) ?_
              refine lv_iconst (v := iI 5) hx hb dL_law_1557 (by decide) ?_
              refine va_calli (va_runV (As := [.int (iI ((n1 : Nat) : Int)), .int (iI 5)]) (rest := []) ⟨hx, hb, hml, hown, hw⟩ (c_ofJudge l D a cH cB cJ cI ha g6 v5 H.size ((n1 : Nat) : Int) 5 hWg6 (by omega) (by omega)) (cwV 2 hw (gA_V kw_174 kw_175 kw_176 kw_2 kw_177) rfl rfl rfl (by decide +kernel) ⟨Nat.le_of_ble_eq_true rfl, Nat.le_of_ble_eq_true rfl⟩) (pS_v (ci := 4) (q0 := 0) rfl pw_0 hP hK hE) rfl rfl hl.1 rfl (lv_room (Nat.le_of_ble_eq_true rfl)) dL_law_1558 ⟨rm_c (by omega), rm_s (by omega)⟩) hS (fun q h1 h2 => ro_A h1 h2) (fun q h => ro_F hS hA q h) (fun r u t H1 locs ht hvm hw9 hB9 hz1 hk1 hS => ?_)
              have hw9 : r = (iI (m_ofJudge g6 ((n1 : Nat) : Int) 5)) := hw9
              subst hw9
              have hP := ro_P hP hk1
              have hX := ro_P hX hk1
              generalize H1 = H at hP hX hS ⊢
              rw [show (m_ofJudge g6 ((n1 : Nat) : Int) 5) = (g6 3 ((n1 : Nat) : Int) 10) from rfl]
              have s19 := Wf.j10 hWg6 (k := ((n1 : Nat) : Int)) (by omega) (by omega)
              refine lv_aload hx hb dL_law_1561 (lv_at hl 2 rfl) ?_
              refine lv_iload hx hb dL_law_1563 (lv_at hl 0 rfl) ?_
              refine p_xrd hx hb hK hX (k := ((n1 : Nat) : Int)) (by omega) (by omega) (by omega) dL_law_1565 ?_
              rw [show fq1 (((n1 : Nat) : Int)).toNat = iI (g 3 ((n1 : Nat) : Int) 10) from hxf1 _ (by omega) (by omega)]
              refine n_icmp_lt hx hb (by unfold RI; omega) (by unfold RI; omega) (tgt := 1595) dL_law_1566 (by decide) (fun h20 => absurd h20 (by intro h20; omega)) (fun h20 => ?_)
              refine lv_aload_n hx hb dL_law_1569 rfl (lv_at hl 8 rfl) ?_
              refine lv_iload hx hb dL_law_1570 (lv_at hl 0 rfl) ?_
              refine lv_iconst (v := iI 5) hx hb dL_law_1572 (by decide) ?_
              refine va_calli (va_runV (As := [.int (iI ((n1 : Nat) : Int)), .int (iI 5)]) (rest := []) ⟨hx, hb, hml, hown, hw⟩ (c_ofJudge l D a cH cB cJ cI ha g6 v5 H.size ((n1 : Nat) : Int) 5 hWg6 (by omega) (by omega)) (cwV 2 hw (gA_V kw_174 kw_175 kw_176 kw_2 kw_177) rfl rfl rfl (by decide +kernel) ⟨Nat.le_of_ble_eq_true rfl, Nat.le_of_ble_eq_true rfl⟩) (pS_v (ci := 4) (q0 := 0) rfl pw_0 hP hK hE) rfl rfl hl.1 rfl (lv_room (Nat.le_of_ble_eq_true rfl)) dL_law_1573 ⟨rm_c (by omega), rm_s (by omega)⟩) hS (fun q h1 h2 => ro_A h1 h2) (fun q h => ro_F hS hA q h) (fun r u t H1 locs ht hvm hw9 hB9 hz1 hk1 hS => ?_)
              have hw9 : r = (iI (m_ofJudge g6 ((n1 : Nat) : Int) 5)) := hw9
              subst hw9
              have hP := ro_P hP hk1
              have hX := ro_P hX hk1
              generalize H1 = H at hP hX hS ⊢
              rw [show (m_ofJudge g6 ((n1 : Nat) : Int) 5) = (g6 3 ((n1 : Nat) : Int) 10) from rfl]
              refine lv_aload hx hb dL_law_1576 (lv_at hl 2 rfl) ?_
              refine lv_iload hx hb dL_law_1578 (lv_at hl 0 rfl) ?_
              refine p_xrd hx hb hK hX (k := ((n1 : Nat) : Int)) (by omega) (by omega) (by omega) dL_law_1580 ?_
              rw [show fq1 (((n1 : Nat) : Int)).toNat = iI (g 3 ((n1 : Nat) : Int) 10) from hxf1 _ (by omega) (by omega)]
              refine lv_iload hx hb dL_law_1581 (lv_at hl 6 rfl) ?_
              refine lv_aload_n hx hb dL_law_1583 rfl (lv_at hl 8 rfl) ?_
              refine lv_iload hx hb dL_law_1584 (lv_at hl 0 rfl) ?_
              refine lv_iconst (v := iI 0) hx hb dL_law_1586 (by decide) ?_
              refine va_calli (va_runV (As := [.int (iI ((n1 : Nat) : Int)), .int (iI 0)]) (rest := [.int (iI (1 + u1)), .int (iI (g 3 ((n1 : Nat) : Int) 10)), .int (iI (g6 3 ((n1 : Nat) : Int) 10))]) ⟨hx, hb, hml, hown, hw⟩ (c_ofJudge l D a cH cB cJ cI ha g6 v5 H.size ((n1 : Nat) : Int) 0 hWg6 (by omega) (by omega)) (cwV 2 hw (gA_V kw_174 kw_175 kw_176 kw_2 kw_177) rfl rfl rfl (by decide +kernel) ⟨Nat.le_of_ble_eq_true rfl, Nat.le_of_ble_eq_true rfl⟩) (pS_v (ci := 4) (q0 := 0) rfl pw_0 hP hK hE) rfl rfl hl.1 rfl (lv_room (Nat.le_of_ble_eq_true rfl)) dL_law_1587 ⟨rm_c (by omega), rm_s (by omega)⟩) hS (fun q h1 h2 => ro_A h1 h2) (fun q h => ro_F hS hA q h) (fun r u t H1 locs ht hvm hw9 hB9 hz1 hk1 hS => ?_)
              have hw9 : r = (iI (m_ofJudge g6 ((n1 : Nat) : Int) 0)) := hw9
              subst hw9
              have hP := ro_P hP hk1
              have hX := ro_P hX hk1
              generalize H1 = H at hP hX hS ⊢
              rw [show (m_ofJudge g6 ((n1 : Nat) : Int) 0) = (g6 3 ((n1 : Nat) : Int) 0) from rfl]
              have s21 := Wf.j0 hWg6 (k := ((n1 : Nat) : Int)) (by omega) (by omega)
              refine n_mul hx hb dL_law_1590 ?_
              refine n_add hx hb dL_law_1591 ?_
              refine n_icmp_le hx hb (by unfold RI; omega) (by unfold RI; omega) (tgt := 1597) dL_law_1592 (by decide) (fun h22 => ?_) (fun h22 => absurd h22 (by intro h22; omega))
              refine n_inc (lv' := [(22, .int (iI (((n1 : Nat) : Int) + 1))), (21, .int (iI (m_sm (passf g) (1 + u1).toNat))), (20, .ref q9), (19, .int (iI (m_wouldMiss g (1 + u1)))), (18, .int (iI (m_missedEver g))), (17, .int (iI (m_readIn g))), (16, .int (iI (1 + u1))), (0, .ref b), (1, .ref (a 0)), (2, .int (iI hh)), (3, .int (iI jj)), (4, .int (iI paid)), (5, .int (iI printed)), (6, .int (iI called)), (7, .int (iI ((tn : Nat) : Int))), (8, .int x8), (9, .int (iI (g 0 0 4))), (10, .int (iI bk)), (11, .int (iI jd)), (12, .int (iI (g 0 0 9))), (13, .int (iI (g 0 0 8))), (14, .int (iI (m_entCount g))), (15, .int (iI (g 9 0 3)))]) hx hb dL_law_1597 hl (k := 0) rfl (by decide) rfl (fun ls hl => ?_)
              refine lv_goto (tgt := 1548) hx hb dL_law_1600 (by decide) ?_
              have hl : lv_has ls 23 [(22, .int (iI (((n1 : Nat) : Int) + 1))), (21, .int (iI (m_sm (passf g) (1 + u1).toNat))), (20, .ref q9), (19, .int (iI (m_wouldMiss g (1 + u1)))), (18, .int (iI (m_missedEver g))), (17, .int (iI (m_readIn g))), (16, .int (iI (1 + u1))), (0, .ref b), (1, .ref (a 0)), (2, .int (iI hh)), (3, .int (iI jj)), (4, .int (iI paid)), (5, .int (iI printed)), (6, .int (iI called)), (7, .int (iI ((tn : Nat) : Int))), (8, .int x8), (9, .int (iI (g 0 0 4))), (10, .int (iI bk)), (11, .int (iI jd)), (12, .int (iI (g 0 0 9))), (13, .int (iI (g 0 0 8))), (14, .int (iI (m_entCount g))), (15, .int (iI (g 9 0 3)))] := lv_sub hl [0, 1, 2, 3, 4, 5, 6, 7, 8, 9, 10, 11, 12, 13, 14, 15, 16, 17, 18, 19, 20, 21, 22] rfl
              have e23 : (((n1 : Nat) : Int) + 1) = (((n1 + 1) : Nat) : Int) := by rfl
              have hl : lv_has ls 23 [(22, .int (iI (((n1 + 1) : Nat) : Int))), (21, .int (iI (m_sm (passf g) (1 + u1).toNat))), (20, .ref q9), (19, .int (iI (m_wouldMiss g (1 + u1)))), (18, .int (iI (m_missedEver g))), (17, .int (iI (m_readIn g))), (16, .int (iI (1 + u1))), (0, .ref b), (1, .ref (a 0)), (2, .int (iI hh)), (3, .int (iI jj)), (4, .int (iI paid)), (5, .int (iI printed)), (6, .int (iI called)), (7, .int (iI ((tn : Nat) : Int))), (8, .int x8), (9, .int (iI (g 0 0 4))), (10, .int (iI bk)), (11, .int (iI jd)), (12, .int (iI (g 0 0 9))), (13, .int (iI (g 0 0 8))), (14, .int (iI (m_entCount g))), (15, .int (iI (g 9 0 3)))] := lv_cast hl (by rw [e23])
              exact ih1548 (n1 + 1) fq1 H locs ls (by omega) hxf1 hX hP hS hl
          have hl : lv_has ls 23 [(22, .int (iI 0)), (21, .int (iI (m_sm (passf g) (1 + u1).toNat))), (20, .ref q9), (19, .int (iI (m_wouldMiss g (1 + u1)))), (18, .int (iI (m_missedEver g))), (17, .int (iI (m_readIn g))), (16, .int (iI (1 + u1))), (0, .ref b), (1, .ref (a 0)), (2, .int (iI hh)), (3, .int (iI jj)), (4, .int (iI paid)), (5, .int (iI printed)), (6, .int (iI called)), (7, .int (iI ((tn : Nat) : Int))), (8, .int x8), (9, .int (iI (g 0 0 4))), (10, .int (iI bk)), (11, .int (iI jd)), (12, .int (iI (g 0 0 9))), (13, .int (iI (g 0 0 8))), (14, .int (iI (m_entCount g))), (15, .int (iI (g 9 0 3)))] := lv_sub hl [0, 1, 2, 3, 4, 5, 6, 7, 8, 9, 10, 11, 12, 13, 14, 15, 16, 17, 18, 19, 20, 21, 22] rfl
          have hl : lv_has ls 23 [(22, .int (iI ((0 : Nat) : Int))), (21, .int (iI (m_sm (passf g) (1 + u1).toNat))), (20, .ref q9), (19, .int (iI (m_wouldMiss g (1 + u1)))), (18, .int (iI (m_missedEver g))), (17, .int (iI (m_readIn g))), (16, .int (iI (1 + u1))), (0, .ref b), (1, .ref (a 0)), (2, .int (iI hh)), (3, .int (iI jj)), (4, .int (iI paid)), (5, .int (iI printed)), (6, .int (iI called)), (7, .int (iI ((tn : Nat) : Int))), (8, .int x8), (9, .int (iI (g 0 0 4))), (10, .int (iI bk)), (11, .int (iI jd)), (12, .int (iI (g 0 0 9))), (13, .int (iI (g 0 0 8))), (14, .int (iI (m_entCount g))), (15, .int (iI (g 9 0 3)))] := hl
          exact loop1548 jj.toNat 0 fq H locs ls (by omega) (fun j h0 h1 => hxf j h0 (by omega)) hX hP hS hl
      · skip
        have hp0 := passf_0 (g := g) (n := 1 + u1) (by omega)
        refine lv_iload hx hb dL_law_1512 (lv_at hl 0 rfl) ?_
        refine n_if_ne hx hb (by unfold RI; omega) (tgt := 1543) dL_law_1514 (by decide) (fun h24 => absurd h24 (by intro h24; omega)) (fun h24 => ?_)
        refine lv_aload_n hx hb dL_law_1517 rfl (lv_at hl 7 rfl) ?_
        refine va_calli (va_runV (As := []) (rest := []) ⟨hx, hb, hml, hown, hw⟩ (c_readIn l D a cH cB cJ cI ha g6 v5 H.size  hWg6) (cwV 0 hw (gA_V kw_302 kw_303 kw_304 kw_2 kw_305) rfl rfl rfl (by decide +kernel) ⟨Nat.le_of_ble_eq_true rfl, Nat.le_of_ble_eq_true rfl⟩) (pS_v (ci := 4) (q0 := 0) rfl pw_0 hP hK hE) rfl rfl hl.1 rfl (lv_room (Nat.le_of_ble_eq_true rfl)) dL_law_1518 ⟨rm_c (by omega), rm_s (by omega)⟩) hS (fun q h1 h2 => ro_A h1 h2) (fun q h => ro_F hS hA q h) (fun r u t H1 locs ht hvm hw9 hB9 hz1 hk1 hS => ?_)
        have hw9 : r = (iI (m_readIn g6)) := hw9
        subst hw9
        have hP := ro_P hP hk1
        have hX := ro_P hX hk1
        generalize H1 = H at hP hX hS ⊢
        have s25 := readIn_b g6
        refine lv_iload hx hb dL_law_1521 (lv_at hl 18 rfl) ?_
        refine lv_iconst (v := iI 1) hx hb dL_law_1523 (by decide) ?_
        refine n_icmp_ne hx hb (by unfold RI; omega) (by unfold RI; omega) (tgt := 1539) dL_law_1524 (by decide) (fun h26 => ?_) (fun h26 => ?_)
        · skip
          refine lv_iconst (v := iI (-1)) hx hb dL_law_1539 (by decide) ?_
          rw [hrig6, if_neg (by omega)]
          refine lv_icmp_eq hx hb (tgt := 1545) dL_law_1540 (by decide) (fun _ => ?_) (fun h => absurd rfl h)
          refine lv_iconst (v := iI 0) hx hb dL_law_1545 (by decide) ?_
          refine lv_istore (lv' := [(22, .int (iI 0)), (21, .int (iI (m_sm (passf g) (1 + u1).toNat))), (20, .ref q9), (19, .int (iI (m_wouldMiss g (1 + u1)))), (18, .int (iI (m_missedEver g))), (17, .int (iI (m_readIn g))), (16, .int (iI (1 + u1))), (0, .ref b), (1, .ref (a 0)), (2, .int (iI hh)), (3, .int (iI jj)), (4, .int (iI paid)), (5, .int (iI printed)), (6, .int (iI called)), (7, .int (iI ((tn : Nat) : Int))), (8, .int x8), (9, .int (iI (g 0 0 4))), (10, .int (iI bk)), (11, .int (iI jd)), (12, .int (iI (g 0 0 9))), (13, .int (iI (g 0 0 8))), (14, .int (iI (m_entCount g))), (15, .int (iI (g 9 0 3)))]) hx hb dL_law_1546 hl (by decide) rfl (fun ls hl => ?_)
          have loop1548 : ∀ (d1 n1 : Nat) (fq1 : Nat → Int32) (H : Heap) (locs : List Loc) (ls : Array Slot), n1 + d1 = jj.toNat → (∀ j : Int, 0 ≤ j → j < jj → fq1 j.toNat = iI (g 3 j 10)) → va_P D vwCl [(q9, zC cI jj.toNat fq1)] H → va_P D vwCl (pw a cH cB cJ cI g6 v5) H → va_S (fun q => s.heap.size ≤ q) s.heap H locs → lv_has ls 23 [(22, .int (iI ((n1 : Nat) : Int))), (21, .int (iI (m_sm (passf g) (1 + u1).toNat))), (20, .ref q9), (19, .int (iI (m_wouldMiss g (1 + u1)))), (18, .int (iI (m_missedEver g))), (17, .int (iI (m_readIn g))), (16, .int (iI (1 + u1))), (0, .ref b), (1, .ref (a 0)), (2, .int (iI hh)), (3, .int (iI jj)), (4, .int (iI paid)), (5, .int (iI printed)), (6, .int (iI called)), (7, .int (iI ((tn : Nat) : Int))), (8, .int x8), (9, .int (iI (g 0 0 4))), (10, .int (iI bk)), (11, .int (iI jd)), (12, .int (iI (g 0 0 9))), (13, .int (iI (g 0 0 8))), (14, .int (iI (m_entCount g))), (15, .int (iI (g 9 0 3)))] → W p l e room_1 s m args below meth c H locs (cells + 1) (slots + 5) Q (F0 m 1548 ls []) := by
            intro d1
            induction d1 with
            | zero =>
              intro n1 fq1 H locs ls hn1 hxf1 hX hP hS hl
              obtain rfl : n1 = jj.toNat := by omega
              refine lv_iload hx hb dL_law_1548 (lv_at hl 0 rfl) ?_
              refine lv_iload_n hx hb dL_law_1550 rfl (lv_at hl 10 rfl) ?_
              refine n_icmp_ge hx hb (by unfold RI; omega) (by unfold RI; omega) (tgt := 1603) dL_law_1551 (by decide) (fun h27 => ?_) (fun h27 => absurd h27 (by intro h27; omega))
              exact kx g6 v5 paid printed called H locs ls hivg6 hP hS (lv_sub hl [7, 8, 9, 10, 11, 12, 13, 14] rfl)
            | succ d1 ih1548 =>
              intro n1 fq1 H locs ls hn1 hxf1 hX hP hS hl
              have hdyn := hdyg6 ((n1 : Nat) : Int) (by omega) (by omega)
              rw [← hj0g6] at hdyn
              have hsp0 := Wf.j0 hivg6.1 (k := ((n1 : Nat) : Int)) (by omega) (by omega)
              have hmc := mul_c (x := 1 + u1) (y := g6 3 ((n1 : Nat) : Int) 0) (by omega) (by omega)
              have hg10 := Wf.j10 hWf (k := ((n1 : Nat) : Int)) (by omega) (by omega)
              refine lv_iload hx hb dL_law_1548 (lv_at hl 0 rfl) ?_
              refine lv_iload_n hx hb dL_law_1550 rfl (lv_at hl 10 rfl) ?_
              refine n_icmp_ge hx hb (by unfold RI; omega) (by unfold RI; omega) (tgt := 1603) dL_law_1551 (by decide) (fun h28 => absurd h28 (by intro h28; omega)) (fun h28 => ?_)
              refine lv_aload_n hx hb dL_law_1554 rfl (lv_at hl 8 rfl) ?_
              refine lv_iload hx hb dL_law_1555 (lv_at hl 0 rfl) ?_
              refine lv_iconst (v := iI 5) hx hb dL_law_1557 (by decide) ?_
              refine va_calli (va_runV (As := [.int (iI ((n1 : Nat) : Int)), .int (iI 5)]) (rest := []) ⟨hx, hb, hml, hown, hw⟩ (c_ofJudge l D a cH cB cJ cI ha g6 v5 H.size ((n1 : Nat) : Int) 5 hWg6 (by omega) (by omega)) (cwV 2 hw (gA_V kw_174 kw_175 kw_176 kw_2 kw_177) rfl rfl rfl (by decide +kernel) ⟨Nat.le_of_ble_eq_true rfl, Nat.le_of_ble_eq_true rfl⟩) (pS_v (ci := 4) (q0 := 0) rfl pw_0 hP hK hE) rfl rfl hl.1 rfl (lv_room (Nat.le_of_ble_eq_true rfl)) dL_law_1558 ⟨rm_c (by omega), rm_s (by omega)⟩) hS (fun q h1 h2 => ro_A h1 h2) (fun q h => ro_F hS hA q h) (fun r u t H1 locs ht hvm hw9 hB9 hz1 hk1 hS => ?_)
              have hw9 : r = (iI (m_ofJudge g6 ((n1 : Nat) : Int) 5)) := hw9
              subst hw9
              have hP := ro_P hP hk1
              have hX := ro_P hX hk1
              generalize H1 = H at hP hX hS ⊢
              rw [show (m_ofJudge g6 ((n1 : Nat) : Int) 5) = (g6 3 ((n1 : Nat) : Int) 10) from rfl]
              have s29 := Wf.j10 hWg6 (k := ((n1 : Nat) : Int)) (by omega) (by omega)
              refine lv_aload hx hb dL_law_1561 (lv_at hl 2 rfl) ?_
              refine lv_iload hx hb dL_law_1563 (lv_at hl 0 rfl) ?_
              refine p_xrd hx hb hK hX (k := ((n1 : Nat) : Int)) (by omega) (by omega) (by omega) dL_law_1565 ?_
              rw [show fq1 (((n1 : Nat) : Int)).toNat = iI (g 3 ((n1 : Nat) : Int) 10) from hxf1 _ (by omega) (by omega)]
              refine n_icmp_lt hx hb (by unfold RI; omega) (by unfold RI; omega) (tgt := 1595) dL_law_1566 (by decide) (fun h30 => absurd h30 (by intro h30; omega)) (fun h30 => ?_)
              refine lv_aload_n hx hb dL_law_1569 rfl (lv_at hl 8 rfl) ?_
              refine lv_iload hx hb dL_law_1570 (lv_at hl 0 rfl) ?_
              refine lv_iconst (v := iI 5) hx hb dL_law_1572 (by decide) ?_
              refine va_calli (va_runV (As := [.int (iI ((n1 : Nat) : Int)), .int (iI 5)]) (rest := []) ⟨hx, hb, hml, hown, hw⟩ (c_ofJudge l D a cH cB cJ cI ha g6 v5 H.size ((n1 : Nat) : Int) 5 hWg6 (by omega) (by omega)) (cwV 2 hw (gA_V kw_174 kw_175 kw_176 kw_2 kw_177) rfl rfl rfl (by decide +kernel) ⟨Nat.le_of_ble_eq_true rfl, Nat.le_of_ble_eq_true rfl⟩) (pS_v (ci := 4) (q0 := 0) rfl pw_0 hP hK hE) rfl rfl hl.1 rfl (lv_room (Nat.le_of_ble_eq_true rfl)) dL_law_1573 ⟨rm_c (by omega), rm_s (by omega)⟩) hS (fun q h1 h2 => ro_A h1 h2) (fun q h => ro_F hS hA q h) (fun r u t H1 locs ht hvm hw9 hB9 hz1 hk1 hS => ?_)
              have hw9 : r = (iI (m_ofJudge g6 ((n1 : Nat) : Int) 5)) := hw9
              subst hw9
              have hP := ro_P hP hk1
              have hX := ro_P hX hk1
              generalize H1 = H at hP hX hS ⊢
              rw [show (m_ofJudge g6 ((n1 : Nat) : Int) 5) = (g6 3 ((n1 : Nat) : Int) 10) from rfl]
              refine lv_aload hx hb dL_law_1576 (lv_at hl 2 rfl) ?_
              refine lv_iload hx hb dL_law_1578 (lv_at hl 0 rfl) ?_
              refine p_xrd hx hb hK hX (k := ((n1 : Nat) : Int)) (by omega) (by omega) (by omega) dL_law_1580 ?_
              rw [show fq1 (((n1 : Nat) : Int)).toNat = iI (g 3 ((n1 : Nat) : Int) 10) from hxf1 _ (by omega) (by omega)]
              refine lv_iload hx hb dL_law_1581 (lv_at hl 6 rfl) ?_
              refine lv_aload_n hx hb dL_law_1583 rfl (lv_at hl 8 rfl) ?_
              refine lv_iload hx hb dL_law_1584 (lv_at hl 0 rfl) ?_
              refine lv_iconst (v := iI 0) hx hb dL_law_1586 (by decide) ?_
              refine va_calli (va_runV (As := [.int (iI ((n1 : Nat) : Int)), .int (iI 0)]) (rest := [.int (iI (1 + u1)), .int (iI (g 3 ((n1 : Nat) : Int) 10)), .int (iI (g6 3 ((n1 : Nat) : Int) 10))]) ⟨hx, hb, hml, hown, hw⟩ (c_ofJudge l D a cH cB cJ cI ha g6 v5 H.size ((n1 : Nat) : Int) 0 hWg6 (by omega) (by omega)) (cwV 2 hw (gA_V kw_174 kw_175 kw_176 kw_2 kw_177) rfl rfl rfl (by decide +kernel) ⟨Nat.le_of_ble_eq_true rfl, Nat.le_of_ble_eq_true rfl⟩) (pS_v (ci := 4) (q0 := 0) rfl pw_0 hP hK hE) rfl rfl hl.1 rfl (lv_room (Nat.le_of_ble_eq_true rfl)) dL_law_1587 ⟨rm_c (by omega), rm_s (by omega)⟩) hS (fun q h1 h2 => ro_A h1 h2) (fun q h => ro_F hS hA q h) (fun r u t H1 locs ht hvm hw9 hB9 hz1 hk1 hS => ?_)
              have hw9 : r = (iI (m_ofJudge g6 ((n1 : Nat) : Int) 0)) := hw9
              subst hw9
              have hP := ro_P hP hk1
              have hX := ro_P hX hk1
              generalize H1 = H at hP hX hS ⊢
              rw [show (m_ofJudge g6 ((n1 : Nat) : Int) 0) = (g6 3 ((n1 : Nat) : Int) 0) from rfl]
              have s31 := Wf.j0 hWg6 (k := ((n1 : Nat) : Int)) (by omega) (by omega)
              refine n_mul hx hb dL_law_1590 ?_
              refine n_add hx hb dL_law_1591 ?_
              refine n_icmp_le hx hb (by unfold RI; omega) (by unfold RI; omega) (tgt := 1597) dL_law_1592 (by decide) (fun h32 => ?_) (fun h32 => absurd h32 (by intro h32; omega))
              refine n_inc (lv' := [(22, .int (iI (((n1 : Nat) : Int) + 1))), (21, .int (iI (m_sm (passf g) (1 + u1).toNat))), (20, .ref q9), (19, .int (iI (m_wouldMiss g (1 + u1)))), (18, .int (iI (m_missedEver g))), (17, .int (iI (m_readIn g))), (16, .int (iI (1 + u1))), (0, .ref b), (1, .ref (a 0)), (2, .int (iI hh)), (3, .int (iI jj)), (4, .int (iI paid)), (5, .int (iI printed)), (6, .int (iI called)), (7, .int (iI ((tn : Nat) : Int))), (8, .int x8), (9, .int (iI (g 0 0 4))), (10, .int (iI bk)), (11, .int (iI jd)), (12, .int (iI (g 0 0 9))), (13, .int (iI (g 0 0 8))), (14, .int (iI (m_entCount g))), (15, .int (iI (g 9 0 3)))]) hx hb dL_law_1597 hl (k := 0) rfl (by decide) rfl (fun ls hl => ?_)
              refine lv_goto (tgt := 1548) hx hb dL_law_1600 (by decide) ?_
              have hl : lv_has ls 23 [(22, .int (iI (((n1 : Nat) : Int) + 1))), (21, .int (iI (m_sm (passf g) (1 + u1).toNat))), (20, .ref q9), (19, .int (iI (m_wouldMiss g (1 + u1)))), (18, .int (iI (m_missedEver g))), (17, .int (iI (m_readIn g))), (16, .int (iI (1 + u1))), (0, .ref b), (1, .ref (a 0)), (2, .int (iI hh)), (3, .int (iI jj)), (4, .int (iI paid)), (5, .int (iI printed)), (6, .int (iI called)), (7, .int (iI ((tn : Nat) : Int))), (8, .int x8), (9, .int (iI (g 0 0 4))), (10, .int (iI bk)), (11, .int (iI jd)), (12, .int (iI (g 0 0 9))), (13, .int (iI (g 0 0 8))), (14, .int (iI (m_entCount g))), (15, .int (iI (g 9 0 3)))] := lv_sub hl [0, 1, 2, 3, 4, 5, 6, 7, 8, 9, 10, 11, 12, 13, 14, 15, 16, 17, 18, 19, 20, 21, 22] rfl
              have e33 : (((n1 : Nat) : Int) + 1) = (((n1 + 1) : Nat) : Int) := by rfl
              have hl : lv_has ls 23 [(22, .int (iI (((n1 + 1) : Nat) : Int))), (21, .int (iI (m_sm (passf g) (1 + u1).toNat))), (20, .ref q9), (19, .int (iI (m_wouldMiss g (1 + u1)))), (18, .int (iI (m_missedEver g))), (17, .int (iI (m_readIn g))), (16, .int (iI (1 + u1))), (0, .ref b), (1, .ref (a 0)), (2, .int (iI hh)), (3, .int (iI jj)), (4, .int (iI paid)), (5, .int (iI printed)), (6, .int (iI called)), (7, .int (iI ((tn : Nat) : Int))), (8, .int x8), (9, .int (iI (g 0 0 4))), (10, .int (iI bk)), (11, .int (iI jd)), (12, .int (iI (g 0 0 9))), (13, .int (iI (g 0 0 8))), (14, .int (iI (m_entCount g))), (15, .int (iI (g 9 0 3)))] := lv_cast hl (by rw [e33])
              exact ih1548 (n1 + 1) fq1 H locs ls (by omega) hxf1 hX hP hS hl
          have hl : lv_has ls 23 [(22, .int (iI 0)), (21, .int (iI (m_sm (passf g) (1 + u1).toNat))), (20, .ref q9), (19, .int (iI (m_wouldMiss g (1 + u1)))), (18, .int (iI (m_missedEver g))), (17, .int (iI (m_readIn g))), (16, .int (iI (1 + u1))), (0, .ref b), (1, .ref (a 0)), (2, .int (iI hh)), (3, .int (iI jj)), (4, .int (iI paid)), (5, .int (iI printed)), (6, .int (iI called)), (7, .int (iI ((tn : Nat) : Int))), (8, .int x8), (9, .int (iI (g 0 0 4))), (10, .int (iI bk)), (11, .int (iI jd)), (12, .int (iI (g 0 0 9))), (13, .int (iI (g 0 0 8))), (14, .int (iI (m_entCount g))), (15, .int (iI (g 9 0 3)))] := lv_sub hl [0, 1, 2, 3, 4, 5, 6, 7, 8, 9, 10, 11, 12, 13, 14, 15, 16, 17, 18, 19, 20, 21, 22] rfl
          have hl : lv_has ls 23 [(22, .int (iI ((0 : Nat) : Int))), (21, .int (iI (m_sm (passf g) (1 + u1).toNat))), (20, .ref q9), (19, .int (iI (m_wouldMiss g (1 + u1)))), (18, .int (iI (m_missedEver g))), (17, .int (iI (m_readIn g))), (16, .int (iI (1 + u1))), (0, .ref b), (1, .ref (a 0)), (2, .int (iI hh)), (3, .int (iI jj)), (4, .int (iI paid)), (5, .int (iI printed)), (6, .int (iI called)), (7, .int (iI ((tn : Nat) : Int))), (8, .int x8), (9, .int (iI (g 0 0 4))), (10, .int (iI bk)), (11, .int (iI jd)), (12, .int (iI (g 0 0 9))), (13, .int (iI (g 0 0 8))), (14, .int (iI (m_entCount g))), (15, .int (iI (g 9 0 3)))] := hl
          exact loop1548 jj.toNat 0 fq H locs ls (by omega) (fun j h0 h1 => hxf j h0 (by omega)) hX hP hS hl
        · skip
          refine lv_iconst (v := iI 0) hx hb dL_law_1527 (by decide) ?_
          refine lv_iload hx hb dL_law_1528 (lv_at hl 4 rfl) ?_
          refine lv_iload hx hb dL_law_1530 (lv_at hl 5 rfl) ?_
          refine n_sub hx hb dL_law_1532 ?_
          refine va_mmax hx hb (hml.trans hl.1.symm) hown (hw _ kw_4) (hw _ kw_5) (hw _ kw_6) (hw _ kw_7) (by first | exact Nat.le_of_ble_eq_true rfl | exact rm_s (by omega) | exact rm_c (by omega)) (by first | exact Nat.le_of_ble_eq_true rfl | exact rm_s (by omega) | exact rm_c (by omega)) (by first | exact Nat.le_of_ble_eq_true rfl | exact rm_s (by omega) | exact rm_c (by omega)) (by first | exact Nat.le_of_ble_eq_true rfl | exact rm_s (by omega) | exact rm_c (by omega)) dL_law_1533 ?_
          rw [n_max (by unfold RI; omega) (by unfold RI; omega)]
          refine lv_goto (tgt := 1540) hx hb dL_law_1536 (by decide) ?_
          rw [hrig6, if_pos (by omega)]
          refine lv_icmp_eq hx hb (tgt := 1545) dL_law_1540 (by decide) (fun _ => ?_) (fun h => absurd rfl h)
          refine lv_iconst (v := iI 0) hx hb dL_law_1545 (by decide) ?_
          refine lv_istore (lv' := [(22, .int (iI 0)), (21, .int (iI (m_sm (passf g) (1 + u1).toNat))), (20, .ref q9), (19, .int (iI (m_wouldMiss g (1 + u1)))), (18, .int (iI (m_missedEver g))), (17, .int (iI (m_readIn g))), (16, .int (iI (1 + u1))), (0, .ref b), (1, .ref (a 0)), (2, .int (iI hh)), (3, .int (iI jj)), (4, .int (iI paid)), (5, .int (iI printed)), (6, .int (iI called)), (7, .int (iI ((tn : Nat) : Int))), (8, .int x8), (9, .int (iI (g 0 0 4))), (10, .int (iI bk)), (11, .int (iI jd)), (12, .int (iI (g 0 0 9))), (13, .int (iI (g 0 0 8))), (14, .int (iI (m_entCount g))), (15, .int (iI (g 9 0 3)))]) hx hb dL_law_1546 hl (by decide) rfl (fun ls hl => ?_)
          have loop1548 : ∀ (d1 n1 : Nat) (fq1 : Nat → Int32) (H : Heap) (locs : List Loc) (ls : Array Slot), n1 + d1 = jj.toNat → (∀ j : Int, 0 ≤ j → j < jj → fq1 j.toNat = iI (g 3 j 10)) → va_P D vwCl [(q9, zC cI jj.toNat fq1)] H → va_P D vwCl (pw a cH cB cJ cI g6 v5) H → va_S (fun q => s.heap.size ≤ q) s.heap H locs → lv_has ls 23 [(22, .int (iI ((n1 : Nat) : Int))), (21, .int (iI (m_sm (passf g) (1 + u1).toNat))), (20, .ref q9), (19, .int (iI (m_wouldMiss g (1 + u1)))), (18, .int (iI (m_missedEver g))), (17, .int (iI (m_readIn g))), (16, .int (iI (1 + u1))), (0, .ref b), (1, .ref (a 0)), (2, .int (iI hh)), (3, .int (iI jj)), (4, .int (iI paid)), (5, .int (iI printed)), (6, .int (iI called)), (7, .int (iI ((tn : Nat) : Int))), (8, .int x8), (9, .int (iI (g 0 0 4))), (10, .int (iI bk)), (11, .int (iI jd)), (12, .int (iI (g 0 0 9))), (13, .int (iI (g 0 0 8))), (14, .int (iI (m_entCount g))), (15, .int (iI (g 9 0 3)))] → W p l e room_1 s m args below meth c H locs (cells + 1) (slots + 5) Q (F0 m 1548 ls []) := by
            intro d1
            induction d1 with
            | zero =>
              intro n1 fq1 H locs ls hn1 hxf1 hX hP hS hl
              obtain rfl : n1 = jj.toNat := by omega
              refine lv_iload hx hb dL_law_1548 (lv_at hl 0 rfl) ?_
              refine lv_iload_n hx hb dL_law_1550 rfl (lv_at hl 10 rfl) ?_
              refine n_icmp_ge hx hb (by unfold RI; omega) (by unfold RI; omega) (tgt := 1603) dL_law_1551 (by decide) (fun h34 => ?_) (fun h34 => absurd h34 (by intro h34; omega))
              exact kx g6 v5 paid printed called H locs ls hivg6 hP hS (lv_sub hl [7, 8, 9, 10, 11, 12, 13, 14] rfl)
            | succ d1 ih1548 =>
              intro n1 fq1 H locs ls hn1 hxf1 hX hP hS hl
              have hdyn := hdyg6 ((n1 : Nat) : Int) (by omega) (by omega)
              rw [← hj0g6] at hdyn
              have hsp0 := Wf.j0 hivg6.1 (k := ((n1 : Nat) : Int)) (by omega) (by omega)
              have hmc := mul_c (x := 1 + u1) (y := g6 3 ((n1 : Nat) : Int) 0) (by omega) (by omega)
              have hg10 := Wf.j10 hWf (k := ((n1 : Nat) : Int)) (by omega) (by omega)
              refine lv_iload hx hb dL_law_1548 (lv_at hl 0 rfl) ?_
              refine lv_iload_n hx hb dL_law_1550 rfl (lv_at hl 10 rfl) ?_
              refine n_icmp_ge hx hb (by unfold RI; omega) (by unfold RI; omega) (tgt := 1603) dL_law_1551 (by decide) (fun h35 => absurd h35 (by intro h35; omega)) (fun h35 => ?_)
              refine lv_aload_n hx hb dL_law_1554 rfl (lv_at hl 8 rfl) ?_
              refine lv_iload hx hb dL_law_1555 (lv_at hl 0 rfl) ?_
              refine lv_iconst (v := iI 5) hx hb dL_law_1557 (by decide) ?_
              refine va_calli (va_runV (As := [.int (iI ((n1 : Nat) : Int)), .int (iI 5)]) (rest := []) ⟨hx, hb, hml, hown, hw⟩ (c_ofJudge l D a cH cB cJ cI ha g6 v5 H.size ((n1 : Nat) : Int) 5 hWg6 (by omega) (by omega)) (cwV 2 hw (gA_V kw_174 kw_175 kw_176 kw_2 kw_177) rfl rfl rfl (by decide +kernel) ⟨Nat.le_of_ble_eq_true rfl, Nat.le_of_ble_eq_true rfl⟩) (pS_v (ci := 4) (q0 := 0) rfl pw_0 hP hK hE) rfl rfl hl.1 rfl (lv_room (Nat.le_of_ble_eq_true rfl)) dL_law_1558 ⟨rm_c (by omega), rm_s (by omega)⟩) hS (fun q h1 h2 => ro_A h1 h2) (fun q h => ro_F hS hA q h) (fun r u t H1 locs ht hvm hw9 hB9 hz1 hk1 hS => ?_)
              have hw9 : r = (iI (m_ofJudge g6 ((n1 : Nat) : Int) 5)) := hw9
              subst hw9
              have hP := ro_P hP hk1
              have hX := ro_P hX hk1
              generalize H1 = H at hP hX hS ⊢
              rw [show (m_ofJudge g6 ((n1 : Nat) : Int) 5) = (g6 3 ((n1 : Nat) : Int) 10) from rfl]
              have s36 := Wf.j10 hWg6 (k := ((n1 : Nat) : Int)) (by omega) (by omega)
              refine lv_aload hx hb dL_law_1561 (lv_at hl 2 rfl) ?_
              refine lv_iload hx hb dL_law_1563 (lv_at hl 0 rfl) ?_
              refine p_xrd hx hb hK hX (k := ((n1 : Nat) : Int)) (by omega) (by omega) (by omega) dL_law_1565 ?_
              rw [show fq1 (((n1 : Nat) : Int)).toNat = iI (g 3 ((n1 : Nat) : Int) 10) from hxf1 _ (by omega) (by omega)]
              refine n_icmp_lt hx hb (by unfold RI; omega) (by unfold RI; omega) (tgt := 1595) dL_law_1566 (by decide) (fun h37 => absurd h37 (by intro h37; omega)) (fun h37 => ?_)
              refine lv_aload_n hx hb dL_law_1569 rfl (lv_at hl 8 rfl) ?_
              refine lv_iload hx hb dL_law_1570 (lv_at hl 0 rfl) ?_
              refine lv_iconst (v := iI 5) hx hb dL_law_1572 (by decide) ?_
              refine va_calli (va_runV (As := [.int (iI ((n1 : Nat) : Int)), .int (iI 5)]) (rest := []) ⟨hx, hb, hml, hown, hw⟩ (c_ofJudge l D a cH cB cJ cI ha g6 v5 H.size ((n1 : Nat) : Int) 5 hWg6 (by omega) (by omega)) (cwV 2 hw (gA_V kw_174 kw_175 kw_176 kw_2 kw_177) rfl rfl rfl (by decide +kernel) ⟨Nat.le_of_ble_eq_true rfl, Nat.le_of_ble_eq_true rfl⟩) (pS_v (ci := 4) (q0 := 0) rfl pw_0 hP hK hE) rfl rfl hl.1 rfl (lv_room (Nat.le_of_ble_eq_true rfl)) dL_law_1573 ⟨rm_c (by omega), rm_s (by omega)⟩) hS (fun q h1 h2 => ro_A h1 h2) (fun q h => ro_F hS hA q h) (fun r u t H1 locs ht hvm hw9 hB9 hz1 hk1 hS => ?_)
              have hw9 : r = (iI (m_ofJudge g6 ((n1 : Nat) : Int) 5)) := hw9
              subst hw9
              have hP := ro_P hP hk1
              have hX := ro_P hX hk1
              generalize H1 = H at hP hX hS ⊢
              rw [show (m_ofJudge g6 ((n1 : Nat) : Int) 5) = (g6 3 ((n1 : Nat) : Int) 10) from rfl]
              refine lv_aload hx hb dL_law_1576 (lv_at hl 2 rfl) ?_
              refine lv_iload hx hb dL_law_1578 (lv_at hl 0 rfl) ?_
              refine p_xrd hx hb hK hX (k := ((n1 : Nat) : Int)) (by omega) (by omega) (by omega) dL_law_1580 ?_
              rw [show fq1 (((n1 : Nat) : Int)).toNat = iI (g 3 ((n1 : Nat) : Int) 10) from hxf1 _ (by omega) (by omega)]
              refine lv_iload hx hb dL_law_1581 (lv_at hl 6 rfl) ?_
              refine lv_aload_n hx hb dL_law_1583 rfl (lv_at hl 8 rfl) ?_
              refine lv_iload hx hb dL_law_1584 (lv_at hl 0 rfl) ?_
              refine lv_iconst (v := iI 0) hx hb dL_law_1586 (by decide) ?_
              refine va_calli (va_runV (As := [.int (iI ((n1 : Nat) : Int)), .int (iI 0)]) (rest := [.int (iI (1 + u1)), .int (iI (g 3 ((n1 : Nat) : Int) 10)), .int (iI (g6 3 ((n1 : Nat) : Int) 10))]) ⟨hx, hb, hml, hown, hw⟩ (c_ofJudge l D a cH cB cJ cI ha g6 v5 H.size ((n1 : Nat) : Int) 0 hWg6 (by omega) (by omega)) (cwV 2 hw (gA_V kw_174 kw_175 kw_176 kw_2 kw_177) rfl rfl rfl (by decide +kernel) ⟨Nat.le_of_ble_eq_true rfl, Nat.le_of_ble_eq_true rfl⟩) (pS_v (ci := 4) (q0 := 0) rfl pw_0 hP hK hE) rfl rfl hl.1 rfl (lv_room (Nat.le_of_ble_eq_true rfl)) dL_law_1587 ⟨rm_c (by omega), rm_s (by omega)⟩) hS (fun q h1 h2 => ro_A h1 h2) (fun q h => ro_F hS hA q h) (fun r u t H1 locs ht hvm hw9 hB9 hz1 hk1 hS => ?_)
              have hw9 : r = (iI (m_ofJudge g6 ((n1 : Nat) : Int) 0)) := hw9
              subst hw9
              have hP := ro_P hP hk1
              have hX := ro_P hX hk1
              generalize H1 = H at hP hX hS ⊢
              rw [show (m_ofJudge g6 ((n1 : Nat) : Int) 0) = (g6 3 ((n1 : Nat) : Int) 0) from rfl]
              have s38 := Wf.j0 hWg6 (k := ((n1 : Nat) : Int)) (by omega) (by omega)
              refine n_mul hx hb dL_law_1590 ?_
              refine n_add hx hb dL_law_1591 ?_
              refine n_icmp_le hx hb (by unfold RI; omega) (by unfold RI; omega) (tgt := 1597) dL_law_1592 (by decide) (fun h39 => ?_) (fun h39 => absurd h39 (by intro h39; omega))
              refine n_inc (lv' := [(22, .int (iI (((n1 : Nat) : Int) + 1))), (21, .int (iI (m_sm (passf g) (1 + u1).toNat))), (20, .ref q9), (19, .int (iI (m_wouldMiss g (1 + u1)))), (18, .int (iI (m_missedEver g))), (17, .int (iI (m_readIn g))), (16, .int (iI (1 + u1))), (0, .ref b), (1, .ref (a 0)), (2, .int (iI hh)), (3, .int (iI jj)), (4, .int (iI paid)), (5, .int (iI printed)), (6, .int (iI called)), (7, .int (iI ((tn : Nat) : Int))), (8, .int x8), (9, .int (iI (g 0 0 4))), (10, .int (iI bk)), (11, .int (iI jd)), (12, .int (iI (g 0 0 9))), (13, .int (iI (g 0 0 8))), (14, .int (iI (m_entCount g))), (15, .int (iI (g 9 0 3)))]) hx hb dL_law_1597 hl (k := 0) rfl (by decide) rfl (fun ls hl => ?_)
              refine lv_goto (tgt := 1548) hx hb dL_law_1600 (by decide) ?_
              have hl : lv_has ls 23 [(22, .int (iI (((n1 : Nat) : Int) + 1))), (21, .int (iI (m_sm (passf g) (1 + u1).toNat))), (20, .ref q9), (19, .int (iI (m_wouldMiss g (1 + u1)))), (18, .int (iI (m_missedEver g))), (17, .int (iI (m_readIn g))), (16, .int (iI (1 + u1))), (0, .ref b), (1, .ref (a 0)), (2, .int (iI hh)), (3, .int (iI jj)), (4, .int (iI paid)), (5, .int (iI printed)), (6, .int (iI called)), (7, .int (iI ((tn : Nat) : Int))), (8, .int x8), (9, .int (iI (g 0 0 4))), (10, .int (iI bk)), (11, .int (iI jd)), (12, .int (iI (g 0 0 9))), (13, .int (iI (g 0 0 8))), (14, .int (iI (m_entCount g))), (15, .int (iI (g 9 0 3)))] := lv_sub hl [0, 1, 2, 3, 4, 5, 6, 7, 8, 9, 10, 11, 12, 13, 14, 15, 16, 17, 18, 19, 20, 21, 22] rfl
              have e40 : (((n1 : Nat) : Int) + 1) = (((n1 + 1) : Nat) : Int) := by rfl
              have hl : lv_has ls 23 [(22, .int (iI (((n1 + 1) : Nat) : Int))), (21, .int (iI (m_sm (passf g) (1 + u1).toNat))), (20, .ref q9), (19, .int (iI (m_wouldMiss g (1 + u1)))), (18, .int (iI (m_missedEver g))), (17, .int (iI (m_readIn g))), (16, .int (iI (1 + u1))), (0, .ref b), (1, .ref (a 0)), (2, .int (iI hh)), (3, .int (iI jj)), (4, .int (iI paid)), (5, .int (iI printed)), (6, .int (iI called)), (7, .int (iI ((tn : Nat) : Int))), (8, .int x8), (9, .int (iI (g 0 0 4))), (10, .int (iI bk)), (11, .int (iI jd)), (12, .int (iI (g 0 0 9))), (13, .int (iI (g 0 0 8))), (14, .int (iI (m_entCount g))), (15, .int (iI (g 9 0 3)))] := lv_cast hl (by rw [e40])
              exact ih1548 (n1 + 1) fq1 H locs ls (by omega) hxf1 hX hP hS hl
          have hl : lv_has ls 23 [(22, .int (iI 0)), (21, .int (iI (m_sm (passf g) (1 + u1).toNat))), (20, .ref q9), (19, .int (iI (m_wouldMiss g (1 + u1)))), (18, .int (iI (m_missedEver g))), (17, .int (iI (m_readIn g))), (16, .int (iI (1 + u1))), (0, .ref b), (1, .ref (a 0)), (2, .int (iI hh)), (3, .int (iI jj)), (4, .int (iI paid)), (5, .int (iI printed)), (6, .int (iI called)), (7, .int (iI ((tn : Nat) : Int))), (8, .int x8), (9, .int (iI (g 0 0 4))), (10, .int (iI bk)), (11, .int (iI jd)), (12, .int (iI (g 0 0 9))), (13, .int (iI (g 0 0 8))), (14, .int (iI (m_entCount g))), (15, .int (iI (g 9 0 3)))] := lv_sub hl [0, 1, 2, 3, 4, 5, 6, 7, 8, 9, 10, 11, 12, 13, 14, 15, 16, 17, 18, 19, 20, 21, 22] rfl
          have hl : lv_has ls 23 [(22, .int (iI ((0 : Nat) : Int))), (21, .int (iI (m_sm (passf g) (1 + u1).toNat))), (20, .ref q9), (19, .int (iI (m_wouldMiss g (1 + u1)))), (18, .int (iI (m_missedEver g))), (17, .int (iI (m_readIn g))), (16, .int (iI (1 + u1))), (0, .ref b), (1, .ref (a 0)), (2, .int (iI hh)), (3, .int (iI jj)), (4, .int (iI paid)), (5, .int (iI printed)), (6, .int (iI called)), (7, .int (iI ((tn : Nat) : Int))), (8, .int x8), (9, .int (iI (g 0 0 4))), (10, .int (iI bk)), (11, .int (iI jd)), (12, .int (iI (g 0 0 9))), (13, .int (iI (g 0 0 8))), (14, .int (iI (m_entCount g))), (15, .int (iI (g 9 0 3)))] := hl
          exact loop1548 jj.toNat 0 fq H locs ls (by omega) (fun j h0 h1 => hxf j h0 (by omega)) hX hP hS hl
    | succ d ih1460 =>
      intro n fq H locs ls hn hxf hX hP hS hl
      refine lv_iload hx hb dL_law_1460 (lv_at hl 0 rfl) ?_
      refine lv_iload_n hx hb dL_law_1462 rfl (lv_at hl 9 rfl) ?_
      refine n_icmp_ge hx hb (by unfold RI; omega) (by unfold RI; omega) (tgt := 1484) dL_law_1463 (by decide) (fun h41 => absurd h41 (by intro h41; omega)) (fun h41 => ?_)
      refine lv_aload hx hb dL_law_1466 (lv_at hl 1 rfl) ?_
      refine lv_iload hx hb dL_law_1468 (lv_at hl 0 rfl) ?_
      refine lv_aload_n hx hb dL_law_1470 rfl (lv_at hl 7 rfl) ?_
      refine lv_iload hx hb dL_law_1471 (lv_at hl 0 rfl) ?_
      refine lv_iconst (v := iI 5) hx hb dL_law_1473 (by decide) ?_
      refine va_calli (va_runV (As := [.int (iI ((n : Nat) : Int)), .int (iI 5)]) (rest := [.int (iI ((n : Nat) : Int)), .ref q9]) ⟨hx, hb, hml, hown, hw⟩ (c_ofJudge l D a cH cB cJ cI ha g vt H.size ((n : Nat) : Int) 5 hWf (by omega) (by omega)) (cwV 2 hw (gA_V kw_174 kw_175 kw_176 kw_2 kw_177) rfl rfl rfl (by decide +kernel) ⟨Nat.le_of_ble_eq_true rfl, Nat.le_of_ble_eq_true rfl⟩) (pS_v (ci := 4) (q0 := 0) rfl pw_0 hP hK hE) rfl rfl hl.1 rfl (lv_room (Nat.le_of_ble_eq_true rfl)) dL_law_1474 ⟨rm_c (by omega), rm_s (by omega)⟩) hS (fun q h1 h2 => ro_A h1 h2) (fun q h => ro_F hS hA q h) (fun r u t H1 locs ht hvm hw9 hB9 hz1 hk1 hS => ?_)
      have hw9 : r = (iI (m_ofJudge g ((n : Nat) : Int) 5)) := hw9
      subst hw9
      have hP := ro_P hP hk1
      have hX := ro_P hX hk1
      generalize H1 = H at hP hX hS ⊢
      rw [show (m_ofJudge g ((n : Nat) : Int) 5) = (g 3 ((n : Nat) : Int) 10) from rfl]
      refine p_xwr hx hb hK hP ha hB hX hq hqA hS (k := ((n : Nat) : Int)) (x := iI (g 3 ((n : Nat) : Int) 10)) (by omega) (by omega) (by omega) dL_law_1477 (fun H locs hP hX hS => ?_)
      obtain ⟨fx42, hfx42⟩ : ∃ z, z = upd fq (((n : Nat) : Int)).toNat (iI (g 3 ((n : Nat) : Int) 10)) := ⟨_, rfl⟩
      rw [← hfx42] at hX
      refine n_inc (lv' := [(21, .int (iI (((n : Nat) : Int) + 1))), (20, .ref q9), (19, .int (iI (m_wouldMiss g (1 + u1)))), (18, .int (iI (m_missedEver g))), (17, .int (iI (m_readIn g))), (16, .int (iI (1 + u1))), (0, .ref b), (1, .ref (a 0)), (2, .int (iI hh)), (3, .int (iI jj)), (4, .int (iI paid)), (5, .int (iI printed)), (6, .int (iI called)), (7, .int (iI ((tn : Nat) : Int))), (8, .int x8), (9, .int (iI (g 0 0 4))), (10, .int (iI bk)), (11, .int (iI jd)), (12, .int (iI (g 0 0 9))), (13, .int (iI (g 0 0 8))), (14, .int (iI (m_entCount g))), (15, .int (iI (g 9 0 3)))]) hx hb dL_law_1478 hl (k := 0) rfl (by decide) rfl (fun ls hl => ?_)
      refine lv_goto (tgt := 1460) hx hb dL_law_1481 (by decide) ?_
      have hl : lv_has ls 23 [(21, .int (iI (((n : Nat) : Int) + 1))), (20, .ref q9), (19, .int (iI (m_wouldMiss g (1 + u1)))), (18, .int (iI (m_missedEver g))), (17, .int (iI (m_readIn g))), (16, .int (iI (1 + u1))), (0, .ref b), (1, .ref (a 0)), (2, .int (iI hh)), (3, .int (iI jj)), (4, .int (iI paid)), (5, .int (iI printed)), (6, .int (iI called)), (7, .int (iI ((tn : Nat) : Int))), (8, .int x8), (9, .int (iI (g 0 0 4))), (10, .int (iI bk)), (11, .int (iI jd)), (12, .int (iI (g 0 0 9))), (13, .int (iI (g 0 0 8))), (14, .int (iI (m_entCount g))), (15, .int (iI (g 9 0 3)))] := lv_sub hl [0, 1, 2, 3, 4, 5, 6, 7, 8, 9, 10, 11, 12, 13, 14, 15, 16, 17, 18, 19, 20, 21] rfl
      have e43 : (((n : Nat) : Int) + 1) = (((n + 1) : Nat) : Int) := by rfl
      have hl : lv_has ls 23 [(21, .int (iI (((n + 1) : Nat) : Int))), (20, .ref q9), (19, .int (iI (m_wouldMiss g (1 + u1)))), (18, .int (iI (m_missedEver g))), (17, .int (iI (m_readIn g))), (16, .int (iI (1 + u1))), (0, .ref b), (1, .ref (a 0)), (2, .int (iI hh)), (3, .int (iI jj)), (4, .int (iI paid)), (5, .int (iI printed)), (6, .int (iI called)), (7, .int (iI ((tn : Nat) : Int))), (8, .int x8), (9, .int (iI (g 0 0 4))), (10, .int (iI bk)), (11, .int (iI jd)), (12, .int (iI (g 0 0 9))), (13, .int (iI (g 0 0 8))), (14, .int (iI (m_entCount g))), (15, .int (iI (g 9 0 3)))] := lv_cast hl (by rw [e43])
      exact ih1460 (n + 1) fx42 H locs ls (by omega) (upd_in hxf hfx42) hX hP hS hl
  have hl : lv_has ls 23 [(21, .int (iI 0)), (20, .ref q9), (19, .int (iI (m_wouldMiss g (1 + u1)))), (18, .int (iI (m_missedEver g))), (17, .int (iI (m_readIn g))), (16, .int (iI (1 + u1))), (0, .ref b), (1, .ref (a 0)), (2, .int (iI hh)), (3, .int (iI jj)), (4, .int (iI paid)), (5, .int (iI printed)), (6, .int (iI called)), (7, .int (iI ((tn : Nat) : Int))), (8, .int x8), (9, .int (iI (g 0 0 4))), (10, .int (iI bk)), (11, .int (iI jd)), (12, .int (iI (g 0 0 9))), (13, .int (iI (g 0 0 8))), (14, .int (iI (m_entCount g))), (15, .int (iI (g 9 0 3)))] := lv_sub hl [0, 1, 2, 3, 4, 5, 6, 7, 8, 9, 10, 11, 12, 13, 14, 15, 16, 17, 18, 19, 20, 21] rfl
  have hl : lv_has ls 23 [(21, .int (iI ((0 : Nat) : Int))), (20, .ref q9), (19, .int (iI (m_wouldMiss g (1 + u1)))), (18, .int (iI (m_missedEver g))), (17, .int (iI (m_readIn g))), (16, .int (iI (1 + u1))), (0, .ref b), (1, .ref (a 0)), (2, .int (iI hh)), (3, .int (iI jj)), (4, .int (iI paid)), (5, .int (iI printed)), (6, .int (iI called)), (7, .int (iI ((tn : Nat) : Int))), (8, .int x8), (9, .int (iI (g 0 0 4))), (10, .int (iI bk)), (11, .int (iI jd)), (12, .int (iI (g 0 0 9))), (13, .int (iI (g 0 0 8))), (14, .int (iI (m_entCount g))), (15, .int (iI (g 9 0 3)))] := hl
  exact loop1460 jj.toNat 0 (fun _ => 0) H locs ls (by omega) (fun j h0 h1 => absurd h1 (by omega)) hX hP hS hl

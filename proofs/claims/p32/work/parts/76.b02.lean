set_option maxHeartbeats 4000000 in
set_option maxRecDepth 100000 in
theorem law_rules {p : Program} {l : Launch} {e : Env} {s : State} {m : MethodId} {args : Array Value} {below : List Frame} {meth : Method} {c : Code} {Q : State → Prop} {b : Nat} {D : va_G} {a : Nat → Nat} {cH cB cJ cI : ClassId} (hx : p.tables.exec = Jvm.exec) (hb : c.code = cL_law) (hml : c.maxLocals = 23) (hown : s.vm.findClass RL = some m.cls) (hw : ∀ w ∈ wsL_law0, w.before args s = true) (ha : pj a) (hB : ∀ k, k < 58 → s.heap.size ≤ a k) (hK : va_K D vwCl (pT cH cB cJ cI) s) (hE : ew s) {g : m_St} {vt : Nat → Int32} {hh jj paid printed called : Int} {tn cells slots : Nat} (ht9 : tn < 90) (hcc : cells + 2 ≤ 600074) (hss : slots + 10 ≤ 7301550) (hhh : 2 ≤ hh ∧ hh ≤ 5) (hjj : 3 ≤ jj ∧ jj ≤ 5) (hIv : Iv hh jj ((tn : Nat) : Int) paid printed called g) {x8 : Int32} {bk jd : Int} (hbk : -1 ≤ bk ∧ bk < g 0 0 4) (hjd : 0 ≤ jd ∧ jd < g 0 0 5) {H : Heap} {locs : List Loc} {ls : Array Slot} (hP : va_P D vwCl (pw a cH cB cJ cI g vt) H) (hS : va_S (fun q => s.heap.size ≤ q) s.heap H locs) (hl : lv_has ls 23 [(0, .ref b), (1, .ref (a 0)), (2, .int (iI hh)), (3, .int (iI jj)), (4, .int (iI paid)), (5, .int (iI printed)), (6, .int (iI called)), (7, .int (iI ((tn : Nat) : Int))), (8, .int x8), (9, .int (iI (g 0 0 4))), (10, .int (iI bk)), (11, .int (iI jd)), (12, .int (iI (g 0 0 9))), (13, .int (iI (g 0 0 8))), (14, .int (iI (m_entCount g))), (15, .int (iI (g 9 0 3)))]) (kx : ∀ (g1 : m_St) (v1 : Nat → Int32) (p1 p2 p3 : Int) (H : Heap) (locs : List Loc) (ls : Array Slot), Iv hh jj ((tn : Int) + 1) p1 p2 p3 g1 → va_P D vwCl (pw a cH cB cJ cI g1 v1) H → va_S (fun q => s.heap.size ≤ q) s.heap H locs → lv_has ls 23 [(0, .ref b), (1, .ref (a 0)), (2, .int (iI hh)), (3, .int (iI jj)), (4, .int (iI p1)), (5, .int (iI p2)), (6, .int (iI p3)), (7, .int (iI ((tn : Nat) : Int)))] → W p l e room_1 s m args below meth c H locs (cells + 1) (slots + 5) Q (F0 m 1603 ls [])) : W p l e room_1 s m args below meth c H locs cells slots Q (F0 m 461 ls []) := by
  have hWf : Wf g := hIv.1
  have m3 := Wf.m3 hWf
  have m4 := Wf.m4 hWf
  have m5 := Wf.m5 hWf
  have m8 := Wf.m8 hWf
  have m9 := Wf.m9 hWf
  have m10 := Wf.m10 hWf
  have m11 := Wf.m11 hWf
  have m13 := Wf.m13 hWf
  have m14 := Wf.m14 hWf
  have hS5 := hIv.2.2.2.2.1
  have hsb : ∀ b, m_has (g 0 0 13) b = true → b < g 0 0 4 := fun b hb => (hS5.1 b (hS5.2.1 b hb)).1
  have hN3 : g 0 0 3 = hh := hIv.2.2.2.1.1
  have hN5 : g 0 0 5 = jj := hIv.2.2.2.1.2.1
  have hN8 : 5 * g 0 0 8 + g 0 0 9 ≤ tn := hIv.2.2.2.1.2.2.1
  have hN10 : g 0 0 10 ≤ 6 * tn := hIv.2.2.2.1.2.2.2
  have hA : ∀ q : Nat, s.heap.size ≤ q → (fun q : Nat => s.heap.size ≤ q) q := fun _ h => h
  have hu3 := Wf.u3 hWf (k := 0) (by omega) (by omega)
  refine lv_aload_n hx hb dL_law_461 rfl (lv_at hl 1 rfl) ?_
  refine lv_iconst (v := iI 1) hx hb dL_law_462 (by decide) ?_
  refine lv_iload hx hb dL_law_463 (lv_at hl 8 rfl) ?_
  refine lv_iconst (v := iI 3) hx hb dL_law_465 (by decide) ?_
  refine lv_ishr hx hb dL_law_466 ?_
  refine lv_bipush (v := iI 7) hx hb dL_law_467 (by decide) ?_
  refine va_calli (va_runS (As := [.int (x8 >>> (iI 3 &&& 31)), .int (iI 7)]) (rest := [.int (iI 1), .ref (a 0)]) ⟨hx, hb, hml, hown, hw⟩ (c_below l D a cH cB cJ cI ha g vt H.size (x8 >>> (iI 3 &&& 31)) 7 (by omega)) (va_cwS 2 hw (gA_S kw_64 kw_65 kw_61 kw_66) rfl rfl rfl (by decide +kernel) ⟨Nat.le_of_ble_eq_true rfl, Nat.le_of_ble_eq_true rfl⟩) (pS_s hP hK hE) rfl rfl hl.1 rfl (lv_room (Nat.le_of_ble_eq_true rfl)) dL_law_469 ⟨rm_c (by omega), rm_s (by omega)⟩) hS (fun q h1 h2 => ro_A h1 h2) (fun q h => ro_F hS hA q h) (fun r u t H1 locs ht hvm hw9 hB9 hz1 hk1 hS => ?_)
  have hw9 : r = (iI (m_bel (x8 >>> (iI 3 &&& 31)) 7)) := hw9
  subst hw9
  have hP := ro_P hP hk1
  generalize H1 = H at hP hS ⊢
  have s2 := bel_b (x8 >>> (iI 3 &&& 31)) (n := 7) (by omega)
  obtain ⟨u1, hu1⟩ : ∃ z, z = (m_bel (x8 >>> (iI 3 &&& 31)) 7) := ⟨_, rfl⟩
  have hbu1 : 0 ≤ u1 ∧ u1 < 7 := by rw [hu1]; exact bel_b _ (by omega)
  rw [show (m_bel (x8 >>> (iI 3 &&& 31)) 7) = u1 from hu1.symm]
  refine n_add hx hb dL_law_472 ?_
  refine lv_bipush (v := iI 50) hx hb dL_law_473 (by decide) ?_
  refine lv_iload hx hb dL_law_475 (lv_at hl 8 rfl) ?_
  refine lv_iconst (v := iI 4) hx hb dL_law_477 (by decide) ?_
  refine lv_ishr hx hb dL_law_478 ?_
  refine lv_bipush (v := iI 60) hx hb dL_law_479 (by decide) ?_
  refine va_calli (va_runS (As := [.int (x8 >>> (iI 4 &&& 31)), .int (iI 60)]) (rest := [.int (iI 50), .int (iI (1 + u1)), .ref (a 0)]) ⟨hx, hb, hml, hown, hw⟩ (c_below l D a cH cB cJ cI ha g vt H.size (x8 >>> (iI 4 &&& 31)) 60 (by omega)) (va_cwS 2 hw (gA_S kw_64 kw_65 kw_61 kw_66) rfl rfl rfl (by decide +kernel) ⟨Nat.le_of_ble_eq_true rfl, Nat.le_of_ble_eq_true rfl⟩) (pS_s hP hK hE) rfl rfl hl.1 rfl (lv_room (Nat.le_of_ble_eq_true rfl)) dL_law_481 ⟨rm_c (by omega), rm_s (by omega)⟩) hS (fun q h1 h2 => ro_A h1 h2) (fun q h => ro_F hS hA q h) (fun r u t H1 locs ht hvm hw9 hB9 hz1 hk1 hS => ?_)
  have hw9 : r = (iI (m_bel (x8 >>> (iI 4 &&& 31)) 60)) := hw9
  subst hw9
  have hP := ro_P hP hk1
  generalize H1 = H at hP hS ⊢
  have s4 := bel_b (x8 >>> (iI 4 &&& 31)) (n := 60) (by omega)
  obtain ⟨u3, hu3⟩ : ∃ z, z = (m_bel (x8 >>> (iI 4 &&& 31)) 60) := ⟨_, rfl⟩
  have hbu3 : 0 ≤ u3 ∧ u3 < 60 := by rw [hu3]; exact bel_b _ (by omega)
  rw [show (m_bel (x8 >>> (iI 4 &&& 31)) 60) = u3 from hu3.symm]
  refine n_add hx hb dL_law_484 ?_
  refine lv_sipush (v := iI 150) hx hb dL_law_485 (by decide) ?_
  refine lv_iload hx hb dL_law_488 (lv_at hl 8 rfl) ?_
  refine lv_iconst (v := iI 5) hx hb dL_law_490 (by decide) ?_
  refine lv_ishr hx hb dL_law_491 ?_
  refine lv_sipush (v := iI 700) hx hb dL_law_492 (by decide) ?_
  refine va_calli (va_runS (As := [.int (x8 >>> (iI 5 &&& 31)), .int (iI 700)]) (rest := [.int (iI 150), .int (iI (50 + u3)), .int (iI (1 + u1)), .ref (a 0)]) ⟨hx, hb, hml, hown, hw⟩ (c_below l D a cH cB cJ cI ha g vt H.size (x8 >>> (iI 5 &&& 31)) 700 (by omega)) (va_cwS 2 hw (gA_S kw_64 kw_65 kw_61 kw_66) rfl rfl rfl (by decide +kernel) ⟨Nat.le_of_ble_eq_true rfl, Nat.le_of_ble_eq_true rfl⟩) (pS_s hP hK hE) rfl rfl hl.1 rfl (lv_room (Nat.le_of_ble_eq_true rfl)) dL_law_495 ⟨rm_c (by omega), rm_s (by omega)⟩) hS (fun q h1 h2 => ro_A h1 h2) (fun q h => ro_F hS hA q h) (fun r u t H1 locs ht hvm hw9 hB9 hz1 hk1 hS => ?_)
  have hw9 : r = (iI (m_bel (x8 >>> (iI 5 &&& 31)) 700)) := hw9
  subst hw9
  have hP := ro_P hP hk1
  generalize H1 = H at hP hS ⊢
  have s6 := bel_b (x8 >>> (iI 5 &&& 31)) (n := 700) (by omega)
  obtain ⟨u5, hu5⟩ : ∃ z, z = (m_bel (x8 >>> (iI 5 &&& 31)) 700) := ⟨_, rfl⟩
  have hbu5 : 0 ≤ u5 ∧ u5 < 700 := by rw [hu5]; exact bel_b _ (by omega)
  rw [show (m_bel (x8 >>> (iI 5 &&& 31)) 700) = u5 from hu5.symm]
  refine n_add hx hb dL_law_498 ?_
  refine lv_iload hx hb dL_law_499 (lv_at hl 8 rfl) ?_
  refine lv_bipush (v := iI 6) hx hb dL_law_501 (by decide) ?_
  refine lv_ishr hx hb dL_law_503 ?_
  refine lv_bipush (v := iI 51) hx hb dL_law_504 (by decide) ?_
  refine va_calli (va_runS (As := [.int (x8 >>> (iI 6 &&& 31)), .int (iI 51)]) (rest := [.int (iI (150 + u5)), .int (iI (50 + u3)), .int (iI (1 + u1)), .ref (a 0)]) ⟨hx, hb, hml, hown, hw⟩ (c_below l D a cH cB cJ cI ha g vt H.size (x8 >>> (iI 6 &&& 31)) 51 (by omega)) (va_cwS 2 hw (gA_S kw_64 kw_65 kw_61 kw_66) rfl rfl rfl (by decide +kernel) ⟨Nat.le_of_ble_eq_true rfl, Nat.le_of_ble_eq_true rfl⟩) (pS_s hP hK hE) rfl rfl hl.1 rfl (lv_room (Nat.le_of_ble_eq_true rfl)) dL_law_506 ⟨rm_c (by omega), rm_s (by omega)⟩) hS (fun q h1 h2 => ro_A h1 h2) (fun q h => ro_F hS hA q h) (fun r u t H1 locs ht hvm hw9 hB9 hz1 hk1 hS => ?_)
  have hw9 : r = (iI (m_bel (x8 >>> (iI 6 &&& 31)) 51)) := hw9
  subst hw9
  have hP := ro_P hP hk1
  generalize H1 = H at hP hS ⊢
  have s8 := bel_b (x8 >>> (iI 6 &&& 31)) (n := 51) (by omega)
  obtain ⟨u7, hu7⟩ : ∃ z, z = (m_bel (x8 >>> (iI 6 &&& 31)) 51) := ⟨_, rfl⟩
  have hbu7 : 0 ≤ u7 ∧ u7 < 51 := by rw [hu7]; exact bel_b _ (by omega)
  rw [show (m_bel (x8 >>> (iI 6 &&& 31)) 51) = u7 from hu7.symm]
  refine va_calli (va_runV (As := [.int (iI (1 + u1)), .int (iI (50 + u3)), .int (iI (150 + u5)), .int (iI u7)]) (rest := []) ⟨hx, hb, hml, hown, hw⟩ (c_rules l D a cH cB cJ cI ha g vt H.size (1 + u1) (50 + u3) (150 + u5) u7 hWf (by omega) (by omega) (by omega) (by omega)) (cwV 4 hw (gA_V kw_198 kw_199 kw_200 kw_2 kw_201) rfl rfl rfl (by decide +kernel) ⟨Nat.le_of_ble_eq_true rfl, Nat.le_of_ble_eq_true rfl⟩) (pS_v (ci := 4) (q0 := 0) rfl pw_0 hP hK hE) rfl rfl hl.1 rfl (lv_room (Nat.le_of_ble_eq_true rfl)) dL_law_509 ⟨rm_c (by omega), rm_s (by omega)⟩) hS (fun q _ h => rw_A hS hA hB q h) (fun q h => rw_A hS hA hB q h) (fun r u t H1 locs ht hvm hw9 hB9 hz1 hk1 hS => ?_)
  have hw9 : r = (iI (g 9 0 3)) := hw9
  subst hw9
  obtain ⟨v9, hP1⟩ := hB9
  rw [ht] at hP1
  obtain ⟨g10, hg10⟩ : ∃ z, z = (m_setRules g 1 (1 + u1) (50 + u3) (150 + u5) u7) := ⟨_, rfl⟩
  rw [← hg10] at hP1
  have hP : va_P D vwCl (pw a cH cB cJ cI g10 v9) H1 := hP1
  generalize H1 = H at hP hS ⊢
  have hivg10 : Iv hh jj ((tn : Nat) : Int) paid printed called g10 := by rw [hg10]; exact inv_rules hIv (by omega) (by omega) (by omega) (by omega)
  have hWg10 : Wf g10 := hivg10.1
  refine lv_iload hx hb dL_law_512 (lv_at hl 15 rfl) ?_
  refine n_icmp_ne hx hb (by unfold RI; omega) (by unfold RI; omega) (tgt := 528) dL_law_514 (by decide) (fun h11 => absurd h11 (by intro h11; exact h11 rfl)) (fun h11 => ?_)
  refine lv_aload_n hx hb dL_law_517 rfl (lv_at hl 1 rfl) ?_
  refine lv_bipush (v := iI 14) hx hb dL_law_518 (by decide) ?_
  refine va_calli (va_runV (As := [.int (iI 14)]) (rest := []) ⟨hx, hb, hml, hown, hw⟩ (c_many l D a cH cB cJ cI ha g10 v9 H.size 14 hWg10 (by omega)) (cwV 1 hw (gA_V kw_92 kw_93 kw_94 kw_2 kw_95) rfl rfl rfl (by decide +kernel) ⟨Nat.le_of_ble_eq_true rfl, Nat.le_of_ble_eq_true rfl⟩) (pS_v (ci := 4) (q0 := 0) rfl pw_0 hP hK hE) rfl rfl hl.1 rfl (lv_room (Nat.le_of_ble_eq_true rfl)) dL_law_520 ⟨rm_c (by omega), rm_s (by omega)⟩) hS (fun q h1 h2 => ro_A h1 h2) (fun q h => ro_F hS hA q h) (fun r u t H1 locs ht hvm hw9 hB9 hz1 hk1 hS => ?_)
  have hw9 : r = (iI (m_many g10 14)) := hw9
  subst hw9
  have hP := ro_P hP hk1
  generalize H1 = H at hP hS ⊢
  rw [show (m_many g10 14) = (g 9 0 3) from (by rw [hg10]; simp [m_many, m_setRules, m_up])]
  refine lv_iload hx hb dL_law_523 (lv_at hl 15 rfl) ?_
  refine n_icmp_eq hx hb (by unfold RI; omega) (by unfold RI; omega) (tgt := 1603) dL_law_525 (by decide) (fun h12 => ?_) (fun h12 => absurd h12 (by intro h12; exact h12 rfl))
  refine W.widen (k := cells + 1) (n := slots + 5) (by omega) (by omega) ?_
  exact kx g10 v9 paid printed called H locs ls (inv_later hivg10) hP hS (lv_sub hl [0, 1, 2, 3, 4, 5, 6, 7] rfl)

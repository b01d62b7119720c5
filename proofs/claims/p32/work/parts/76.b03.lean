set_option maxHeartbeats 4000000 in
set_option maxRecDepth 100000 in
theorem law_print {p : Program} {l : Launch} {e : Env} {s : State} {m : MethodId} {args : Array Value} {below : List Frame} {meth : Method} {c : Code} {Q : State → Prop} {b : Nat} {D : va_G} {a : Nat → Nat} {cH cB cJ cI : ClassId} (hx : p.tables.exec = Jvm.exec) (hb : c.code = cL_law) (hml : c.maxLocals = 23) (hown : s.vm.findClass RL = some m.cls) (hw : ∀ w ∈ wsL_law0, w.before args s = true) (ha : pj a) (hB : ∀ k, k < 58 → s.heap.size ≤ a k) (hK : va_K D vwCl (pT cH cB cJ cI) s) (hE : ew s) {g : m_St} {vt : Nat → Int32} {hh jj paid printed called : Int} {tn cells slots : Nat} (ht9 : tn < 90) (hcc : cells + 2 ≤ 600074) (hss : slots + 10 ≤ 7301550) (hhh : 2 ≤ hh ∧ hh ≤ 5) (hjj : 3 ≤ jj ∧ jj ≤ 5) (hIv : Iv hh jj ((tn : Nat) : Int) paid printed called g) {x8 : Int32} {bk jd : Int} (hbk : -1 ≤ bk ∧ bk < g 0 0 4) (hjd : 0 ≤ jd ∧ jd < g 0 0 5) {H : Heap} {locs : List Loc} {ls : Array Slot} (hP : va_P D vwCl (pw a cH cB cJ cI g vt) H) (hS : va_S (fun q => s.heap.size ≤ q) s.heap H locs) (hl : lv_has ls 23 [(0, .ref b), (1, .ref (a 0)), (2, .int (iI hh)), (3, .int (iI jj)), (4, .int (iI paid)), (5, .int (iI printed)), (6, .int (iI called)), (7, .int (iI ((tn : Nat) : Int))), (8, .int x8), (9, .int (iI (g 0 0 4))), (10, .int (iI bk)), (11, .int (iI jd)), (12, .int (iI (g 0 0 9))), (13, .int (iI (g 0 0 8))), (14, .int (iI (m_entCount g))), (15, .int (iI (g 9 0 3)))]) (kx : ∀ (g1 : m_St) (v1 : Nat → Int32) (p1 p2 p3 : Int) (H : Heap) (locs : List Loc) (ls : Array Slot), Iv hh jj ((tn : Int) + 1) p1 p2 p3 g1 → va_P D vwCl (pw a cH cB cJ cI g1 v1) H → va_S (fun q => s.heap.size ≤ q) s.heap H locs → lv_has ls 23 [(0, .ref b), (1, .ref (a 0)), (2, .int (iI hh)), (3, .int (iI jj)), (4, .int (iI p1)), (5, .int (iI p2)), (6, .int (iI p3)), (7, .int (iI ((tn : Nat) : Int)))] → W p l e room_1 s m args below meth c H locs (cells + 1) (slots + 5) Q (F0 m 1603 ls [])) : W p l e room_1 s m args below meth c H locs cells slots Q (F0 m 839 ls []) := by
  have hWf : Wf g := hIv.1
  have m3 := Wf.m3 hWf
  have m4 := Wf.m4 hWf
  have m5 := Wf.m5 hWf
  have m8 := Wf.m8 hWf
  have m9 := Wf.m9 hWf
  have m10 := Wf.m10 hWf
  have m11 := Wf.m11 hWf
  have m13 := Wf.m13 hWf
  have m14 := Wf.m14 hWf
  have hS5 := hIv.2.2.2.2.1
  have hsb : ∀ b, m_has (g 0 0 13) b = true → b < g 0 0 4 := fun b hb => (hS5.1 b (hS5.2.1 b hb)).1
  have hN3 : g 0 0 3 = hh := hIv.2.2.2.1.1
  have hN5 : g 0 0 5 = jj := hIv.2.2.2.1.2.1
  have hN8 : 5 * g 0 0 8 + g 0 0 9 ≤ tn := hIv.2.2.2.1.2.2.1
  have hN10 : g 0 0 10 ≤ 6 * tn := hIv.2.2.2.1.2.2.2
  have hA : ∀ q : Nat, s.heap.size ≤ q → (fun q : Nat => s.heap.size ≤ q) q := fun _ h => h
  refine lv_iload hx hb dL_law_839 (lv_at hl 10 rfl) ?_
  refine n_if_ge hx hb (by unfold RI; omega) (tgt := 847) dL_law_841 (by decide) (fun h1 => ?_) (fun h1 => ?_)
  · skip
    refine lv_iconst (v := iI 1) hx hb dL_law_847 (by decide) ?_
    refine lv_iload hx hb dL_law_848 (lv_at hl 8 rfl) ?_
    refine lv_iconst (v := iI 3) hx hb dL_law_850 (by decide) ?_
    refine lv_ishr hx hb dL_law_851 ?_
    refine lv_bipush (v := iI 90) hx hb dL_law_852 (by decide) ?_
    refine va_calli (va_runS (As := [.int (x8 >>> (iI 3 &&& 31)), .int (iI 90)]) (rest := [.int (iI 1)]) ⟨hx, hb, hml, hown, hw⟩ (c_below l D a cH cB cJ cI ha g vt H.size (x8 >>> (iI 3 &&& 31)) 90 (by omega)) (va_cwS 2 hw (gA_S kw_64 kw_65 kw_61 kw_66) rfl rfl rfl (by decide +kernel) ⟨Nat.le_of_ble_eq_true rfl, Nat.le_of_ble_eq_true rfl⟩) (pS_s hP hK hE) rfl rfl hl.1 rfl (lv_room (Nat.le_of_ble_eq_true rfl)) dL_law_854 ⟨rm_c (by omega), rm_s (by omega)⟩) hS (fun q h1 h2 => ro_A h1 h2) (fun q h => ro_F hS hA q h) (fun r u t H1 locs ht hvm hw9 hB9 hz1 hk1 hS => ?_)
    have hw9 : r = (iI (m_bel (x8 >>> (iI 3 &&& 31)) 90)) := hw9
    subst hw9
    have hP := ro_P hP hk1
    generalize H1 = H at hP hS ⊢
    have s3 := bel_b (x8 >>> (iI 3 &&& 31)) (n := 90) (by omega)
    obtain ⟨u2, hu2⟩ : ∃ z, z = (m_bel (x8 >>> (iI 3 &&& 31)) 90) := ⟨_, rfl⟩
    have hbu2 : 0 ≤ u2 ∧ u2 < 90 := by rw [hu2]; exact bel_b _ (by omega)
    rw [show (m_bel (x8 >>> (iI 3 &&& 31)) 90) = u2 from hu2.symm]
    refine n_add hx hb dL_law_857 ?_
    refine lv_istore (lv' := [(16, .int (iI (1 + u2))), (0, .ref b), (1, .ref (a 0)), (2, .int (iI hh)), (3, .int (iI jj)), (4, .int (iI paid)), (5, .int (iI printed)), (6, .int (iI called)), (7, .int (iI ((tn : Nat) : Int))), (8, .int x8), (9, .int (iI (g 0 0 4))), (10, .int (iI bk)), (11, .int (iI jd)), (12, .int (iI (g 0 0 9))), (13, .int (iI (g 0 0 8))), (14, .int (iI (m_entCount g))), (15, .int (iI (g 9 0 3)))]) hx hb dL_law_858 hl (by decide) rfl (fun ls hl => ?_)
    refine lv_aload_n hx hb dL_law_860 rfl (lv_at hl 2 rfl) ?_
    refine lv_iload hx hb dL_law_861 (lv_at hl 11 rfl) ?_
    refine lv_iconst (v := iI 2) hx hb dL_law_863 (by decide) ?_
    refine va_calli (va_runV (As := [.int (iI bk), .int (iI 2)]) (rest := []) ⟨hx, hb, hml, hown, hw⟩ (c_ofBook l D a cH cB cJ cI ha g vt H.size bk 2 hWf (by omega) (by omega)) (cwV 2 hw (gA_V kw_206 kw_207 kw_208 kw_2 kw_209) rfl rfl rfl (by decide +kernel) ⟨Nat.le_of_ble_eq_true rfl, Nat.le_of_ble_eq_true rfl⟩) (pS_v (ci := 4) (q0 := 0) rfl pw_0 hP hK hE) rfl rfl hl.1 rfl (lv_room (Nat.le_of_ble_eq_true rfl)) dL_law_864 ⟨rm_c (by omega), rm_s (by omega)⟩) hS (fun q h1 h2 => ro_A h1 h2) (fun q h => ro_F hS hA q h) (fun r u t H1 locs ht hvm hw9 hB9 hz1 hk1 hS => ?_)
    have hw9 : r = (iI (m_ofBook g bk 2)) := hw9
    subst hw9
    have hP := ro_P hP hk1
    generalize H1 = H at hP hS ⊢
    have hb8 := (hIv.2.2.2.2.2.1.1 bk (by omega) (by omega)).2.2.2
    rw [show (m_ofBook g bk 2) = (g 2 bk 8) from rfl]
    have s4 := Wf.b8 hWf (k := bk) (by omega) (by omega)
    refine lv_istore (lv' := [(17, .int (iI (g 2 bk 8))), (16, .int (iI (1 + u2))), (0, .ref b), (1, .ref (a 0)), (2, .int (iI hh)), (3, .int (iI jj)), (4, .int (iI paid)), (5, .int (iI printed)), (6, .int (iI called)), (7, .int (iI ((tn : Nat) : Int))), (8, .int x8), (9, .int (iI (g 0 0 4))), (10, .int (iI bk)), (11, .int (iI jd)), (12, .int (iI (g 0 0 9))), (13, .int (iI (g 0 0 8))), (14, .int (iI (m_entCount g))), (15, .int (iI (g 9 0 3)))]) hx hb dL_law_867 hl (by decide) rfl (fun ls hl => ?_)
    refine lv_aload_n hx hb dL_law_869 rfl (lv_at hl 3 rfl) ?_
    refine lv_iload hx hb dL_law_870 (lv_at hl 12 rfl) ?_
    refine lv_iload hx hb dL_law_872 (lv_at hl 1 rfl) ?_
    refine va_calli (va_runV (As := [.int (iI bk), .int (iI (1 + u2))]) (rest := []) ⟨hx, hb, hml, hown, hw⟩ (c_print l D a cH cB cJ cI ha g vt H.size bk (1 + u2) hWf (by omega) (by omega)) (cwV 2 hw (gA_V kw_298 kw_299 kw_300 kw_2 kw_301) rfl rfl rfl (by decide +kernel) ⟨Nat.le_of_ble_eq_true rfl, Nat.le_of_ble_eq_true rfl⟩) (pS_v (ci := 4) (q0 := 0) rfl pw_0 hP hK hE) rfl rfl hl.1 rfl (lv_room (Nat.le_of_ble_eq_true rfl)) dL_law_874 ⟨rm_c (by omega), rm_s (by omega)⟩) hS (fun q _ h => rw_A hS hA hB q h) (fun q h => rw_A hS hA hB q h) (fun r u t H1 locs ht hvm hw9 hB9 hz1 hk1 hS => ?_)
    have hw9 : r = (iI (min 9999 (g 2 bk 8 + (1 + u2)))) := hw9
    subst hw9
    obtain ⟨v5, hP1⟩ := hB9
    rw [ht] at hP1
    obtain ⟨g6, hg6⟩ : ∃ z, z = (m_print g bk (1 + u2)) := ⟨_, rfl⟩
    rw [← hg6] at hP1
    have hP : va_P D vwCl (pw a cH cB cJ cI g6 v5) H1 := hP1
    generalize H1 = H at hP hS ⊢
    have hivg6 : Iv hh jj (((tn : Nat) : Int) + 1) paid (printed + (1 + u2)) called g6 := by rw [hg6]; exact (inv_print hIv (by omega) (by omega) (by omega)).1
    have hWg6 : Wf g6 := hivg6.1
    refine lv_iload hx hb dL_law_877 (lv_at hl 0 rfl) ?_
    refine lv_iload hx hb dL_law_879 (lv_at hl 1 rfl) ?_
    refine n_add hx hb dL_law_881 ?_
    refine n_icmp_eq hx hb (by unfold RI; omega) (by unfold RI; omega) (tgt := 887) dL_law_882 (by decide) (fun h7 => ?_) (fun h7 => absurd h7 (by intro h7; omega))
    refine lv_iload hx hb dL_law_887 (lv_at hl 7 rfl) ?_
    refine lv_iload hx hb dL_law_889 (lv_at hl 1 rfl) ?_
    refine n_add hx hb dL_law_891 ?_
    refine lv_istore (lv' := [(5, .int (iI (printed + (1 + u2)))), (17, .int (iI (g 2 bk 8))), (16, .int (iI (1 + u2))), (0, .ref b), (1, .ref (a 0)), (2, .int (iI hh)), (3, .int (iI jj)), (4, .int (iI paid)), (6, .int (iI called)), (7, .int (iI ((tn : Nat) : Int))), (8, .int x8), (9, .int (iI (g 0 0 4))), (10, .int (iI bk)), (11, .int (iI jd)), (12, .int (iI (g 0 0 9))), (13, .int (iI (g 0 0 8))), (14, .int (iI (m_entCount g))), (15, .int (iI (g 9 0 3)))]) hx hb dL_law_892 hl (by decide) rfl (fun ls hl => ?_)
    refine lv_goto (tgt := 1603) hx hb dL_law_894 (by decide) ?_
    refine W.widen (k := cells + 1) (n := slots + 5) (by omega) (by omega) ?_
    exact kx g6 v5 paid (printed + (1 + u2)) called H locs ls hivg6 hP hS (lv_sub hl [3, 4, 5, 6, 7, 0, 8, 9] rfl)
  · skip
    refine lv_goto (tgt := 1603) hx hb dL_law_844 (by decide) ?_
    refine W.widen (k := cells + 1) (n := slots + 5) (by omega) (by omega) ?_
    exact kx g vt paid printed called H locs ls (inv_later hIv) hP hS (lv_sub hl [0, 1, 2, 3, 4, 5, 6, 7] rfl)

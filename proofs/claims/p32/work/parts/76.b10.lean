set_option maxHeartbeats 4000000 in
set_option maxRecDepth 100000 in
theorem law_move {p : Program} {l : Launch} {e : Env} {s : State} {m : MethodId} {args : Array Value} {below : List Frame} {meth : Method} {c : Code} {Q : State → Prop} {b : Nat} {D : va_G} {a : Nat → Nat} {cH cB cJ cI : ClassId} (hx : p.tables.exec = Jvm.exec) (hb : c.code = cL_law) (hml : c.maxLocals = 23) (hown : s.vm.findClass RL = some m.cls) (hw : ∀ w ∈ wsL_law0, w.before args s = true) (ha : pj a) (hB : ∀ k, k < 58 → s.heap.size ≤ a k) (hK : va_K D vwCl (pT cH cB cJ cI) s) (hE : ew s) {g : m_St} {vt : Nat → Int32} {hh jj paid printed called : Int} {tn cells slots : Nat} (ht9 : tn < 90) (hcc : cells + 2 ≤ 600074) (hss : slots + 10 ≤ 7301550) (hhh : 2 ≤ hh ∧ hh ≤ 5) (hjj : 3 ≤ jj ∧ jj ≤ 5) (hIv : Iv hh jj ((tn : Nat) : Int) paid printed called g) {x8 : Int32} {bk jd : Int} (hbk : -1 ≤ bk ∧ bk < g 0 0 4) (hjd : 0 ≤ jd ∧ jd < g 0 0 5) {H : Heap} {locs : List Loc} {ls : Array Slot} (hP : va_P D vwCl (pw a cH cB cJ cI g vt) H) (hS : va_S (fun q => s.heap.size ≤ q) s.heap H locs) (hl : lv_has ls 23 [(0, .ref b), (1, .ref (a 0)), (2, .int (iI hh)), (3, .int (iI jj)), (4, .int (iI paid)), (5, .int (iI printed)), (6, .int (iI called)), (7, .int (iI ((tn : Nat) : Int))), (8, .int x8), (9, .int (iI (g 0 0 4))), (10, .int (iI bk)), (11, .int (iI jd)), (12, .int (iI (g 0 0 9))), (13, .int (iI (g 0 0 8))), (14, .int (iI (m_entCount g))), (15, .int (iI (g 9 0 3)))]) (kx : ∀ (g1 : m_St) (v1 : Nat → Int32) (p1 p2 p3 : Int) (H : Heap) (locs : List Loc) (ls : Array Slot), Iv hh jj ((tn : Int) + 1) p1 p2 p3 g1 → va_P D vwCl (pw a cH cB cJ cI g1 v1) H → va_S (fun q => s.heap.size ≤ q) s.heap H locs → lv_has ls 23 [(0, .ref b), (1, .ref (a 0)), (2, .int (iI hh)), (3, .int (iI jj)), (4, .int (iI p1)), (5, .int (iI p2)), (6, .int (iI p3)), (7, .int (iI ((tn : Nat) : Int)))] → W p l e room_1 s m args below meth c H locs (cells + 1) (slots + 5) Q (F0 m 1603 ls [])) : W p l e room_1 s m args below meth c H locs cells slots Q (F0 m 897 ls []) := by
  have hWf : Wf g := hIv.1
  have m3 := Wf.m3 hWf
  have m4 := Wf.m4 hWf
  have m5 := Wf.m5 hWf
  have m8 := Wf.m8 hWf
  have m9 := Wf.m9 hWf
  have m10 := Wf.m10 hWf
  have m11 := Wf.m11 hWf
  have m13 := Wf.m13 hWf
  have m14 := Wf.m14 hWf
  have hS5 := hIv.2.2.2.2.1
  have hsb : ∀ b, m_has (g 0 0 13) b = true → b < g 0 0 4 := fun b hb => (hS5.1 b (hS5.2.1 b hb)).1
  have hN3 : g 0 0 3 = hh := hIv.2.2.2.1.1
  have hN5 : g 0 0 5 = jj := hIv.2.2.2.1.2.1
  have hN8 : 5 * g 0 0 8 + g 0 0 9 ≤ tn := hIv.2.2.2.1.2.2.1
  have hN10 : g 0 0 10 ≤ 6 * tn := hIv.2.2.2.1.2.2.2
  have hA : ∀ q : Nat, s.heap.size ≤ q → (fun q : Nat => s.heap.size ≤ q) q := fun _ h => h
  have hwb := win_b hWf 0 0
  have hee := ent_b hWf
  have hrb := readIn_b g
  rcases (show g 0 0 9 = 0 ∨ g 0 0 9 = 1 ∨ g 0 0 9 = 2 ∨ g 0 0 9 = 3 ∨ g 0 0 9 = 4 from by omega) with hs9 | hs9 | hs9 | hs9 | hs9
  · skip
    have htm : (g 0 0 9 + 1).tmod 5 = 1 := by rw [hs9]; rfl
    refine lv_iload hx hb dL_law_897 (lv_at hl 12 rfl) ?_
    refine n_if_ne hx hb (by unfold RI; omega) (tgt := 911) dL_law_899 (by decide) (fun h1 => absurd h1 (by intro h1; omega)) (fun h1 => ?_)
    refine lv_iload hx hb dL_law_902 (lv_at hl 14 rfl) ?_
    refine lv_iconst (v := iI 3) hx hb dL_law_904 (by decide) ?_
    refine n_icmp_ge hx hb (by unfold RI; omega) (by unfold RI; omega) (tgt := 927) dL_law_905 (by decide) (fun h2 => ?_) (fun h2 => ?_)
    · skip
      refine lv_iload hx hb dL_law_927 (lv_at hl 12 rfl) ?_
      refine n_if_ne hx hb (by unfold RI; omega) (tgt := 939) dL_law_929 (by decide) (fun h3 => absurd h3 (by intro h3; omega)) (fun h3 => ?_)
      refine lv_aload_n hx hb dL_law_932 rfl (lv_at hl 1 rfl) ?_
      refine va_calli (va_runV (As := []) (rest := []) ⟨hx, hb, hml, hown, hw⟩ (c_read l D a cH cB cJ cI ha g vt H.size  hWf (by omega) (by omega) (by omega) (fun j h0 h1 => (hIv.2.2.2.2.2.2.1.2 j h0 h1).1 hs9) (fun b h0 h1 => by have := (hIv.2.2.2.2.2.1.1 b h0 h1).2.1; omega)) (cwV 0 hw (gA_V kw_316 kw_317 kw_318 kw_2 kw_319) rfl rfl rfl (by decide +kernel) ⟨Nat.le_of_ble_eq_true rfl, Nat.le_of_ble_eq_true rfl⟩) (pS_v (ci := 4) (q0 := 0) rfl pw_0 hP hK hE) rfl rfl hl.1 rfl (lv_room (Nat.le_of_ble_eq_true rfl)) dL_law_933 ⟨rm_c (by omega), rm_s (by omega)⟩) hS (fun q _ h => rw_A hS hA hB q h) (fun q h => rw_A hS hA hB q h) (fun r u t H1 locs ht hvm hw9 hB9 hz1 hk1 hS => ?_)
      have hw9 : r = (iI ((m_readAll g).2)) := hw9
      subst hw9
      obtain ⟨v4, hP1⟩ := hB9
      rw [ht] at hP1
      obtain ⟨g5, hg5⟩ : ∃ z, z = (m_read g) := ⟨_, rfl⟩
      rw [← hg5] at hP1
      have hP : va_P D vwCl (pw a cH cB cJ cI g5 v4) H1 := hP1
      generalize H1 = H at hP hS ⊢
      have hrd := (inv_read hIv hs9).2
      have hivg5 : Iv hh jj (((tn : Nat) : Int) + 1) paid printed called g5 := by rw [hg5]; exact (inv_read hIv hs9).1
      have h9g5 : g5 0 0 9 = 1 := by rw [hg5]; exact mv_read9 g
      have h8g5 : g5 0 0 8 = g 0 0 8 := by rw [hg5]; exact mv_read8 hIv hs9
      have hWg5 : Wf g5 := hivg5.1
      refine lv_goto (tgt := 1003) hx hb dL_law_936 (by decide) ?_
      refine lv_istore (lv' := [(16, .int (iI ((m_readAll g).2))), (0, .ref b), (1, .ref (a 0)), (2, .int (iI hh)), (3, .int (iI jj)), (4, .int (iI paid)), (5, .int (iI printed)), (6, .int (iI called)), (7, .int (iI ((tn : Nat) : Int))), (8, .int x8), (9, .int (iI (g 0 0 4))), (10, .int (iI bk)), (11, .int (iI jd)), (12, .int (iI (g 0 0 9))), (13, .int (iI (g 0 0 8))), (14, .int (iI (m_entCount g))), (15, .int (iI (g 9 0 3)))]) hx hb dL_law_1003 hl (by decide) rfl (fun ls hl => ?_)
      refine lv_aload_n hx hb dL_law_1005 rfl (lv_at hl 2 rfl) ?_
      refine lv_iconst (v := iI 1) hx hb dL_law_1006 (by decide) ?_
      refine va_calli (va_runV (As := [.int (iI 1)]) (rest := []) ⟨hx, hb, hml, hown, hw⟩ (c_many l D a cH cB cJ cI ha g5 v4 H.size 1 hWg5 (by omega)) (cwV 1 hw (gA_V kw_92 kw_93 kw_94 kw_2 kw_95) rfl rfl rfl (by decide +kernel) ⟨Nat.le_of_ble_eq_true rfl, Nat.le_of_ble_eq_true rfl⟩) (pS_v (ci := 4) (q0 := 0) rfl pw_0 hP hK hE) rfl rfl hl.1 rfl (lv_room (Nat.le_of_ble_eq_true rfl)) dL_law_1007 ⟨rm_c (by omega), rm_s (by omega)⟩) hS (fun q h1 h2 => ro_A h1 h2) (fun q h => ro_F hS hA q h) (fun r u t H1 locs ht hvm hw9 hB9 hz1 hk1 hS => ?_)
      have hw9 : r = (iI (m_many g5 1)) := hw9
      subst hw9
      have hP := ro_P hP hk1
      generalize H1 = H at hP hS ⊢
      rw [show (m_many g5 1) = (g5 0 0 9) from rfl]
      have s6 := Wf.m9 hWg5
      refine lv_iload hx hb dL_law_1010 (lv_at hl 13 rfl) ?_
      refine lv_iconst (v := iI 1) hx hb dL_law_1012 (by decide) ?_
      refine n_add hx hb dL_law_1013 ?_
      refine lv_iconst (v := iI 5) hx hb dL_law_1014 (by decide) ?_
      refine n_rem hx hb (by unfold RI; omega) (by unfold RI; omega) (by omega) dL_law_1015 ?_
      refine n_icmp_ne hx hb (by unfold RI; omega) (by unfold RI; omega) (tgt := 1041) dL_law_1016 (by decide) (fun h7 => absurd h7 (by intro h7; omega)) (fun h7 => ?_)
      refine lv_aload_n hx hb dL_law_1019 rfl (lv_at hl 2 rfl) ?_
      refine lv_iconst (v := iI 0) hx hb dL_law_1020 (by decide) ?_
      refine va_calli (va_runV (As := [.int (iI 0)]) (rest := []) ⟨hx, hb, hml, hown, hw⟩ (c_many l D a cH cB cJ cI ha g5 v4 H.size 0 hWg5 (by omega)) (cwV 1 hw (gA_V kw_92 kw_93 kw_94 kw_2 kw_95) rfl rfl rfl (by decide +kernel) ⟨Nat.le_of_ble_eq_true rfl, Nat.le_of_ble_eq_true rfl⟩) (pS_v (ci := 4) (q0 := 0) rfl pw_0 hP hK hE) rfl rfl hl.1 rfl (lv_room (Nat.le_of_ble_eq_true rfl)) dL_law_1021 ⟨rm_c (by omega), rm_s (by omega)⟩) hS (fun q h1 h2 => ro_A h1 h2) (fun q h => ro_F hS hA q h) (fun r u t H1 locs ht hvm hw9 hB9 hz1 hk1 hS => ?_)
      have hw9 : r = (iI (m_many g5 0)) := hw9
      subst hw9
      have hP := ro_P hP hk1
      generalize H1 = H at hP hS ⊢
      rw [show (m_many g5 0) = (g5 0 0 8) from rfl]
      have s8 := Wf.m8 hWg5
      refine lv_iload hx hb dL_law_1024 (lv_at hl 14 rfl) ?_
      refine lv_iload hx hb dL_law_1026 (lv_at hl 13 rfl) ?_
      refine lv_iconst (v := iI 4) hx hb dL_law_1028 (by decide) ?_
      refine n_icmp_ne hx hb (by unfold RI; omega) (by unfold RI; omega) (tgt := 1036) dL_law_1029 (by decide) (fun h9 => ?_) (fun h9 => absurd h9 (by intro h9; omega))
      refine lv_iconst (v := iI 0) hx hb dL_law_1036 (by decide) ?_
      refine n_add hx hb dL_law_1037 ?_
      refine n_icmp_eq hx hb (by unfold RI; omega) (by unfold RI; omega) (tgt := 1043) dL_law_1038 (by decide) (fun h10 => ?_) (fun h10 => absurd h10 (by intro h10; omega))
      refine lv_iload hx hb dL_law_1043 (lv_at hl 13 rfl) ?_
      refine n_if_ne hx hb (by unfold RI; omega) (tgt := 1060) dL_law_1045 (by decide) (fun h11 => absurd h11 (by intro h11; omega)) (fun h11 => ?_)
      refine lv_iload hx hb dL_law_1048 (lv_at hl 0 rfl) ?_
      refine lv_iconst (v := iI 3) hx hb dL_law_1050 (by decide) ?_
      refine lv_iload hx hb dL_law_1051 (lv_at hl 15 rfl) ?_
      refine n_mul hx hb dL_law_1053 ?_
      refine n_icmp_le hx hb (by unfold RI; omega) (by unfold RI; omega) (tgt := 1135) dL_law_1054 (by decide) (fun h12 => ?_) (fun h12 => absurd h12 (by intro h12; omega))
      refine lv_iload hx hb dL_law_1135 (lv_at hl 13 rfl) ?_
      refine lv_iconst (v := iI 4) hx hb dL_law_1137 (by decide) ?_
      refine n_icmp_ne hx hb (by unfold RI; omega) (by unfold RI; omega) (tgt := 1603) dL_law_1138 (by decide) (fun h13 => ?_) (fun h13 => absurd h13 (by intro h13; omega))
      refine W.widen (k := cells + 1) (n := slots + 5) (by omega) (by omega) ?_
      exact kx g5 v4 paid printed called H locs ls hivg5 hP hS (lv_sub hl [1, 2, 3, 4, 5, 6, 7, 8] rfl)
    · skip
      refine lv_goto (tgt := 1603) hx hb dL_law_908 (by decide) ?_
      refine W.widen (k := cells + 1) (n := slots + 5) (by omega) (by omega) ?_
      exact kx g vt paid printed called H locs ls (inv_later hIv) hP hS (lv_sub hl [0, 1, 2, 3, 4, 5, 6, 7] rfl)
  · skip
    have htm : (g 0 0 9 + 1).tmod 5 = 2 := by rw [hs9]; rfl
    refine lv_iload hx hb dL_law_897 (lv_at hl 12 rfl) ?_
    refine n_if_ne hx hb (by unfold RI; omega) (tgt := 911) dL_law_899 (by decide) (fun h14 => ?_) (fun h14 => absurd h14 (by intro h14; omega))
    refine lv_iload hx hb dL_law_911 (lv_at hl 12 rfl) ?_
    refine lv_iconst (v := iI 1) hx hb dL_law_913 (by decide) ?_
    refine n_icmp_ne hx hb (by unfold RI; omega) (by unfold RI; omega) (tgt := 927) dL_law_914 (by decide) (fun h15 => absurd h15 (by intro h15; omega)) (fun h15 => ?_)
    refine lv_aload_n hx hb dL_law_917 rfl (lv_at hl 1 rfl) ?_
    refine va_calli (va_runV (As := []) (rest := []) ⟨hx, hb, hml, hown, hw⟩ (c_readIn l D a cH cB cJ cI ha g vt H.size  hWf) (cwV 0 hw (gA_V kw_302 kw_303 kw_304 kw_2 kw_305) rfl rfl rfl (by decide +kernel) ⟨Nat.le_of_ble_eq_true rfl, Nat.le_of_ble_eq_true rfl⟩) (pS_v (ci := 4) (q0 := 0) rfl pw_0 hP hK hE) rfl rfl hl.1 rfl (lv_room (Nat.le_of_ble_eq_true rfl)) dL_law_918 ⟨rm_c (by omega), rm_s (by omega)⟩) hS (fun q h1 h2 => ro_A h1 h2) (fun q h => ro_F hS hA q h) (fun r u t H1 locs ht hvm hw9 hB9 hz1 hk1 hS => ?_)
    have hw9 : r = (iI (m_readIn g)) := hw9
    subst hw9
    have hP := ro_P hP hk1
    generalize H1 = H at hP hS ⊢
    have s16 := readIn_b g
    refine n_if_le hx hb (by unfold RI; omega) (tgt := 927) dL_law_921 (by decide) (fun h17 => ?_) (fun h17 => ?_)
    · skip
      refine lv_iload hx hb dL_law_927 (lv_at hl 12 rfl) ?_
      refine n_if_ne hx hb (by unfold RI; omega) (tgt := 939) dL_law_929 (by decide) (fun h18 => ?_) (fun h18 => absurd h18 (by intro h18; omega))
      refine lv_iload hx hb dL_law_939 (lv_at hl 12 rfl) ?_
      refine lv_iconst (v := iI 1) hx hb dL_law_941 (by decide) ?_
      refine n_icmp_ne hx hb (by unfold RI; omega) (by unfold RI; omega) (tgt := 963) dL_law_942 (by decide) (fun h19 => absurd h19 (by intro h19; omega)) (fun h19 => ?_)
      refine lv_aload_n hx hb dL_law_945 rfl (lv_at hl 1 rfl) ?_
      refine lv_iconst (v := iI 3) hx hb dL_law_946 (by decide) ?_
      refine lv_iload hx hb dL_law_947 (lv_at hl 8 rfl) ?_
      refine lv_iconst (v := iI 3) hx hb dL_law_949 (by decide) ?_
      refine lv_ishr hx hb dL_law_950 ?_
      refine lv_bipush (v := iI 6) hx hb dL_law_951 (by decide) ?_
      refine va_calli (va_runS (As := [.int (x8 >>> (iI 3 &&& 31)), .int (iI 6)]) (rest := [.int (iI 3), .ref (a 0)]) ⟨hx, hb, hml, hown, hw⟩ (c_below l D a cH cB cJ cI ha g vt H.size (x8 >>> (iI 3 &&& 31)) 6 (by omega)) (va_cwS 2 hw (gA_S kw_64 kw_65 kw_61 kw_66) rfl rfl rfl (by decide +kernel) ⟨Nat.le_of_ble_eq_true rfl, Nat.le_of_ble_eq_true rfl⟩) (pS_s hP hK hE) rfl rfl hl.1 rfl (lv_room (Nat.le_of_ble_eq_true rfl)) dL_law_953 ⟨rm_c (by omega), rm_s (by omega)⟩) hS (fun q h1 h2 => ro_A h1 h2) (fun q h => ro_F hS hA q h) (fun r u t H1 locs ht hvm hw9 hB9 hz1 hk1 hS => ?_)
      have hw9 : r = (iI (m_bel (x8 >>> (iI 3 &&& 31)) 6)) := hw9
      subst hw9
      have hP := ro_P hP hk1
      generalize H1 = H at hP hS ⊢
      have s21 := bel_b (x8 >>> (iI 3 &&& 31)) (n := 6) (by omega)
      obtain ⟨u20, hu20⟩ : ∃ z, z = (m_bel (x8 >>> (iI 3 &&& 31)) 6) := ⟨_, rfl⟩
      have hbu20 : 0 ≤ u20 ∧ u20 < 6 := by rw [hu20]; exact bel_b _ (by omega)
      rw [show (m_bel (x8 >>> (iI 3 &&& 31)) 6) = u20 from hu20.symm]
      refine n_add hx hb dL_law_956 ?_
      refine va_calli (va_runV (As := [.int (iI (3 + u20))]) (rest := []) ⟨hx, hb, hml, hown, hw⟩ (c_longList l D a cH cB cJ cI ha g vt H.size (3 + u20) hWf (by omega) (by omega) (crates_read hIv hs9 (by omega))) (cwV 1 hw (gA_V kw_334 kw_335 kw_336 kw_2 kw_337) rfl rfl rfl (by decide +kernel) ⟨Nat.le_of_ble_eq_true rfl, Nat.le_of_ble_eq_true rfl⟩) (pS_v (ci := 4) (q0 := 0) rfl pw_0 hP hK hE) rfl rfl hl.1 rfl (lv_room (Nat.le_of_ble_eq_true rfl)) dL_law_957 ⟨rm_c (by omega), rm_s (by omega)⟩) hS (fun q _ h => rw_A hS hA hB q h) (fun q h => rw_A hS hA hB q h) (fun r u t H1 locs ht hvm hw9 hB9 hz1 hk1 hS => ?_)
      have hw9 : r = (iI (m_pcn (m_fillLong g (3 + u20) 16 (m_listable g) (g 0 0 11)))) := hw9
      subst hw9
      obtain ⟨v22, hP1⟩ := hB9
      rw [ht] at hP1
      obtain ⟨g23, hg23⟩ : ∃ z, z = (m_longList g (3 + u20)) := ⟨_, rfl⟩
      rw [← hg23] at hP1
      have hP : va_P D vwCl (pw a cH cB cJ cI g23 v22) H1 := hP1
      generalize H1 = H at hP hS ⊢
      rw [show (m_pcn (m_fillLong g (3 + u20) 16 (m_listable g) (g 0 0 11))) = (m_pcn (g23 0 0 11)) from (by rw [hg23]; rfl)]
      have hivg23 : Iv hh jj (((tn : Nat) : Int) + 1) paid printed called g23 := by rw [hg23]; exact inv_longList hIv hs9
      have h9g23 : g23 0 0 9 = 2 := by rw [hg23]; exact rfl
      have h8g23 : g23 0 0 8 = g 0 0 8 := by rw [hg23]; exact rfl
      have hWg23 : Wf g23 := hivg23.1
      refine lv_goto (tgt := 1003) hx hb dL_law_960 (by decide) ?_
      refine lv_istore (lv' := [(16, .int (iI (m_pcn (g23 0 0 11)))), (0, .ref b), (1, .ref (a 0)), (2, .int (iI hh)), (3, .int (iI jj)), (4, .int (iI paid)), (5, .int (iI printed)), (6, .int (iI called)), (7, .int (iI ((tn : Nat) : Int))), (8, .int x8), (9, .int (iI (g 0 0 4))), (10, .int (iI bk)), (11, .int (iI jd)), (12, .int (iI (g 0 0 9))), (13, .int (iI (g 0 0 8))), (14, .int (iI (m_entCount g))), (15, .int (iI (g 9 0 3)))]) hx hb dL_law_1003 hl (by decide) rfl (fun ls hl => ?_)
      refine lv_aload_n hx hb dL_law_1005 rfl (lv_at hl 2 rfl) ?_
      refine lv_iconst (v := iI 1) hx hb dL_law_1006 (by decide) ?_
      refine va_calli (va_runV (As := [.int (iI 1)]) (rest := []) ⟨hx, hb, hml, hown, hw⟩ (c_many l D a cH cB cJ cI ha g23 v22 H.size 1 hWg23 (by omega)) (cwV 1 hw (gA_V kw_92 kw_93 kw_94 kw_2 kw_95) rfl rfl rfl (by decide +kernel) ⟨Nat.le_of_ble_eq_true rfl, Nat.le_of_ble_eq_true rfl⟩) (pS_v (ci := 4) (q0 := 0) rfl pw_0 hP hK hE) rfl rfl hl.1 rfl (lv_room (Nat.le_of_ble_eq_true rfl)) dL_law_1007 ⟨rm_c (by omega), rm_s (by omega)⟩) hS (fun q h1 h2 => ro_A h1 h2) (fun q h => ro_F hS hA q h) (fun r u t H1 locs ht hvm hw9 hB9 hz1 hk1 hS => ?_)
      have hw9 : r = (iI (m_many g23 1)) := hw9
      subst hw9
      have hP := ro_P hP hk1
      generalize H1 = H at hP hS ⊢
      rw [show (m_many g23 1) = (g23 0 0 9) from rfl]
      have s24 := Wf.m9 hWg23
      refine lv_iload hx hb dL_law_1010 (lv_at hl 13 rfl) ?_
      refine lv_iconst (v := iI 1) hx hb dL_law_1012 (by decide) ?_
      refine n_add hx hb dL_law_1013 ?_
      refine lv_iconst (v := iI 5) hx hb dL_law_1014 (by decide) ?_
      refine n_rem hx hb (by unfold RI; omega) (by unfold RI; omega) (by omega) dL_law_1015 ?_
      refine n_icmp_ne hx hb (by unfold RI; omega) (by unfold RI; omega) (tgt := 1041) dL_law_1016 (by decide) (fun h25 => absurd h25 (by intro h25; omega)) (fun h25 => ?_)
      refine lv_aload_n hx hb dL_law_1019 rfl (lv_at hl 2 rfl) ?_
      refine lv_iconst (v := iI 0) hx hb dL_law_1020 (by decide) ?_
      refine va_calli (va_runV (As := [.int (iI 0)]) (rest := []) ⟨hx, hb, hml, hown, hw⟩ (c_many l D a cH cB cJ cI ha g23 v22 H.size 0 hWg23 (by omega)) (cwV 1 hw (gA_V kw_92 kw_93 kw_94 kw_2 kw_95) rfl rfl rfl (by decide +kernel) ⟨Nat.le_of_ble_eq_true rfl, Nat.le_of_ble_eq_true rfl⟩) (pS_v (ci := 4) (q0 := 0) rfl pw_0 hP hK hE) rfl rfl hl.1 rfl (lv_room (Nat.le_of_ble_eq_true rfl)) dL_law_1021 ⟨rm_c (by omega), rm_s (by omega)⟩) hS (fun q h1 h2 => ro_A h1 h2) (fun q h => ro_F hS hA q h) (fun r u t H1 locs ht hvm hw9 hB9 hz1 hk1 hS => ?_)
      have hw9 : r = (iI (m_many g23 0)) := hw9
      subst hw9
      have hP := ro_P hP hk1
      generalize H1 = H at hP hS ⊢
      rw [show (m_many g23 0) = (g23 0 0 8) from rfl]
      have s26 := Wf.m8 hWg23
      refine lv_iload hx hb dL_law_1024 (lv_at hl 14 rfl) ?_
      refine lv_iload hx hb dL_law_1026 (lv_at hl 13 rfl) ?_
      refine lv_iconst (v := iI 4) hx hb dL_law_1028 (by decide) ?_
      refine n_icmp_ne hx hb (by unfold RI; omega) (by unfold RI; omega) (tgt := 1036) dL_law_1029 (by decide) (fun h27 => ?_) (fun h27 => absurd h27 (by intro h27; omega))
      refine lv_iconst (v := iI 0) hx hb dL_law_1036 (by decide) ?_
      refine n_add hx hb dL_law_1037 ?_
      refine n_icmp_eq hx hb (by unfold RI; omega) (by unfold RI; omega) (tgt := 1043) dL_law_1038 (by decide) (fun h28 => ?_) (fun h28 => absurd h28 (by intro h28; omega))
      refine lv_iload hx hb dL_law_1043 (lv_at hl 13 rfl) ?_
      refine n_if_ne hx hb (by unfold RI; omega) (tgt := 1060) dL_law_1045 (by decide) (fun h29 => ?_) (fun h29 => absurd h29 (by intro h29; omega))
      refine lv_iload hx hb dL_law_1060 (lv_at hl 13 rfl) ?_
      refine lv_iconst (v := iI 1) hx hb dL_law_1062 (by decide) ?_
      refine n_icmp_ne hx hb (by unfold RI; omega) (by unfold RI; omega) (tgt := 1083) dL_law_1063 (by decide) (fun h30 => absurd h30 (by intro h30; omega)) (fun h30 => ?_)
      refine lv_iload hx hb dL_law_1066 (lv_at hl 0 rfl) ?_
      refine lv_aload_n hx hb dL_law_1068 rfl (lv_at hl 2 rfl) ?_
      refine lv_bipush (v := iI 7) hx hb dL_law_1069 (by decide) ?_
      refine va_calli (va_runV (As := [.int (iI 7)]) (rest := [.int (iI (m_pcn (g23 0 0 11)))]) ⟨hx, hb, hml, hown, hw⟩ (c_many l D a cH cB cJ cI ha g23 v22 H.size 7 hWg23 (by omega)) (cwV 1 hw (gA_V kw_92 kw_93 kw_94 kw_2 kw_95) rfl rfl rfl (by decide +kernel) ⟨Nat.le_of_ble_eq_true rfl, Nat.le_of_ble_eq_true rfl⟩) (pS_v (ci := 4) (q0 := 0) rfl pw_0 hP hK hE) rfl rfl hl.1 rfl (lv_room (Nat.le_of_ble_eq_true rfl)) dL_law_1071 ⟨rm_c (by omega), rm_s (by omega)⟩) hS (fun q h1 h2 => ro_A h1 h2) (fun q h => ro_F hS hA q h) (fun r u t H1 locs ht hvm hw9 hB9 hz1 hk1 hS => ?_)
      have hw9 : r = (iI (m_many g23 7)) := hw9
      subst hw9
      have hP := ro_P hP hk1
      generalize H1 = H at hP hS ⊢
      rw [show (m_many g23 7) = (g23 0 0 11) from rfl]
      have s31 := Wf.m11 hWg23
      refine va_calli (va_runS (As := [.int (iI (g23 0 0 11))]) (rest := [.int (iI (m_pcn (g23 0 0 11)))]) ⟨hx, hb, hml, hown, hw⟩ (c_bitCount l D a cH cB cJ cI ha g23 v22 H.size (g23 0 0 11) (by omega)) (va_cwS 1 hw (gA_S kw_197 kw_113 kw_114 kw_115) rfl rfl rfl (by decide +kernel) ⟨Nat.le_of_ble_eq_true rfl, Nat.le_of_ble_eq_true rfl⟩) (pS_s hP hK hE) rfl rfl hl.1 rfl (lv_room (Nat.le_of_ble_eq_true rfl)) dL_law_1074 ⟨rm_c (by omega), rm_s (by omega)⟩) hS (fun q h1 h2 => ro_A h1 h2) (fun q h => ro_F hS hA q h) (fun r u t H1 locs ht hvm hw9 hB9 hz1 hk1 hS => ?_)
      have hw9 : r = (iI (m_pcn (g23 0 0 11))) := hw9
      subst hw9
      have hP := ro_P hP hk1
      generalize H1 = H at hP hS ⊢
      have s32 := pcn_b (g23 0 0 11)
      refine n_icmp_eq hx hb (by unfold RI; omega) (by unfold RI; omega) (tgt := 1135) dL_law_1077 (by decide) (fun h33 => ?_) (fun h33 => absurd h33 (by intro h33; exact h33 rfl))
      refine lv_iload hx hb dL_law_1135 (lv_at hl 13 rfl) ?_
      refine lv_iconst (v := iI 4) hx hb dL_law_1137 (by decide) ?_
      refine n_icmp_ne hx hb (by unfold RI; omega) (by unfold RI; omega) (tgt := 1603) dL_law_1138 (by decide) (fun h34 => ?_) (fun h34 => absurd h34 (by intro h34; omega))
      refine W.widen (k := cells + 1) (n := slots + 5) (by omega) (by omega) ?_
      exact kx g23 v22 paid printed called H locs ls hivg23 hP hS (lv_sub hl [1, 2, 3, 4, 5, 6, 7, 8] rfl)
    · skip
      refine lv_goto (tgt := 1603) hx hb dL_law_924 (by decide) ?_
      refine W.widen (k := cells + 1) (n := slots + 5) (by omega) (by omega) ?_
      exact kx g vt paid printed called H locs ls (inv_later hIv) hP hS (lv_sub hl [0, 1, 2, 3, 4, 5, 6, 7] rfl)
  · skip
    have htm : (g 0 0 9 + 1).tmod 5 = 3 := by rw [hs9]; rfl
    refine lv_iload hx hb dL_law_897 (lv_at hl 12 rfl) ?_
    refine n_if_ne hx hb (by unfold RI; omega) (tgt := 911) dL_law_899 (by decide) (fun h35 => ?_) (fun h35 => absurd h35 (by intro h35; omega))
    refine lv_iload hx hb dL_law_911 (lv_at hl 12 rfl) ?_
    refine lv_iconst (v := iI 1) hx hb dL_law_913 (by decide) ?_
    refine n_icmp_ne hx hb (by unfold RI; omega) (by unfold RI; omega) (tgt := 927) dL_law_914 (by decide) (fun h36 => ?_) (fun h36 => absurd h36 (by intro h36; omega))
    refine lv_iload hx hb dL_law_927 (lv_at hl 12 rfl) ?_
    refine n_if_ne hx hb (by unfold RI; omega) (tgt := 939) dL_law_929 (by decide) (fun h37 => ?_) (fun h37 => absurd h37 (by intro h37; omega))
    refine lv_iload hx hb dL_law_939 (lv_at hl 12 rfl) ?_
    refine lv_iconst (v := iI 1) hx hb dL_law_941 (by decide) ?_
    refine n_icmp_ne hx hb (by unfold RI; omega) (by unfold RI; omega) (tgt := 963) dL_law_942 (by decide) (fun h38 => ?_) (fun h38 => absurd h38 (by intro h38; omega))
    refine lv_iload hx hb dL_law_963 (lv_at hl 12 rfl) ?_
    refine lv_iconst (v := iI 2) hx hb dL_law_965 (by decide) ?_
    refine n_icmp_ne hx hb (by unfold RI; omega) (by unfold RI; omega) (tgt := 986) dL_law_966 (by decide) (fun h39 => absurd h39 (by intro h39; omega)) (fun h39 => ?_)
    refine lv_aload_n hx hb dL_law_969 rfl (lv_at hl 1 rfl) ?_
    refine lv_iconst (v := iI 2) hx hb dL_law_970 (by decide) ?_
    refine lv_iload hx hb dL_law_971 (lv_at hl 8 rfl) ?_
    refine lv_iconst (v := iI 3) hx hb dL_law_973 (by decide) ?_
    refine lv_ishr hx hb dL_law_974 ?_
    refine lv_iconst (v := iI 4) hx hb dL_law_975 (by decide) ?_
    refine va_calli (va_runS (As := [.int (x8 >>> (iI 3 &&& 31)), .int (iI 4)]) (rest := [.int (iI 2), .ref (a 0)]) ⟨hx, hb, hml, hown, hw⟩ (c_below l D a cH cB cJ cI ha g vt H.size (x8 >>> (iI 3 &&& 31)) 4 (by omega)) (va_cwS 2 hw (gA_S kw_64 kw_65 kw_61 kw_66) rfl rfl rfl (by decide +kernel) ⟨Nat.le_of_ble_eq_true rfl, Nat.le_of_ble_eq_true rfl⟩) (pS_s hP hK hE) rfl rfl hl.1 rfl (lv_room (Nat.le_of_ble_eq_true rfl)) dL_law_976 ⟨rm_c (by omega), rm_s (by omega)⟩) hS (fun q h1 h2 => ro_A h1 h2) (fun q h => ro_F hS hA q h) (fun r u t H1 locs ht hvm hw9 hB9 hz1 hk1 hS => ?_)
    have hw9 : r = (iI (m_bel (x8 >>> (iI 3 &&& 31)) 4)) := hw9
    subst hw9
    have hP := ro_P hP hk1
    generalize H1 = H at hP hS ⊢
    have s41 := bel_b (x8 >>> (iI 3 &&& 31)) (n := 4) (by omega)
    obtain ⟨u40, hu40⟩ : ∃ z, z = (m_bel (x8 >>> (iI 3 &&& 31)) 4) := ⟨_, rfl⟩
    have hbu40 : 0 ≤ u40 ∧ u40 < 4 := by rw [hu40]; exact bel_b _ (by omega)
    rw [show (m_bel (x8 >>> (iI 3 &&& 31)) 4) = u40 from hu40.symm]
    refine n_add hx hb dL_law_979 ?_
    refine va_calli (va_runV (As := [.int (iI (2 + u40))]) (rest := []) ⟨hx, hb, hml, hown, hw⟩ (c_shortList l D a cH cB cJ cI ha g vt H.size (2 + u40) hWf (by omega) (by omega)) (cwV 1 hw (gA_V kw_373 kw_374 kw_375 kw_2 kw_376) rfl rfl rfl (by decide +kernel) ⟨Nat.le_of_ble_eq_true rfl, Nat.le_of_ble_eq_true rfl⟩) (pS_v (ci := 4) (q0 := 0) rfl pw_0 hP hK hE) rfl rfl hl.1 rfl (lv_room (Nat.le_of_ble_eq_true rfl)) dL_law_980 ⟨rm_c (by omega), rm_s (by omega)⟩) hS (fun q _ h => rw_A hS hA hB q h) (fun q h => rw_A hS hA hB q h) (fun r u t H1 locs ht hvm hw9 hB9 hz1 hk1 hS => ?_)
    have hw9 : r = (iI (m_pcn (m_fillShort g (2 + u40).toNat (g 0 0 13)))) := hw9
    subst hw9
    obtain ⟨v42, hP1⟩ := hB9
    rw [ht] at hP1
    obtain ⟨g43, hg43⟩ : ∃ z, z = (m_shortList g (2 + u40)) := ⟨_, rfl⟩
    rw [← hg43] at hP1
    have hP : va_P D vwCl (pw a cH cB cJ cI g43 v42) H1 := hP1
    generalize H1 = H at hP hS ⊢
    rw [show (m_pcn (m_fillShort g (2 + u40).toNat (g 0 0 13))) = (m_pcn (g43 0 0 13)) from (by rw [hg43]; rfl)]
    have hivg43 : Iv hh jj (((tn : Nat) : Int) + 1) paid printed called g43 := by rw [hg43]; exact inv_shortList hIv hs9 (by omega)
    have h9g43 : g43 0 0 9 = 3 := by rw [hg43]; exact rfl
    have h8g43 : g43 0 0 8 = g 0 0 8 := by rw [hg43]; exact rfl
    have hWg43 : Wf g43 := hivg43.1
    refine lv_goto (tgt := 1003) hx hb dL_law_983 (by decide) ?_
    refine lv_istore (lv' := [(16, .int (iI (m_pcn (g43 0 0 13)))), (0, .ref b), (1, .ref (a 0)), (2, .int (iI hh)), (3, .int (iI jj)), (4, .int (iI paid)), (5, .int (iI printed)), (6, .int (iI called)), (7, .int (iI ((tn : Nat) : Int))), (8, .int x8), (9, .int (iI (g 0 0 4))), (10, .int (iI bk)), (11, .int (iI jd)), (12, .int (iI (g 0 0 9))), (13, .int (iI (g 0 0 8))), (14, .int (iI (m_entCount g))), (15, .int (iI (g 9 0 3)))]) hx hb dL_law_1003 hl (by decide) rfl (fun ls hl => ?_)
    refine lv_aload_n hx hb dL_law_1005 rfl (lv_at hl 2 rfl) ?_
    refine lv_iconst (v := iI 1) hx hb dL_law_1006 (by decide) ?_
    refine va_calli (va_runV (As := [.int (iI 1)]) (rest := []) ⟨hx, hb, hml, hown, hw⟩ (c_many l D a cH cB cJ cI ha g43 v42 H.size 1 hWg43 (by omega)) (cwV 1 hw (gA_V kw_92 kw_93 kw_94 kw_2 kw_95) rfl rfl rfl (by decide +kernel) ⟨Nat.le_of_ble_eq_true rfl, Nat.le_of_ble_eq_true rfl⟩) (pS_v (ci := 4) (q0 := 0) rfl pw_0 hP hK hE) rfl rfl hl.1 rfl (lv_room (Nat.le_of_ble_eq_true rfl)) dL_law_1007 ⟨rm_c (by omega), rm_s (by omega)⟩) hS (fun q h1 h2 => ro_A h1 h2) (fun q h => ro_F hS hA q h) (fun r u t H1 locs ht hvm hw9 hB9 hz1 hk1 hS => ?_)
    have hw9 : r = (iI (m_many g43 1)) := hw9
    subst hw9
    have hP := ro_P hP hk1
    generalize H1 = H at hP hS ⊢
    rw [show (m_many g43 1) = (g43 0 0 9) from rfl]
    have s44 := Wf.m9 hWg43
    refine lv_iload hx hb dL_law_1010 (lv_at hl 13 rfl) ?_
    refine lv_iconst (v := iI 1) hx hb dL_law_1012 (by decide) ?_
    refine n_add hx hb dL_law_1013 ?_
    refine lv_iconst (v := iI 5) hx hb dL_law_1014 (by decide) ?_
    refine n_rem hx hb (by unfold RI; omega) (by unfold RI; omega) (by omega) dL_law_1015 ?_
    refine n_icmp_ne hx hb (by unfold RI; omega) (by unfold RI; omega) (tgt := 1041) dL_law_1016 (by decide) (fun h45 => absurd h45 (by intro h45; omega)) (fun h45 => ?_)
    refine lv_aload_n hx hb dL_law_1019 rfl (lv_at hl 2 rfl) ?_
    refine lv_iconst (v := iI 0) hx hb dL_law_1020 (by decide) ?_
    refine va_calli (va_runV (As := [.int (iI 0)]) (rest := []) ⟨hx, hb, hml, hown, hw⟩ (c_many l D a cH cB cJ cI ha g43 v42 H.size 0 hWg43 (by omega)) (cwV 1 hw (gA_V kw_92 kw_93 kw_94 kw_2 kw_95) rfl rfl rfl (by decide +kernel) ⟨Nat.le_of_ble_eq_true rfl, Nat.le_of_ble_eq_true rfl⟩) (pS_v (ci := 4) (q0 := 0) rfl pw_0 hP hK hE) rfl rfl hl.1 rfl (lv_room (Nat.le_of_ble_eq_true rfl)) dL_law_1021 ⟨rm_c (by omega), rm_s (by omega)⟩) hS (fun q h1 h2 => ro_A h1 h2) (fun q h => ro_F hS hA q h) (fun r u t H1 locs ht hvm hw9 hB9 hz1 hk1 hS => ?_)
    have hw9 : r = (iI (m_many g43 0)) := hw9
    subst hw9
    have hP := ro_P hP hk1
    generalize H1 = H at hP hS ⊢
    rw [show (m_many g43 0) = (g43 0 0 8) from rfl]
    have s46 := Wf.m8 hWg43
    refine lv_iload hx hb dL_law_1024 (lv_at hl 14 rfl) ?_
    refine lv_iload hx hb dL_law_1026 (lv_at hl 13 rfl) ?_
    refine lv_iconst (v := iI 4) hx hb dL_law_1028 (by decide) ?_
    refine n_icmp_ne hx hb (by unfold RI; omega) (by unfold RI; omega) (tgt := 1036) dL_law_1029 (by decide) (fun h47 => ?_) (fun h47 => absurd h47 (by intro h47; omega))
    refine lv_iconst (v := iI 0) hx hb dL_law_1036 (by decide) ?_
    refine n_add hx hb dL_law_1037 ?_
    refine n_icmp_eq hx hb (by unfold RI; omega) (by unfold RI; omega) (tgt := 1043) dL_law_1038 (by decide) (fun h48 => ?_) (fun h48 => absurd h48 (by intro h48; omega))
    refine lv_iload hx hb dL_law_1043 (lv_at hl 13 rfl) ?_
    refine n_if_ne hx hb (by unfold RI; omega) (tgt := 1060) dL_law_1045 (by decide) (fun h49 => ?_) (fun h49 => absurd h49 (by intro h49; omega))
    refine lv_iload hx hb dL_law_1060 (lv_at hl 13 rfl) ?_
    refine lv_iconst (v := iI 1) hx hb dL_law_1062 (by decide) ?_
    refine n_icmp_ne hx hb (by unfold RI; omega) (by unfold RI; omega) (tgt := 1083) dL_law_1063 (by decide) (fun h50 => ?_) (fun h50 => absurd h50 (by intro h50; omega))
    refine lv_iload hx hb dL_law_1083 (lv_at hl 13 rfl) ?_
    refine lv_iconst (v := iI 2) hx hb dL_law_1085 (by decide) ?_
    refine n_icmp_ne hx hb (by unfold RI; omega) (by unfold RI; omega) (tgt := 1106) dL_law_1086 (by decide) (fun h51 => absurd h51 (by intro h51; omega)) (fun h51 => ?_)
    refine lv_iload hx hb dL_law_1089 (lv_at hl 0 rfl) ?_
    refine lv_aload_n hx hb dL_law_1091 rfl (lv_at hl 2 rfl) ?_
    refine lv_bipush (v := iI 8) hx hb dL_law_1092 (by decide) ?_
    refine va_calli (va_runV (As := [.int (iI 8)]) (rest := [.int (iI (m_pcn (g43 0 0 13)))]) ⟨hx, hb, hml, hown, hw⟩ (c_many l D a cH cB cJ cI ha g43 v42 H.size 8 hWg43 (by omega)) (cwV 1 hw (gA_V kw_92 kw_93 kw_94 kw_2 kw_95) rfl rfl rfl (by decide +kernel) ⟨Nat.le_of_ble_eq_true rfl, Nat.le_of_ble_eq_true rfl⟩) (pS_v (ci := 4) (q0 := 0) rfl pw_0 hP hK hE) rfl rfl hl.1 rfl (lv_room (Nat.le_of_ble_eq_true rfl)) dL_law_1094 ⟨rm_c (by omega), rm_s (by omega)⟩) hS (fun q h1 h2 => ro_A h1 h2) (fun q h => ro_F hS hA q h) (fun r u t H1 locs ht hvm hw9 hB9 hz1 hk1 hS => ?_)
    have hw9 : r = (iI (m_many g43 8)) := hw9
    subst hw9
    have hP := ro_P hP hk1
    generalize H1 = H at hP hS ⊢
    rw [show (m_many g43 8) = (g43 0 0 13) from rfl]
    have s52 := Wf.m13 hWg43
    refine va_calli (va_runS (As := [.int (iI (g43 0 0 13))]) (rest := [.int (iI (m_pcn (g43 0 0 13)))]) ⟨hx, hb, hml, hown, hw⟩ (c_bitCount l D a cH cB cJ cI ha g43 v42 H.size (g43 0 0 13) (by omega)) (va_cwS 1 hw (gA_S kw_197 kw_113 kw_114 kw_115) rfl rfl rfl (by decide +kernel) ⟨Nat.le_of_ble_eq_true rfl, Nat.le_of_ble_eq_true rfl⟩) (pS_s hP hK hE) rfl rfl hl.1 rfl (lv_room (Nat.le_of_ble_eq_true rfl)) dL_law_1097 ⟨rm_c (by omega), rm_s (by omega)⟩) hS (fun q h1 h2 => ro_A h1 h2) (fun q h => ro_F hS hA q h) (fun r u t H1 locs ht hvm hw9 hB9 hz1 hk1 hS => ?_)
    have hw9 : r = (iI (m_pcn (g43 0 0 13))) := hw9
    subst hw9
    have hP := ro_P hP hk1
    generalize H1 = H at hP hS ⊢
    have s53 := pcn_b (g43 0 0 13)
    refine n_icmp_eq hx hb (by unfold RI; omega) (by unfold RI; omega) (tgt := 1135) dL_law_1100 (by decide) (fun h54 => ?_) (fun h54 => absurd h54 (by intro h54; exact h54 rfl))
    refine lv_iload hx hb dL_law_1135 (lv_at hl 13 rfl) ?_
    refine lv_iconst (v := iI 4) hx hb dL_law_1137 (by decide) ?_
    refine n_icmp_ne hx hb (by unfold RI; omega) (by unfold RI; omega) (tgt := 1603) dL_law_1138 (by decide) (fun h55 => ?_) (fun h55 => absurd h55 (by intro h55; omega))
    refine W.widen (k := cells + 1) (n := slots + 5) (by omega) (by omega) ?_
    exact kx g43 v42 paid printed called H locs ls hivg43 hP hS (lv_sub hl [1, 2, 3, 4, 5, 6, 7, 8] rfl)
  · skip
    have htm : (g 0 0 9 + 1).tmod 5 = 4 := by rw [hs9]; rfl
    refine lv_iload hx hb dL_law_897 (lv_at hl 12 rfl) ?_
    refine n_if_ne hx hb (by unfold RI; omega) (tgt := 911) dL_law_899 (by decide) (fun h56 => ?_) (fun h56 => absurd h56 (by intro h56; omega))
    refine lv_iload hx hb dL_law_911 (lv_at hl 12 rfl) ?_
    refine lv_iconst (v := iI 1) hx hb dL_law_913 (by decide) ?_
    refine n_icmp_ne hx hb (by unfold RI; omega) (by unfold RI; omega) (tgt := 927) dL_law_914 (by decide) (fun h57 => ?_) (fun h57 => absurd h57 (by intro h57; omega))
    refine lv_iload hx hb dL_law_927 (lv_at hl 12 rfl) ?_
    refine n_if_ne hx hb (by unfold RI; omega) (tgt := 939) dL_law_929 (by decide) (fun h58 => ?_) (fun h58 => absurd h58 (by intro h58; omega))
    refine lv_iload hx hb dL_law_939 (lv_at hl 12 rfl) ?_
    refine lv_iconst (v := iI 1) hx hb dL_law_941 (by decide) ?_
    refine n_icmp_ne hx hb (by unfold RI; omega) (by unfold RI; omega) (tgt := 963) dL_law_942 (by decide) (fun h59 => ?_) (fun h59 => absurd h59 (by intro h59; omega))
    refine lv_iload hx hb dL_law_963 (lv_at hl 12 rfl) ?_
    refine lv_iconst (v := iI 2) hx hb dL_law_965 (by decide) ?_
    refine n_icmp_ne hx hb (by unfold RI; omega) (by unfold RI; omega) (tgt := 986) dL_law_966 (by decide) (fun h60 => ?_) (fun h60 => absurd h60 (by intro h60; omega))
    refine lv_iload hx hb dL_law_986 (lv_at hl 12 rfl) ?_
    refine lv_iconst (v := iI 3) hx hb dL_law_988 (by decide) ?_
    refine n_icmp_ne hx hb (by unfold RI; omega) (by unfold RI; omega) (tgt := 999) dL_law_989 (by decide) (fun h61 => absurd h61 (by intro h61; omega)) (fun h61 => ?_)
    refine lv_aload_n hx hb dL_law_992 rfl (lv_at hl 1 rfl) ?_
    refine va_calli (va_runV (As := []) (rest := []) ⟨hx, hb, hml, hown, hw⟩ (c_end l D a cH cB cJ cI ha g vt H.size  hWf (by omega) (hsb)) (cwV 0 hw (gA_V kw_381 kw_382 kw_383 kw_2 kw_384) rfl rfl rfl (by decide +kernel) ⟨Nat.le_of_ble_eq_true rfl, Nat.le_of_ble_eq_true rfl⟩) (pS_v (ci := 4) (q0 := 0) rfl pw_0 hP hK hE) rfl rfl hl.1 rfl (lv_room (Nat.le_of_ble_eq_true rfl)) dL_law_993 ⟨rm_c (by omega), rm_s (by omega)⟩) hS (fun q _ h => rw_A hS hA hB q h) (fun q h => rw_A hS hA hB q h) (fun r u t H1 locs ht hvm hw9 hB9 hz1 hk1 hS => ?_)
    have hw9 : r = (iI (m_winner g 0 0)) := hw9
    subst hw9
    obtain ⟨v62, hP1⟩ := hB9
    rw [ht] at hP1
    obtain ⟨g63, hg63⟩ : ∃ z, z = (m_endIt g) := ⟨_, rfl⟩
    rw [← hg63] at hP1
    have hP : va_P D vwCl (pw a cH cB cJ cI g63 v62) H1 := hP1
    generalize H1 = H at hP hS ⊢
    have hivg63 : Iv hh jj (((tn : Nat) : Int) + 1) paid printed called g63 := by rw [hg63]; exact inv_end hIv hs9
    have h9g63 : g63 0 0 9 = 4 := by rw [hg63]; exact mv_end9 g
    have h8g63 : g63 0 0 8 = g 0 0 8 := by rw [hg63]; exact mv_end8 g
    have hsb1 : ∀ b, m_has (g63 0 0 13) b = true → b < g63 0 0 4 := fun b hb => (hivg63.2.2.2.2.1.1 b (hivg63.2.2.2.2.1.2.1 b hb)).1
    have h14g63 : g63 0 0 14 = m_winner g 0 0 := by rw [hg63]; exact mv_end14 g
    have hWg63 : Wf g63 := hivg63.1
    refine lv_goto (tgt := 1003) hx hb dL_law_996 (by decide) ?_
    refine lv_istore (lv' := [(16, .int (iI (m_winner g 0 0))), (0, .ref b), (1, .ref (a 0)), (2, .int (iI hh)), (3, .int (iI jj)), (4, .int (iI paid)), (5, .int (iI printed)), (6, .int (iI called)), (7, .int (iI ((tn : Nat) : Int))), (8, .int x8), (9, .int (iI (g 0 0 4))), (10, .int (iI bk)), (11, .int (iI jd)), (12, .int (iI (g 0 0 9))), (13, .int (iI (g 0 0 8))), (14, .int (iI (m_entCount g))), (15, .int (iI (g 9 0 3)))]) hx hb dL_law_1003 hl (by decide) rfl (fun ls hl => ?_)
    refine lv_aload_n hx hb dL_law_1005 rfl (lv_at hl 2 rfl) ?_
    refine lv_iconst (v := iI 1) hx hb dL_law_1006 (by decide) ?_
    refine va_calli (va_runV (As := [.int (iI 1)]) (rest := []) ⟨hx, hb, hml, hown, hw⟩ (c_many l D a cH cB cJ cI ha g63 v62 H.size 1 hWg63 (by omega)) (cwV 1 hw (gA_V kw_92 kw_93 kw_94 kw_2 kw_95) rfl rfl rfl (by decide +kernel) ⟨Nat.le_of_ble_eq_true rfl, Nat.le_of_ble_eq_true rfl⟩) (pS_v (ci := 4) (q0 := 0) rfl pw_0 hP hK hE) rfl rfl hl.1 rfl (lv_room (Nat.le_of_ble_eq_true rfl)) dL_law_1007 ⟨rm_c (by omega), rm_s (by omega)⟩) hS (fun q h1 h2 => ro_A h1 h2) (fun q h => ro_F hS hA q h) (fun r u t H1 locs ht hvm hw9 hB9 hz1 hk1 hS => ?_)
    have hw9 : r = (iI (m_many g63 1)) := hw9
    subst hw9
    have hP := ro_P hP hk1
    generalize H1 = H at hP hS ⊢
    rw [show (m_many g63 1) = (g63 0 0 9) from rfl]
    have s64 := Wf.m9 hWg63
    refine lv_iload hx hb dL_law_1010 (lv_at hl 13 rfl) ?_
    refine lv_iconst (v := iI 1) hx hb dL_law_1012 (by decide) ?_
    refine n_add hx hb dL_law_1013 ?_
    refine lv_iconst (v := iI 5) hx hb dL_law_1014 (by decide) ?_
    refine n_rem hx hb (by unfold RI; omega) (by unfold RI; omega) (by omega) dL_law_1015 ?_
    refine n_icmp_ne hx hb (by unfold RI; omega) (by unfold RI; omega) (tgt := 1041) dL_law_1016 (by decide) (fun h65 => absurd h65 (by intro h65; omega)) (fun h65 => ?_)
    refine lv_aload_n hx hb dL_law_1019 rfl (lv_at hl 2 rfl) ?_
    refine lv_iconst (v := iI 0) hx hb dL_law_1020 (by decide) ?_
    refine va_calli (va_runV (As := [.int (iI 0)]) (rest := []) ⟨hx, hb, hml, hown, hw⟩ (c_many l D a cH cB cJ cI ha g63 v62 H.size 0 hWg63 (by omega)) (cwV 1 hw (gA_V kw_92 kw_93 kw_94 kw_2 kw_95) rfl rfl rfl (by decide +kernel) ⟨Nat.le_of_ble_eq_true rfl, Nat.le_of_ble_eq_true rfl⟩) (pS_v (ci := 4) (q0 := 0) rfl pw_0 hP hK hE) rfl rfl hl.1 rfl (lv_room (Nat.le_of_ble_eq_true rfl)) dL_law_1021 ⟨rm_c (by omega), rm_s (by omega)⟩) hS (fun q h1 h2 => ro_A h1 h2) (fun q h => ro_F hS hA q h) (fun r u t H1 locs ht hvm hw9 hB9 hz1 hk1 hS => ?_)
    have hw9 : r = (iI (m_many g63 0)) := hw9
    subst hw9
    have hP := ro_P hP hk1
    generalize H1 = H at hP hS ⊢
    rw [show (m_many g63 0) = (g63 0 0 8) from rfl]
    have s66 := Wf.m8 hWg63
    refine lv_iload hx hb dL_law_1024 (lv_at hl 14 rfl) ?_
    refine lv_iload hx hb dL_law_1026 (lv_at hl 13 rfl) ?_
    refine lv_iconst (v := iI 4) hx hb dL_law_1028 (by decide) ?_
    refine n_icmp_ne hx hb (by unfold RI; omega) (by unfold RI; omega) (tgt := 1036) dL_law_1029 (by decide) (fun h67 => ?_) (fun h67 => absurd h67 (by intro h67; omega))
    refine lv_iconst (v := iI 0) hx hb dL_law_1036 (by decide) ?_
    refine n_add hx hb dL_law_1037 ?_
    refine n_icmp_eq hx hb (by unfold RI; omega) (by unfold RI; omega) (tgt := 1043) dL_law_1038 (by decide) (fun h68 => ?_) (fun h68 => absurd h68 (by intro h68; omega))
    refine lv_iload hx hb dL_law_1043 (lv_at hl 13 rfl) ?_
    refine n_if_ne hx hb (by unfold RI; omega) (tgt := 1060) dL_law_1045 (by decide) (fun h69 => ?_) (fun h69 => absurd h69 (by intro h69; omega))
    refine lv_iload hx hb dL_law_1060 (lv_at hl 13 rfl) ?_
    refine lv_iconst (v := iI 1) hx hb dL_law_1062 (by decide) ?_
    refine n_icmp_ne hx hb (by unfold RI; omega) (by unfold RI; omega) (tgt := 1083) dL_law_1063 (by decide) (fun h70 => ?_) (fun h70 => absurd h70 (by intro h70; omega))
    refine lv_iload hx hb dL_law_1083 (lv_at hl 13 rfl) ?_
    refine lv_iconst (v := iI 2) hx hb dL_law_1085 (by decide) ?_
    refine n_icmp_ne hx hb (by unfold RI; omega) (by unfold RI; omega) (tgt := 1106) dL_law_1086 (by decide) (fun h71 => ?_) (fun h71 => absurd h71 (by intro h71; omega))
    refine lv_iload hx hb dL_law_1106 (lv_at hl 13 rfl) ?_
    refine lv_iconst (v := iI 3) hx hb dL_law_1108 (by decide) ?_
    refine n_icmp_ne hx hb (by unfold RI; omega) (by unfold RI; omega) (tgt := 1135) dL_law_1109 (by decide) (fun h72 => absurd h72 (by intro h72; omega)) (fun h72 => ?_)
    refine lv_iload hx hb dL_law_1112 (lv_at hl 0 rfl) ?_
    refine lv_aload_n hx hb dL_law_1114 rfl (lv_at hl 2 rfl) ?_
    refine lv_bipush (v := iI 9) hx hb dL_law_1115 (by decide) ?_
    refine va_calli (va_runV (As := [.int (iI 9)]) (rest := [.int (iI (m_winner g 0 0))]) ⟨hx, hb, hml, hown, hw⟩ (c_many l D a cH cB cJ cI ha g63 v62 H.size 9 hWg63 (by omega)) (cwV 1 hw (gA_V kw_92 kw_93 kw_94 kw_2 kw_95) rfl rfl rfl (by decide +kernel) ⟨Nat.le_of_ble_eq_true rfl, Nat.le_of_ble_eq_true rfl⟩) (pS_v (ci := 4) (q0 := 0) rfl pw_0 hP hK hE) rfl rfl hl.1 rfl (lv_room (Nat.le_of_ble_eq_true rfl)) dL_law_1117 ⟨rm_c (by omega), rm_s (by omega)⟩) hS (fun q h1 h2 => ro_A h1 h2) (fun q h => ro_F hS hA q h) (fun r u t H1 locs ht hvm hw9 hB9 hz1 hk1 hS => ?_)
    have hw9 : r = (iI (m_many g63 9)) := hw9
    subst hw9
    have hP := ro_P hP hk1
    generalize H1 = H at hP hS ⊢
    rw [show (m_many g63 9) = (g63 0 0 14) from rfl]
    have s73 := Wf.m14 hWg63
    refine n_icmp_ne hx hb (by unfold RI; omega) (by unfold RI; omega) (tgt := 1133) dL_law_1120 (by decide) (fun h74 => absurd h74 (by intro h74; omega)) (fun h74 => ?_)
    refine lv_iload hx hb dL_law_1123 (lv_at hl 0 rfl) ?_
    refine lv_aload_n hx hb dL_law_1125 rfl (lv_at hl 2 rfl) ?_
    refine lv_iconst (v := iI 0) hx hb dL_law_1126 (by decide) ?_
    refine va_calli (va_runV (As := [.int (iI 0)]) (rest := [.int (iI (m_winner g 0 0))]) ⟨hx, hb, hml, hown, hw⟩ (c_wins l D a cH cB cJ cI ha g63 v62 H.size 0 hWg63 (by omega) (hsb1)) (cwV 1 hw (gA_V kw_425 kw_426 kw_427 kw_2 kw_428) rfl rfl rfl (by decide +kernel) ⟨Nat.le_of_ble_eq_true rfl, Nat.le_of_ble_eq_true rfl⟩) (pS_v (ci := 4) (q0 := 0) rfl pw_0 hP hK hE) rfl rfl hl.1 rfl (lv_room (Nat.le_of_ble_eq_true rfl)) dL_law_1127 ⟨rm_c (by omega), rm_s (by omega)⟩) hS (fun q _ h => rw_A hS hA hB q h) (fun q h => rw_A hS hA hB q h) (fun r u t H1 locs ht hvm hw9 hB9 hz1 hk1 hS => ?_)
    have hw9 : r = (iI (m_winner g63 0 0)) := hw9
    subst hw9
    obtain ⟨v75, hP1⟩ := hB9
    rw [ht] at hP1
    have hP : va_P D vwCl (pw a cH cB cJ cI g63 v75) H1 := hP1
    generalize H1 = H at hP hS ⊢
    have s76 := win_b hWg63 0 0
    rw [show (m_winner g63 0 0) = (m_winner g 0 0) from (by rw [hg63]; exact mv_endw g)]
    refine n_icmp_eq hx hb (by unfold RI; omega) (by unfold RI; omega) (tgt := 1135) dL_law_1130 (by decide) (fun h77 => ?_) (fun h77 => absurd h77 (by intro h77; exact h77 rfl))
    refine lv_iload hx hb dL_law_1135 (lv_at hl 13 rfl) ?_
    refine lv_iconst (v := iI 4) hx hb dL_law_1137 (by decide) ?_
    refine n_icmp_ne hx hb (by unfold RI; omega) (by unfold RI; omega) (tgt := 1603) dL_law_1138 (by decide) (fun h78 => ?_) (fun h78 => absurd h78 (by intro h78; omega))
    refine W.widen (k := cells + 1) (n := slots + 5) (by omega) (by omega) ?_
    exact kx g63 v75 paid printed called H locs ls hivg63 hP hS (lv_sub hl [1, 2, 3, 4, 5, 6, 7, 8] rfl)
  · skip
    have htm : (g 0 0 9 + 1).tmod 5 = 0 := by rw [hs9]; rfl
    refine lv_iload hx hb dL_law_897 (lv_at hl 12 rfl) ?_
    refine n_if_ne hx hb (by unfold RI; omega) (tgt := 911) dL_law_899 (by decide) (fun h79 => ?_) (fun h79 => absurd h79 (by intro h79; omega))
    refine lv_iload hx hb dL_law_911 (lv_at hl 12 rfl) ?_
    refine lv_iconst (v := iI 1) hx hb dL_law_913 (by decide) ?_
    refine n_icmp_ne hx hb (by unfold RI; omega) (by unfold RI; omega) (tgt := 927) dL_law_914 (by decide) (fun h80 => ?_) (fun h80 => absurd h80 (by intro h80; omega))
    refine lv_iload hx hb dL_law_927 (lv_at hl 12 rfl) ?_
    refine n_if_ne hx hb (by unfold RI; omega) (tgt := 939) dL_law_929 (by decide) (fun h81 => ?_) (fun h81 => absurd h81 (by intro h81; omega))
    refine lv_iload hx hb dL_law_939 (lv_at hl 12 rfl) ?_
    refine lv_iconst (v := iI 1) hx hb dL_law_941 (by decide) ?_
    refine n_icmp_ne hx hb (by unfold RI; omega) (by unfold RI; omega) (tgt := 963) dL_law_942 (by decide) (fun h82 => ?_) (fun h82 => absurd h82 (by intro h82; omega))
    refine lv_iload hx hb dL_law_963 (lv_at hl 12 rfl) ?_
    refine lv_iconst (v := iI 2) hx hb dL_law_965 (by decide) ?_
    refine n_icmp_ne hx hb (by unfold RI; omega) (by unfold RI; omega) (tgt := 986) dL_law_966 (by decide) (fun h83 => ?_) (fun h83 => absurd h83 (by intro h83; omega))
    refine lv_iload hx hb dL_law_986 (lv_at hl 12 rfl) ?_
    refine lv_iconst (v := iI 3) hx hb dL_law_988 (by decide) ?_
    refine n_icmp_ne hx hb (by unfold RI; omega) (by unfold RI; omega) (tgt := 999) dL_law_989 (by decide) (fun h84 => ?_) (fun h84 => absurd h84 (by intro h84; omega))
    refine lv_aload_n hx hb dL_law_999 rfl (lv_at hl 1 rfl) ?_
    refine va_calli (va_runV (As := []) (rest := []) ⟨hx, hb, hml, hown, hw⟩ (c_next l D a cH cB cJ cI ha g vt H.size  hWf (by omega) (by omega)) (cwV 0 hw (gA_V kw_413 kw_414 kw_415 kw_2 kw_416) rfl rfl rfl (by decide +kernel) ⟨Nat.le_of_ble_eq_true rfl, Nat.le_of_ble_eq_true rfl⟩) (pS_v (ci := 4) (q0 := 0) rfl pw_0 hP hK hE) rfl rfl hl.1 rfl (lv_room (Nat.le_of_ble_eq_true rfl)) dL_law_1000 ⟨rm_c (by omega), rm_s (by omega)⟩) hS (fun q _ h => rw_A hS hA hB q h) (fun q h => rw_A hS hA hB q h) (fun r u t H1 locs ht hvm hw9 hB9 hz1 hk1 hS => ?_)
    have hw9 : r = (iI (g 0 0 8 + 1)) := hw9
    subst hw9
    obtain ⟨v85, hP1⟩ := hB9
    rw [ht] at hP1
    obtain ⟨g86, hg86⟩ : ∃ z, z = (m_next g) := ⟨_, rfl⟩
    rw [← hg86] at hP1
    have hP : va_P D vwCl (pw a cH cB cJ cI g86 v85) H1 := hP1
    generalize H1 = H at hP hS ⊢
    have hivg86 : Iv hh jj (((tn : Nat) : Int) + 1) paid printed 0 g86 := by rw [hg86]; exact inv_next hIv (by omega) hs9 (by omega)
    have h9g86 : g86 0 0 9 = 0 := by rw [hg86]; exact mv_next9 g
    have h8g86 : g86 0 0 8 = g 0 0 8 + 1 := by rw [hg86]; exact mv_next8 g
    have hWg86 : Wf g86 := hivg86.1
    refine lv_istore (lv' := [(16, .int (iI (g 0 0 8 + 1))), (0, .ref b), (1, .ref (a 0)), (2, .int (iI hh)), (3, .int (iI jj)), (4, .int (iI paid)), (5, .int (iI printed)), (6, .int (iI called)), (7, .int (iI ((tn : Nat) : Int))), (8, .int x8), (9, .int (iI (g 0 0 4))), (10, .int (iI bk)), (11, .int (iI jd)), (12, .int (iI (g 0 0 9))), (13, .int (iI (g 0 0 8))), (14, .int (iI (m_entCount g))), (15, .int (iI (g 9 0 3)))]) hx hb dL_law_1003 hl (by decide) rfl (fun ls hl => ?_)
    refine lv_aload_n hx hb dL_law_1005 rfl (lv_at hl 2 rfl) ?_
    refine lv_iconst (v := iI 1) hx hb dL_law_1006 (by decide) ?_
    refine va_calli (va_runV (As := [.int (iI 1)]) (rest := []) ⟨hx, hb, hml, hown, hw⟩ (c_many l D a cH cB cJ cI ha g86 v85 H.size 1 hWg86 (by omega)) (cwV 1 hw (gA_V kw_92 kw_93 kw_94 kw_2 kw_95) rfl rfl rfl (by decide +kernel) ⟨Nat.le_of_ble_eq_true rfl, Nat.le_of_ble_eq_true rfl⟩) (pS_v (ci := 4) (q0 := 0) rfl pw_0 hP hK hE) rfl rfl hl.1 rfl (lv_room (Nat.le_of_ble_eq_true rfl)) dL_law_1007 ⟨rm_c (by omega), rm_s (by omega)⟩) hS (fun q h1 h2 => ro_A h1 h2) (fun q h => ro_F hS hA q h) (fun r u t H1 locs ht hvm hw9 hB9 hz1 hk1 hS => ?_)
    have hw9 : r = (iI (m_many g86 1)) := hw9
    subst hw9
    have hP := ro_P hP hk1
    generalize H1 = H at hP hS ⊢
    rw [show (m_many g86 1) = (g86 0 0 9) from rfl]
    have s87 := Wf.m9 hWg86
    refine lv_iload hx hb dL_law_1010 (lv_at hl 13 rfl) ?_
    refine lv_iconst (v := iI 1) hx hb dL_law_1012 (by decide) ?_
    refine n_add hx hb dL_law_1013 ?_
    refine lv_iconst (v := iI 5) hx hb dL_law_1014 (by decide) ?_
    refine n_rem hx hb (by unfold RI; omega) (by unfold RI; omega) (by omega) dL_law_1015 ?_
    refine n_icmp_ne hx hb (by unfold RI; omega) (by unfold RI; omega) (tgt := 1041) dL_law_1016 (by decide) (fun h88 => absurd h88 (by intro h88; omega)) (fun h88 => ?_)
    refine lv_aload_n hx hb dL_law_1019 rfl (lv_at hl 2 rfl) ?_
    refine lv_iconst (v := iI 0) hx hb dL_law_1020 (by decide) ?_
    refine va_calli (va_runV (As := [.int (iI 0)]) (rest := []) ⟨hx, hb, hml, hown, hw⟩ (c_many l D a cH cB cJ cI ha g86 v85 H.size 0 hWg86 (by omega)) (cwV 1 hw (gA_V kw_92 kw_93 kw_94 kw_2 kw_95) rfl rfl rfl (by decide +kernel) ⟨Nat.le_of_ble_eq_true rfl, Nat.le_of_ble_eq_true rfl⟩) (pS_v (ci := 4) (q0 := 0) rfl pw_0 hP hK hE) rfl rfl hl.1 rfl (lv_room (Nat.le_of_ble_eq_true rfl)) dL_law_1021 ⟨rm_c (by omega), rm_s (by omega)⟩) hS (fun q h1 h2 => ro_A h1 h2) (fun q h => ro_F hS hA q h) (fun r u t H1 locs ht hvm hw9 hB9 hz1 hk1 hS => ?_)
    have hw9 : r = (iI (m_many g86 0)) := hw9
    subst hw9
    have hP := ro_P hP hk1
    generalize H1 = H at hP hS ⊢
    rw [show (m_many g86 0) = (g86 0 0 8) from rfl]
    have s89 := Wf.m8 hWg86
    refine lv_iload hx hb dL_law_1024 (lv_at hl 14 rfl) ?_
    refine lv_iload hx hb dL_law_1026 (lv_at hl 13 rfl) ?_
    refine lv_iconst (v := iI 4) hx hb dL_law_1028 (by decide) ?_
    refine n_icmp_ne hx hb (by unfold RI; omega) (by unfold RI; omega) (tgt := 1036) dL_law_1029 (by decide) (fun h90 => absurd h90 (by intro h90; omega)) (fun h90 => ?_)
    refine lv_iconst (v := iI 1) hx hb dL_law_1032 (by decide) ?_
    refine lv_goto (tgt := 1037) hx hb dL_law_1033 (by decide) ?_
    refine n_add hx hb dL_law_1037 ?_
    refine n_icmp_eq hx hb (by unfold RI; omega) (by unfold RI; omega) (tgt := 1043) dL_law_1038 (by decide) (fun h91 => ?_) (fun h91 => absurd h91 (by intro h91; omega))
    refine lv_iload hx hb dL_law_1043 (lv_at hl 13 rfl) ?_
    refine n_if_ne hx hb (by unfold RI; omega) (tgt := 1060) dL_law_1045 (by decide) (fun h92 => ?_) (fun h92 => absurd h92 (by intro h92; omega))
    refine lv_iload hx hb dL_law_1060 (lv_at hl 13 rfl) ?_
    refine lv_iconst (v := iI 1) hx hb dL_law_1062 (by decide) ?_
    refine n_icmp_ne hx hb (by unfold RI; omega) (by unfold RI; omega) (tgt := 1083) dL_law_1063 (by decide) (fun h93 => ?_) (fun h93 => absurd h93 (by intro h93; omega))
    refine lv_iload hx hb dL_law_1083 (lv_at hl 13 rfl) ?_
    refine lv_iconst (v := iI 2) hx hb dL_law_1085 (by decide) ?_
    refine n_icmp_ne hx hb (by unfold RI; omega) (by unfold RI; omega) (tgt := 1106) dL_law_1086 (by decide) (fun h94 => ?_) (fun h94 => absurd h94 (by intro h94; omega))
    refine lv_iload hx hb dL_law_1106 (lv_at hl 13 rfl) ?_
    refine lv_iconst (v := iI 3) hx hb dL_law_1108 (by decide) ?_
    refine n_icmp_ne hx hb (by unfold RI; omega) (by unfold RI; omega) (tgt := 1135) dL_law_1109 (by decide) (fun h95 => ?_) (fun h95 => absurd h95 (by intro h95; omega))
    refine lv_iload hx hb dL_law_1135 (lv_at hl 13 rfl) ?_
    refine lv_iconst (v := iI 4) hx hb dL_law_1137 (by decide) ?_
    refine n_icmp_ne hx hb (by unfold RI; omega) (by unfold RI; omega) (tgt := 1603) dL_law_1138 (by decide) (fun h96 => absurd h96 (by intro h96; omega)) (fun h96 => ?_)
    refine lv_iconst (v := iI 0) hx hb dL_law_1141 (by decide) ?_
    refine lv_istore (lv' := [(6, .int (iI 0)), (16, .int (iI (g 0 0 8 + 1))), (0, .ref b), (1, .ref (a 0)), (2, .int (iI hh)), (3, .int (iI jj)), (4, .int (iI paid)), (5, .int (iI printed)), (7, .int (iI ((tn : Nat) : Int))), (8, .int x8), (9, .int (iI (g 0 0 4))), (10, .int (iI bk)), (11, .int (iI jd)), (12, .int (iI (g 0 0 9))), (13, .int (iI (g 0 0 8))), (14, .int (iI (m_entCount g))), (15, .int (iI (g 9 0 3)))]) hx hb dL_law_1142 hl (by decide) rfl (fun ls hl => ?_)
    refine lv_goto (tgt := 1603) hx hb dL_law_1144 (by decide) ?_
    refine W.widen (k := cells + 1) (n := slots + 5) (by omega) (by omega) ?_
    exact kx g86 v85 paid printed 0 H locs ls hivg86 hP hS (lv_sub hl [2, 3, 4, 5, 6, 7, 0, 8] rfl)

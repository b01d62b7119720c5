set_option maxHeartbeats 4000000 in
set_option maxRecDepth 100000 in
theorem law_callIn {p : Program} {l : Launch} {e : Env} {s : State} {m : MethodId} {args : Array Value} {below : List Frame} {meth : Method} {c : Code} {Q : State → Prop} {b : Nat} {D : va_G} {a : Nat → Nat} {cH cB cJ cI : ClassId} (hx : p.tables.exec = Jvm.exec) (hb : c.code = cL_law) (hml : c.maxLocals = 23) (hown : s.vm.findClass RL = some m.cls) (hw : ∀ w ∈ wsL_law0, w.before args s = true) (ha : pj a) (hB : ∀ k, k < 58 → s.heap.size ≤ a k) (hK : va_K D vwCl (pT cH cB cJ cI) s) (hE : ew s) {g : m_St} {vt : Nat → Int32} {hh jj paid printed called : Int} {tn cells slots : Nat} (ht9 : tn < 90) (hcc : cells + 2 ≤ 600074) (hss : slots + 10 ≤ 7301550) (hhh : 2 ≤ hh ∧ hh ≤ 5) (hjj : 3 ≤ jj ∧ jj ≤ 5) (hIv : Iv hh jj ((tn : Nat) : Int) paid printed called g) {x8 : Int32} {bk jd : Int} (hbk : -1 ≤ bk ∧ bk < g 0 0 4) (hjd : 0 ≤ jd ∧ jd < g 0 0 5) {H : Heap} {locs : List Loc} {ls : Array Slot} (hP : va_P D vwCl (pw a cH cB cJ cI g vt) H) (hS : va_S (fun q => s.heap.size ≤ q) s.heap H locs) (hl : lv_has ls 23 [(0, .ref b), (1, .ref (a 0)), (2, .int (iI hh)), (3, .int (iI jj)), (4, .int (iI paid)), (5, .int (iI printed)), (6, .int (iI called)), (7, .int (iI ((tn : Nat) : Int))), (8, .int x8), (9, .int (iI (g 0 0 4))), (10, .int (iI bk)), (11, .int (iI jd)), (12, .int (iI (g 0 0 9))), (13, .int (iI (g 0 0 8))), (14, .int (iI (m_entCount g))), (15, .int (iI (g 9 0 3)))]) (kx : ∀ (g1 : m_St) (v1 : Nat → Int32) (p1 p2 p3 : Int) (H : Heap) (locs : List Loc) (ls : Array Slot), Iv hh jj ((tn : Int) + 1) p1 p2 p3 g1 → va_P D vwCl (pw a cH cB cJ cI g1 v1) H → va_S (fun q => s.heap.size ≤ q) s.heap H locs → lv_has ls 23 [(0, .ref b), (1, .ref (a 0)), (2, .int (iI hh)), (3, .int (iI jj)), (4, .int (iI p1)), (5, .int (iI p2)), (6, .int (iI p3)), (7, .int (iI ((tn : Nat) : Int)))] → W p l e room_1 s m args below meth c H locs (cells + 1) (slots + 5) Q (F0 m 1603 ls [])) : W p l e room_1 s m args below meth c H locs cells slots Q (F0 m 695 ls []) := by
  have hWf : Wf g := hIv.1
  have m3 := Wf.m3 hWf
  have m4 := Wf.m4 hWf
  have m5 := Wf.m5 hWf
  have m8 := Wf.m8 hWf
  have m9 := Wf.m9 hWf
  have m10 := Wf.m10 hWf
  have m11 := Wf.m11 hWf
  have m13 := Wf.m13 hWf
  have m14 := Wf.m14 hWf
  have hS5 := hIv.2.2.2.2.1
  have hsb : ∀ b, m_has (g 0 0 13) b = true → b < g 0 0 4 := fun b hb => (hS5.1 b (hS5.2.1 b hb)).1
  have hN3 : g 0 0 3 = hh := hIv.2.2.2.1.1
  have hN5 : g 0 0 5 = jj := hIv.2.2.2.1.2.1
  have hN8 : 5 * g 0 0 8 + g 0 0 9 ≤ tn := hIv.2.2.2.1.2.2.1
  have hN10 : g 0 0 10 ≤ 6 * tn := hIv.2.2.2.1.2.2.2
  have hA : ∀ q : Nat, s.heap.size ≤ q → (fun q : Nat => s.heap.size ≤ q) q := fun _ h => h
  have hee := ent_b hWf
  refine lv_iload hx hb dL_law_695 (lv_at hl 10 rfl) ?_
  refine n_if_lt hx hb (by unfold RI; omega) (tgt := 1603) dL_law_697 (by decide) (fun h1 => ?_) (fun h1 => ?_)
  · skip
    refine W.widen (k := cells + 1) (n := slots + 5) (by omega) (by omega) ?_
    exact kx g vt paid printed called H locs ls (inv_later hIv) hP hS (lv_sub hl [0, 1, 2, 3, 4, 5, 6, 7] rfl)
  · skip
    refine lv_iload hx hb dL_law_700 (lv_at hl 12 rfl) ?_
    refine n_if_ne hx hb (by unfold RI; omega) (tgt := 1603) dL_law_702 (by decide) (fun h2 => ?_) (fun h2 => ?_)
    · skip
      refine W.widen (k := cells + 1) (n := slots + 5) (by omega) (by omega) ?_
      exact kx g vt paid printed called H locs ls (inv_later hIv) hP hS (lv_sub hl [0, 1, 2, 3, 4, 5, 6, 7] rfl)
    · skip
      refine lv_aload_n hx hb dL_law_705 rfl (lv_at hl 1 rfl) ?_
      refine lv_iload hx hb dL_law_706 (lv_at hl 10 rfl) ?_
      refine lv_bipush (v := iI 6) hx hb dL_law_708 (by decide) ?_
      refine va_calli (va_runV (As := [.int (iI bk), .int (iI 6)]) (rest := []) ⟨hx, hb, hml, hown, hw⟩ (c_ofBook l D a cH cB cJ cI ha g vt H.size bk 6 hWf (by omega) (by omega)) (cwV 2 hw (gA_V kw_206 kw_207 kw_208 kw_2 kw_209) rfl rfl rfl (by decide +kernel) ⟨Nat.le_of_ble_eq_true rfl, Nat.le_of_ble_eq_true rfl⟩) (pS_v (ci := 4) (q0 := 0) rfl pw_0 hP hK hE) rfl rfl hl.1 rfl (lv_room (Nat.le_of_ble_eq_true rfl)) dL_law_710 ⟨rm_c (by omega), rm_s (by omega)⟩) hS (fun q h1 h2 => ro_A h1 h2) (fun q h => ro_F hS hA q h) (fun r u t H1 locs ht hvm hw9 hB9 hz1 hk1 hS => ?_)
      have hw9 : r = (iI (m_ofBook g bk 6)) := hw9
      subst hw9
      have hP := ro_P hP hk1
      generalize H1 = H at hP hS ⊢
      rw [show (m_ofBook g bk 6) = (m_ib (m_ent g bk)) from rfl]
      have f3 := m_ib_b (m_ent g bk)
      refine lv_iconst (v := iI 1) hx hb dL_law_713 (by decide) ?_
      refine n_icmp_ne hx hb (by unfold RI; omega) (by unfold RI; omega) (tgt := 720) dL_law_714 (by decide) (fun h4 => ?_) (fun h4 => ?_)
      · skip
        have hent : m_ent g bk = false := by
          cases e9 : m_ent g bk
          · rfl
          · rw [e9] at h4; exact absurd rfl h4
        have hib0 : m_ib (m_ent g bk) = 0 := by rw [hent]; rfl
        have hib5 := m_ib_b (m_elig g bk)
        have hu3 := Wf.u3 hWf (k := 0) (by omega) (by omega)
        have hj4 := Wf.j4 hWf (k := jd) (by omega) (by omega)
        have hj3 := Wf.j3 hWf (k := jd) (by omega) (by omega)
        have hb1 := Wf.b1 hWf (k := bk) (by omega) (by omega)
        have hmg9 : m_agn g jd (g 2 bk 1) = m_has (g 3 jd 3) (g 2 bk 1) := rfl
        rcases (show m_elig g bk = false ∨ (m_elig g bk = true ∧ (g 3 jd 4 ≠ 0 ∨ m_agn g jd (g 2 bk 1) = true)) ∨ (m_elig g bk = true ∧ ¬ (g 3 jd 4 ≠ 0 ∨ m_agn g jd (g 2 bk 1) = true)) from by
          cases m_elig g bk
          · exact Or.inl rfl
          · by_cases z : (g 3 jd 4 ≠ 0 ∨ m_agn g jd (g 2 bk 1) = true)
            · exact Or.inr (Or.inl ⟨rfl, z⟩)
            · exact Or.inr (Or.inr ⟨rfl, z⟩)) with hel | ⟨hel, hcn⟩ | ⟨hel, hcn⟩
        · skip
          have hie : m_ib (m_elig g bk) = 0 := by rw [hel]; rfl
          have hre : m_callRet g jd bk = -2 := by unfold m_callRet; rw [hel]; rfl
          have hge : m_callIn g jd bk = g := (inv_callIn hIv (j := jd) (by omega) (by omega) (by omega) hent).1 hel
          refine lv_aload_n hx hb dL_law_720 rfl (lv_at hl 1 rfl) ?_
          refine lv_iload hx hb dL_law_721 (lv_at hl 10 rfl) ?_
          refine lv_iconst (v := iI 5) hx hb dL_law_723 (by decide) ?_
          refine va_calli (va_runV (As := [.int (iI bk), .int (iI 5)]) (rest := []) ⟨hx, hb, hml, hown, hw⟩ (c_ofBook l D a cH cB cJ cI ha g vt H.size bk 5 hWf (by omega) (by omega)) (cwV 2 hw (gA_V kw_206 kw_207 kw_208 kw_2 kw_209) rfl rfl rfl (by decide +kernel) ⟨Nat.le_of_ble_eq_true rfl, Nat.le_of_ble_eq_true rfl⟩) (pS_v (ci := 4) (q0 := 0) rfl pw_0 hP hK hE) rfl rfl hl.1 rfl (lv_room (Nat.le_of_ble_eq_true rfl)) dL_law_724 ⟨rm_c (by omega), rm_s (by omega)⟩) hS (fun q h1 h2 => ro_A h1 h2) (fun q h => ro_F hS hA q h) (fun r u t H1 locs ht hvm hw9 hB9 hz1 hk1 hS => ?_)
          have hw9 : r = (iI (m_ofBook g bk 5)) := hw9
          subst hw9
          have hP := ro_P hP hk1
          generalize H1 = H at hP hS ⊢
          rw [show (m_ofBook g bk 5) = (m_ib (m_elig g bk)) from rfl]
          have f5 := m_ib_b (m_elig g bk)
          refine lv_iconst (v := iI 1) hx hb dL_law_727 (by decide) ?_
          refine n_icmp_ne hx hb (by unfold RI; omega) (by unfold RI; omega) (tgt := 755) dL_law_728 (by decide) (fun h6 => ?_) (fun h6 => absurd h6 (by intro h6; omega))
          refine lv_iconst (v := iI 0) hx hb dL_law_755 (by decide) ?_
          refine lv_istore (lv' := [(16, .int (iI 0)), (0, .ref b), (1, .ref (a 0)), (2, .int (iI hh)), (3, .int (iI jj)), (4, .int (iI paid)), (5, .int (iI printed)), (6, .int (iI called)), (7, .int (iI ((tn : Nat) : Int))), (8, .int x8), (9, .int (iI (g 0 0 4))), (10, .int (iI bk)), (11, .int (iI jd)), (12, .int (iI (g 0 0 9))), (13, .int (iI (g 0 0 8))), (14, .int (iI (m_entCount g))), (15, .int (iI (g 9 0 3)))]) hx hb dL_law_756 hl (by decide) rfl (fun ls hl => ?_)
          refine lv_aload_n hx hb dL_law_758 rfl (lv_at hl 2 rfl) ?_
          refine lv_iload hx hb dL_law_759 (lv_at hl 12 rfl) ?_
          refine lv_iload hx hb dL_law_761 (lv_at hl 11 rfl) ?_
          refine va_calli (va_runV (As := [.int (iI jd), .int (iI bk)]) (rest := []) ⟨hx, hb, hml, hown, hw⟩ (c_callIn l D a cH cB cJ cI ha g vt H.size jd bk hWf (by omega) (by omega) (by omega) (by omega)) (cwV 2 hw (gA_V kw_293 kw_294 kw_295 kw_2 kw_296) rfl rfl rfl (by decide +kernel) ⟨Nat.le_of_ble_eq_true rfl, Nat.le_of_ble_eq_true rfl⟩) (pS_v (ci := 4) (q0 := 0) rfl pw_0 hP hK hE) rfl rfl hl.1 rfl (lv_room (Nat.le_of_ble_eq_true rfl)) dL_law_763 ⟨rm_c (by omega), rm_s (by omega)⟩) hS (fun q _ h => rw_A hS hA hB q h) (fun q h => rw_A hS hA hB q h) (fun r u t H1 locs ht hvm hw9 hB9 hz1 hk1 hS => ?_)
          have hw9 : r = (iI (m_callRet g jd bk)) := hw9
          subst hw9
          obtain ⟨v7, hP1⟩ := hB9
          rw [ht] at hP1
          obtain ⟨g8, hg8⟩ : ∃ z, z = (m_callIn g jd bk) := ⟨_, rfl⟩
          rw [← hg8] at hP1
          have hP : va_P D vwCl (pw a cH cB cJ cI g8 v7) H1 := hP1
          generalize H1 = H at hP hS ⊢
          rw [show (m_callRet g jd bk) = (-2) from hre]
          have hgg : g8 = g := hg8.trans hge
          rw [hgg] at hP
          refine lv_istore (lv' := [(17, .int (iI (-2))), (16, .int (iI 0)), (0, .ref b), (1, .ref (a 0)), (2, .int (iI hh)), (3, .int (iI jj)), (4, .int (iI paid)), (5, .int (iI printed)), (6, .int (iI called)), (7, .int (iI ((tn : Nat) : Int))), (8, .int x8), (9, .int (iI (g 0 0 4))), (10, .int (iI bk)), (11, .int (iI jd)), (12, .int (iI (g 0 0 9))), (13, .int (iI (g 0 0 8))), (14, .int (iI (m_entCount g))), (15, .int (iI (g 9 0 3)))]) hx hb dL_law_766 hl (by decide) rfl (fun ls hl => ?_)
          refine lv_iload hx hb dL_law_768 (lv_at hl 0 rfl) ?_
          refine n_if_lt hx hb (by unfold RI; omega) (tgt := 790) dL_law_770 (by decide) (fun h9 => ?_) (fun h9 => absurd h9 (by intro h9; omega))
          refine lv_aload_n hx hb dL_law_790 rfl (lv_at hl 3 rfl) ?_
          refine lv_iload hx hb dL_law_791 (lv_at hl 12 rfl) ?_
          refine lv_bipush (v := iI 6) hx hb dL_law_793 (by decide) ?_
          refine va_calli (va_runV (As := [.int (iI bk), .int (iI 6)]) (rest := []) ⟨hx, hb, hml, hown, hw⟩ (c_ofBook l D a cH cB cJ cI ha g v7 H.size bk 6 hWf (by omega) (by omega)) (cwV 2 hw (gA_V kw_206 kw_207 kw_208 kw_2 kw_209) rfl rfl rfl (by decide +kernel) ⟨Nat.le_of_ble_eq_true rfl, Nat.le_of_ble_eq_true rfl⟩) (pS_v (ci := 4) (q0 := 0) rfl pw_0 hP hK hE) rfl rfl hl.1 rfl (lv_room (Nat.le_of_ble_eq_true rfl)) dL_law_795 ⟨rm_c (by omega), rm_s (by omega)⟩) hS (fun q h1 h2 => ro_A h1 h2) (fun q h => ro_F hS hA q h) (fun r u t H1 locs ht hvm hw9 hB9 hz1 hk1 hS => ?_)
          have hw9 : r = (iI (m_ofBook g bk 6)) := hw9
          subst hw9
          have hP := ro_P hP hk1
          generalize H1 = H at hP hS ⊢
          rw [show (m_ofBook g bk 6) = (m_ib (m_ent g bk)) from rfl]
          refine n_if_eq hx hb (by unfold RI; omega) (tgt := 803) dL_law_798 (by decide) (fun h10 => ?_) (fun h10 => absurd h10 (by intro h10; omega))
          refine lv_iload hx hb dL_law_803 (lv_at hl 6 rfl) ?_
          refine lv_iload hx hb dL_law_805 (lv_at hl 0 rfl) ?_
          refine n_if_lt hx hb (by unfold RI; omega) (tgt := 817) dL_law_807 (by decide) (fun h11 => ?_) (fun h11 => absurd h11 (by intro h11; omega))
          refine lv_iconst (v := iI 0) hx hb dL_law_817 (by decide) ?_
          refine n_add hx hb dL_law_818 ?_
          refine lv_istore (lv' := [(4, .int (iI (paid + 0))), (17, .int (iI (-2))), (16, .int (iI 0)), (0, .ref b), (1, .ref (a 0)), (2, .int (iI hh)), (3, .int (iI jj)), (5, .int (iI printed)), (6, .int (iI called)), (7, .int (iI ((tn : Nat) : Int))), (8, .int x8), (9, .int (iI (g 0 0 4))), (10, .int (iI bk)), (11, .int (iI jd)), (12, .int (iI (g 0 0 9))), (13, .int (iI (g 0 0 8))), (14, .int (iI (m_entCount g))), (15, .int (iI (g 9 0 3)))]) hx hb dL_law_819 hl (by decide) rfl (fun ls hl => ?_)
          refine lv_iload hx hb dL_law_821 (lv_at hl 8 rfl) ?_
          refine lv_iload hx hb dL_law_823 (lv_at hl 1 rfl) ?_
          refine n_if_lt hx hb (by unfold RI; omega) (tgt := 832) dL_law_825 (by decide) (fun h12 => ?_) (fun h12 => absurd h12 (by intro h12; omega))
          refine lv_iconst (v := iI 0) hx hb dL_law_832 (by decide) ?_
          refine n_add hx hb dL_law_833 ?_
          refine lv_istore (lv' := [(6, .int (iI (called + 0))), (4, .int (iI (paid + 0))), (17, .int (iI (-2))), (16, .int (iI 0)), (0, .ref b), (1, .ref (a 0)), (2, .int (iI hh)), (3, .int (iI jj)), (5, .int (iI printed)), (7, .int (iI ((tn : Nat) : Int))), (8, .int x8), (9, .int (iI (g 0 0 4))), (10, .int (iI bk)), (11, .int (iI jd)), (12, .int (iI (g 0 0 9))), (13, .int (iI (g 0 0 8))), (14, .int (iI (m_entCount g))), (15, .int (iI (g 9 0 3)))]) hx hb dL_law_834 hl (by decide) rfl (fun ls hl => ?_)
          refine lv_goto (tgt := 1603) hx hb dL_law_836 (by decide) ?_
          refine W.widen (k := cells + 1) (n := slots + 5) (by omega) (by omega) ?_
          exact kx g v7 (paid + 0) printed (called + 0) H locs ls (by rw [Int.add_zero, Int.add_zero]; exact inv_later hIv) hP hS (lv_sub hl [4, 5, 6, 7, 1, 8, 0, 9] rfl)
        · skip
          have hie : m_ib (m_elig g bk) = 1 := by rw [hel]; rfl
          have hre : m_callRet g jd bk = -3 := by unfold m_callRet; rw [hel, cond_true, if_pos hcn]
          have hge : m_callIn g jd bk = g := (inv_callIn hIv (j := jd) (by omega) (by omega) (by omega) hent).2.1 hel hcn
          refine lv_aload_n hx hb dL_law_720 rfl (lv_at hl 1 rfl) ?_
          refine lv_iload hx hb dL_law_721 (lv_at hl 10 rfl) ?_
          refine lv_iconst (v := iI 5) hx hb dL_law_723 (by decide) ?_
          refine va_calli (va_runV (As := [.int (iI bk), .int (iI 5)]) (rest := []) ⟨hx, hb, hml, hown, hw⟩ (c_ofBook l D a cH cB cJ cI ha g vt H.size bk 5 hWf (by omega) (by omega)) (cwV 2 hw (gA_V kw_206 kw_207 kw_208 kw_2 kw_209) rfl rfl rfl (by decide +kernel) ⟨Nat.le_of_ble_eq_true rfl, Nat.le_of_ble_eq_true rfl⟩) (pS_v (ci := 4) (q0 := 0) rfl pw_0 hP hK hE) rfl rfl hl.1 rfl (lv_room (Nat.le_of_ble_eq_true rfl)) dL_law_724 ⟨rm_c (by omega), rm_s (by omega)⟩) hS (fun q h1 h2 => ro_A h1 h2) (fun q h => ro_F hS hA q h) (fun r u t H1 locs ht hvm hw9 hB9 hz1 hk1 hS => ?_)
          have hw9 : r = (iI (m_ofBook g bk 5)) := hw9
          subst hw9
          have hP := ro_P hP hk1
          generalize H1 = H at hP hS ⊢
          rw [show (m_ofBook g bk 5) = (m_ib (m_elig g bk)) from rfl]
          have f13 := m_ib_b (m_elig g bk)
          refine lv_iconst (v := iI 1) hx hb dL_law_727 (by decide) ?_
          refine n_icmp_ne hx hb (by unfold RI; omega) (by unfold RI; omega) (tgt := 755) dL_law_728 (by decide) (fun h14 => absurd h14 (by intro h14; omega)) (fun h14 => ?_)
          refine lv_aload_n hx hb dL_law_731 rfl (lv_at hl 1 rfl) ?_
          refine lv_iload hx hb dL_law_732 (lv_at hl 11 rfl) ?_
          refine lv_iconst (v := iI 1) hx hb dL_law_734 (by decide) ?_
          refine va_calli (va_runV (As := [.int (iI jd), .int (iI 1)]) (rest := []) ⟨hx, hb, hml, hown, hw⟩ (c_ofJudge l D a cH cB cJ cI ha g vt H.size jd 1 hWf (by omega) (by omega)) (cwV 2 hw (gA_V kw_174 kw_175 kw_176 kw_2 kw_177) rfl rfl rfl (by decide +kernel) ⟨Nat.le_of_ble_eq_true rfl, Nat.le_of_ble_eq_true rfl⟩) (pS_v (ci := 4) (q0 := 0) rfl pw_0 hP hK hE) rfl rfl hl.1 rfl (lv_room (Nat.le_of_ble_eq_true rfl)) dL_law_735 ⟨rm_c (by omega), rm_s (by omega)⟩) hS (fun q h1 h2 => ro_A h1 h2) (fun q h => ro_F hS hA q h) (fun r u t H1 locs ht hvm hw9 hB9 hz1 hk1 hS => ?_)
          have hw9 : r = (iI (m_ofJudge g jd 1)) := hw9
          subst hw9
          have hP := ro_P hP hk1
          generalize H1 = H at hP hS ⊢
          rw [show (m_ofJudge g jd 1) = (g 3 jd 3) from rfl]
          have s15 := Wf.j3 hWf (k := jd) (by omega) (by omega)
          refine lv_aload_n hx hb dL_law_738 rfl (lv_at hl 1 rfl) ?_
          refine lv_iload hx hb dL_law_739 (lv_at hl 10 rfl) ?_
          refine lv_iconst (v := iI 1) hx hb dL_law_741 (by decide) ?_
          refine va_calli (va_runV (As := [.int (iI bk), .int (iI 1)]) (rest := [.int (iI (g 3 jd 3))]) ⟨hx, hb, hml, hown, hw⟩ (c_ofBook l D a cH cB cJ cI ha g vt H.size bk 1 hWf (by omega) (by omega)) (cwV 2 hw (gA_V kw_206 kw_207 kw_208 kw_2 kw_209) rfl rfl rfl (by decide +kernel) ⟨Nat.le_of_ble_eq_true rfl, Nat.le_of_ble_eq_true rfl⟩) (pS_v (ci := 4) (q0 := 0) rfl pw_0 hP hK hE) rfl rfl hl.1 rfl (lv_room (Nat.le_of_ble_eq_true rfl)) dL_law_742 ⟨rm_c (by omega), rm_s (by omega)⟩) hS (fun q h1 h2 => ro_A h1 h2) (fun q h => ro_F hS hA q h) (fun r u t H1 locs ht hvm hw9 hB9 hz1 hk1 hS => ?_)
          have hw9 : r = (iI (m_ofBook g bk 1)) := hw9
          subst hw9
          have hP := ro_P hP hk1
          generalize H1 = H at hP hS ⊢
          rw [show (m_ofBook g bk 1) = (g 2 bk 1) from rfl]
          have s16 := Wf.b1 hWf (k := bk) (by omega) (by omega)
          refine lv_ishr hx hb dL_law_745 ?_
          refine lv_iconst (v := iI 1) hx hb dL_law_746 (by decide) ?_
          refine lv_iand hx hb dL_law_747 ?_
          rw [shr_has (S := (g 3 jd 3)) (n := (g 2 bk 1)) (by omega) (by omega) (by omega)]
          refine n_b_ne hx hb (tgt := 755) dL_law_748 (by decide) (fun h17 => ?_) (fun h17 => ?_)
          · skip
            refine lv_iconst (v := iI 0) hx hb dL_law_755 (by decide) ?_
            refine lv_istore (lv' := [(16, .int (iI 0)), (0, .ref b), (1, .ref (a 0)), (2, .int (iI hh)), (3, .int (iI jj)), (4, .int (iI paid)), (5, .int (iI printed)), (6, .int (iI called)), (7, .int (iI ((tn : Nat) : Int))), (8, .int x8), (9, .int (iI (g 0 0 4))), (10, .int (iI bk)), (11, .int (iI jd)), (12, .int (iI (g 0 0 9))), (13, .int (iI (g 0 0 8))), (14, .int (iI (m_entCount g))), (15, .int (iI (g 9 0 3)))]) hx hb dL_law_756 hl (by decide) rfl (fun ls hl => ?_)
            refine lv_aload_n hx hb dL_law_758 rfl (lv_at hl 2 rfl) ?_
            refine lv_iload hx hb dL_law_759 (lv_at hl 12 rfl) ?_
            refine lv_iload hx hb dL_law_761 (lv_at hl 11 rfl) ?_
            refine va_calli (va_runV (As := [.int (iI jd), .int (iI bk)]) (rest := []) ⟨hx, hb, hml, hown, hw⟩ (c_callIn l D a cH cB cJ cI ha g vt H.size jd bk hWf (by omega) (by omega) (by omega) (by omega)) (cwV 2 hw (gA_V kw_293 kw_294 kw_295 kw_2 kw_296) rfl rfl rfl (by decide +kernel) ⟨Nat.le_of_ble_eq_true rfl, Nat.le_of_ble_eq_true rfl⟩) (pS_v (ci := 4) (q0 := 0) rfl pw_0 hP hK hE) rfl rfl hl.1 rfl (lv_room (Nat.le_of_ble_eq_true rfl)) dL_law_763 ⟨rm_c (by omega), rm_s (by omega)⟩) hS (fun q _ h => rw_A hS hA hB q h) (fun q h => rw_A hS hA hB q h) (fun r u t H1 locs ht hvm hw9 hB9 hz1 hk1 hS => ?_)
            have hw9 : r = (iI (m_callRet g jd bk)) := hw9
            subst hw9
            obtain ⟨v18, hP1⟩ := hB9
            rw [ht] at hP1
            obtain ⟨g19, hg19⟩ : ∃ z, z = (m_callIn g jd bk) := ⟨_, rfl⟩
            rw [← hg19] at hP1
            have hP : va_P D vwCl (pw a cH cB cJ cI g19 v18) H1 := hP1
            generalize H1 = H at hP hS ⊢
            rw [show (m_callRet g jd bk) = (-3) from hre]
            have hgg : g19 = g := hg19.trans hge
            rw [hgg] at hP
            refine lv_istore (lv' := [(17, .int (iI (-3))), (16, .int (iI 0)), (0, .ref b), (1, .ref (a 0)), (2, .int (iI hh)), (3, .int (iI jj)), (4, .int (iI paid)), (5, .int (iI printed)), (6, .int (iI called)), (7, .int (iI ((tn : Nat) : Int))), (8, .int x8), (9, .int (iI (g 0 0 4))), (10, .int (iI bk)), (11, .int (iI jd)), (12, .int (iI (g 0 0 9))), (13, .int (iI (g 0 0 8))), (14, .int (iI (m_entCount g))), (15, .int (iI (g 9 0 3)))]) hx hb dL_law_766 hl (by decide) rfl (fun ls hl => ?_)
            refine lv_iload hx hb dL_law_768 (lv_at hl 0 rfl) ?_
            refine n_if_lt hx hb (by unfold RI; omega) (tgt := 790) dL_law_770 (by decide) (fun h20 => ?_) (fun h20 => absurd h20 (by intro h20; omega))
            refine lv_aload_n hx hb dL_law_790 rfl (lv_at hl 3 rfl) ?_
            refine lv_iload hx hb dL_law_791 (lv_at hl 12 rfl) ?_
            refine lv_bipush (v := iI 6) hx hb dL_law_793 (by decide) ?_
            refine va_calli (va_runV (As := [.int (iI bk), .int (iI 6)]) (rest := []) ⟨hx, hb, hml, hown, hw⟩ (c_ofBook l D a cH cB cJ cI ha g v18 H.size bk 6 hWf (by omega) (by omega)) (cwV 2 hw (gA_V kw_206 kw_207 kw_208 kw_2 kw_209) rfl rfl rfl (by decide +kernel) ⟨Nat.le_of_ble_eq_true rfl, Nat.le_of_ble_eq_true rfl⟩) (pS_v (ci := 4) (q0 := 0) rfl pw_0 hP hK hE) rfl rfl hl.1 rfl (lv_room (Nat.le_of_ble_eq_true rfl)) dL_law_795 ⟨rm_c (by omega), rm_s (by omega)⟩) hS (fun q h1 h2 => ro_A h1 h2) (fun q h => ro_F hS hA q h) (fun r u t H1 locs ht hvm hw9 hB9 hz1 hk1 hS => ?_)
            have hw9 : r = (iI (m_ofBook g bk 6)) := hw9
            subst hw9
            have hP := ro_P hP hk1
            generalize H1 = H at hP hS ⊢
            rw [show (m_ofBook g bk 6) = (m_ib (m_ent g bk)) from rfl]
            refine n_if_eq hx hb (by unfold RI; omega) (tgt := 803) dL_law_798 (by decide) (fun h21 => ?_) (fun h21 => absurd h21 (by intro h21; omega))
            refine lv_iload hx hb dL_law_803 (lv_at hl 6 rfl) ?_
            refine lv_iload hx hb dL_law_805 (lv_at hl 0 rfl) ?_
            refine n_if_lt hx hb (by unfold RI; omega) (tgt := 817) dL_law_807 (by decide) (fun h22 => ?_) (fun h22 => absurd h22 (by intro h22; omega))
            refine lv_iconst (v := iI 0) hx hb dL_law_817 (by decide) ?_
            refine n_add hx hb dL_law_818 ?_
            refine lv_istore (lv' := [(4, .int (iI (paid + 0))), (17, .int (iI (-3))), (16, .int (iI 0)), (0, .ref b), (1, .ref (a 0)), (2, .int (iI hh)), (3, .int (iI jj)), (5, .int (iI printed)), (6, .int (iI called)), (7, .int (iI ((tn : Nat) : Int))), (8, .int x8), (9, .int (iI (g 0 0 4))), (10, .int (iI bk)), (11, .int (iI jd)), (12, .int (iI (g 0 0 9))), (13, .int (iI (g 0 0 8))), (14, .int (iI (m_entCount g))), (15, .int (iI (g 9 0 3)))]) hx hb dL_law_819 hl (by decide) rfl (fun ls hl => ?_)
            refine lv_iload hx hb dL_law_821 (lv_at hl 8 rfl) ?_
            refine lv_iload hx hb dL_law_823 (lv_at hl 1 rfl) ?_
            refine n_if_lt hx hb (by unfold RI; omega) (tgt := 832) dL_law_825 (by decide) (fun h23 => ?_) (fun h23 => absurd h23 (by intro h23; omega))
            refine lv_iconst (v := iI 0) hx hb dL_law_832 (by decide) ?_
            refine n_add hx hb dL_law_833 ?_
            refine lv_istore (lv' := [(6, .int (iI (called + 0))), (4, .int (iI (paid + 0))), (17, .int (iI (-3))), (16, .int (iI 0)), (0, .ref b), (1, .ref (a 0)), (2, .int (iI hh)), (3, .int (iI jj)), (5, .int (iI printed)), (7, .int (iI ((tn : Nat) : Int))), (8, .int x8), (9, .int (iI (g 0 0 4))), (10, .int (iI bk)), (11, .int (iI jd)), (12, .int (iI (g 0 0 9))), (13, .int (iI (g 0 0 8))), (14, .int (iI (m_entCount g))), (15, .int (iI (g 9 0 3)))]) hx hb dL_law_834 hl (by decide) rfl (fun ls hl => ?_)
            refine lv_goto (tgt := 1603) hx hb dL_law_836 (by decide) ?_
            refine W.widen (k := cells + 1) (n := slots + 5) (by omega) (by omega) ?_
            exact kx g v18 (paid + 0) printed (called + 0) H locs ls (by rw [Int.add_zero, Int.add_zero]; exact inv_later hIv) hP hS (lv_sub hl [4, 5, 6, 7, 1, 8, 0, 9] rfl)
          · skip
            refine lv_iconst (v := iI 1) hx hb dL_law_751 (by decide) ?_
            refine lv_goto (tgt := 756) hx hb dL_law_752 (by decide) ?_
            refine lv_istore (lv' := [(16, .int (iI 1)), (0, .ref b), (1, .ref (a 0)), (2, .int (iI hh)), (3, .int (iI jj)), (4, .int (iI paid)), (5, .int (iI printed)), (6, .int (iI called)), (7, .int (iI ((tn : Nat) : Int))), (8, .int x8), (9, .int (iI (g 0 0 4))), (10, .int (iI bk)), (11, .int (iI jd)), (12, .int (iI (g 0 0 9))), (13, .int (iI (g 0 0 8))), (14, .int (iI (m_entCount g))), (15, .int (iI (g 9 0 3)))]) hx hb dL_law_756 hl (by decide) rfl (fun ls hl => ?_)
            refine lv_aload_n hx hb dL_law_758 rfl (lv_at hl 2 rfl) ?_
            refine lv_iload hx hb dL_law_759 (lv_at hl 12 rfl) ?_
            refine lv_iload hx hb dL_law_761 (lv_at hl 11 rfl) ?_
            refine va_calli (va_runV (As := [.int (iI jd), .int (iI bk)]) (rest := []) ⟨hx, hb, hml, hown, hw⟩ (c_callIn l D a cH cB cJ cI ha g vt H.size jd bk hWf (by omega) (by omega) (by omega) (by omega)) (cwV 2 hw (gA_V kw_293 kw_294 kw_295 kw_2 kw_296) rfl rfl rfl (by decide +kernel) ⟨Nat.le_of_ble_eq_true rfl, Nat.le_of_ble_eq_true rfl⟩) (pS_v (ci := 4) (q0 := 0) rfl pw_0 hP hK hE) rfl rfl hl.1 rfl (lv_room (Nat.le_of_ble_eq_true rfl)) dL_law_763 ⟨rm_c (by omega), rm_s (by omega)⟩) hS (fun q _ h => rw_A hS hA hB q h) (fun q h => rw_A hS hA hB q h) (fun r u t H1 locs ht hvm hw9 hB9 hz1 hk1 hS => ?_)
            have hw9 : r = (iI (m_callRet g jd bk)) := hw9
            subst hw9
            obtain ⟨v24, hP1⟩ := hB9
            rw [ht] at hP1
            obtain ⟨g25, hg25⟩ : ∃ z, z = (m_callIn g jd bk) := ⟨_, rfl⟩
            rw [← hg25] at hP1
            have hP : va_P D vwCl (pw a cH cB cJ cI g25 v24) H1 := hP1
            generalize H1 = H at hP hS ⊢
            rw [show (m_callRet g jd bk) = (-3) from hre]
            have hgg : g25 = g := hg25.trans hge
            rw [hgg] at hP
            refine lv_istore (lv' := [(17, .int (iI (-3))), (16, .int (iI 1)), (0, .ref b), (1, .ref (a 0)), (2, .int (iI hh)), (3, .int (iI jj)), (4, .int (iI paid)), (5, .int (iI printed)), (6, .int (iI called)), (7, .int (iI ((tn : Nat) : Int))), (8, .int x8), (9, .int (iI (g 0 0 4))), (10, .int (iI bk)), (11, .int (iI jd)), (12, .int (iI (g 0 0 9))), (13, .int (iI (g 0 0 8))), (14, .int (iI (m_entCount g))), (15, .int (iI (g 9 0 3)))]) hx hb dL_law_766 hl (by decide) rfl (fun ls hl => ?_)
            refine lv_iload hx hb dL_law_768 (lv_at hl 0 rfl) ?_
            refine n_if_lt hx hb (by unfold RI; omega) (tgt := 790) dL_law_770 (by decide) (fun h26 => ?_) (fun h26 => absurd h26 (by intro h26; omega))
            refine lv_aload_n hx hb dL_law_790 rfl (lv_at hl 3 rfl) ?_
            refine lv_iload hx hb dL_law_791 (lv_at hl 12 rfl) ?_
            refine lv_bipush (v := iI 6) hx hb dL_law_793 (by decide) ?_
            refine va_calli (va_runV (As := [.int (iI bk), .int (iI 6)]) (rest := []) ⟨hx, hb, hml, hown, hw⟩ (c_ofBook l D a cH cB cJ cI ha g v24 H.size bk 6 hWf (by omega) (by omega)) (cwV 2 hw (gA_V kw_206 kw_207 kw_208 kw_2 kw_209) rfl rfl rfl (by decide +kernel) ⟨Nat.le_of_ble_eq_true rfl, Nat.le_of_ble_eq_true rfl⟩) (pS_v (ci := 4) (q0 := 0) rfl pw_0 hP hK hE) rfl rfl hl.1 rfl (lv_room (Nat.le_of_ble_eq_true rfl)) dL_law_795 ⟨rm_c (by omega), rm_s (by omega)⟩) hS (fun q h1 h2 => ro_A h1 h2) (fun q h => ro_F hS hA q h) (fun r u t H1 locs ht hvm hw9 hB9 hz1 hk1 hS => ?_)
            have hw9 : r = (iI (m_ofBook g bk 6)) := hw9
            subst hw9
            have hP := ro_P hP hk1
            generalize H1 = H at hP hS ⊢
            rw [show (m_ofBook g bk 6) = (m_ib (m_ent g bk)) from rfl]
            refine n_if_eq hx hb (by unfold RI; omega) (tgt := 803) dL_law_798 (by decide) (fun h27 => ?_) (fun h27 => absurd h27 (by intro h27; omega))
            refine lv_iload hx hb dL_law_803 (lv_at hl 6 rfl) ?_
            refine lv_iload hx hb dL_law_805 (lv_at hl 0 rfl) ?_
            refine n_if_lt hx hb (by unfold RI; omega) (tgt := 817) dL_law_807 (by decide) (fun h28 => ?_) (fun h28 => absurd h28 (by intro h28; omega))
            refine lv_iconst (v := iI 0) hx hb dL_law_817 (by decide) ?_
            refine n_add hx hb dL_law_818 ?_
            refine lv_istore (lv' := [(4, .int (iI (paid + 0))), (17, .int (iI (-3))), (16, .int (iI 1)), (0, .ref b), (1, .ref (a 0)), (2, .int (iI hh)), (3, .int (iI jj)), (5, .int (iI printed)), (6, .int (iI called)), (7, .int (iI ((tn : Nat) : Int))), (8, .int x8), (9, .int (iI (g 0 0 4))), (10, .int (iI bk)), (11, .int (iI jd)), (12, .int (iI (g 0 0 9))), (13, .int (iI (g 0 0 8))), (14, .int (iI (m_entCount g))), (15, .int (iI (g 9 0 3)))]) hx hb dL_law_819 hl (by decide) rfl (fun ls hl => ?_)
            refine lv_iload hx hb dL_law_821 (lv_at hl 8 rfl) ?_
            refine lv_iload hx hb dL_law_823 (lv_at hl 1 rfl) ?_
            refine n_if_lt hx hb (by unfold RI; omega) (tgt := 832) dL_law_825 (by decide) (fun h29 => ?_) (fun h29 => absurd h29 (by intro h29; omega))
            refine lv_iconst (v := iI 0) hx hb dL_law_832 (by decide) ?_
            refine n_add hx hb dL_law_833 ?_
            refine lv_istore (lv' := [(6, .int (iI (called + 0))), (4, .int (iI (paid + 0))), (17, .int (iI (-3))), (16, .int (iI 1)), (0, .ref b), (1, .ref (a 0)), (2, .int (iI hh)), (3, .int (iI jj)), (5, .int (iI printed)), (7, .int (iI ((tn : Nat) : Int))), (8, .int x8), (9, .int (iI (g 0 0 4))), (10, .int (iI bk)), (11, .int (iI jd)), (12, .int (iI (g 0 0 9))), (13, .int (iI (g 0 0 8))), (14, .int (iI (m_entCount g))), (15, .int (iI (g 9 0 3)))]) hx hb dL_law_834 hl (by decide) rfl (fun ls hl => ?_)
            refine lv_goto (tgt := 1603) hx hb dL_law_836 (by decide) ?_
            refine W.widen (k := cells + 1) (n := slots + 5) (by omega) (by omega) ?_
            exact kx g v24 (paid + 0) printed (called + 0) H locs ls (by rw [Int.add_zero, Int.add_zero]; exact inv_later hIv) hP hS (lv_sub hl [4, 5, 6, 7, 1, 8, 0, 9] rfl)
        · skip
          have hie : m_ib (m_elig g bk) = 1 := by rw [hel]; rfl
          have hre : m_callRet g jd bk = m_entCount g + 1 := by unfold m_callRet; rw [hel, cond_true, if_neg hcn]; exact ((inv_callIn hIv (j := jd) (by omega) (by omega) (by omega) hent).2.2 hel hcn).2
          have hna : m_has (g 3 jd 3) (g 2 bk 1) = false := by
            cases e9 : m_has (g 3 jd 3) (g 2 bk 1)
            · rfl
            · exact absurd (Or.inr e9) hcn
          refine lv_aload_n hx hb dL_law_720 rfl (lv_at hl 1 rfl) ?_
          refine lv_iload hx hb dL_law_721 (lv_at hl 10 rfl) ?_
          refine lv_iconst (v := iI 5) hx hb dL_law_723 (by decide) ?_
          refine va_calli (va_runV (As := [.int (iI bk), .int (iI 5)]) (rest := []) ⟨hx, hb, hml, hown, hw⟩ (c_ofBook l D a cH cB cJ cI ha g vt H.size bk 5 hWf (by omega) (by omega)) (cwV 2 hw (gA_V kw_206 kw_207 kw_208 kw_2 kw_209) rfl rfl rfl (by decide +kernel) ⟨Nat.le_of_ble_eq_true rfl, Nat.le_of_ble_eq_true rfl⟩) (pS_v (ci := 4) (q0 := 0) rfl pw_0 hP hK hE) rfl rfl hl.1 rfl (lv_room (Nat.le_of_ble_eq_true rfl)) dL_law_724 ⟨rm_c (by omega), rm_s (by omega)⟩) hS (fun q h1 h2 => ro_A h1 h2) (fun q h => ro_F hS hA q h) (fun r u t H1 locs ht hvm hw9 hB9 hz1 hk1 hS => ?_)
          have hw9 : r = (iI (m_ofBook g bk 5)) := hw9
          subst hw9
          have hP := ro_P hP hk1
          generalize H1 = H at hP hS ⊢
          rw [show (m_ofBook g bk 5) = (m_ib (m_elig g bk)) from rfl]
          have f30 := m_ib_b (m_elig g bk)
          refine lv_iconst (v := iI 1) hx hb dL_law_727 (by decide) ?_
          refine n_icmp_ne hx hb (by unfold RI; omega) (by unfold RI; omega) (tgt := 755) dL_law_728 (by decide) (fun h31 => absurd h31 (by intro h31; omega)) (fun h31 => ?_)
          refine lv_aload_n hx hb dL_law_731 rfl (lv_at hl 1 rfl) ?_
          refine lv_iload hx hb dL_law_732 (lv_at hl 11 rfl) ?_
          refine lv_iconst (v := iI 1) hx hb dL_law_734 (by decide) ?_
          refine va_calli (va_runV (As := [.int (iI jd), .int (iI 1)]) (rest := []) ⟨hx, hb, hml, hown, hw⟩ (c_ofJudge l D a cH cB cJ cI ha g vt H.size jd 1 hWf (by omega) (by omega)) (cwV 2 hw (gA_V kw_174 kw_175 kw_176 kw_2 kw_177) rfl rfl rfl (by decide +kernel) ⟨Nat.le_of_ble_eq_true rfl, Nat.le_of_ble_eq_true rfl⟩) (pS_v (ci := 4) (q0 := 0) rfl pw_0 hP hK hE) rfl rfl hl.1 rfl (lv_room (Nat.le_of_ble_eq_true rfl)) dL_law_735 ⟨rm_c (by omega), rm_s (by omega)⟩) hS (fun q h1 h2 => ro_A h1 h2) (fun q h => ro_F hS hA q h) (fun r u t H1 locs ht hvm hw9 hB9 hz1 hk1 hS => ?_)
          have hw9 : r = (iI (m_ofJudge g jd 1)) := hw9
          subst hw9
          have hP := ro_P hP hk1
          generalize H1 = H at hP hS ⊢
          rw [show (m_ofJudge g jd 1) = (g 3 jd 3) from rfl]
          have s32 := Wf.j3 hWf (k := jd) (by omega) (by omega)
          refine lv_aload_n hx hb dL_law_738 rfl (lv_at hl 1 rfl) ?_
          refine lv_iload hx hb dL_law_739 (lv_at hl 10 rfl) ?_
          refine lv_iconst (v := iI 1) hx hb dL_law_741 (by decide) ?_
          refine va_calli (va_runV (As := [.int (iI bk), .int (iI 1)]) (rest := [.int (iI (g 3 jd 3))]) ⟨hx, hb, hml, hown, hw⟩ (c_ofBook l D a cH cB cJ cI ha g vt H.size bk 1 hWf (by omega) (by omega)) (cwV 2 hw (gA_V kw_206 kw_207 kw_208 kw_2 kw_209) rfl rfl rfl (by decide +kernel) ⟨Nat.le_of_ble_eq_true rfl, Nat.le_of_ble_eq_true rfl⟩) (pS_v (ci := 4) (q0 := 0) rfl pw_0 hP hK hE) rfl rfl hl.1 rfl (lv_room (Nat.le_of_ble_eq_true rfl)) dL_law_742 ⟨rm_c (by omega), rm_s (by omega)⟩) hS (fun q h1 h2 => ro_A h1 h2) (fun q h => ro_F hS hA q h) (fun r u t H1 locs ht hvm hw9 hB9 hz1 hk1 hS => ?_)
          have hw9 : r = (iI (m_ofBook g bk 1)) := hw9
          subst hw9
          have hP := ro_P hP hk1
          generalize H1 = H at hP hS ⊢
          rw [show (m_ofBook g bk 1) = (g 2 bk 1) from rfl]
          have s33 := Wf.b1 hWf (k := bk) (by omega) (by omega)
          refine lv_ishr hx hb dL_law_745 ?_
          refine lv_iconst (v := iI 1) hx hb dL_law_746 (by decide) ?_
          refine lv_iand hx hb dL_law_747 ?_
          rw [shr_has (S := (g 3 jd 3)) (n := (g 2 bk 1)) (by omega) (by omega) (by omega)]
          refine n_b_ne hx hb (tgt := 755) dL_law_748 (by decide) (fun h34 => absurd h34 (by intro h34; rw [hna] at h34; cases h34)) (fun h34 => ?_)
          refine lv_iconst (v := iI 1) hx hb dL_law_751 (by decide) ?_
          refine lv_goto (tgt := 756) hx hb dL_law_752 (by decide) ?_
          refine lv_istore (lv' := [(16, .int (iI 1)), (0, .ref b), (1, .ref (a 0)), (2, .int (iI hh)), (3, .int (iI jj)), (4, .int (iI paid)), (5, .int (iI printed)), (6, .int (iI called)), (7, .int (iI ((tn : Nat) : Int))), (8, .int x8), (9, .int (iI (g 0 0 4))), (10, .int (iI bk)), (11, .int (iI jd)), (12, .int (iI (g 0 0 9))), (13, .int (iI (g 0 0 8))), (14, .int (iI (m_entCount g))), (15, .int (iI (g 9 0 3)))]) hx hb dL_law_756 hl (by decide) rfl (fun ls hl => ?_)
          refine lv_aload_n hx hb dL_law_758 rfl (lv_at hl 2 rfl) ?_
          refine lv_iload hx hb dL_law_759 (lv_at hl 12 rfl) ?_
          refine lv_iload hx hb dL_law_761 (lv_at hl 11 rfl) ?_
          refine va_calli (va_runV (As := [.int (iI jd), .int (iI bk)]) (rest := []) ⟨hx, hb, hml, hown, hw⟩ (c_callIn l D a cH cB cJ cI ha g vt H.size jd bk hWf (by omega) (by omega) (by omega) (by omega)) (cwV 2 hw (gA_V kw_293 kw_294 kw_295 kw_2 kw_296) rfl rfl rfl (by decide +kernel) ⟨Nat.le_of_ble_eq_true rfl, Nat.le_of_ble_eq_true rfl⟩) (pS_v (ci := 4) (q0 := 0) rfl pw_0 hP hK hE) rfl rfl hl.1 rfl (lv_room (Nat.le_of_ble_eq_true rfl)) dL_law_763 ⟨rm_c (by omega), rm_s (by omega)⟩) hS (fun q _ h => rw_A hS hA hB q h) (fun q h => rw_A hS hA hB q h) (fun r u t H1 locs ht hvm hw9 hB9 hz1 hk1 hS => ?_)
          have hw9 : r = (iI (m_callRet g jd bk)) := hw9
          subst hw9
          obtain ⟨v35, hP1⟩ := hB9
          rw [ht] at hP1
          obtain ⟨g36, hg36⟩ : ∃ z, z = (m_callIn g jd bk) := ⟨_, rfl⟩
          rw [← hg36] at hP1
          have hP : va_P D vwCl (pw a cH cB cJ cI g36 v35) H1 := hP1
          generalize H1 = H at hP hS ⊢
          rw [show (m_callRet g jd bk) = (m_entCount g + 1) from hre]
          have hivg36 : Iv hh jj ((tn : Nat) : Int) (paid + (g 9 0 3).tdiv 2) printed (called + 1) g36 := by rw [hg36]; exact ((inv_callIn hIv (j := jd) (by omega) (by omega) (by omega) hent).2.2 hel hcn).1
          have hWg36 := hivg36.1
          refine lv_istore (lv' := [(17, .int (iI (m_entCount g + 1))), (16, .int (iI 1)), (0, .ref b), (1, .ref (a 0)), (2, .int (iI hh)), (3, .int (iI jj)), (4, .int (iI paid)), (5, .int (iI printed)), (6, .int (iI called)), (7, .int (iI ((tn : Nat) : Int))), (8, .int x8), (9, .int (iI (g 0 0 4))), (10, .int (iI bk)), (11, .int (iI jd)), (12, .int (iI (g 0 0 9))), (13, .int (iI (g 0 0 8))), (14, .int (iI (m_entCount g))), (15, .int (iI (g 9 0 3)))]) hx hb dL_law_766 hl (by decide) rfl (fun ls hl => ?_)
          refine lv_iload hx hb dL_law_768 (lv_at hl 0 rfl) ?_
          refine n_if_lt hx hb (by unfold RI; omega) (tgt := 790) dL_law_770 (by decide) (fun h37 => absurd h37 (by intro h37; omega)) (fun h37 => ?_)
          refine lv_iload hx hb dL_law_773 (lv_at hl 1 rfl) ?_
          refine n_if_eq hx hb (by unfold RI; omega) (tgt := 801) dL_law_775 (by decide) (fun h38 => absurd h38 (by intro h38; omega)) (fun h38 => ?_)
          refine lv_iload hx hb dL_law_778 (lv_at hl 0 rfl) ?_
          refine lv_iload hx hb dL_law_780 (lv_at hl 16 rfl) ?_
          refine lv_iconst (v := iI 1) hx hb dL_law_782 (by decide) ?_
          refine n_add hx hb dL_law_783 ?_
          refine n_icmp_eq hx hb (by unfold RI; omega) (by unfold RI; omega) (tgt := 803) dL_law_784 (by decide) (fun h39 => ?_) (fun h39 => absurd h39 (by intro h39; omega))
          refine lv_iload hx hb dL_law_803 (lv_at hl 6 rfl) ?_
          refine lv_iload hx hb dL_law_805 (lv_at hl 0 rfl) ?_
          refine n_if_lt hx hb (by unfold RI; omega) (tgt := 817) dL_law_807 (by decide) (fun h40 => absurd h40 (by intro h40; omega)) (fun h40 => ?_)
          refine lv_iload hx hb dL_law_810 (lv_at hl 17 rfl) ?_
          refine lv_iconst (v := iI 2) hx hb dL_law_812 (by decide) ?_
          refine n_div hx hb (by unfold RI; omega) (by unfold RI; omega) (by omega) dL_law_813 ?_
          refine lv_goto (tgt := 818) hx hb dL_law_814 (by decide) ?_
          refine n_add hx hb dL_law_818 ?_
          refine lv_istore (lv' := [(4, .int (iI (paid + ((g 9 0 3).tdiv 2)))), (17, .int (iI (m_entCount g + 1))), (16, .int (iI 1)), (0, .ref b), (1, .ref (a 0)), (2, .int (iI hh)), (3, .int (iI jj)), (5, .int (iI printed)), (6, .int (iI called)), (7, .int (iI ((tn : Nat) : Int))), (8, .int x8), (9, .int (iI (g 0 0 4))), (10, .int (iI bk)), (11, .int (iI jd)), (12, .int (iI (g 0 0 9))), (13, .int (iI (g 0 0 8))), (14, .int (iI (m_entCount g))), (15, .int (iI (g 9 0 3)))]) hx hb dL_law_819 hl (by decide) rfl (fun ls hl => ?_)
          refine lv_iload hx hb dL_law_821 (lv_at hl 8 rfl) ?_
          refine lv_iload hx hb dL_law_823 (lv_at hl 1 rfl) ?_
          refine n_if_lt hx hb (by unfold RI; omega) (tgt := 832) dL_law_825 (by decide) (fun h41 => absurd h41 (by intro h41; omega)) (fun h41 => ?_)
          refine lv_iconst (v := iI 1) hx hb dL_law_828 (by decide) ?_
          refine lv_goto (tgt := 833) hx hb dL_law_829 (by decide) ?_
          refine n_add hx hb dL_law_833 ?_
          refine lv_istore (lv' := [(6, .int (iI (called + 1))), (4, .int (iI (paid + ((g 9 0 3).tdiv 2)))), (17, .int (iI (m_entCount g + 1))), (16, .int (iI 1)), (0, .ref b), (1, .ref (a 0)), (2, .int (iI hh)), (3, .int (iI jj)), (5, .int (iI printed)), (7, .int (iI ((tn : Nat) : Int))), (8, .int x8), (9, .int (iI (g 0 0 4))), (10, .int (iI bk)), (11, .int (iI jd)), (12, .int (iI (g 0 0 9))), (13, .int (iI (g 0 0 8))), (14, .int (iI (m_entCount g))), (15, .int (iI (g 9 0 3)))]) hx hb dL_law_834 hl (by decide) rfl (fun ls hl => ?_)
          refine lv_goto (tgt := 1603) hx hb dL_law_836 (by decide) ?_
          refine W.widen (k := cells + 1) (n := slots + 5) (by omega) (by omega) ?_
          exact kx g36 v35 (paid + ((g 9 0 3).tdiv 2)) printed (called + 1) H locs ls (inv_later hivg36) hP hS (lv_sub hl [4, 5, 6, 7, 1, 8, 0, 9] rfl)
      · skip
        refine lv_goto (tgt := 1603) hx hb dL_law_717 (by decide) ?_
        refine W.widen (k := cells + 1) (n := slots + 5) (by omega) (by omega) ?_
        exact kx g vt paid printed called H locs ls (inv_later hIv) hP hS (lv_sub hl [0, 1, 2, 3, 4, 5, 6, 7] rfl)

set_option maxHeartbeats 4000000 in
set_option maxRecDepth 100000 in
theorem law_enter {p : Program} {l : Launch} {e : Env} {s : State} {m : MethodId} {args : Array Value} {below : List Frame} {meth : Method} {c : Code} {Q : State → Prop} {b : Nat} {D : va_G} {a : Nat → Nat} {cH cB cJ cI : ClassId} (hx : p.tables.exec = Jvm.exec) (hb : c.code = cL_law) (hml : c.maxLocals = 23) (hown : s.vm.findClass RL = some m.cls) (hw : ∀ w ∈ wsL_law0, w.before args s = true) (ha : pj a) (hB : ∀ k, k < 58 → s.heap.size ≤ a k) (hK : va_K D vwCl (pT cH cB cJ cI) s) (hE : ew s) {g : m_St} {vt : Nat → Int32} {hh jj paid printed called : Int} {tn cells slots : Nat} (ht9 : tn < 90) (hcc : cells + 2 ≤ 600074) (hss : slots + 10 ≤ 7301550) (hhh : 2 ≤ hh ∧ hh ≤ 5) (hjj : 3 ≤ jj ∧ jj ≤ 5) (hIv : Iv hh jj ((tn : Nat) : Int) paid printed called g) {x8 : Int32} {bk jd : Int} (hbk : -1 ≤ bk ∧ bk < g 0 0 4) (hjd : 0 ≤ jd ∧ jd < g 0 0 5) {H : Heap} {locs : List Loc} {ls : Array Slot} (hP : va_P D vwCl (pw a cH cB cJ cI g vt) H) (hS : va_S (fun q => s.heap.size ≤ q) s.heap H locs) (hl : lv_has ls 23 [(0, .ref b), (1, .ref (a 0)), (2, .int (iI hh)), (3, .int (iI jj)), (4, .int (iI paid)), (5, .int (iI printed)), (6, .int (iI called)), (7, .int (iI ((tn : Nat) : Int))), (8, .int x8), (9, .int (iI (g 0 0 4))), (10, .int (iI bk)), (11, .int (iI jd)), (12, .int (iI (g 0 0 9))), (13, .int (iI (g 0 0 8))), (14, .int (iI (m_entCount g))), (15, .int (iI (g 9 0 3)))]) (kx : ∀ (g1 : m_St) (v1 : Nat → Int32) (p1 p2 p3 : Int) (H : Heap) (locs : List Loc) (ls : Array Slot), Iv hh jj ((tn : Int) + 1) p1 p2 p3 g1 → va_P D vwCl (pw a cH cB cJ cI g1 v1) H → va_S (fun q => s.heap.size ≤ q) s.heap H locs → lv_has ls 23 [(0, .ref b), (1, .ref (a 0)), (2, .int (iI hh)), (3, .int (iI jj)), (4, .int (iI p1)), (5, .int (iI p2)), (6, .int (iI p3)), (7, .int (iI ((tn : Nat) : Int)))] → W p l e room_1 s m args below meth c H locs (cells + 1) (slots + 5) Q (F0 m 1603 ls [])) : W p l e room_1 s m args below meth c H locs cells slots Q (F0 m 530 ls []) := by
  have hWf : Wf g := hIv.1
  have m3 := Wf.m3 hWf
  have m4 := Wf.m4 hWf
  have m5 := Wf.m5 hWf
  have m8 := Wf.m8 hWf
  have m9 := Wf.m9 hWf
  have m10 := Wf.m10 hWf
  have m11 := Wf.m11 hWf
  have m13 := Wf.m13 hWf
  have m14 := Wf.m14 hWf
  have hS5 := hIv.2.2.2.2.1
  have hsb : ∀ b, m_has (g 0 0 13) b = true → b < g 0 0 4 := fun b hb => (hS5.1 b (hS5.2.1 b hb)).1
  have hN3 : g 0 0 3 = hh := hIv.2.2.2.1.1
  have hN5 : g 0 0 5 = jj := hIv.2.2.2.1.2.1
  have hN8 : 5 * g 0 0 8 + g 0 0 9 ≤ tn := hIv.2.2.2.1.2.2.1
  have hN10 : g 0 0 10 ≤ 6 * tn := hIv.2.2.2.1.2.2.2
  have hA : ∀ q : Nat, s.heap.size ≤ q → (fun q : Nat => s.heap.size ≤ q) q := fun _ h => h
  have hee := ent_b hWf
  refine lv_iload hx hb dL_law_530 (lv_at hl 10 rfl) ?_
  refine n_if_lt hx hb (by unfold RI; omega) (tgt := 1603) dL_law_532 (by decide) (fun h1 => ?_) (fun h1 => ?_)
  · skip
    refine W.widen (k := cells + 1) (n := slots + 5) (by omega) (by omega) ?_
    exact kx g vt paid printed called H locs ls (inv_later hIv) hP hS (lv_sub hl [0, 1, 2, 3, 4, 5, 6, 7] rfl)
  · skip
    refine lv_iload hx hb dL_law_535 (lv_at hl 12 rfl) ?_
    refine n_if_ne hx hb (by unfold RI; omega) (tgt := 1603) dL_law_537 (by decide) (fun h2 => ?_) (fun h2 => ?_)
    · skip
      refine W.widen (k := cells + 1) (n := slots + 5) (by omega) (by omega) ?_
      exact kx g vt paid printed called H locs ls (inv_later hIv) hP hS (lv_sub hl [0, 1, 2, 3, 4, 5, 6, 7] rfl)
    · skip
      refine lv_aload_n hx hb dL_law_540 rfl (lv_at hl 1 rfl) ?_
      refine lv_iload hx hb dL_law_541 (lv_at hl 10 rfl) ?_
      refine lv_bipush (v := iI 6) hx hb dL_law_543 (by decide) ?_
      refine va_calli (va_runV (As := [.int (iI bk), .int (iI 6)]) (rest := []) ⟨hx, hb, hml, hown, hw⟩ (c_ofBook l D a cH cB cJ cI ha g vt H.size bk 6 hWf (by omega) (by omega)) (cwV 2 hw (gA_V kw_206 kw_207 kw_208 kw_2 kw_209) rfl rfl rfl (by decide +kernel) ⟨Nat.le_of_ble_eq_true rfl, Nat.le_of_ble_eq_true rfl⟩) (pS_v (ci := 4) (q0 := 0) rfl pw_0 hP hK hE) rfl rfl hl.1 rfl (lv_room (Nat.le_of_ble_eq_true rfl)) dL_law_545 ⟨rm_c (by omega), rm_s (by omega)⟩) hS (fun q h1 h2 => ro_A h1 h2) (fun q h => ro_F hS hA q h) (fun r u t H1 locs ht hvm hw9 hB9 hz1 hk1 hS => ?_)
      have hw9 : r = (iI (m_ofBook g bk 6)) := hw9
      subst hw9
      have hP := ro_P hP hk1
      generalize H1 = H at hP hS ⊢
      rw [show (m_ofBook g bk 6) = (m_ib (m_ent g bk)) from rfl]
      have f3 := m_ib_b (m_ent g bk)
      refine lv_iconst (v := iI 1) hx hb dL_law_548 (by decide) ?_
      refine n_icmp_ne hx hb (by unfold RI; omega) (by unfold RI; omega) (tgt := 555) dL_law_549 (by decide) (fun h4 => ?_) (fun h4 => ?_)
      · skip
        have hent : m_ent g bk = false := by
          cases e9 : m_ent g bk
          · rfl
          · rw [e9] at h4; exact absurd rfl h4
        have hib0 : m_ib (m_ent g bk) = 0 := by rw [hent]; rfl
        have hqb := quota_b g (g 2 bk 0) m4.1
        have hb0 := Wf.b0 hWf (k := bk) (by omega) (by omega)
        have hH0 := (hIv.2.2.2.2.2.1.1 bk (by omega) (by omega)).1
        have hh1 := Wf.h1 hWf (k := g 2 bk 0) (by omega) (by omega)
        have hu3 := Wf.u3 hWf (k := 0) (by omega) (by omega)
        have hib5 := m_ib_b (m_elig g bk)
        cases hel : m_elig g bk
        · skip
          have hie : m_ib (m_elig g bk) = 0 := by rw [hel]; rfl
          rcases (show m_quota g (g 2 bk 0) ≤ g 1 (g 2 bk 0) 1 ∨ g 1 (g 2 bk 0) 1 < m_quota g (g 2 bk 0) from by omega) with hqu | hqu
          · skip
            have hre : m_enterRet g bk = -2 := by unfold m_enterRet; rw [hel]; rfl
            have hge : m_enter g bk = g := (inv_enter hIv (by omega) (by omega) (by omega) hent).1 hel
            refine lv_aload_n hx hb dL_law_555 rfl (lv_at hl 1 rfl) ?_
            refine lv_iload hx hb dL_law_556 (lv_at hl 10 rfl) ?_
            refine lv_iconst (v := iI 5) hx hb dL_law_558 (by decide) ?_
            refine va_calli (va_runV (As := [.int (iI bk), .int (iI 5)]) (rest := []) ⟨hx, hb, hml, hown, hw⟩ (c_ofBook l D a cH cB cJ cI ha g vt H.size bk 5 hWf (by omega) (by omega)) (cwV 2 hw (gA_V kw_206 kw_207 kw_208 kw_2 kw_209) rfl rfl rfl (by decide +kernel) ⟨Nat.le_of_ble_eq_true rfl, Nat.le_of_ble_eq_true rfl⟩) (pS_v (ci := 4) (q0 := 0) rfl pw_0 hP hK hE) rfl rfl hl.1 rfl (lv_room (Nat.le_of_ble_eq_true rfl)) dL_law_559 ⟨rm_c (by omega), rm_s (by omega)⟩) hS (fun q h1 h2 => ro_A h1 h2) (fun q h => ro_F hS hA q h) (fun r u t H1 locs ht hvm hw9 hB9 hz1 hk1 hS => ?_)
            have hw9 : r = (iI (m_ofBook g bk 5)) := hw9
            subst hw9
            have hP := ro_P hP hk1
            generalize H1 = H at hP hS ⊢
            rw [show (m_ofBook g bk 5) = (m_ib (m_elig g bk)) from rfl]
            have f5 := m_ib_b (m_elig g bk)
            refine lv_iconst (v := iI 1) hx hb dL_law_562 (by decide) ?_
            refine n_icmp_ne hx hb (by unfold RI; omega) (by unfold RI; omega) (tgt := 570) dL_law_563 (by decide) (fun h6 => ?_) (fun h6 => absurd h6 (by intro h6; omega))
            refine lv_iconst (v := iI 0) hx hb dL_law_570 (by decide) ?_
            refine lv_istore (lv' := [(16, .int (iI 0)), (0, .ref b), (1, .ref (a 0)), (2, .int (iI hh)), (3, .int (iI jj)), (4, .int (iI paid)), (5, .int (iI printed)), (6, .int (iI called)), (7, .int (iI ((tn : Nat) : Int))), (8, .int x8), (9, .int (iI (g 0 0 4))), (10, .int (iI bk)), (11, .int (iI jd)), (12, .int (iI (g 0 0 9))), (13, .int (iI (g 0 0 8))), (14, .int (iI (m_entCount g))), (15, .int (iI (g 9 0 3)))]) hx hb dL_law_571 hl (by decide) rfl (fun ls hl => ?_)
            refine lv_aload_n hx hb dL_law_573 rfl (lv_at hl 2 rfl) ?_
            refine lv_iload hx hb dL_law_574 (lv_at hl 11 rfl) ?_
            refine lv_iconst (v := iI 0) hx hb dL_law_576 (by decide) ?_
            refine va_calli (va_runV (As := [.int (iI bk), .int (iI 0)]) (rest := []) ⟨hx, hb, hml, hown, hw⟩ (c_ofBook l D a cH cB cJ cI ha g vt H.size bk 0 hWf (by omega) (by omega)) (cwV 2 hw (gA_V kw_206 kw_207 kw_208 kw_2 kw_209) rfl rfl rfl (by decide +kernel) ⟨Nat.le_of_ble_eq_true rfl, Nat.le_of_ble_eq_true rfl⟩) (pS_v (ci := 4) (q0 := 0) rfl pw_0 hP hK hE) rfl rfl hl.1 rfl (lv_room (Nat.le_of_ble_eq_true rfl)) dL_law_577 ⟨rm_c (by omega), rm_s (by omega)⟩) hS (fun q h1 h2 => ro_A h1 h2) (fun q h => ro_F hS hA q h) (fun r u t H1 locs ht hvm hw9 hB9 hz1 hk1 hS => ?_)
            have hw9 : r = (iI (m_ofBook g bk 0)) := hw9
            subst hw9
            have hP := ro_P hP hk1
            generalize H1 = H at hP hS ⊢
            rw [show (m_ofBook g bk 0) = (g 2 bk 0) from rfl]
            have s7 := Wf.b0 hWf (k := bk) (by omega) (by omega)
            refine lv_istore (lv' := [(17, .int (iI (g 2 bk 0))), (16, .int (iI 0)), (0, .ref b), (1, .ref (a 0)), (2, .int (iI hh)), (3, .int (iI jj)), (4, .int (iI paid)), (5, .int (iI printed)), (6, .int (iI called)), (7, .int (iI ((tn : Nat) : Int))), (8, .int x8), (9, .int (iI (g 0 0 4))), (10, .int (iI bk)), (11, .int (iI jd)), (12, .int (iI (g 0 0 9))), (13, .int (iI (g 0 0 8))), (14, .int (iI (m_entCount g))), (15, .int (iI (g 9 0 3)))]) hx hb dL_law_580 hl (by decide) rfl (fun ls hl => ?_)
            refine lv_aload_n hx hb dL_law_582 rfl (lv_at hl 3 rfl) ?_
            refine lv_iload hx hb dL_law_583 (lv_at hl 0 rfl) ?_
            refine lv_iconst (v := iI 2) hx hb dL_law_585 (by decide) ?_
            refine va_calli (va_runV (As := [.int (iI (g 2 bk 0)), .int (iI 2)]) (rest := []) ⟨hx, hb, hml, hown, hw⟩ (c_ofHouse l D a cH cB cJ cI ha g vt H.size (g 2 bk 0) 2 hWf (by omega) (by omega)) (cwV 2 hw (gA_V kw_262 kw_263 kw_264 kw_2 kw_265) rfl rfl rfl (by decide +kernel) ⟨Nat.le_of_ble_eq_true rfl, Nat.le_of_ble_eq_true rfl⟩) (pS_v (ci := 4) (q0 := 0) rfl pw_0 hP hK hE) rfl rfl hl.1 rfl (lv_room (Nat.le_of_ble_eq_true rfl)) dL_law_586 ⟨rm_c (by omega), rm_s (by omega)⟩) hS (fun q h1 h2 => ro_A h1 h2) (fun q h => ro_F hS hA q h) (fun r u t H1 locs ht hvm hw9 hB9 hz1 hk1 hS => ?_)
            have hw9 : r = (iI (m_ofHouse g (g 2 bk 0) 2)) := hw9
            subst hw9
            have hP := ro_P hP hk1
            generalize H1 = H at hP hS ⊢
            rw [show (m_ofHouse g (g 2 bk 0) 2) = (g 1 (g 2 bk 0) 1) from rfl]
            have s8 := Wf.h1 hWf (k := (g 2 bk 0)) (by omega) (by omega)
            refine lv_aload_n hx hb dL_law_589 rfl (lv_at hl 3 rfl) ?_
            refine lv_iload hx hb dL_law_590 (lv_at hl 0 rfl) ?_
            refine lv_iconst (v := iI 1) hx hb dL_law_592 (by decide) ?_
            refine va_calli (va_runV (As := [.int (iI (g 2 bk 0)), .int (iI 1)]) (rest := [.int (iI (g 1 (g 2 bk 0) 1))]) ⟨hx, hb, hml, hown, hw⟩ (c_ofHouse l D a cH cB cJ cI ha g vt H.size (g 2 bk 0) 1 hWf (by omega) (by omega)) (cwV 2 hw (gA_V kw_262 kw_263 kw_264 kw_2 kw_265) rfl rfl rfl (by decide +kernel) ⟨Nat.le_of_ble_eq_true rfl, Nat.le_of_ble_eq_true rfl⟩) (pS_v (ci := 4) (q0 := 0) rfl pw_0 hP hK hE) rfl rfl hl.1 rfl (lv_room (Nat.le_of_ble_eq_true rfl)) dL_law_593 ⟨rm_c (by omega), rm_s (by omega)⟩) hS (fun q h1 h2 => ro_A h1 h2) (fun q h => ro_F hS hA q h) (fun r u t H1 locs ht hvm hw9 hB9 hz1 hk1 hS => ?_)
            have hw9 : r = (iI (m_ofHouse g (g 2 bk 0) 1)) := hw9
            subst hw9
            have hP := ro_P hP hk1
            generalize H1 = H at hP hS ⊢
            rw [show (m_ofHouse g (g 2 bk 0) 1) = (m_quota g (g 2 bk 0)) from rfl]
            refine n_icmp_ge hx hb (by unfold RI; omega) (by unfold RI; omega) (tgt := 603) dL_law_596 (by decide) (fun h9 => ?_) (fun h9 => absurd h9 (by intro h9; omega))
            refine lv_iconst (v := iI 0) hx hb dL_law_603 (by decide) ?_
            refine lv_istore (lv' := [(18, .int (iI 0)), (17, .int (iI (g 2 bk 0))), (16, .int (iI 0)), (0, .ref b), (1, .ref (a 0)), (2, .int (iI hh)), (3, .int (iI jj)), (4, .int (iI paid)), (5, .int (iI printed)), (6, .int (iI called)), (7, .int (iI ((tn : Nat) : Int))), (8, .int x8), (9, .int (iI (g 0 0 4))), (10, .int (iI bk)), (11, .int (iI jd)), (12, .int (iI (g 0 0 9))), (13, .int (iI (g 0 0 8))), (14, .int (iI (m_entCount g))), (15, .int (iI (g 9 0 3)))]) hx hb dL_law_604 hl (by decide) rfl (fun ls hl => ?_)
            refine lv_aload_n hx hb dL_law_606 rfl (lv_at hl 4 rfl) ?_
            refine lv_iload hx hb dL_law_607 (lv_at hl 13 rfl) ?_
            refine va_calli (va_runV (As := [.int (iI bk)]) (rest := []) ⟨hx, hb, hml, hown, hw⟩ (c_enter l D a cH cB cJ cI ha g vt H.size bk hWf (by omega) (by omega) (by omega)) (cwV 1 hw (gA_V kw_285 kw_286 kw_287 kw_2 kw_288) rfl rfl rfl (by decide +kernel) ⟨Nat.le_of_ble_eq_true rfl, Nat.le_of_ble_eq_true rfl⟩) (pS_v (ci := 4) (q0 := 0) rfl pw_0 hP hK hE) rfl rfl hl.1 rfl (lv_room (Nat.le_of_ble_eq_true rfl)) dL_law_609 ⟨rm_c (by omega), rm_s (by omega)⟩) hS (fun q _ h => rw_A hS hA hB q h) (fun q h => rw_A hS hA hB q h) (fun r u t H1 locs ht hvm hw9 hB9 hz1 hk1 hS => ?_)
            have hw9 : r = (iI (m_enterRet g bk)) := hw9
            subst hw9
            obtain ⟨v10, hP1⟩ := hB9
            rw [ht] at hP1
            obtain ⟨g11, hg11⟩ : ∃ z, z = (m_enter g bk) := ⟨_, rfl⟩
            rw [← hg11] at hP1
            have hP : va_P D vwCl (pw a cH cB cJ cI g11 v10) H1 := hP1
            generalize H1 = H at hP hS ⊢
            rw [show (m_enterRet g bk) = (-2) from hre]
            have hgg : g11 = g := hg11.trans hge
            rw [hgg] at hP
            refine lv_istore (lv' := [(19, .int (iI (-2))), (18, .int (iI 0)), (17, .int (iI (g 2 bk 0))), (16, .int (iI 0)), (0, .ref b), (1, .ref (a 0)), (2, .int (iI hh)), (3, .int (iI jj)), (4, .int (iI paid)), (5, .int (iI printed)), (6, .int (iI called)), (7, .int (iI ((tn : Nat) : Int))), (8, .int x8), (9, .int (iI (g 0 0 4))), (10, .int (iI bk)), (11, .int (iI jd)), (12, .int (iI (g 0 0 9))), (13, .int (iI (g 0 0 8))), (14, .int (iI (m_entCount g))), (15, .int (iI (g 9 0 3)))]) hx hb dL_law_612 hl (by decide) rfl (fun ls hl => ?_)
            refine lv_iload hx hb dL_law_614 (lv_at hl 0 rfl) ?_
            refine lv_iload hx hb dL_law_616 (lv_at hl 3 rfl) ?_
            refine n_if_ne hx hb (by unfold RI; omega) (tgt := 626) dL_law_618 (by decide) (fun h12 => absurd h12 (by intro h12; omega)) (fun h12 => ?_)
            refine lv_bipush (v := iI (-2)) hx hb dL_law_621 (by decide) ?_
            refine lv_goto (tgt := 640) hx hb dL_law_623 (by decide) ?_
            refine n_icmp_ne hx hb (by unfold RI; omega) (by unfold RI; omega) (tgt := 669) dL_law_640 (by decide) (fun h13 => absurd h13 (by intro h13; omega)) (fun h13 => ?_)
            refine lv_aload_n hx hb dL_law_643 rfl (lv_at hl 5 rfl) ?_
            refine lv_iload hx hb dL_law_644 (lv_at hl 14 rfl) ?_
            refine lv_bipush (v := iI 6) hx hb dL_law_646 (by decide) ?_
            refine va_calli (va_runV (As := [.int (iI bk), .int (iI 6)]) (rest := []) ⟨hx, hb, hml, hown, hw⟩ (c_ofBook l D a cH cB cJ cI ha g v10 H.size bk 6 hWf (by omega) (by omega)) (cwV 2 hw (gA_V kw_206 kw_207 kw_208 kw_2 kw_209) rfl rfl rfl (by decide +kernel) ⟨Nat.le_of_ble_eq_true rfl, Nat.le_of_ble_eq_true rfl⟩) (pS_v (ci := 4) (q0 := 0) rfl pw_0 hP hK hE) rfl rfl hl.1 rfl (lv_room (Nat.le_of_ble_eq_true rfl)) dL_law_648 ⟨rm_c (by omega), rm_s (by omega)⟩) hS (fun q h1 h2 => ro_A h1 h2) (fun q h => ro_F hS hA q h) (fun r u t H1 locs ht hvm hw9 hB9 hz1 hk1 hS => ?_)
            have hw9 : r = (iI (m_ofBook g bk 6)) := hw9
            subst hw9
            have hP := ro_P hP hk1
            generalize H1 = H at hP hS ⊢
            rw [show (m_ofBook g bk 6) = (m_ib (m_ent g bk)) from rfl]
            refine lv_iload hx hb dL_law_651 (lv_at hl 3 rfl) ?_
            refine n_if_eq hx hb (by unfold RI; omega) (tgt := 665) dL_law_653 (by decide) (fun h14 => ?_) (fun h14 => absurd h14 (by intro h14; omega))
            refine lv_iconst (v := iI 0) hx hb dL_law_665 (by decide) ?_
            refine n_icmp_eq hx hb (by unfold RI; omega) (by unfold RI; omega) (tgt := 671) dL_law_666 (by decide) (fun h15 => ?_) (fun h15 => absurd h15 (by intro h15; omega))
            refine lv_iload hx hb dL_law_671 (lv_at hl 8 rfl) ?_
            refine lv_iload hx hb dL_law_673 (lv_at hl 3 rfl) ?_
            refine n_if_eq hx hb (by unfold RI; omega) (tgt := 688) dL_law_675 (by decide) (fun h16 => ?_) (fun h16 => absurd h16 (by intro h16; omega))
            refine lv_iconst (v := iI 0) hx hb dL_law_688 (by decide) ?_
            refine n_add hx hb dL_law_689 ?_
            refine lv_istore (lv' := [(4, .int (iI (paid + 0))), (19, .int (iI (-2))), (18, .int (iI 0)), (17, .int (iI (g 2 bk 0))), (16, .int (iI 0)), (0, .ref b), (1, .ref (a 0)), (2, .int (iI hh)), (3, .int (iI jj)), (5, .int (iI printed)), (6, .int (iI called)), (7, .int (iI ((tn : Nat) : Int))), (8, .int x8), (9, .int (iI (g 0 0 4))), (10, .int (iI bk)), (11, .int (iI jd)), (12, .int (iI (g 0 0 9))), (13, .int (iI (g 0 0 8))), (14, .int (iI (m_entCount g))), (15, .int (iI (g 9 0 3)))]) hx hb dL_law_690 hl (by decide) rfl (fun ls hl => ?_)
            refine lv_goto (tgt := 1603) hx hb dL_law_692 (by decide) ?_
            refine W.widen (k := cells + 1) (n := slots + 5) (by omega) (by omega) ?_
            exact kx g v10 (paid + 0) printed called H locs ls (by rw [Int.add_zero]; exact inv_later hIv) hP hS (lv_sub hl [5, 6, 7, 8, 0, 9, 10, 11] rfl)
          · skip
            have hre : m_enterRet g bk = -2 := by unfold m_enterRet; rw [hel]; rfl
            have hge : m_enter g bk = g := (inv_enter hIv (by omega) (by omega) (by omega) hent).1 hel
            refine lv_aload_n hx hb dL_law_555 rfl (lv_at hl 1 rfl) ?_
            refine lv_iload hx hb dL_law_556 (lv_at hl 10 rfl) ?_
            refine lv_iconst (v := iI 5) hx hb dL_law_558 (by decide) ?_
            refine va_calli (va_runV (As := [.int (iI bk), .int (iI 5)]) (rest := []) ⟨hx, hb, hml, hown, hw⟩ (c_ofBook l D a cH cB cJ cI ha g vt H.size bk 5 hWf (by omega) (by omega)) (cwV 2 hw (gA_V kw_206 kw_207 kw_208 kw_2 kw_209) rfl rfl rfl (by decide +kernel) ⟨Nat.le_of_ble_eq_true rfl, Nat.le_of_ble_eq_true rfl⟩) (pS_v (ci := 4) (q0 := 0) rfl pw_0 hP hK hE) rfl rfl hl.1 rfl (lv_room (Nat.le_of_ble_eq_true rfl)) dL_law_559 ⟨rm_c (by omega), rm_s (by omega)⟩) hS (fun q h1 h2 => ro_A h1 h2) (fun q h => ro_F hS hA q h) (fun r u t H1 locs ht hvm hw9 hB9 hz1 hk1 hS => ?_)
            have hw9 : r = (iI (m_ofBook g bk 5)) := hw9
            subst hw9
            have hP := ro_P hP hk1
            generalize H1 = H at hP hS ⊢
            rw [show (m_ofBook g bk 5) = (m_ib (m_elig g bk)) from rfl]
            have f17 := m_ib_b (m_elig g bk)
            refine lv_iconst (v := iI 1) hx hb dL_law_562 (by decide) ?_
            refine n_icmp_ne hx hb (by unfold RI; omega) (by unfold RI; omega) (tgt := 570) dL_law_563 (by decide) (fun h18 => ?_) (fun h18 => absurd h18 (by intro h18; omega))
            refine lv_iconst (v := iI 0) hx hb dL_law_570 (by decide) ?_
            refine lv_istore (lv' := [(16, .int (iI 0)), (0, .ref b), (1, .ref (a 0)), (2, .int (iI hh)), (3, .int (iI jj)), (4, .int (iI paid)), (5, .int (iI printed)), (6, .int (iI called)), (7, .int (iI ((tn : Nat) : Int))), (8, .int x8), (9, .int (iI (g 0 0 4))), (10, .int (iI bk)), (11, .int (iI jd)), (12, .int (iI (g 0 0 9))), (13, .int (iI (g 0 0 8))), (14, .int (iI (m_entCount g))), (15, .int (iI (g 9 0 3)))]) hx hb dL_law_571 hl (by decide) rfl (fun ls hl => ?_)
            refine lv_aload_n hx hb dL_law_573 rfl (lv_at hl 2 rfl) ?_
            refine lv_iload hx hb dL_law_574 (lv_at hl 11 rfl) ?_
            refine lv_iconst (v := iI 0) hx hb dL_law_576 (by decide) ?_
            refine va_calli (va_runV (As := [.int (iI bk), .int (iI 0)]) (rest := []) ⟨hx, hb, hml, hown, hw⟩ (c_ofBook l D a cH cB cJ cI ha g vt H.size bk 0 hWf (by omega) (by omega)) (cwV 2 hw (gA_V kw_206 kw_207 kw_208 kw_2 kw_209) rfl rfl rfl (by decide +kernel) ⟨Nat.le_of_ble_eq_true rfl, Nat.le_of_ble_eq_true rfl⟩) (pS_v (ci := 4) (q0 := 0) rfl pw_0 hP hK hE) rfl rfl hl.1 rfl (lv_room (Nat.le_of_ble_eq_true rfl)) dL_law_577 ⟨rm_c (by omega), rm_s (by omega)⟩) hS (fun q h1 h2 => ro_A h1 h2) (fun q h => ro_F hS hA q h) (fun r u t H1 locs ht hvm hw9 hB9 hz1 hk1 hS => ?_)
            have hw9 : r = (iI (m_ofBook g bk 0)) := hw9
            subst hw9
            have hP := ro_P hP hk1
            generalize H1 = H at hP hS ⊢
            rw [show (m_ofBook g bk 0) = (g 2 bk 0) from rfl]
            have s19 := Wf.b0 hWf (k := bk) (by omega) (by omega)
            refine lv_istore (lv' := [(17, .int (iI (g 2 bk 0))), (16, .int (iI 0)), (0, .ref b), (1, .ref (a 0)), (2, .int (iI hh)), (3, .int (iI jj)), (4, .int (iI paid)), (5, .int (iI printed)), (6, .int (iI called)), (7, .int (iI ((tn : Nat) : Int))), (8, .int x8), (9, .int (iI (g 0 0 4))), (10, .int (iI bk)), (11, .int (iI jd)), (12, .int (iI (g 0 0 9))), (13, .int (iI (g 0 0 8))), (14, .int (iI (m_entCount g))), (15, .int (iI (g 9 0 3)))]) hx hb dL_law_580 hl (by decide) rfl (fun ls hl => ?_)
            refine lv_aload_n hx hb dL_law_582 rfl (lv_at hl 3 rfl) ?_
            refine lv_iload hx hb dL_law_583 (lv_at hl 0 rfl) ?_
            refine lv_iconst (v := iI 2) hx hb dL_law_585 (by decide) ?_
            refine va_calli (va_runV (As := [.int (iI (g 2 bk 0)), .int (iI 2)]) (rest := []) ⟨hx, hb, hml, hown, hw⟩ (c_ofHouse l D a cH cB cJ cI ha g vt H.size (g 2 bk 0) 2 hWf (by omega) (by omega)) (cwV 2 hw (gA_V kw_262 kw_263 kw_264 kw_2 kw_265) rfl rfl rfl (by decide +kernel) ⟨Nat.le_of_ble_eq_true rfl, Nat.le_of_ble_eq_true rfl⟩) (pS_v (ci := 4) (q0 := 0) rfl pw_0 hP hK hE) rfl rfl hl.1 rfl (lv_room (Nat.le_of_ble_eq_true rfl)) dL_law_586 ⟨rm_c (by omega), rm_s (by omega)⟩) hS (fun q h1 h2 => ro_A h1 h2) (fun q h => ro_F hS hA q h) (fun r u t H1 locs ht hvm hw9 hB9 hz1 hk1 hS => ?_)
            have hw9 : r = (iI (m_ofHouse g (g 2 bk 0) 2)) := hw9
            subst hw9
            have hP := ro_P hP hk1
            generalize H1 = H at hP hS ⊢
            rw [show (m_ofHouse g (g 2 bk 0) 2) = (g 1 (g 2 bk 0) 1) from rfl]
            have s20 := Wf.h1 hWf (k := (g 2 bk 0)) (by omega) (by omega)
            refine lv_aload_n hx hb dL_law_589 rfl (lv_at hl 3 rfl) ?_
            refine lv_iload hx hb dL_law_590 (lv_at hl 0 rfl) ?_
            refine lv_iconst (v := iI 1) hx hb dL_law_592 (by decide) ?_
            refine va_calli (va_runV (As := [.int (iI (g 2 bk 0)), .int (iI 1)]) (rest := [.int (iI (g 1 (g 2 bk 0) 1))]) ⟨hx, hb, hml, hown, hw⟩ (c_ofHouse l D a cH cB cJ cI ha g vt H.size (g 2 bk 0) 1 hWf (by omega) (by omega)) (cwV 2 hw (gA_V kw_262 kw_263 kw_264 kw_2 kw_265) rfl rfl rfl (by decide +kernel) ⟨Nat.le_of_ble_eq_true rfl, Nat.le_of_ble_eq_true rfl⟩) (pS_v (ci := 4) (q0 := 0) rfl pw_0 hP hK hE) rfl rfl hl.1 rfl (lv_room (Nat.le_of_ble_eq_true rfl)) dL_law_593 ⟨rm_c (by omega), rm_s (by omega)⟩) hS (fun q h1 h2 => ro_A h1 h2) (fun q h => ro_F hS hA q h) (fun r u t H1 locs ht hvm hw9 hB9 hz1 hk1 hS => ?_)
            have hw9 : r = (iI (m_ofHouse g (g 2 bk 0) 1)) := hw9
            subst hw9
            have hP := ro_P hP hk1
            generalize H1 = H at hP hS ⊢
            rw [show (m_ofHouse g (g 2 bk 0) 1) = (m_quota g (g 2 bk 0)) from rfl]
            refine n_icmp_ge hx hb (by unfold RI; omega) (by unfold RI; omega) (tgt := 603) dL_law_596 (by decide) (fun h21 => absurd h21 (by intro h21; omega)) (fun h21 => ?_)
            refine lv_iconst (v := iI 1) hx hb dL_law_599 (by decide) ?_
            refine lv_goto (tgt := 604) hx hb dL_law_600 (by decide) ?_
            refine lv_istore (lv' := [(18, .int (iI 1)), (17, .int (iI (g 2 bk 0))), (16, .int (iI 0)), (0, .ref b), (1, .ref (a 0)), (2, .int (iI hh)), (3, .int (iI jj)), (4, .int (iI paid)), (5, .int (iI printed)), (6, .int (iI called)), (7, .int (iI ((tn : Nat) : Int))), (8, .int x8), (9, .int (iI (g 0 0 4))), (10, .int (iI bk)), (11, .int (iI jd)), (12, .int (iI (g 0 0 9))), (13, .int (iI (g 0 0 8))), (14, .int (iI (m_entCount g))), (15, .int (iI (g 9 0 3)))]) hx hb dL_law_604 hl (by decide) rfl (fun ls hl => ?_)
            refine lv_aload_n hx hb dL_law_606 rfl (lv_at hl 4 rfl) ?_
            refine lv_iload hx hb dL_law_607 (lv_at hl 13 rfl) ?_
            refine va_calli (va_runV (As := [.int (iI bk)]) (rest := []) ⟨hx, hb, hml, hown, hw⟩ (c_enter l D a cH cB cJ cI ha g vt H.size bk hWf (by omega) (by omega) (by omega)) (cwV 1 hw (gA_V kw_285 kw_286 kw_287 kw_2 kw_288) rfl rfl rfl (by decide +kernel) ⟨Nat.le_of_ble_eq_true rfl, Nat.le_of_ble_eq_true rfl⟩) (pS_v (ci := 4) (q0 := 0) rfl pw_0 hP hK hE) rfl rfl hl.1 rfl (lv_room (Nat.le_of_ble_eq_true rfl)) dL_law_609 ⟨rm_c (by omega), rm_s (by omega)⟩) hS (fun q _ h => rw_A hS hA hB q h) (fun q h => rw_A hS hA hB q h) (fun r u t H1 locs ht hvm hw9 hB9 hz1 hk1 hS => ?_)
            have hw9 : r = (iI (m_enterRet g bk)) := hw9
            subst hw9
            obtain ⟨v22, hP1⟩ := hB9
            rw [ht] at hP1
            obtain ⟨g23, hg23⟩ : ∃ z, z = (m_enter g bk) := ⟨_, rfl⟩
            rw [← hg23] at hP1
            have hP : va_P D vwCl (pw a cH cB cJ cI g23 v22) H1 := hP1
            generalize H1 = H at hP hS ⊢
            rw [show (m_enterRet g bk) = (-2) from hre]
            have hgg : g23 = g := hg23.trans hge
            rw [hgg] at hP
            refine lv_istore (lv' := [(19, .int (iI (-2))), (18, .int (iI 1)), (17, .int (iI (g 2 bk 0))), (16, .int (iI 0)), (0, .ref b), (1, .ref (a 0)), (2, .int (iI hh)), (3, .int (iI jj)), (4, .int (iI paid)), (5, .int (iI printed)), (6, .int (iI called)), (7, .int (iI ((tn : Nat) : Int))), (8, .int x8), (9, .int (iI (g 0 0 4))), (10, .int (iI bk)), (11, .int (iI jd)), (12, .int (iI (g 0 0 9))), (13, .int (iI (g 0 0 8))), (14, .int (iI (m_entCount g))), (15, .int (iI (g 9 0 3)))]) hx hb dL_law_612 hl (by decide) rfl (fun ls hl => ?_)
            refine lv_iload hx hb dL_law_614 (lv_at hl 0 rfl) ?_
            refine lv_iload hx hb dL_law_616 (lv_at hl 3 rfl) ?_
            refine n_if_ne hx hb (by unfold RI; omega) (tgt := 626) dL_law_618 (by decide) (fun h24 => absurd h24 (by intro h24; omega)) (fun h24 => ?_)
            refine lv_bipush (v := iI (-2)) hx hb dL_law_621 (by decide) ?_
            refine lv_goto (tgt := 640) hx hb dL_law_623 (by decide) ?_
            refine n_icmp_ne hx hb (by unfold RI; omega) (by unfold RI; omega) (tgt := 669) dL_law_640 (by decide) (fun h25 => absurd h25 (by intro h25; omega)) (fun h25 => ?_)
            refine lv_aload_n hx hb dL_law_643 rfl (lv_at hl 5 rfl) ?_
            refine lv_iload hx hb dL_law_644 (lv_at hl 14 rfl) ?_
            refine lv_bipush (v := iI 6) hx hb dL_law_646 (by decide) ?_
            refine va_calli (va_runV (As := [.int (iI bk), .int (iI 6)]) (rest := []) ⟨hx, hb, hml, hown, hw⟩ (c_ofBook l D a cH cB cJ cI ha g v22 H.size bk 6 hWf (by omega) (by omega)) (cwV 2 hw (gA_V kw_206 kw_207 kw_208 kw_2 kw_209) rfl rfl rfl (by decide +kernel) ⟨Nat.le_of_ble_eq_true rfl, Nat.le_of_ble_eq_true rfl⟩) (pS_v (ci := 4) (q0 := 0) rfl pw_0 hP hK hE) rfl rfl hl.1 rfl (lv_room (Nat.le_of_ble_eq_true rfl)) dL_law_648 ⟨rm_c (by omega), rm_s (by omega)⟩) hS (fun q h1 h2 => ro_A h1 h2) (fun q h => ro_F hS hA q h) (fun r u t H1 locs ht hvm hw9 hB9 hz1 hk1 hS => ?_)
            have hw9 : r = (iI (m_ofBook g bk 6)) := hw9
            subst hw9
            have hP := ro_P hP hk1
            generalize H1 = H at hP hS ⊢
            rw [show (m_ofBook g bk 6) = (m_ib (m_ent g bk)) from rfl]
            refine lv_iload hx hb dL_law_651 (lv_at hl 3 rfl) ?_
            refine n_if_eq hx hb (by unfold RI; omega) (tgt := 665) dL_law_653 (by decide) (fun h26 => ?_) (fun h26 => absurd h26 (by intro h26; omega))
            refine lv_iconst (v := iI 0) hx hb dL_law_665 (by decide) ?_
            refine n_icmp_eq hx hb (by unfold RI; omega) (by unfold RI; omega) (tgt := 671) dL_law_666 (by decide) (fun h27 => ?_) (fun h27 => absurd h27 (by intro h27; omega))
            refine lv_iload hx hb dL_law_671 (lv_at hl 8 rfl) ?_
            refine lv_iload hx hb dL_law_673 (lv_at hl 3 rfl) ?_
            refine n_if_eq hx hb (by unfold RI; omega) (tgt := 688) dL_law_675 (by decide) (fun h28 => ?_) (fun h28 => absurd h28 (by intro h28; omega))
            refine lv_iconst (v := iI 0) hx hb dL_law_688 (by decide) ?_
            refine n_add hx hb dL_law_689 ?_
            refine lv_istore (lv' := [(4, .int (iI (paid + 0))), (19, .int (iI (-2))), (18, .int (iI 1)), (17, .int (iI (g 2 bk 0))), (16, .int (iI 0)), (0, .ref b), (1, .ref (a 0)), (2, .int (iI hh)), (3, .int (iI jj)), (5, .int (iI printed)), (6, .int (iI called)), (7, .int (iI ((tn : Nat) : Int))), (8, .int x8), (9, .int (iI (g 0 0 4))), (10, .int (iI bk)), (11, .int (iI jd)), (12, .int (iI (g 0 0 9))), (13, .int (iI (g 0 0 8))), (14, .int (iI (m_entCount g))), (15, .int (iI (g 9 0 3)))]) hx hb dL_law_690 hl (by decide) rfl (fun ls hl => ?_)
            refine lv_goto (tgt := 1603) hx hb dL_law_692 (by decide) ?_
            refine W.widen (k := cells + 1) (n := slots + 5) (by omega) (by omega) ?_
            exact kx g v22 (paid + 0) printed called H locs ls (by rw [Int.add_zero]; exact inv_later hIv) hP hS (lv_sub hl [5, 6, 7, 8, 0, 9, 10, 11] rfl)
        · skip
          have hie : m_ib (m_elig g bk) = 1 := by rw [hel]; rfl
          rcases (show m_quota g (g 2 bk 0) ≤ g 1 (g 2 bk 0) 1 ∨ g 1 (g 2 bk 0) 1 < m_quota g (g 2 bk 0) from by omega) with hqu | hqu
          · skip
            have hre : m_enterRet g bk = -3 := by unfold m_enterRet; rw [hel, cond_true, if_pos hqu]
            have hge : m_enter g bk = g := (inv_enter hIv (by omega) (by omega) (by omega) hent).2.1 hel hqu
            refine lv_aload_n hx hb dL_law_555 rfl (lv_at hl 1 rfl) ?_
            refine lv_iload hx hb dL_law_556 (lv_at hl 10 rfl) ?_
            refine lv_iconst (v := iI 5) hx hb dL_law_558 (by decide) ?_
            refine va_calli (va_runV (As := [.int (iI bk), .int (iI 5)]) (rest := []) ⟨hx, hb, hml, hown, hw⟩ (c_ofBook l D a cH cB cJ cI ha g vt H.size bk 5 hWf (by omega) (by omega)) (cwV 2 hw (gA_V kw_206 kw_207 kw_208 kw_2 kw_209) rfl rfl rfl (by decide +kernel) ⟨Nat.le_of_ble_eq_true rfl, Nat.le_of_ble_eq_true rfl⟩) (pS_v (ci := 4) (q0 := 0) rfl pw_0 hP hK hE) rfl rfl hl.1 rfl (lv_room (Nat.le_of_ble_eq_true rfl)) dL_law_559 ⟨rm_c (by omega), rm_s (by omega)⟩) hS (fun q h1 h2 => ro_A h1 h2) (fun q h => ro_F hS hA q h) (fun r u t H1 locs ht hvm hw9 hB9 hz1 hk1 hS => ?_)
            have hw9 : r = (iI (m_ofBook g bk 5)) := hw9
            subst hw9
            have hP := ro_P hP hk1
            generalize H1 = H at hP hS ⊢
            rw [show (m_ofBook g bk 5) = (m_ib (m_elig g bk)) from rfl]
            have f29 := m_ib_b (m_elig g bk)
            refine lv_iconst (v := iI 1) hx hb dL_law_562 (by decide) ?_
            refine n_icmp_ne hx hb (by unfold RI; omega) (by unfold RI; omega) (tgt := 570) dL_law_563 (by decide) (fun h30 => absurd h30 (by intro h30; omega)) (fun h30 => ?_)
            refine lv_iconst (v := iI 1) hx hb dL_law_566 (by decide) ?_
            refine lv_goto (tgt := 571) hx hb dL_law_567 (by decide) ?_
            refine lv_istore (lv' := [(16, .int (iI 1)), (0, .ref b), (1, .ref (a 0)), (2, .int (iI hh)), (3, .int (iI jj)), (4, .int (iI paid)), (5, .int (iI printed)), (6, .int (iI called)), (7, .int (iI ((tn : Nat) : Int))), (8, .int x8), (9, .int (iI (g 0 0 4))), (10, .int (iI bk)), (11, .int (iI jd)), (12, .int (iI (g 0 0 9))), (13, .int (iI (g 0 0 8))), (14, .int (iI (m_entCount g))), (15, .int (iI (g 9 0 3)))]) hx hb dL_law_571 hl (by decide) rfl (fun ls hl => ?_)
            refine lv_aload_n hx hb dL_law_573 rfl (lv_at hl 2 rfl) ?_
            refine lv_iload hx hb dL_law_574 (lv_at hl 11 rfl) ?_
            refine lv_iconst (v := iI 0) hx hb dL_law_576 (by decide) ?_
            refine va_calli (va_runV (As := [.int (iI bk), .int (iI 0)]) (rest := []) ⟨hx, hb, hml, hown, hw⟩ (c_ofBook l D a cH cB cJ cI ha g vt H.size bk 0 hWf (by omega) (by omega)) (cwV 2 hw (gA_V kw_206 kw_207 kw_208 kw_2 kw_209) rfl rfl rfl (by decide +kernel) ⟨Nat.le_of_ble_eq_true rfl, Nat.le_of_ble_eq_true rfl⟩) (pS_v (ci := 4) (q0 := 0) rfl pw_0 hP hK hE) rfl rfl hl.1 rfl (lv_room (Nat.le_of_ble_eq_true rfl)) dL_law_577 ⟨rm_c (by omega), rm_s (by omega)⟩) hS (fun q h1 h2 => ro_A h1 h2) (fun q h => ro_F hS hA q h) (fun r u t H1 locs ht hvm hw9 hB9 hz1 hk1 hS => ?_)
            have hw9 : r = (iI (m_ofBook g bk 0)) := hw9
            subst hw9
            have hP := ro_P hP hk1
            generalize H1 = H at hP hS ⊢
            rw [show (m_ofBook g bk 0) = (g 2 bk 0) from rfl]
            have s31 := Wf.b0 hWf (k := bk) (by omega) (by omega)
            refine lv_istore (lv' := [(17, .int (iI (g 2 bk 0))), (16, .int (iI 1)), (0, .ref b), (1, .ref (a 0)), (2, .int (iI hh)), (3, .int (iI jj)), (4, .int (iI paid)), (5, .int (iI printed)), (6, .int (iI called)), (7, .int (iI ((tn : Nat) : Int))), (8, .int x8), (9, .int (iI (g 0 0 4))), (10, .int (iI bk)), (11, .int (iI jd)), (12, .int (iI (g 0 0 9))), (13, .int (iI (g 0 0 8))), (14, .int (iI (m_entCount g))), (15, .int (iI (g 9 0 3)))]) hx hb dL_law_580 hl (by decide) rfl (fun ls hl => ?_)
            refine lv_aload_n hx hb dL_law_582 rfl (lv_at hl 3 rfl) ?_
            refine lv_iload hx hb dL_law_583 (lv_at hl 0 rfl) ?_
            refine lv_iconst (v := iI 2) hx hb dL_law_585 (by decide) ?_
            refine va_calli (va_runV (As := [.int (iI (g 2 bk 0)), .int (iI 2)]) (rest := []) ⟨hx, hb, hml, hown, hw⟩ (c_ofHouse l D a cH cB cJ cI ha g vt H.size (g 2 bk 0) 2 hWf (by omega) (by omega)) (cwV 2 hw (gA_V kw_262 kw_263 kw_264 kw_2 kw_265) rfl rfl rfl (by decide +kernel) ⟨Nat.le_of_ble_eq_true rfl, Nat.le_of_ble_eq_true rfl⟩) (pS_v (ci := 4) (q0 := 0) rfl pw_0 hP hK hE) rfl rfl hl.1 rfl (lv_room (Nat.le_of_ble_eq_true rfl)) dL_law_586 ⟨rm_c (by omega), rm_s (by omega)⟩) hS (fun q h1 h2 => ro_A h1 h2) (fun q h => ro_F hS hA q h) (fun r u t H1 locs ht hvm hw9 hB9 hz1 hk1 hS => ?_)
            have hw9 : r = (iI (m_ofHouse g (g 2 bk 0) 2)) := hw9
            subst hw9
            have hP := ro_P hP hk1
            generalize H1 = H at hP hS ⊢
            rw [show (m_ofHouse g (g 2 bk 0) 2) = (g 1 (g 2 bk 0) 1) from rfl]
            have s32 := Wf.h1 hWf (k := (g 2 bk 0)) (by omega) (by omega)
            refine lv_aload_n hx hb dL_law_589 rfl (lv_at hl 3 rfl) ?_
            refine lv_iload hx hb dL_law_590 (lv_at hl 0 rfl) ?_
            refine lv_iconst (v := iI 1) hx hb dL_law_592 (by decide) ?_
            refine va_calli (va_runV (As := [.int (iI (g 2 bk 0)), .int (iI 1)]) (rest := [.int (iI (g 1 (g 2 bk 0) 1))]) ⟨hx, hb, hml, hown, hw⟩ (c_ofHouse l D a cH cB cJ cI ha g vt H.size (g 2 bk 0) 1 hWf (by omega) (by omega)) (cwV 2 hw (gA_V kw_262 kw_263 kw_264 kw_2 kw_265) rfl rfl rfl (by decide +kernel) ⟨Nat.le_of_ble_eq_true rfl, Nat.le_of_ble_eq_true rfl⟩) (pS_v (ci := 4) (q0 := 0) rfl pw_0 hP hK hE) rfl rfl hl.1 rfl (lv_room (Nat.le_of_ble_eq_true rfl)) dL_law_593 ⟨rm_c (by omega), rm_s (by omega)⟩) hS (fun q h1 h2 => ro_A h1 h2) (fun q h => ro_F hS hA q h) (fun r u t H1 locs ht hvm hw9 hB9 hz1 hk1 hS => ?_)
            have hw9 : r = (iI (m_ofHouse g (g 2 bk 0) 1)) := hw9
            subst hw9
            have hP := ro_P hP hk1
            generalize H1 = H at hP hS ⊢
            rw [show (m_ofHouse g (g 2 bk 0) 1) = (m_quota g (g 2 bk 0)) from rfl]
            refine n_icmp_ge hx hb (by unfold RI; omega) (by unfold RI; omega) (tgt := 603) dL_law_596 (by decide) (fun h33 => ?_) (fun h33 => absurd h33 (by intro h33; omega))
            refine lv_iconst (v := iI 0) hx hb dL_law_603 (by decide) ?_
            refine lv_istore (lv' := [(18, .int (iI 0)), (17, .int (iI (g 2 bk 0))), (16, .int (iI 1)), (0, .ref b), (1, .ref (a 0)), (2, .int (iI hh)), (3, .int (iI jj)), (4, .int (iI paid)), (5, .int (iI printed)), (6, .int (iI called)), (7, .int (iI ((tn : Nat) : Int))), (8, .int x8), (9, .int (iI (g 0 0 4))), (10, .int (iI bk)), (11, .int (iI jd)), (12, .int (iI (g 0 0 9))), (13, .int (iI (g 0 0 8))), (14, .int (iI (m_entCount g))), (15, .int (iI (g 9 0 3)))]) hx hb dL_law_604 hl (by decide) rfl (fun ls hl => ?_)
            refine lv_aload_n hx hb dL_law_606 rfl (lv_at hl 4 rfl) ?_
            refine lv_iload hx hb dL_law_607 (lv_at hl 13 rfl) ?_
            refine va_calli (va_runV (As := [.int (iI bk)]) (rest := []) ⟨hx, hb, hml, hown, hw⟩ (c_enter l D a cH cB cJ cI ha g vt H.size bk hWf (by omega) (by omega) (by omega)) (cwV 1 hw (gA_V kw_285 kw_286 kw_287 kw_2 kw_288) rfl rfl rfl (by decide +kernel) ⟨Nat.le_of_ble_eq_true rfl, Nat.le_of_ble_eq_true rfl⟩) (pS_v (ci := 4) (q0 := 0) rfl pw_0 hP hK hE) rfl rfl hl.1 rfl (lv_room (Nat.le_of_ble_eq_true rfl)) dL_law_609 ⟨rm_c (by omega), rm_s (by omega)⟩) hS (fun q _ h => rw_A hS hA hB q h) (fun q h => rw_A hS hA hB q h) (fun r u t H1 locs ht hvm hw9 hB9 hz1 hk1 hS => ?_)
            have hw9 : r = (iI (m_enterRet g bk)) := hw9
            subst hw9
            obtain ⟨v34, hP1⟩ := hB9
            rw [ht] at hP1
            obtain ⟨g35, hg35⟩ : ∃ z, z = (m_enter g bk) := ⟨_, rfl⟩
            rw [← hg35] at hP1
            have hP : va_P D vwCl (pw a cH cB cJ cI g35 v34) H1 := hP1
            generalize H1 = H at hP hS ⊢
            rw [show (m_enterRet g bk) = (-3) from hre]
            have hgg : g35 = g := hg35.trans hge
            rw [hgg] at hP
            refine lv_istore (lv' := [(19, .int (iI (-3))), (18, .int (iI 0)), (17, .int (iI (g 2 bk 0))), (16, .int (iI 1)), (0, .ref b), (1, .ref (a 0)), (2, .int (iI hh)), (3, .int (iI jj)), (4, .int (iI paid)), (5, .int (iI printed)), (6, .int (iI called)), (7, .int (iI ((tn : Nat) : Int))), (8, .int x8), (9, .int (iI (g 0 0 4))), (10, .int (iI bk)), (11, .int (iI jd)), (12, .int (iI (g 0 0 9))), (13, .int (iI (g 0 0 8))), (14, .int (iI (m_entCount g))), (15, .int (iI (g 9 0 3)))]) hx hb dL_law_612 hl (by decide) rfl (fun ls hl => ?_)
            refine lv_iload hx hb dL_law_614 (lv_at hl 0 rfl) ?_
            refine lv_iload hx hb dL_law_616 (lv_at hl 3 rfl) ?_
            refine n_if_ne hx hb (by unfold RI; omega) (tgt := 626) dL_law_618 (by decide) (fun h36 => ?_) (fun h36 => absurd h36 (by intro h36; omega))
            refine lv_iload hx hb dL_law_626 (lv_at hl 1 rfl) ?_
            refine n_if_eq hx hb (by unfold RI; omega) (tgt := 638) dL_law_628 (by decide) (fun h37 => ?_) (fun h37 => absurd h37 (by intro h37; omega))
            refine lv_bipush (v := iI (-3)) hx hb dL_law_638 (by decide) ?_
            refine n_icmp_ne hx hb (by unfold RI; omega) (by unfold RI; omega) (tgt := 669) dL_law_640 (by decide) (fun h38 => absurd h38 (by intro h38; omega)) (fun h38 => ?_)
            refine lv_aload_n hx hb dL_law_643 rfl (lv_at hl 5 rfl) ?_
            refine lv_iload hx hb dL_law_644 (lv_at hl 14 rfl) ?_
            refine lv_bipush (v := iI 6) hx hb dL_law_646 (by decide) ?_
            refine va_calli (va_runV (As := [.int (iI bk), .int (iI 6)]) (rest := []) ⟨hx, hb, hml, hown, hw⟩ (c_ofBook l D a cH cB cJ cI ha g v34 H.size bk 6 hWf (by omega) (by omega)) (cwV 2 hw (gA_V kw_206 kw_207 kw_208 kw_2 kw_209) rfl rfl rfl (by decide +kernel) ⟨Nat.le_of_ble_eq_true rfl, Nat.le_of_ble_eq_true rfl⟩) (pS_v (ci := 4) (q0 := 0) rfl pw_0 hP hK hE) rfl rfl hl.1 rfl (lv_room (Nat.le_of_ble_eq_true rfl)) dL_law_648 ⟨rm_c (by omega), rm_s (by omega)⟩) hS (fun q h1 h2 => ro_A h1 h2) (fun q h => ro_F hS hA q h) (fun r u t H1 locs ht hvm hw9 hB9 hz1 hk1 hS => ?_)
            have hw9 : r = (iI (m_ofBook g bk 6)) := hw9
            subst hw9
            have hP := ro_P hP hk1
            generalize H1 = H at hP hS ⊢
            rw [show (m_ofBook g bk 6) = (m_ib (m_ent g bk)) from rfl]
            refine lv_iload hx hb dL_law_651 (lv_at hl 3 rfl) ?_
            refine n_if_eq hx hb (by unfold RI; omega) (tgt := 665) dL_law_653 (by decide) (fun h39 => absurd h39 (by intro h39; omega)) (fun h39 => ?_)
            refine lv_iload hx hb dL_law_656 (lv_at hl 1 rfl) ?_
            refine n_if_eq hx hb (by unfold RI; omega) (tgt := 665) dL_law_658 (by decide) (fun h40 => ?_) (fun h40 => absurd h40 (by intro h40; omega))
            refine lv_iconst (v := iI 0) hx hb dL_law_665 (by decide) ?_
            refine n_icmp_eq hx hb (by unfold RI; omega) (by unfold RI; omega) (tgt := 671) dL_law_666 (by decide) (fun h41 => ?_) (fun h41 => absurd h41 (by intro h41; omega))
            refine lv_iload hx hb dL_law_671 (lv_at hl 8 rfl) ?_
            refine lv_iload hx hb dL_law_673 (lv_at hl 3 rfl) ?_
            refine n_if_eq hx hb (by unfold RI; omega) (tgt := 688) dL_law_675 (by decide) (fun h42 => absurd h42 (by intro h42; omega)) (fun h42 => ?_)
            refine lv_iload hx hb dL_law_678 (lv_at hl 1 rfl) ?_
            refine n_if_eq hx hb (by unfold RI; omega) (tgt := 688) dL_law_680 (by decide) (fun h43 => ?_) (fun h43 => absurd h43 (by intro h43; omega))
            refine lv_iconst (v := iI 0) hx hb dL_law_688 (by decide) ?_
            refine n_add hx hb dL_law_689 ?_
            refine lv_istore (lv' := [(4, .int (iI (paid + 0))), (19, .int (iI (-3))), (18, .int (iI 0)), (17, .int (iI (g 2 bk 0))), (16, .int (iI 1)), (0, .ref b), (1, .ref (a 0)), (2, .int (iI hh)), (3, .int (iI jj)), (5, .int (iI printed)), (6, .int (iI called)), (7, .int (iI ((tn : Nat) : Int))), (8, .int x8), (9, .int (iI (g 0 0 4))), (10, .int (iI bk)), (11, .int (iI jd)), (12, .int (iI (g 0 0 9))), (13, .int (iI (g 0 0 8))), (14, .int (iI (m_entCount g))), (15, .int (iI (g 9 0 3)))]) hx hb dL_law_690 hl (by decide) rfl (fun ls hl => ?_)
            refine lv_goto (tgt := 1603) hx hb dL_law_692 (by decide) ?_
            refine W.widen (k := cells + 1) (n := slots + 5) (by omega) (by omega) ?_
            exact kx g v34 (paid + 0) printed called H locs ls (by rw [Int.add_zero]; exact inv_later hIv) hP hS (lv_sub hl [5, 6, 7, 8, 0, 9, 10, 11] rfl)
          · skip
            have hre : m_enterRet g bk = m_entCount g + 1 := by unfold m_enterRet; rw [hel, cond_true, if_neg (by omega)]; exact ((inv_enter hIv (by omega) (by omega) (by omega) hent).2.2 hel hqu).2.1
            refine lv_aload_n hx hb dL_law_555 rfl (lv_at hl 1 rfl) ?_
            refine lv_iload hx hb dL_law_556 (lv_at hl 10 rfl) ?_
            refine lv_iconst (v := iI 5) hx hb dL_law_558 (by decide) ?_
            refine va_calli (va_runV (As := [.int (iI bk), .int (iI 5)]) (rest := []) ⟨hx, hb, hml, hown, hw⟩ (c_ofBook l D a cH cB cJ cI ha g vt H.size bk 5 hWf (by omega) (by omega)) (cwV 2 hw (gA_V kw_206 kw_207 kw_208 kw_2 kw_209) rfl rfl rfl (by decide +kernel) ⟨Nat.le_of_ble_eq_true rfl, Nat.le_of_ble_eq_true rfl⟩) (pS_v (ci := 4) (q0 := 0) rfl pw_0 hP hK hE) rfl rfl hl.1 rfl (lv_room (Nat.le_of_ble_eq_true rfl)) dL_law_559 ⟨rm_c (by omega), rm_s (by omega)⟩) hS (fun q h1 h2 => ro_A h1 h2) (fun q h => ro_F hS hA q h) (fun r u t H1 locs ht hvm hw9 hB9 hz1 hk1 hS => ?_)
            have hw9 : r = (iI (m_ofBook g bk 5)) := hw9
            subst hw9
            have hP := ro_P hP hk1
            generalize H1 = H at hP hS ⊢
            rw [show (m_ofBook g bk 5) = (m_ib (m_elig g bk)) from rfl]
            have f44 := m_ib_b (m_elig g bk)
            refine lv_iconst (v := iI 1) hx hb dL_law_562 (by decide) ?_
            refine n_icmp_ne hx hb (by unfold RI; omega) (by unfold RI; omega) (tgt := 570) dL_law_563 (by decide) (fun h45 => absurd h45 (by intro h45; omega)) (fun h45 => ?_)
            refine lv_iconst (v := iI 1) hx hb dL_law_566 (by decide) ?_
            refine lv_goto (tgt := 571) hx hb dL_law_567 (by decide) ?_
            refine lv_istore (lv' := [(16, .int (iI 1)), (0, .ref b), (1, .ref (a 0)), (2, .int (iI hh)), (3, .int (iI jj)), (4, .int (iI paid)), (5, .int (iI printed)), (6, .int (iI called)), (7, .int (iI ((tn : Nat) : Int))), (8, .int x8), (9, .int (iI (g 0 0 4))), (10, .int (iI bk)), (11, .int (iI jd)), (12, .int (iI (g 0 0 9))), (13, .int (iI (g 0 0 8))), (14, .int (iI (m_entCount g))), (15, .int (iI (g 9 0 3)))]) hx hb dL_law_571 hl (by decide) rfl (fun ls hl => ?_)
            refine lv_aload_n hx hb dL_law_573 rfl (lv_at hl 2 rfl) ?_
            refine lv_iload hx hb dL_law_574 (lv_at hl 11 rfl) ?_
            refine lv_iconst (v := iI 0) hx hb dL_law_576 (by decide) ?_
            refine va_calli (va_runV (As := [.int (iI bk), .int (iI 0)]) (rest := []) ⟨hx, hb, hml, hown, hw⟩ (c_ofBook l D a cH cB cJ cI ha g vt H.size bk 0 hWf (by omega) (by omega)) (cwV 2 hw (gA_V kw_206 kw_207 kw_208 kw_2 kw_209) rfl rfl rfl (by decide +kernel) ⟨Nat.le_of_ble_eq_true rfl, Nat.le_of_ble_eq_true rfl⟩) (pS_v (ci := 4) (q0 := 0) rfl pw_0 hP hK hE) rfl rfl hl.1 rfl (lv_room (Nat.le_of_ble_eq_true rfl)) dL_law_577 ⟨rm_c (by omega), rm_s (by omega)⟩) hS (fun q h1 h2 => ro_A h1 h2) (fun q h => ro_F hS hA q h) (fun r u t H1 locs ht hvm hw9 hB9 hz1 hk1 hS => ?_)
            have hw9 : r = (iI (m_ofBook g bk 0)) := hw9
            subst hw9
            have hP := ro_P hP hk1
            generalize H1 = H at hP hS ⊢
            rw [show (m_ofBook g bk 0) = (g 2 bk 0) from rfl]
            have s46 := Wf.b0 hWf (k := bk) (by omega) (by omega)
            refine lv_istore (lv' := [(17, .int (iI (g 2 bk 0))), (16, .int (iI 1)), (0, .ref b), (1, .ref (a 0)), (2, .int (iI hh)), (3, .int (iI jj)), (4, .int (iI paid)), (5, .int (iI printed)), (6, .int (iI called)), (7, .int (iI ((tn : Nat) : Int))), (8, .int x8), (9, .int (iI (g 0 0 4))), (10, .int (iI bk)), (11, .int (iI jd)), (12, .int (iI (g 0 0 9))), (13, .int (iI (g 0 0 8))), (14, .int (iI (m_entCount g))), (15, .int (iI (g 9 0 3)))]) hx hb dL_law_580 hl (by decide) rfl (fun ls hl => ?_)
            refine lv_aload_n hx hb dL_law_582 rfl (lv_at hl 3 rfl) ?_
            refine lv_iload hx hb dL_law_583 (lv_at hl 0 rfl) ?_
            refine lv_iconst (v := iI 2) hx hb dL_law_585 (by decide) ?_
            refine va_calli (va_runV (As := [.int (iI (g 2 bk 0)), .int (iI 2)]) (rest := []) ⟨hx, hb, hml, hown, hw⟩ (c_ofHouse l D a cH cB cJ cI ha g vt H.size (g 2 bk 0) 2 hWf (by omega) (by omega)) (cwV 2 hw (gA_V kw_262 kw_263 kw_264 kw_2 kw_265) rfl rfl rfl (by decide +kernel) ⟨Nat.le_of_ble_eq_true rfl, Nat.le_of_ble_eq_true rfl⟩) (pS_v (ci := 4) (q0 := 0) rfl pw_0 hP hK hE) rfl rfl hl.1 rfl (lv_room (Nat.le_of_ble_eq_true rfl)) dL_law_586 ⟨rm_c (by omega), rm_s (by omega)⟩) hS (fun q h1 h2 => ro_A h1 h2) (fun q h => ro_F hS hA q h) (fun r u t H1 locs ht hvm hw9 hB9 hz1 hk1 hS => ?_)
            have hw9 : r = (iI (m_ofHouse g (g 2 bk 0) 2)) := hw9
            subst hw9
            have hP := ro_P hP hk1
            generalize H1 = H at hP hS ⊢
            rw [show (m_ofHouse g (g 2 bk 0) 2) = (g 1 (g 2 bk 0) 1) from rfl]
            have s47 := Wf.h1 hWf (k := (g 2 bk 0)) (by omega) (by omega)
            refine lv_aload_n hx hb dL_law_589 rfl (lv_at hl 3 rfl) ?_
            refine lv_iload hx hb dL_law_590 (lv_at hl 0 rfl) ?_
            refine lv_iconst (v := iI 1) hx hb dL_law_592 (by decide) ?_
            refine va_calli (va_runV (As := [.int (iI (g 2 bk 0)), .int (iI 1)]) (rest := [.int (iI (g 1 (g 2 bk 0) 1))]) ⟨hx, hb, hml, hown, hw⟩ (c_ofHouse l D a cH cB cJ cI ha g vt H.size (g 2 bk 0) 1 hWf (by omega) (by omega)) (cwV 2 hw (gA_V kw_262 kw_263 kw_264 kw_2 kw_265) rfl rfl rfl (by decide +kernel) ⟨Nat.le_of_ble_eq_true rfl, Nat.le_of_ble_eq_true rfl⟩) (pS_v (ci := 4) (q0 := 0) rfl pw_0 hP hK hE) rfl rfl hl.1 rfl (lv_room (Nat.le_of_ble_eq_true rfl)) dL_law_593 ⟨rm_c (by omega), rm_s (by omega)⟩) hS (fun q h1 h2 => ro_A h1 h2) (fun q h => ro_F hS hA q h) (fun r u t H1 locs ht hvm hw9 hB9 hz1 hk1 hS => ?_)
            have hw9 : r = (iI (m_ofHouse g (g 2 bk 0) 1)) := hw9
            subst hw9
            have hP := ro_P hP hk1
            generalize H1 = H at hP hS ⊢
            rw [show (m_ofHouse g (g 2 bk 0) 1) = (m_quota g (g 2 bk 0)) from rfl]
            refine n_icmp_ge hx hb (by unfold RI; omega) (by unfold RI; omega) (tgt := 603) dL_law_596 (by decide) (fun h48 => absurd h48 (by intro h48; omega)) (fun h48 => ?_)
            refine lv_iconst (v := iI 1) hx hb dL_law_599 (by decide) ?_
            refine lv_goto (tgt := 604) hx hb dL_law_600 (by decide) ?_
            refine lv_istore (lv' := [(18, .int (iI 1)), (17, .int (iI (g 2 bk 0))), (16, .int (iI 1)), (0, .ref b), (1, .ref (a 0)), (2, .int (iI hh)), (3, .int (iI jj)), (4, .int (iI paid)), (5, .int (iI printed)), (6, .int (iI called)), (7, .int (iI ((tn : Nat) : Int))), (8, .int x8), (9, .int (iI (g 0 0 4))), (10, .int (iI bk)), (11, .int (iI jd)), (12, .int (iI (g 0 0 9))), (13, .int (iI (g 0 0 8))), (14, .int (iI (m_entCount g))), (15, .int (iI (g 9 0 3)))]) hx hb dL_law_604 hl (by decide) rfl (fun ls hl => ?_)
            refine lv_aload_n hx hb dL_law_606 rfl (lv_at hl 4 rfl) ?_
            refine lv_iload hx hb dL_law_607 (lv_at hl 13 rfl) ?_
            refine va_calli (va_runV (As := [.int (iI bk)]) (rest := []) ⟨hx, hb, hml, hown, hw⟩ (c_enter l D a cH cB cJ cI ha g vt H.size bk hWf (by omega) (by omega) (by omega)) (cwV 1 hw (gA_V kw_285 kw_286 kw_287 kw_2 kw_288) rfl rfl rfl (by decide +kernel) ⟨Nat.le_of_ble_eq_true rfl, Nat.le_of_ble_eq_true rfl⟩) (pS_v (ci := 4) (q0 := 0) rfl pw_0 hP hK hE) rfl rfl hl.1 rfl (lv_room (Nat.le_of_ble_eq_true rfl)) dL_law_609 ⟨rm_c (by omega), rm_s (by omega)⟩) hS (fun q _ h => rw_A hS hA hB q h) (fun q h => rw_A hS hA hB q h) (fun r u t H1 locs ht hvm hw9 hB9 hz1 hk1 hS => ?_)
            have hw9 : r = (iI (m_enterRet g bk)) := hw9
            subst hw9
            obtain ⟨v49, hP1⟩ := hB9
            rw [ht] at hP1
            obtain ⟨g50, hg50⟩ : ∃ z, z = (m_enter g bk) := ⟨_, rfl⟩
            rw [← hg50] at hP1
            have hP : va_P D vwCl (pw a cH cB cJ cI g50 v49) H1 := hP1
            generalize H1 = H at hP hS ⊢
            rw [show (m_enterRet g bk) = (m_entCount g + 1) from hre]
            have hivg50 : Iv hh jj ((tn : Nat) : Int) (paid + g 9 0 3) printed called g50 := by rw [hg50]; exact ((inv_enter hIv (by omega) (by omega) (by omega) hent).2.2 hel hqu).1
            have hWg50 := hivg50.1
            have hn4g50 : g50 0 0 4 = g 0 0 4 := by rw [hg50]; exact enter_4 g bk
            have hie1 : m_ib (m_ent g50 bk) = 1 := by rw [hg50, ((inv_enter hIv (by omega) (by omega) (by omega) hent).2.2 hel hqu).2.2]; rfl
            refine lv_istore (lv' := [(19, .int (iI (m_entCount g + 1))), (18, .int (iI 1)), (17, .int (iI (g 2 bk 0))), (16, .int (iI 1)), (0, .ref b), (1, .ref (a 0)), (2, .int (iI hh)), (3, .int (iI jj)), (4, .int (iI paid)), (5, .int (iI printed)), (6, .int (iI called)), (7, .int (iI ((tn : Nat) : Int))), (8, .int x8), (9, .int (iI (g 0 0 4))), (10, .int (iI bk)), (11, .int (iI jd)), (12, .int (iI (g 0 0 9))), (13, .int (iI (g 0 0 8))), (14, .int (iI (m_entCount g))), (15, .int (iI (g 9 0 3)))]) hx hb dL_law_612 hl (by decide) rfl (fun ls hl => ?_)
            refine lv_iload hx hb dL_law_614 (lv_at hl 0 rfl) ?_
            refine lv_iload hx hb dL_law_616 (lv_at hl 3 rfl) ?_
            refine n_if_ne hx hb (by unfold RI; omega) (tgt := 626) dL_law_618 (by decide) (fun h51 => ?_) (fun h51 => absurd h51 (by intro h51; omega))
            refine lv_iload hx hb dL_law_626 (lv_at hl 1 rfl) ?_
            refine n_if_eq hx hb (by unfold RI; omega) (tgt := 638) dL_law_628 (by decide) (fun h52 => absurd h52 (by intro h52; omega)) (fun h52 => ?_)
            refine lv_iload hx hb dL_law_631 (lv_at hl 18 rfl) ?_
            refine lv_iconst (v := iI 1) hx hb dL_law_633 (by decide) ?_
            refine n_add hx hb dL_law_634 ?_
            refine lv_goto (tgt := 640) hx hb dL_law_635 (by decide) ?_
            refine n_icmp_ne hx hb (by unfold RI; omega) (by unfold RI; omega) (tgt := 669) dL_law_640 (by decide) (fun h53 => absurd h53 (by intro h53; omega)) (fun h53 => ?_)
            refine lv_aload_n hx hb dL_law_643 rfl (lv_at hl 5 rfl) ?_
            refine lv_iload hx hb dL_law_644 (lv_at hl 14 rfl) ?_
            refine lv_bipush (v := iI 6) hx hb dL_law_646 (by decide) ?_
            refine va_calli (va_runV (As := [.int (iI bk), .int (iI 6)]) (rest := []) ⟨hx, hb, hml, hown, hw⟩ (c_ofBook l D a cH cB cJ cI ha g50 v49 H.size bk 6 hWg50 (by omega) (by omega)) (cwV 2 hw (gA_V kw_206 kw_207 kw_208 kw_2 kw_209) rfl rfl rfl (by decide +kernel) ⟨Nat.le_of_ble_eq_true rfl, Nat.le_of_ble_eq_true rfl⟩) (pS_v (ci := 4) (q0 := 0) rfl pw_0 hP hK hE) rfl rfl hl.1 rfl (lv_room (Nat.le_of_ble_eq_true rfl)) dL_law_648 ⟨rm_c (by omega), rm_s (by omega)⟩) hS (fun q h1 h2 => ro_A h1 h2) (fun q h => ro_F hS hA q h) (fun r u t H1 locs ht hvm hw9 hB9 hz1 hk1 hS => ?_)
            have hw9 : r = (iI (m_ofBook g50 bk 6)) := hw9
            subst hw9
            have hP := ro_P hP hk1
            generalize H1 = H at hP hS ⊢
            rw [show (m_ofBook g50 bk 6) = (m_ib (m_ent g50 bk)) from rfl]
            have f54 := m_ib_b (m_ent g50 bk)
            refine lv_iload hx hb dL_law_651 (lv_at hl 3 rfl) ?_
            refine n_if_eq hx hb (by unfold RI; omega) (tgt := 665) dL_law_653 (by decide) (fun h55 => absurd h55 (by intro h55; omega)) (fun h55 => ?_)
            refine lv_iload hx hb dL_law_656 (lv_at hl 1 rfl) ?_
            refine n_if_eq hx hb (by unfold RI; omega) (tgt := 665) dL_law_658 (by decide) (fun h56 => absurd h56 (by intro h56; omega)) (fun h56 => ?_)
            refine lv_iconst (v := iI 1) hx hb dL_law_661 (by decide) ?_
            refine lv_goto (tgt := 666) hx hb dL_law_662 (by decide) ?_
            refine n_icmp_eq hx hb (by unfold RI; omega) (by unfold RI; omega) (tgt := 671) dL_law_666 (by decide) (fun h57 => ?_) (fun h57 => absurd h57 (by intro h57; omega))
            refine lv_iload hx hb dL_law_671 (lv_at hl 8 rfl) ?_
            refine lv_iload hx hb dL_law_673 (lv_at hl 3 rfl) ?_
            refine n_if_eq hx hb (by unfold RI; omega) (tgt := 688) dL_law_675 (by decide) (fun h58 => absurd h58 (by intro h58; omega)) (fun h58 => ?_)
            refine lv_iload hx hb dL_law_678 (lv_at hl 1 rfl) ?_
            refine n_if_eq hx hb (by unfold RI; omega) (tgt := 688) dL_law_680 (by decide) (fun h59 => absurd h59 (by intro h59; omega)) (fun h59 => ?_)
            refine lv_iload hx hb dL_law_683 (lv_at hl 19 rfl) ?_
            refine lv_goto (tgt := 689) hx hb dL_law_685 (by decide) ?_
            refine n_add hx hb dL_law_689 ?_
            refine lv_istore (lv' := [(4, .int (iI (paid + (g 9 0 3)))), (19, .int (iI (m_entCount g + 1))), (18, .int (iI 1)), (17, .int (iI (g 2 bk 0))), (16, .int (iI 1)), (0, .ref b), (1, .ref (a 0)), (2, .int (iI hh)), (3, .int (iI jj)), (5, .int (iI printed)), (6, .int (iI called)), (7, .int (iI ((tn : Nat) : Int))), (8, .int x8), (9, .int (iI (g 0 0 4))), (10, .int (iI bk)), (11, .int (iI jd)), (12, .int (iI (g 0 0 9))), (13, .int (iI (g 0 0 8))), (14, .int (iI (m_entCount g))), (15, .int (iI (g 9 0 3)))]) hx hb dL_law_690 hl (by decide) rfl (fun ls hl => ?_)
            refine lv_goto (tgt := 1603) hx hb dL_law_692 (by decide) ?_
            refine W.widen (k := cells + 1) (n := slots + 5) (by omega) (by omega) ?_
            exact kx g50 v49 (paid + (g 9 0 3)) printed called H locs ls (inv_later hivg50) hP hS (lv_sub hl [5, 6, 7, 8, 0, 9, 10, 11] rfl)
      · skip
        refine lv_goto (tgt := 1603) hx hb dL_law_552 (by decide) ?_
        refine W.widen (k := cells + 1) (n := slots + 5) (by omega) (by omega) ?_
        exact kx g vt paid printed called H locs ls (inv_later hIv) hP hS (lv_sub hl [0, 1, 2, 3, 4, 5, 6, 7] rfl)

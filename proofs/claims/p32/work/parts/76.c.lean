set_option maxHeartbeats 4000000 in
set_option maxRecDepth 100000 in
theorem law_tail {p : Program} {l : Launch} {e : Env} {s : State} {m : MethodId} {args : Array Value} {below : List Frame} {meth : Method} {c : Code} {Q : State → Prop} {b : Nat} {D : va_G} {a : Nat → Nat} {cH cB cJ cI : ClassId} (hx : p.tables.exec = Jvm.exec) (hb : c.code = cL_law) (hml : c.maxLocals = 23) (hown : s.vm.findClass RL = some m.cls) (hw : ∀ w ∈ wsL_law0, w.before args s = true) (ha : pj a) (hB : ∀ k, k < 58 → s.heap.size ≤ a k) (hK : va_K D vwCl (pT cH cB cJ cI) s) (hE : ew s) (hmo : ∀ n t : Int, 0 ≤ n ∧ n ≤ 48 → 0 ≤ t ∧ t ≤ 99 * n → MeanOk n t) {g : m_St} {vt : Nat → Int32} {hh jj paid printed called : Int} {tn cells slots : Nat} (ht9 : tn < 90) (hcc : cells + 1 ≤ 600074) (hss : slots + 5 ≤ 7301550) (hhh : 2 ≤ hh ∧ hh ≤ 5) (hjj : 3 ≤ jj ∧ jj ≤ 5) (hIv : Iv hh jj (((tn : Nat) : Int) + 1) paid printed called g) {H : Heap} {locs : List Loc} {ls : Array Slot} (hP : va_P D vwCl (pw a cH cB cJ cI g vt) H) (hS : va_S (fun q => s.heap.size ≤ q) s.heap H locs) (hl : lv_has ls 23 [(0, .ref b), (1, .ref (a 0)), (2, .int (iI hh)), (3, .int (iI jj)), (4, .int (iI paid)), (5, .int (iI printed)), (6, .int (iI called)), (7, .int (iI ((tn : Nat) : Int)))]) (kx : ∀ (v1 : Nat → Int32) (H : Heap) (locs : List Loc) (ls : Array Slot), va_P D vwCl (pw a cH cB cJ cI g v1) H → va_S (fun q => s.heap.size ≤ q) s.heap H locs → lv_has ls 23 [(0, .ref b), (1, .ref (a 0)), (2, .int (iI hh)), (3, .int (iI jj)), (4, .int (iI paid)), (5, .int (iI printed)), (6, .int (iI called)), (7, .int (iI (((tn : Nat) : Int) + 1)))] → W p l e room_1 s m args below meth c H locs (cells + 1) (slots + 5) Q (F0 m 143 ls [])) : W p l e room_1 s m args below meth c H locs cells slots Q (F0 m 1603 ls []) := by
  have hWf : Wf g := hIv.1
  have m3 := Wf.m3 hWf
  have m4 := Wf.m4 hWf
  have m5 := Wf.m5 hWf
  have m8 := Wf.m8 hWf
  have m9 := Wf.m9 hWf
  have m10 := Wf.m10 hWf
  have m11 := Wf.m11 hWf
  have m13 := Wf.m13 hWf
  have m14 := Wf.m14 hWf
  have hS5 := hIv.2.2.2.2.1
  have hsb : ∀ b, m_has (g 0 0 13) b = true → b < g 0 0 4 := fun b hb => (hS5.1 b (hS5.2.1 b hb)).1
  have hN3 : g 0 0 3 = hh := hIv.2.2.2.1.1
  have hN5 : g 0 0 5 = jj := hIv.2.2.2.1.2.1
  have hN8 : 5 * g 0 0 8 + g 0 0 9 ≤ (((tn : Nat) : Int) + 1) := hIv.2.2.2.1.2.2.1
  have hN10 : g 0 0 10 ≤ 6 * (((tn : Nat) : Int) + 1) := hIv.2.2.2.1.2.2.2
  have hA : ∀ q : Nat, s.heap.size ≤ q → (fun q : Nat => s.heap.size ≤ q) q := fun _ h => h
  refine lv_iconst (v := iI 0) hx hb dL_law_1603 (by decide) ?_
  refine lv_istore (lv' := [(16, .int (iI 0)), (0, .ref b), (1, .ref (a 0)), (2, .int (iI hh)), (3, .int (iI jj)), (4, .int (iI paid)), (5, .int (iI printed)), (6, .int (iI called)), (7, .int (iI ((tn : Nat) : Int)))]) hx hb dL_law_1604 hl (by decide) rfl (fun ls hl => ?_)
  refine lv_iconst (v := iI 0) hx hb dL_law_1606 (by decide) ?_
  refine lv_istore (lv' := [(17, .int (iI 0)), (16, .int (iI 0)), (0, .ref b), (1, .ref (a 0)), (2, .int (iI hh)), (3, .int (iI jj)), (4, .int (iI paid)), (5, .int (iI printed)), (6, .int (iI called)), (7, .int (iI ((tn : Nat) : Int)))]) hx hb dL_law_1607 hl (by decide) rfl (fun ls hl => ?_)
  refine lv_iconst (v := iI 0) hx hb dL_law_1609 (by decide) ?_
  refine lv_istore (lv' := [(18, .int (iI 0)), (17, .int (iI 0)), (16, .int (iI 0)), (0, .ref b), (1, .ref (a 0)), (2, .int (iI hh)), (3, .int (iI jj)), (4, .int (iI paid)), (5, .int (iI printed)), (6, .int (iI called)), (7, .int (iI ((tn : Nat) : Int)))]) hx hb dL_law_1610 hl (by decide) rfl (fun ls hl => ?_)
  refine lv_iconst (v := iI 0) hx hb dL_law_1612 (by decide) ?_
  refine lv_istore (lv' := [(19, .int (iI 0)), (18, .int (iI 0)), (17, .int (iI 0)), (16, .int (iI 0)), (0, .ref b), (1, .ref (a 0)), (2, .int (iI hh)), (3, .int (iI jj)), (4, .int (iI paid)), (5, .int (iI printed)), (6, .int (iI called)), (7, .int (iI ((tn : Nat) : Int)))]) hx hb dL_law_1613 hl (by decide) rfl (fun ls hl => ?_)
  have loop1615 : ∀ (d n : Nat) (H : Heap) (locs : List Loc) (ls : Array Slot), n + d = hh.toNat → va_P D vwCl (pw a cH cB cJ cI g vt) H → va_S (fun q => s.heap.size ≤ q) s.heap H locs → lv_has ls 23 [(19, .int (iI ((n : Nat) : Int))), (18, .int (iI (m_sm (fun h => g 1 h 1) n))), (17, .int (iI 0)), (16, .int (iI (m_sm (fun h => g 1 h 0) n))), (0, .ref b), (1, .ref (a 0)), (2, .int (iI hh)), (3, .int (iI jj)), (4, .int (iI paid)), (5, .int (iI printed)), (6, .int (iI called)), (7, .int (iI ((tn : Nat) : Int)))] → W p l e room_1 s m args below meth c H locs cells slots Q (F0 m 1615 ls []) := by
    intro d
    induction d with
    | zero =>
      intro n H locs ls hn hP hS hl
      obtain rfl : n = hh.toNat := by omega
      refine lv_iload hx hb dL_law_1615 (lv_at hl 0 rfl) ?_
      refine lv_iload_n hx hb dL_law_1617 rfl (lv_at hl 6 rfl) ?_
      refine n_icmp_ge hx hb (by unfold RI; omega) (by unfold RI; omega) (tgt := 1651) dL_law_1618 (by decide) (fun h1 => ?_) (fun h1 => absurd h1 (by intro h1; omega))
      refine lv_iconst (v := iI 0) hx hb dL_law_1651 (by decide) ?_
      refine lv_istore (lv' := [(19, .int (iI 0)), (18, .int (iI (m_sm (fun h => g 1 h 1) hh.toNat))), (17, .int (iI 0)), (16, .int (iI (m_sm (fun h => g 1 h 0) hh.toNat))), (0, .ref b), (1, .ref (a 0)), (2, .int (iI hh)), (3, .int (iI jj)), (4, .int (iI paid)), (5, .int (iI printed)), (6, .int (iI called)), (7, .int (iI ((tn : Nat) : Int)))]) hx hb dL_law_1652 hl (by decide) rfl (fun ls hl => ?_)
      have loop1654 : ∀ (d1 n1 : Nat) (H : Heap) (locs : List Loc) (ls : Array Slot), n1 + d1 = (g 0 0 4).toNat → va_P D vwCl (pw a cH cB cJ cI g vt) H → va_S (fun q => s.heap.size ≤ q) s.heap H locs → lv_has ls 23 [(19, .int (iI ((n1 : Nat) : Int))), (18, .int (iI (m_sm (fun h => g 1 h 1) hh.toNat))), (17, .int (iI (m_sm (fun b => g 2 b 8) n1))), (16, .int (iI (m_sm (fun h => g 1 h 0) hh.toNat))), (0, .ref b), (1, .ref (a 0)), (2, .int (iI hh)), (3, .int (iI jj)), (4, .int (iI paid)), (5, .int (iI printed)), (6, .int (iI called)), (7, .int (iI ((tn : Nat) : Int)))] → W p l e room_1 s m args below meth c H locs cells slots Q (F0 m 1654 ls []) := by
        intro d1
        induction d1 with
        | zero =>
          intro n1 H locs ls hn1 hP hS hl
          obtain rfl : n1 = (g 0 0 4).toNat := by omega
          refine lv_iload hx hb dL_law_1654 (lv_at hl 0 rfl) ?_
          refine lv_aload_n hx hb dL_law_1656 rfl (lv_at hl 5 rfl) ?_
          refine lv_iconst (v := iI 4) hx hb dL_law_1657 (by decide) ?_
          refine va_calli (va_runV (As := [.int (iI 4)]) (rest := [.int (iI ((((g 0 0 4).toNat) : Nat) : Int))]) ⟨hx, hb, hml, hown, hw⟩ (c_many l D a cH cB cJ cI ha g vt H.size 4 hWf (by omega)) (cwV 1 hw (gA_V kw_92 kw_93 kw_94 kw_2 kw_95) rfl rfl rfl (by decide +kernel) ⟨Nat.le_of_ble_eq_true rfl, Nat.le_of_ble_eq_true rfl⟩) (pS_v (ci := 4) (q0 := 0) rfl pw_0 hP hK hE) rfl rfl hl.1 rfl (lv_room (Nat.le_of_ble_eq_true rfl)) dL_law_1658 ⟨rm_c (by omega), rm_s (by omega)⟩) hS (fun q h1 h2 => ro_A h1 h2) (fun q h => ro_F hS hA q h) (fun r u t H1 locs ht hvm hw9 hB9 hz1 hk1 hS => ?_)
          have hw9 : r = (iI (m_many g 4)) := hw9
          subst hw9
          have hP := ro_P hP hk1
          generalize H1 = H at hP hS ⊢
          rw [show (m_many g 4) = (g 0 0 4) from rfl]
          have s2 := Wf.m4 hWf
          refine n_icmp_ge hx hb (by unfold RI; omega) (by unfold RI; omega) (tgt := 1682) dL_law_1661 (by decide) (fun h3 => ?_) (fun h3 => absurd h3 (by intro h3; omega))
          refine lv_iload hx hb dL_law_1682 (lv_at hl 3 rfl) ?_
          refine lv_bipush (v := iI 100) hx hb dL_law_1684 (by decide) ?_
          refine lv_iload_n hx hb dL_law_1686 rfl (lv_at hl 6 rfl) ?_
          refine n_mul hx hb dL_law_1687 ?_
          refine lv_iload hx hb dL_law_1688 (lv_at hl 8 rfl) ?_
          refine n_sub hx hb dL_law_1690 ?_
          refine lv_aload_n hx hb dL_law_1691 rfl (lv_at hl 5 rfl) ?_
          refine lv_bipush (v := iI 12) hx hb dL_law_1692 (by decide) ?_
          refine va_calli (va_runV (As := [.int (iI 12)]) (rest := [.int (iI ((100 * hh) - paid)), .int (iI (m_sm (fun h => g 1 h 0) hh.toNat))]) ⟨hx, hb, hml, hown, hw⟩ (c_many l D a cH cB cJ cI ha g vt H.size 12 hWf (by omega)) (cwV 1 hw (gA_V kw_92 kw_93 kw_94 kw_2 kw_95) rfl rfl rfl (by decide +kernel) ⟨Nat.le_of_ble_eq_true rfl, Nat.le_of_ble_eq_true rfl⟩) (pS_v (ci := 4) (q0 := 0) rfl pw_0 hP hK hE) rfl rfl hl.1 rfl (lv_room (Nat.le_of_ble_eq_true rfl)) dL_law_1694 ⟨rm_c (by omega), rm_s (by omega)⟩) hS (fun q h1 h2 => ro_A h1 h2) (fun q h => ro_F hS hA q h) (fun r u t H1 locs ht hvm hw9 hB9 hz1 hk1 hS => ?_)
          have hw9 : r = (iI (m_many g 12)) := hw9
          subst hw9
          have hP := ro_P hP hk1
          generalize H1 = H at hP hS ⊢
          rw [show (m_many g 12) = (m_sm (fun b => g 2 b 9) (g 0 0 4).toNat) from rfl]
          refine n_add hx hb dL_law_1697 ?_
          rw [show (m_sm (fun h => g 1 h 0) hh.toNat) = (((100 * hh) - paid) + (m_sm (fun b => g 2 b 9) (g 0 0 4).toNat)) from hIv.2.2.2.2.2.2.2.1]
          refine n_same hx hb (tgt := 1738) dL_law_1698 (by decide) ?_
          refine lv_iload hx hb dL_law_1701 (lv_at hl 9 rfl) ?_
          refine lv_iload hx hb dL_law_1703 (lv_at hl 2 rfl) ?_
          refine lv_aload_n hx hb dL_law_1705 rfl (lv_at hl 5 rfl) ?_
          refine lv_bipush (v := iI 12) hx hb dL_law_1706 (by decide) ?_
          refine va_calli (va_runV (As := [.int (iI 12)]) (rest := [.int (iI (m_sm (fun b => g 2 b 8) ((g 0 0 4).toNat))), .int (iI printed)]) ⟨hx, hb, hml, hown, hw⟩ (c_many l D a cH cB cJ cI ha g vt H.size 12 hWf (by omega)) (cwV 1 hw (gA_V kw_92 kw_93 kw_94 kw_2 kw_95) rfl rfl rfl (by decide +kernel) ⟨Nat.le_of_ble_eq_true rfl, Nat.le_of_ble_eq_true rfl⟩) (pS_v (ci := 4) (q0 := 0) rfl pw_0 hP hK hE) rfl rfl hl.1 rfl (lv_room (Nat.le_of_ble_eq_true rfl)) dL_law_1708 ⟨rm_c (by omega), rm_s (by omega)⟩) hS (fun q h1 h2 => ro_A h1 h2) (fun q h => ro_F hS hA q h) (fun r u t H1 locs ht hvm hw9 hB9 hz1 hk1 hS => ?_)
          have hw9 : r = (iI (m_many g 12)) := hw9
          subst hw9
          have hP := ro_P hP hk1
          generalize H1 = H at hP hS ⊢
          rw [show (m_many g 12) = (m_sm (fun b => g 2 b 9) (g 0 0 4).toNat) from rfl]
          refine n_add hx hb dL_law_1711 ?_
          rw [show printed = ((m_sm (fun b => g 2 b 8) ((g 0 0 4).toNat)) + (m_sm (fun b => g 2 b 9) (g 0 0 4).toNat)) from hIv.2.2.2.2.2.2.2.2.1]
          refine n_same hx hb (tgt := 1738) dL_law_1712 (by decide) ?_
          refine lv_aload_n hx hb dL_law_1715 rfl (lv_at hl 5 rfl) ?_
          refine lv_bipush (v := iI 6) hx hb dL_law_1716 (by decide) ?_
          refine va_calli (va_runV (As := [.int (iI 6)]) (rest := []) ⟨hx, hb, hml, hown, hw⟩ (c_many l D a cH cB cJ cI ha g vt H.size 6 hWf (by omega)) (cwV 1 hw (gA_V kw_92 kw_93 kw_94 kw_2 kw_95) rfl rfl rfl (by decide +kernel) ⟨Nat.le_of_ble_eq_true rfl, Nat.le_of_ble_eq_true rfl⟩) (pS_v (ci := 4) (q0 := 0) rfl pw_0 hP hK hE) rfl rfl hl.1 rfl (lv_room (Nat.le_of_ble_eq_true rfl)) dL_law_1718 ⟨rm_c (by omega), rm_s (by omega)⟩) hS (fun q h1 h2 => ro_A h1 h2) (fun q h => ro_F hS hA q h) (fun r u t H1 locs ht hvm hw9 hB9 hz1 hk1 hS => ?_)
          have hw9 : r = (iI (m_many g 6)) := hw9
          subst hw9
          have hP := ro_P hP hk1
          generalize H1 = H at hP hS ⊢
          rw [show (m_many g 6) = (m_cnt (m_ent g) (g 0 0 4).toNat) from rfl]
          refine lv_iload hx hb dL_law_1721 (lv_at hl 1 rfl) ?_
          refine lv_iload hx hb dL_law_1723 (lv_at hl 10 rfl) ?_
          refine n_add hx hb dL_law_1725 ?_
          rw [show (m_cnt (m_ent g) (g 0 0 4).toNat) = ((m_sm (fun h => g 1 h 1) hh.toNat) + called) from hIv.2.2.2.2.2.2.2.2.2.1]
          refine n_same hx hb (tgt := 1738) dL_law_1726 (by decide) ?_
          refine lv_aload_n hx hb dL_law_1729 rfl (lv_at hl 5 rfl) ?_
          refine lv_iload_n hx hb dL_law_1730 rfl (lv_at hl 6 rfl) ?_
          refine lv_iload_n hx hb dL_law_1731 rfl (lv_at hl 7 rfl) ?_
          rw [← hN3, ← hN5]
          refine va_calli (va_runS (As := [.ref (a 0), .int (iI (g 0 0 3)), .int (iI (g 0 0 5))]) (rest := []) ⟨hx, hb, hml, hown, hw⟩ (c_isSo l D a cH cB cJ cI ha g vt H.size (((tn : Nat) : Int) + 1) paid printed called (by rw [hN3, hN5]; exact hIv) (hmo)) (va_cwS 3 hw (gA_S kw_506 kw_507 kw_61 kw_508) rfl rfl rfl (by decide +kernel) ⟨Nat.le_of_ble_eq_true rfl, Nat.le_of_ble_eq_true rfl⟩) (pS_s hP hK hE) rfl rfl hl.1 rfl (lv_room (Nat.le_of_ble_eq_true rfl)) dL_law_1732 ⟨rm_c (by omega), rm_s (by omega)⟩) hS (fun q _ h => rw_A hS hA hB q h) (fun q h => rw_A hS hA hB q h) (fun r u t H1 locs ht hvm hw9 hB9 hz1 hk1 hS => ?_)
          have hw9 : r = (bi true) := hw9
          subst hw9
          obtain ⟨v4, hP1⟩ := hB9
          rw [ht] at hP1
          have hP : va_P D vwCl (pw a cH cB cJ cI g v4) H1 := hP1
          generalize H1 = H at hP hS ⊢
          refine n_b_ne hx hb (tgt := 1740) dL_law_1735 (by decide) (fun h5 => ?_) (fun h5 => absurd h5 (by intro h5; cases h5))
          refine n_inc (lv' := [(7, .int (iI (((tn : Nat) : Int) + 1))), (19, .int (iI ((((g 0 0 4).toNat) : Nat) : Int))), (18, .int (iI (m_sm (fun h => g 1 h 1) hh.toNat))), (17, .int (iI (m_sm (fun b => g 2 b 8) ((g 0 0 4).toNat)))), (16, .int (iI (m_sm (fun h => g 1 h 0) hh.toNat))), (0, .ref b), (1, .ref (a 0)), (2, .int (iI hh)), (3, .int (iI jj)), (4, .int (iI paid)), (5, .int (iI printed)), (6, .int (iI called))]) hx hb dL_law_1740 hl (k := 11) rfl (by decide) rfl (fun ls hl => ?_)
          refine lv_goto (tgt := 143) hx hb dL_law_1743 (by decide) ?_
          exact kx v4 H locs ls hP hS (lv_sub hl [5, 6, 7, 8, 9, 10, 11, 0] rfl)
        | succ d1 ih1654 =>
          intro n1 H locs ls hn1 hP hS hl
          refine lv_iload hx hb dL_law_1654 (lv_at hl 0 rfl) ?_
          refine lv_aload_n hx hb dL_law_1656 rfl (lv_at hl 5 rfl) ?_
          refine lv_iconst (v := iI 4) hx hb dL_law_1657 (by decide) ?_
          refine va_calli (va_runV (As := [.int (iI 4)]) (rest := [.int (iI ((n1 : Nat) : Int))]) ⟨hx, hb, hml, hown, hw⟩ (c_many l D a cH cB cJ cI ha g vt H.size 4 hWf (by omega)) (cwV 1 hw (gA_V kw_92 kw_93 kw_94 kw_2 kw_95) rfl rfl rfl (by decide +kernel) ⟨Nat.le_of_ble_eq_true rfl, Nat.le_of_ble_eq_true rfl⟩) (pS_v (ci := 4) (q0 := 0) rfl pw_0 hP hK hE) rfl rfl hl.1 rfl (lv_room (Nat.le_of_ble_eq_true rfl)) dL_law_1658 ⟨rm_c (by omega), rm_s (by omega)⟩) hS (fun q h1 h2 => ro_A h1 h2) (fun q h => ro_F hS hA q h) (fun r u t H1 locs ht hvm hw9 hB9 hz1 hk1 hS => ?_)
          have hw9 : r = (iI (m_many g 4)) := hw9
          subst hw9
          have hP := ro_P hP hk1
          generalize H1 = H at hP hS ⊢
          rw [show (m_many g 4) = (g 0 0 4) from rfl]
          have s6 := Wf.m4 hWf
          refine n_icmp_ge hx hb (by unfold RI; omega) (by unfold RI; omega) (tgt := 1682) dL_law_1661 (by decide) (fun h7 => absurd h7 (by intro h7; omega)) (fun h7 => ?_)
          refine lv_iload hx hb dL_law_1664 (lv_at hl 2 rfl) ?_
          refine lv_aload_n hx hb dL_law_1666 rfl (lv_at hl 5 rfl) ?_
          refine lv_iload hx hb dL_law_1667 (lv_at hl 0 rfl) ?_
          refine lv_iconst (v := iI 2) hx hb dL_law_1669 (by decide) ?_
          refine va_calli (va_runV (As := [.int (iI ((n1 : Nat) : Int)), .int (iI 2)]) (rest := [.int (iI (m_sm (fun b => g 2 b 8) n1))]) ⟨hx, hb, hml, hown, hw⟩ (c_ofBook l D a cH cB cJ cI ha g vt H.size ((n1 : Nat) : Int) 2 hWf (by omega) (by omega)) (cwV 2 hw (gA_V kw_206 kw_207 kw_208 kw_2 kw_209) rfl rfl rfl (by decide +kernel) ⟨Nat.le_of_ble_eq_true rfl, Nat.le_of_ble_eq_true rfl⟩) (pS_v (ci := 4) (q0 := 0) rfl pw_0 hP hK hE) rfl rfl hl.1 rfl (lv_room (Nat.le_of_ble_eq_true rfl)) dL_law_1670 ⟨rm_c (by omega), rm_s (by omega)⟩) hS (fun q h1 h2 => ro_A h1 h2) (fun q h => ro_F hS hA q h) (fun r u t H1 locs ht hvm hw9 hB9 hz1 hk1 hS => ?_)
          have hw9 : r = (iI (m_ofBook g ((n1 : Nat) : Int) 2)) := hw9
          subst hw9
          have hP := ro_P hP hk1
          generalize H1 = H at hP hS ⊢
          rw [show (m_ofBook g ((n1 : Nat) : Int) 2) = (g 2 ((n1 : Nat) : Int) 8) from rfl]
          have s8 := Wf.b8 hWf (k := ((n1 : Nat) : Int)) (by omega) (by omega)
          refine n_add hx hb dL_law_1673 ?_
          refine lv_istore (lv' := [(17, .int (iI ((m_sm (fun b => g 2 b 8) n1) + (g 2 ((n1 : Nat) : Int) 8)))), (19, .int (iI ((n1 : Nat) : Int))), (18, .int (iI (m_sm (fun h => g 1 h 1) hh.toNat))), (16, .int (iI (m_sm (fun h => g 1 h 0) hh.toNat))), (0, .ref b), (1, .ref (a 0)), (2, .int (iI hh)), (3, .int (iI jj)), (4, .int (iI paid)), (5, .int (iI printed)), (6, .int (iI called)), (7, .int (iI ((tn : Nat) : Int)))]) hx hb dL_law_1674 hl (by decide) rfl (fun ls hl => ?_)
          refine n_inc (lv' := [(19, .int (iI (((n1 : Nat) : Int) + 1))), (17, .int (iI ((m_sm (fun b => g 2 b 8) n1) + (g 2 ((n1 : Nat) : Int) 8)))), (18, .int (iI (m_sm (fun h => g 1 h 1) hh.toNat))), (16, .int (iI (m_sm (fun h => g 1 h 0) hh.toNat))), (0, .ref b), (1, .ref (a 0)), (2, .int (iI hh)), (3, .int (iI jj)), (4, .int (iI paid)), (5, .int (iI printed)), (6, .int (iI called)), (7, .int (iI ((tn : Nat) : Int)))]) hx hb dL_law_1676 hl (k := 1) rfl (by decide) rfl (fun ls hl => ?_)
          refine lv_goto (tgt := 1654) hx hb dL_law_1679 (by decide) ?_
          have hl : lv_has ls 23 [(19, .int (iI (((n1 : Nat) : Int) + 1))), (18, .int (iI (m_sm (fun h => g 1 h 1) hh.toNat))), (17, .int (iI ((m_sm (fun b => g 2 b 8) n1) + (g 2 ((n1 : Nat) : Int) 8)))), (16, .int (iI (m_sm (fun h => g 1 h 0) hh.toNat))), (0, .ref b), (1, .ref (a 0)), (2, .int (iI hh)), (3, .int (iI jj)), (4, .int (iI paid)), (5, .int (iI printed)), (6, .int (iI called)), (7, .int (iI ((tn : Nat) : Int)))] := lv_sub hl [0, 2, 1, 3, 4, 5, 6, 7, 8, 9, 10, 11] rfl
          have e9 : (((n1 : Nat) : Int) + 1) = (((n1 + 1) : Nat) : Int) := by rfl
          have e10 : ((m_sm (fun b => g 2 b 8) n1) + (g 2 ((n1 : Nat) : Int) 8)) = (m_sm (fun b => g 2 b 8) (n1 + 1)) := by rfl
          have hl : lv_has ls 23 [(19, .int (iI (((n1 + 1) : Nat) : Int))), (18, .int (iI (m_sm (fun h => g 1 h 1) hh.toNat))), (17, .int (iI (m_sm (fun b => g 2 b 8) (n1 + 1)))), (16, .int (iI (m_sm (fun h => g 1 h 0) hh.toNat))), (0, .ref b), (1, .ref (a 0)), (2, .int (iI hh)), (3, .int (iI jj)), (4, .int (iI paid)), (5, .int (iI printed)), (6, .int (iI called)), (7, .int (iI ((tn : Nat) : Int)))] := lv_cast hl (by rw [e9, e10])
          exact ih1654 (n1 + 1) H locs ls (by omega) hP hS hl
      have hl : lv_has ls 23 [(19, .int (iI 0)), (18, .int (iI (m_sm (fun h => g 1 h 1) hh.toNat))), (17, .int (iI 0)), (16, .int (iI (m_sm (fun h => g 1 h 0) hh.toNat))), (0, .ref b), (1, .ref (a 0)), (2, .int (iI hh)), (3, .int (iI jj)), (4, .int (iI paid)), (5, .int (iI printed)), (6, .int (iI called)), (7, .int (iI ((tn : Nat) : Int)))] := lv_sub hl [0, 1, 2, 3, 4, 5, 6, 7, 8, 9, 10, 11] rfl
      have hl : lv_has ls 23 [(19, .int (iI ((0 : Nat) : Int))), (18, .int (iI (m_sm (fun h => g 1 h 1) hh.toNat))), (17, .int (iI (m_sm (fun b => g 2 b 8) 0))), (16, .int (iI (m_sm (fun h => g 1 h 0) hh.toNat))), (0, .ref b), (1, .ref (a 0)), (2, .int (iI hh)), (3, .int (iI jj)), (4, .int (iI paid)), (5, .int (iI printed)), (6, .int (iI called)), (7, .int (iI ((tn : Nat) : Int)))] := hl
      exact loop1654 ((g 0 0 4).toNat) 0 H locs ls (by omega) hP hS hl
    | succ d ih1615 =>
      intro n H locs ls hn hP hS hl
      refine lv_iload hx hb dL_law_1615 (lv_at hl 0 rfl) ?_
      refine lv_iload_n hx hb dL_law_1617 rfl (lv_at hl 6 rfl) ?_
      refine n_icmp_ge hx hb (by unfold RI; omega) (by unfold RI; omega) (tgt := 1651) dL_law_1618 (by decide) (fun h11 => absurd h11 (by intro h11; omega)) (fun h11 => ?_)
      refine lv_iload hx hb dL_law_1621 (lv_at hl 3 rfl) ?_
      refine lv_aload_n hx hb dL_law_1623 rfl (lv_at hl 5 rfl) ?_
      refine lv_iload hx hb dL_law_1624 (lv_at hl 0 rfl) ?_
      refine lv_iconst (v := iI 0) hx hb dL_law_1626 (by decide) ?_
      refine va_calli (va_runV (As := [.int (iI ((n : Nat) : Int)), .int (iI 0)]) (rest := [.int (iI (m_sm (fun h => g 1 h 0) n))]) ⟨hx, hb, hml, hown, hw⟩ (c_ofHouse l D a cH cB cJ cI ha g vt H.size ((n : Nat) : Int) 0 hWf (by omega) (by omega)) (cwV 2 hw (gA_V kw_262 kw_263 kw_264 kw_2 kw_265) rfl rfl rfl (by decide +kernel) ⟨Nat.le_of_ble_eq_true rfl, Nat.le_of_ble_eq_true rfl⟩) (pS_v (ci := 4) (q0 := 0) rfl pw_0 hP hK hE) rfl rfl hl.1 rfl (lv_room (Nat.le_of_ble_eq_true rfl)) dL_law_1627 ⟨rm_c (by omega), rm_s (by omega)⟩) hS (fun q h1 h2 => ro_A h1 h2) (fun q h => ro_F hS hA q h) (fun r u t H1 locs ht hvm hw9 hB9 hz1 hk1 hS => ?_)
      have hw9 : r = (iI (m_ofHouse g ((n : Nat) : Int) 0)) := hw9
      subst hw9
      have hP := ro_P hP hk1
      generalize H1 = H at hP hS ⊢
      rw [show (m_ofHouse g ((n : Nat) : Int) 0) = (g 1 ((n : Nat) : Int) 0) from rfl]
      refine n_add hx hb dL_law_1630 ?_
      refine lv_istore (lv' := [(16, .int (iI ((m_sm (fun h => g 1 h 0) n) + (g 1 ((n : Nat) : Int) 0)))), (19, .int (iI ((n : Nat) : Int))), (18, .int (iI (m_sm (fun h => g 1 h 1) n))), (17, .int (iI 0)), (0, .ref b), (1, .ref (a 0)), (2, .int (iI hh)), (3, .int (iI jj)), (4, .int (iI paid)), (5, .int (iI printed)), (6, .int (iI called)), (7, .int (iI ((tn : Nat) : Int)))]) hx hb dL_law_1631 hl (by decide) rfl (fun ls hl => ?_)
      refine lv_iload hx hb dL_law_1633 (lv_at hl 2 rfl) ?_
      refine lv_aload_n hx hb dL_law_1635 rfl (lv_at hl 5 rfl) ?_
      refine lv_iload hx hb dL_law_1636 (lv_at hl 1 rfl) ?_
      refine lv_iconst (v := iI 2) hx hb dL_law_1638 (by decide) ?_
      refine va_calli (va_runV (As := [.int (iI ((n : Nat) : Int)), .int (iI 2)]) (rest := [.int (iI (m_sm (fun h => g 1 h 1) n))]) ⟨hx, hb, hml, hown, hw⟩ (c_ofHouse l D a cH cB cJ cI ha g vt H.size ((n : Nat) : Int) 2 hWf (by omega) (by omega)) (cwV 2 hw (gA_V kw_262 kw_263 kw_264 kw_2 kw_265) rfl rfl rfl (by decide +kernel) ⟨Nat.le_of_ble_eq_true rfl, Nat.le_of_ble_eq_true rfl⟩) (pS_v (ci := 4) (q0 := 0) rfl pw_0 hP hK hE) rfl rfl hl.1 rfl (lv_room (Nat.le_of_ble_eq_true rfl)) dL_law_1639 ⟨rm_c (by omega), rm_s (by omega)⟩) hS (fun q h1 h2 => ro_A h1 h2) (fun q h => ro_F hS hA q h) (fun r u t H1 locs ht hvm hw9 hB9 hz1 hk1 hS => ?_)
      have hw9 : r = (iI (m_ofHouse g ((n : Nat) : Int) 2)) := hw9
      subst hw9
      have hP := ro_P hP hk1
      generalize H1 = H at hP hS ⊢
      rw [show (m_ofHouse g ((n : Nat) : Int) 2) = (g 1 ((n : Nat) : Int) 1) from rfl]
      have s12 := Wf.h1 hWf (k := ((n : Nat) : Int)) (by omega) (by omega)
      refine n_add hx hb dL_law_1642 ?_
      refine lv_istore (lv' := [(18, .int (iI ((m_sm (fun h => g 1 h 1) n) + (g 1 ((n : Nat) : Int) 1)))), (16, .int (iI ((m_sm (fun h => g 1 h 0) n) + (g 1 ((n : Nat) : Int) 0)))), (19, .int (iI ((n : Nat) : Int))), (17, .int (iI 0)), (0, .ref b), (1, .ref (a 0)), (2, .int (iI hh)), (3, .int (iI jj)), (4, .int (iI paid)), (5, .int (iI printed)), (6, .int (iI called)), (7, .int (iI ((tn : Nat) : Int)))]) hx hb dL_law_1643 hl (by decide) rfl (fun ls hl => ?_)
      refine n_inc (lv' := [(19, .int (iI (((n : Nat) : Int) + 1))), (18, .int (iI ((m_sm (fun h => g 1 h 1) n) + (g 1 ((n : Nat) : Int) 1)))), (16, .int (iI ((m_sm (fun h => g 1 h 0) n) + (g 1 ((n : Nat) : Int) 0)))), (17, .int (iI 0)), (0, .ref b), (1, .ref (a 0)), (2, .int (iI hh)), (3, .int (iI jj)), (4, .int (iI paid)), (5, .int (iI printed)), (6, .int (iI called)), (7, .int (iI ((tn : Nat) : Int)))]) hx hb dL_law_1645 hl (k := 2) rfl (by decide) rfl (fun ls hl => ?_)
      refine lv_goto (tgt := 1615) hx hb dL_law_1648 (by decide) ?_
      have hl : lv_has ls 23 [(19, .int (iI (((n : Nat) : Int) + 1))), (18, .int (iI ((m_sm (fun h => g 1 h 1) n) + (g 1 ((n : Nat) : Int) 1)))), (17, .int (iI 0)), (16, .int (iI ((m_sm (fun h => g 1 h 0) n) + (g 1 ((n : Nat) : Int) 0)))), (0, .ref b), (1, .ref (a 0)), (2, .int (iI hh)), (3, .int (iI jj)), (4, .int (iI paid)), (5, .int (iI printed)), (6, .int (iI called)), (7, .int (iI ((tn : Nat) : Int)))] := lv_sub hl [0, 1, 3, 2, 4, 5, 6, 7, 8, 9, 10, 11] rfl
      have e13 : (((n : Nat) : Int) + 1) = (((n + 1) : Nat) : Int) := by rfl
      have e14 : ((m_sm (fun h => g 1 h 1) n) + (g 1 ((n : Nat) : Int) 1)) = (m_sm (fun h => g 1 h 1) (n + 1)) := by rfl
      have e15 : ((m_sm (fun h => g 1 h 0) n) + (g 1 ((n : Nat) : Int) 0)) = (m_sm (fun h => g 1 h 0) (n + 1)) := by rfl
      have hl : lv_has ls 23 [(19, .int (iI (((n + 1) : Nat) : Int))), (18, .int (iI (m_sm (fun h => g 1 h 1) (n + 1)))), (17, .int (iI 0)), (16, .int (iI (m_sm (fun h => g 1 h 0) (n + 1)))), (0, .ref b), (1, .ref (a 0)), (2, .int (iI hh)), (3, .int (iI jj)), (4, .int (iI paid)), (5, .int (iI printed)), (6, .int (iI called)), (7, .int (iI ((tn : Nat) : Int)))] := lv_cast hl (by rw [e13, e14, e15])
      exact ih1615 (n + 1) H locs ls (by omega) hP hS hl
  have hl : lv_has ls 23 [(19, .int (iI 0)), (18, .int (iI 0)), (17, .int (iI 0)), (16, .int (iI 0)), (0, .ref b), (1, .ref (a 0)), (2, .int (iI hh)), (3, .int (iI jj)), (4, .int (iI paid)), (5, .int (iI printed)), (6, .int (iI called)), (7, .int (iI ((tn : Nat) : Int)))] := lv_sub hl [0, 1, 2, 3, 4, 5, 6, 7, 8, 9, 10, 11] rfl
  have hl : lv_has ls 23 [(19, .int (iI ((0 : Nat) : Int))), (18, .int (iI (m_sm (fun h => g 1 h 1) 0))), (17, .int (iI 0)), (16, .int (iI (m_sm (fun h => g 1 h 0) 0))), (0, .ref b), (1, .ref (a 0)), (2, .int (iI hh)), (3, .int (iI jj)), (4, .int (iI paid)), (5, .int (iI printed)), (6, .int (iI called)), (7, .int (iI ((tn : Nat) : Int)))] := hl
  exact loop1615 hh.toNat 0 H locs ls (by omega) hP hS hl

set_option maxHeartbeats 4000000 in
set_option maxRecDepth 100000 in
theorem c_crown (l : Launch) (D : va_G) (a : Nat → Nat) (cH cB cJ cI : ClassId) (ha : pj a) (g : m_St) (vt : Nat → Int32) (sz : Nat) (bb : Int) (hWf : Wf g) (hbb : bb = -1 ∨ (0 ≤ bb ∧ bb < 16)) : Met l yX4_crown (wc yX4_crown cX4_crown 2 none) ({ frames := 1, cells := 0, slots := 0, locals := 20 }) (va_Pc [.ref (a 0), .int (iI bb)] (pS D a cH cB cJ cI sz g vt)) (va_Qv (fun (_ : Unit) => True) (fun _ t => ∃ vt1 : Nat → Int32, va_P D vwCl (pw a cH cB cJ cI (m_crown g bb) vt1) t.heap) (pA a sz)) 0 0 (pA a sz) := by
  refine Met.ofW (cc := cX4_crown) (maxL := 2) (ret := none) (by decide +kernel) rfl ?_
  intro p e s m args below meth c s₁ B9 hml hv
  obtain ⟨rfl, hsz, hP, hK, hE⟩ := hv
  have hx := B9.exec
  have hb := B9.bytes
  have hr := B9.returns
  have hts := atoms_spec (ws := (wc yX4_crown cX4_crown 2 none)) B9.pre
  have hw : ∀ w ∈ wsL_law0, w.before [.ref (a 0), .int (iI bb)].toArray s = true := fun w h => hts w (List.mem_cons_of_mem _ h)
  have hown : s.vm.findClass RX4 = some m.cls := findClass_of_methodNamed B9.named
  have hlocks := B9.notSynchronized
  subst hsz
  have hS : va_S (pA a s.heap.size) s.heap s.heap [] := va_S.rf
  have hA : ∀ q : Nat, s.heap.size ≤ q → pA a s.heap.size q := fun _ h => pA_new h
  have hB : ∀ k, k < 58 → pA a s.heap.size (a k) := fun _ h => pA_in h
  have hl := lv_entry ([.ref (a 0), .int (iI bb)]) (n := 2) (Nat.le_of_ble_eq_true rfl)
  rw [lg_entry_eq]
  generalize (lg_sl ([.ref (a 0), .int (iI bb)]) ++ List.replicate (2 - (lg_sl ([.ref (a 0), .int (iI bb)])).length) Slot.unset).toArray = ls at hl ⊢
  have hl : lv_has ls 2 [(0, .ref (a 0)), (1, .int (iI bb))] := hl
  suffices h9 : ∀ (H : Heap) (locs : List Loc), va_P D vwCl (pw a cH cB cJ cI g vt) H → va_S (pA a s.heap.size) s.heap H locs → W p l e (headSpec (wc yX4_crown cX4_crown 2 none) ({ frames := 1, cells := 0, slots := 0, locals := 20 })).room s m [.ref (a 0), .int (iI bb)].toArray below meth c H locs 0 0 (MQ below (va_Qv (fun (_ : Unit) => True) (fun _ t => ∃ vt1 : Nat → Int32, va_P D vwCl (pw a cH cB cJ cI (m_crown g bb) vt1) t.heap) (pA a s.heap.size)) [.ref (a 0), .int (iI bb)].toArray s 0 0 (pA a s.heap.size)) (F0 m 0 ls []) from h9 s.heap [] hP hS
  clear hP hS
  intro H locs hP hS
  have m16 := Wf.m16 hWf
  refine lv_aload_n hx hb dX4_crown_0 rfl (lv_at hl 0 rfl) ?_
  refine lv_iload_n hx hb dX4_crown_1 rfl (lv_at hl 1 rfl) ?_
  refine va_put (D := D) (ci := 4) (v := .int (iI bb)) (C := RX4) (T := TX4) (N := 19) (ty := .int) hx hb hw hin_wsX40 tyX4 tyX4_ok nmX4 hown hK hP (pw_D ha (fun k hk => pA_in hk)) hS 0 pw_0 rfl 14 (by decide) (hw _ kw_26) (fun _ h9 => h9) rfl (tyX4_ok 14 (by decide)) rfl rfl (show 14 < 19 from by decide) dX4_crown_2 (fun H locs hP _ hS => ?_)
  rw [pw_setM (by decide) (by decide) (by decide) (by decide)] at hP
  have hP : va_P D vwCl (pw a cH cB cJ cI (m_up g 0 0 14 bb) vt) H := hP
  obtain ⟨g1, hg1⟩ : ∃ z, z = m_up g 0 0 14 bb := ⟨_, rfl⟩
  rw [← hg1] at hP
  refine lv_iload_n hx hb dX4_crown_5 rfl (lv_at hl 1 rfl) ?_
  refine lv_iconst (v := iI (-1)) hx hb dX4_crown_6 (by decide) ?_
  refine n_icmp_eq hx hb (by unfold RI; omega) (by unfold RI; omega) (tgt := 23) dX4_crown_7 (by decide) (fun h2 => ?_) (fun h2 => ?_)
  · skip
    have hf3 : g1 = (m_crown g bb) := by unfold m_crown; first | (rw [if_pos h2, hg1]) | (rw [if_neg h2, hg1])
    rw [hf3] at hP
    exact W.vret hx hb hr (fun t ht hW9 => ⟨⟨(), rfl, trivial, ⟨vt, by rw [ht]; exact hP⟩⟩, hS.F ht⟩) hS.2.2 dX4_crown_23
  · skip
    refine lv_aload_n hx hb dX4_crown_10 rfl (lv_at hl 0 rfl) ?_
    refine lv_dup hx hb dX4_crown_11 rfl ?_
    have e4 : g1 0 0 16 = g 0 0 16 := by simp [hg1, m_up]
    have s5 := Wf.m16 hWf
    refine va_get (D := D) (ci := 4) (v := .int (iI (g 0 0 16))) (C := RX4) (T := TX4) (N := 19) hx hb hw hin_wsX40 hown hK hP 0 pw_0 rfl 16 (by decide) (hw _ kw_268) (fun _ h9 => h9) (by rw [← e4]; rfl) dX4_crown_12 ?_
    refine lv_iload_n hx hb dX4_crown_15 rfl (lv_at hl 1 rfl) ?_
    refine va_calli (va_runS (As := [.int (iI bb)]) (rest := [.int (iI (g 0 0 16)), .ref (a 0)]) ⟨hx, hb, hml, hown, hw⟩ (c_bit l D a cH cB cJ cI ha g1 vt H.size bb (by omega)) (va_cwS 1 hw (gA_S kw_171 kw_172 kw_2 kw_173) rfl rfl rfl (by decide +kernel) ⟨Nat.le_of_ble_eq_true rfl, Nat.le_of_ble_eq_true rfl⟩) (pS_s hP hK hE) rfl rfl hl.1 rfl (lv_room (Nat.le_of_ble_eq_true rfl)) dX4_crown_16 ⟨Nat.le_of_ble_eq_true rfl, Nat.le_of_ble_eq_true rfl⟩) hS (fun q h1 h2 => ro_A h1 h2) (fun q h => ro_F hS hA q h) (fun r u t H1 locs ht hvm hw9 hB9 hz1 hk1 hS => ?_)
    have hw9 : r = (iI (m_bt bb)) := hw9
    subst hw9
    have hP := ro_P hP hk1
    generalize H1 = H at hP hS ⊢
    have s6 := bt_nn bb
    have s7 := bt_lt (n := bb) (by omega) (by omega)
    refine n_or hx hb (by omega) (by omega) dX4_crown_19 ?_
    have s8 := bo_nn (g 0 0 16) (m_bt bb)
    refine va_put (D := D) (ci := 4) (v := .int (iI (m_bo (g 0 0 16) (m_bt bb)))) (C := RX4) (T := TX4) (N := 19) (ty := .int) hx hb hw hin_wsX40 tyX4 tyX4_ok nmX4 hown hK hP (pw_D ha (fun k hk => pA_in hk)) hS 0 pw_0 rfl 16 (by decide) (hw _ kw_268) (fun _ h9 => h9) rfl (tyX4_ok 16 (by decide)) rfl rfl (show 16 < 19 from by decide) dX4_crown_20 (fun H locs hP _ hS => ?_)
    rw [pw_setM (by decide) (by decide) (by decide) (by decide)] at hP
    have hP : va_P D vwCl (pw a cH cB cJ cI (m_up g1 0 0 16 (m_bo (g 0 0 16) (m_bt bb))) vt) H := hP
    obtain ⟨g9, hg9⟩ : ∃ z, z = m_up g1 0 0 16 (m_bo (g 0 0 16) (m_bt bb)) := ⟨_, rfl⟩
    rw [← hg9] at hP
    have hf10 : g9 = (m_crown g bb) := by unfold m_crown; first | (rw [if_pos h2, hg9, hg1]) | (rw [if_neg h2, hg9, hg1])
    rw [hf10] at hP
    exact W.vret hx hb hr (fun t ht hW9 => ⟨⟨(), rfl, trivial, ⟨vt, by rw [ht]; exact hP⟩⟩, hS.F ht⟩) hS.2.2 dX4_crown_23
set_option maxHeartbeats 4000000 in
set_option maxRecDepth 100000 in
theorem c_enterFor (l : Launch) (D : va_G) (a : Nat → Nat) (cH cB cJ cI : ClassId) (ha : pj a) (g : m_St) (vt : Nat → Int32) (sz : Nat) (bb : Int) (cc : Int) (hWf : Wf g) (hbb : 0 ≤ bb ∧ bb < 16) : Met l yX4_enterFor (wc yX4_enterFor cX4_enterFor 3 (some .int)) ({ frames := 2, cells := 0, slots := 0, locals := 43 }) (va_Pc [.ref (a 0), .int (iI bb), .int (iI cc)] (pS D a cH cB cJ cI sz g vt)) (va_Qi (fun (r : Int32) (_ : Unit) => r = iI (m_entCount (m_enterFor g bb cc))) (fun _ t => ∃ vt1 : Nat → Int32, va_P D vwCl (pw a cH cB cJ cI (m_enterFor g bb cc) vt1) t.heap) (pA a sz)) 0 0 (pA a sz) := by
  refine Met.ofW (cc := cX4_enterFor) (maxL := 3) (ret := (some .int)) (by decide +kernel) rfl ?_
  intro p e s m args below meth c s₁ B9 hml hv
  obtain ⟨rfl, hsz, hP, hK, hE⟩ := hv
  have hx := B9.exec
  have hb := B9.bytes
  have hr := B9.returns
  have hts := atoms_spec (ws := (wc yX4_enterFor cX4_enterFor 3 (some .int))) B9.pre
  have hw : ∀ w ∈ wsL_law0, w.before [.ref (a 0), .int (iI bb), .int (iI cc)].toArray s = true := fun w h => hts w (List.mem_cons_of_mem _ h)
  have hown : s.vm.findClass RX4 = some m.cls := findClass_of_methodNamed B9.named
  subst hsz
  have hS : va_S (pA a s.heap.size) s.heap s.heap [] := va_S.rf
  have hA : ∀ q : Nat, s.heap.size ≤ q → pA a s.heap.size q := fun _ h => pA_new h
  have hB : ∀ k, k < 58 → pA a s.heap.size (a k) := fun _ h => pA_in h
  have hl := lv_entry ([.ref (a 0), .int (iI bb), .int (iI cc)]) (n := 3) (Nat.le_of_ble_eq_true rfl)
  rw [lg_entry_eq]
  generalize (lg_sl ([.ref (a 0), .int (iI bb), .int (iI cc)]) ++ List.replicate (3 - (lg_sl ([.ref (a 0), .int (iI bb), .int (iI cc)])).length) Slot.unset).toArray = ls at hl ⊢
  have hl : lv_has ls 3 [(0, .ref (a 0)), (1, .int (iI bb)), (2, .int (iI cc))] := hl
  suffices h9 : ∀ (H : Heap) (locs : List Loc), va_P D vwCl (pw a cH cB cJ cI g vt) H → va_S (pA a s.heap.size) s.heap H locs → W p l e (headSpec (wc yX4_enterFor cX4_enterFor 3 (some .int)) ({ frames := 2, cells := 0, slots := 0, locals := 43 })).room s m [.ref (a 0), .int (iI bb), .int (iI cc)].toArray below meth c H locs 0 0 (MQ below (va_Qi (fun (r : Int32) (_ : Unit) => r = iI (m_entCount (m_enterFor g bb cc))) (fun _ t => ∃ vt1 : Nat → Int32, va_P D vwCl (pw a cH cB cJ cI (m_enterFor g bb cc) vt1) t.heap) (pA a s.heap.size)) [.ref (a 0), .int (iI bb), .int (iI cc)].toArray s 0 0 (pA a s.heap.size)) (F0 m 0 ls []) from h9 s.heap [] hP hS
  clear hP hS
  intro H locs hP hS
  refine lv_aload_n hx hb dX4_enterFor_0 rfl (lv_at hl 0 rfl) ?_
  refine va_get (D := D) (ci := 4) (v := .ref (a 2)) (C := RX4) (T := TX4) (N := 19) hx hb hw hin_wsX40 hown hK hP 0 pw_0 rfl 1 (by decide) (hw _ kw_17) (fun _ h9 => h9) rfl dX4_enterFor_1 ?_
  refine lv_iload_n hx hb dX4_enterFor_4 rfl (lv_at hl 1 rfl) ?_
  refine p_aldB hx hb hK hP (k := bb) (by omega) (by omega) dX4_enterFor_5 ?_
  refine lv_aload_n hx hb dX4_enterFor_6 rfl (lv_at hl 0 rfl) ?_
  have s1 := Wf.m8 hWf
  refine va_get (D := D) (ci := 4) (v := .int (iI (g 0 0 8))) (C := RX4) (T := TX4) (N := 19) hx hb hw hin_wsX40 hown hK hP 0 pw_0 rfl 8 (by decide) (hw _ kw_96) (fun _ h9 => h9) rfl dX4_enterFor_7 ?_
  refine va_put (D := D) (ci := 0) (v := .int (iI (g 0 0 8))) (C := RX0) (T := TX0) (N := 11) (ty := .int) hx hb hw hin_wsX00 tyX0 tyX0_ok nmX0 hown hK hP (pw_D ha (fun k hk => pA_in hk)) hS (12 + bb.toNat) (pw_B (b := bb) (by omega) (by omega)) rfl 7 (by decide) (hw _ kw_111) (fun _ h9 => h9) rfl (tyX0_ok 7 (by decide)) rfl rfl (show 7 < 11 from by decide) dX4_enterFor_10 (fun H locs hP _ hS => ?_)
  rw [pw_setB (by omega) (by omega) (by decide)] at hP
  have hP : va_P D vwCl (pw a cH cB cJ cI (m_up g 2 bb 7 (g 0 0 8)) vt) H := hP
  obtain ⟨g2, hg2⟩ : ∃ z, z = m_up g 2 bb 7 (g 0 0 8) := ⟨_, rfl⟩
  rw [← hg2] at hP
  refine lv_aload_n hx hb dX4_enterFor_13 rfl (lv_at hl 0 rfl) ?_
  refine va_get (D := D) (ci := 4) (v := .ref (a 1)) (C := RX4) (T := TX4) (N := 19) hx hb hw hin_wsX40 hown hK hP 0 pw_0 rfl 0 (by decide) (hw _ kw_15) (fun _ h9 => h9) rfl dX4_enterFor_14 ?_
  refine lv_aload_n hx hb dX4_enterFor_17 rfl (lv_at hl 0 rfl) ?_
  refine va_get (D := D) (ci := 4) (v := .ref (a 2)) (C := RX4) (T := TX4) (N := 19) hx hb hw hin_wsX40 hown hK hP 0 pw_0 rfl 1 (by decide) (hw _ kw_17) (fun _ h9 => h9) rfl dX4_enterFor_18 ?_
  refine lv_iload_n hx hb dX4_enterFor_21 rfl (lv_at hl 1 rfl) ?_
  refine p_aldB hx hb hK hP (k := bb) (by omega) (by omega) dX4_enterFor_22 ?_
  have e3 : g2 2 bb 0 = g 2 bb 0 := by simp [hg2, m_up]
  have s4 := Wf.b0 hWf (k := bb) (by omega) (by omega)
  refine va_get (D := D) (ci := 0) (v := .int (iI (g 2 bb 0))) (C := RX0) (T := TX0) (N := 11) hx hb hw hin_wsX00 hown hK hP (12 + bb.toNat) (pw_B (b := bb) (by omega) (by omega)) rfl 0 (by decide) (hw _ kw_210) (fun _ h9 => h9) (by rw [← e3]; rfl) dX4_enterFor_23 ?_
  refine p_aldH hx hb hK hP (k := g 2 bb 0) (by omega) (by omega) dX4_enterFor_26 ?_
  refine lv_dup hx hb dX4_enterFor_27 rfl ?_
  have e5 : g2 1 (g 2 bb 0) 0 = g 1 (g 2 bb 0) 0 := by simp [hg2, m_up]
  refine va_get (D := D) (ci := 1) (v := .int (iI (g 1 (g 2 bb 0) 0))) (C := RX1) (T := TX1) (N := 2) hx hb hw hin_wsX10 hown hK hP (7 + (g 2 bb 0).toNat) (pw_H (h := g 2 bb 0) (by omega) (by omega)) rfl 0 (by decide) (hw _ kw_266) (fun _ h9 => h9) (by rw [← e5]; rfl) dX4_enterFor_28 ?_
  refine lv_iload_n hx hb dX4_enterFor_31 rfl (lv_at hl 2 rfl) ?_
  refine n_sub hx hb dX4_enterFor_32 ?_
  refine va_put (D := D) (ci := 1) (v := .int (iI (g 1 (g 2 bb 0) 0 - cc))) (C := RX1) (T := TX1) (N := 2) (ty := .int) hx hb hw hin_wsX10 tyX1 tyX1_ok nmX1 hown hK hP (pw_D ha (fun k hk => pA_in hk)) hS (7 + (g 2 bb 0).toNat) (pw_H (h := g 2 bb 0) (by omega) (by omega)) rfl 0 (by decide) (hw _ kw_266) (fun _ h9 => h9) rfl (tyX1_ok 0 (by decide)) rfl rfl (show 0 < 2 from by decide) dX4_enterFor_33 (fun H locs hP _ hS => ?_)
  rw [pw_setH (by omega) (by omega) (by decide)] at hP
  have hP : va_P D vwCl (pw a cH cB cJ cI (m_up g2 1 (g 2 bb 0) 0 (g 1 (g 2 bb 0) 0 - cc)) vt) H := hP
  obtain ⟨g6, hg6⟩ : ∃ z, z = m_up g2 1 (g 2 bb 0) 0 (g 1 (g 2 bb 0) 0 - cc) := ⟨_, rfl⟩
  rw [← hg6] at hP
  have hWe : Wf g6 := by rw [show g6 = m_enterFor g bb cc from by rw [hg6, hg2]; rfl]; exact Wf.enterFor hWf
  refine lv_aload_n hx hb dX4_enterFor_36 rfl (lv_at hl 0 rfl) ?_
  refine va_calli (va_runV (As := []) (rest := []) ⟨hx, hb, hml, hown, hw⟩ (c_enteredCount l D a cH cB cJ cI ha g6 vt H.size  hWe) (cwV 0 hw (gA_V kw_103 kw_104 kw_105 kw_2 kw_106) rfl rfl rfl (by decide +kernel) ⟨Nat.le_of_ble_eq_true rfl, Nat.le_of_ble_eq_true rfl⟩) (pS_v (ci := 4) (q0 := 0) rfl pw_0 hP hK hE) rfl rfl hl.1 rfl (lv_room (Nat.le_of_ble_eq_true rfl)) dX4_enterFor_37 ⟨Nat.le_of_ble_eq_true rfl, Nat.le_of_ble_eq_true rfl⟩) hS (fun q h1 h2 => ro_A h1 h2) (fun q h => ro_F hS hA q h) (fun r u t H1 locs ht hvm hw9 hB9 hz1 hk1 hS => ?_)
  have hw9 : r = (iI (m_entCount g6)) := hw9
  subst hw9
  have hP := ro_P hP hk1
  generalize H1 = H at hP hS ⊢
  have s7 := ent_b hWe
  have hf8 : g6 = (m_enterFor g bb cc) := by rw [hg6, hg2] <;> rfl
  rw [hf8] at hP
  exact W.iret (v := (iI (m_entCount g6))) hx hb hr (fun t ht hW9 => ⟨⟨(iI (m_entCount g6)), (), rfl, (congrArg iI (by rw [hg6, hg2] <;> rfl)), ⟨vt, by rw [ht]; exact hP⟩⟩, hS.F ht⟩) hS.2.2 dX4_enterFor_40
set_option maxHeartbeats 4000000 in
set_option maxRecDepth 100000 in
theorem c_house (l : Launch) (D : va_G) (a : Nat → Nat) (cH cB cJ cI : ClassId) (ha : pj a) (g : m_St) (vt : Nat → Int32) (sz : Nat) (hWf : Wf g) (h3 : g 0 0 3 < 5) : Met l yX4_house (wc yX4_house cX4_house 1 (some .int)) ({ frames := 0, cells := 0, slots := 0, locals := 0 }) (va_Pc [.ref (a 0)] (pS D a cH cB cJ cI sz g vt)) (va_Qi (fun (r : Int32) (_ : Unit) => r = iI (g 0 0 3)) (fun _ t => ∃ vt1 : Nat → Int32, va_P D vwCl (pw a cH cB cJ cI (m_up g 0 0 3 (g 0 0 3 + 1)) vt1) t.heap) (pA a sz)) 0 0 (pA a sz) := by
  refine Met.ofW (cc := cX4_house) (maxL := 1) (ret := (some .int)) (by decide +kernel) rfl ?_
  intro p e s m args below meth c s₁ B9 hml hv
  obtain ⟨rfl, hsz, hP, hK, hE⟩ := hv
  have hx := B9.exec
  have hb := B9.bytes
  have hr := B9.returns
  have hts := atoms_spec (ws := (wc yX4_house cX4_house 1 (some .int))) B9.pre
  have hw : ∀ w ∈ wsL_law0, w.before [.ref (a 0)].toArray s = true := fun w h => hts w (List.mem_cons_of_mem _ h)
  have hown : s.vm.findClass RX4 = some m.cls := findClass_of_methodNamed B9.named
  subst hsz
  have hS : va_S (pA a s.heap.size) s.heap s.heap [] := va_S.rf
  have hA : ∀ q : Nat, s.heap.size ≤ q → pA a s.heap.size q := fun _ h => pA_new h
  have hB : ∀ k, k < 58 → pA a s.heap.size (a k) := fun _ h => pA_in h
  have hl := lv_entry ([.ref (a 0)]) (n := 1) (Nat.le_of_ble_eq_true rfl)
  rw [lg_entry_eq]
  generalize (lg_sl ([.ref (a 0)]) ++ List.replicate (1 - (lg_sl ([.ref (a 0)])).length) Slot.unset).toArray = ls at hl ⊢
  have hl : lv_has ls 1 [(0, .ref (a 0))] := hl
  suffices h9 : ∀ (H : Heap) (locs : List Loc), va_P D vwCl (pw a cH cB cJ cI g vt) H → va_S (pA a s.heap.size) s.heap H locs → W p l e (headSpec (wc yX4_house cX4_house 1 (some .int)) ({ frames := 0, cells := 0, slots := 0, locals := 0 })).room s m [.ref (a 0)].toArray below meth c H locs 0 0 (MQ below (va_Qi (fun (r : Int32) (_ : Unit) => r = iI (g 0 0 3)) (fun _ t => ∃ vt1 : Nat → Int32, va_P D vwCl (pw a cH cB cJ cI (m_up g 0 0 3 (g 0 0 3 + 1)) vt1) t.heap) (pA a s.heap.size)) [.ref (a 0)].toArray s 0 0 (pA a s.heap.size)) (F0 m 0 ls []) from h9 s.heap [] hP hS
  clear hP hS
  intro H locs hP hS
  have m3 := Wf.m3 hWf
  refine lv_aload_n hx hb dX4_house_0 rfl (lv_at hl 0 rfl) ?_
  have s1 := Wf.m3 hWf
  refine va_get (D := D) (ci := 4) (v := .int (iI (g 0 0 3))) (C := RX4) (T := TX4) (N := 19) hx hb hw hin_wsX40 hown hK hP 0 pw_0 rfl 3 (by decide) (hw _ kw_74) (fun _ h9 => h9) rfl dX4_house_1 ?_
  refine lv_iconst (v := iI 5) hx hb dX4_house_4 (by decide) ?_
  refine n_icmp_lt hx hb (by unfold RI; omega) (by unfold RI; omega) (tgt := 18) dX4_house_5 (by decide) (fun h2 => ?_) (fun h2 => absurd h2 (by intro h2; omega))
  refine lv_aload_n hx hb dX4_house_18 rfl (lv_at hl 0 rfl) ?_
  refine lv_dup hx hb dX4_house_19 rfl ?_
  refine va_get (D := D) (ci := 4) (v := .int (iI (g 0 0 3))) (C := RX4) (T := TX4) (N := 19) hx hb hw hin_wsX40 hown hK hP 0 pw_0 rfl 3 (by decide) (hw _ kw_74) (fun _ h9 => h9) rfl dX4_house_20 ?_
  refine lv_iconst (v := iI 1) hx hb dX4_house_23 (by decide) ?_
  refine n_add hx hb dX4_house_24 ?_
  refine va_put (D := D) (ci := 4) (v := .int (iI (g 0 0 3 + 1))) (C := RX4) (T := TX4) (N := 19) (ty := .int) hx hb hw hin_wsX40 tyX4 tyX4_ok nmX4 hown hK hP (pw_D ha (fun k hk => pA_in hk)) hS 0 pw_0 rfl 3 (by decide) (hw _ kw_74) (fun _ h9 => h9) rfl (tyX4_ok 3 (by decide)) rfl rfl (show 3 < 19 from by decide) dX4_house_25 (fun H locs hP _ hS => ?_)
  rw [pw_setM (by decide) (by decide) (by decide) (by decide)] at hP
  have hP : va_P D vwCl (pw a cH cB cJ cI (m_up g 0 0 3 (g 0 0 3 + 1)) vt) H := hP
  obtain ⟨g3, hg3⟩ : ∃ z, z = m_up g 0 0 3 (g 0 0 3 + 1) := ⟨_, rfl⟩
  rw [← hg3] at hP
  refine lv_aload_n hx hb dX4_house_28 rfl (lv_at hl 0 rfl) ?_
  have e4 : g3 0 0 3 = (g 0 0 3 + 1) := by simp [hg3, m_up]
  refine va_get (D := D) (ci := 4) (v := .int (iI (g 0 0 3 + 1))) (C := RX4) (T := TX4) (N := 19) hx hb hw hin_wsX40 hown hK hP 0 pw_0 rfl 3 (by decide) (hw _ kw_74) (fun _ h9 => h9) (by rw [← e4]; rfl) dX4_house_29 ?_
  refine lv_iconst (v := iI 1) hx hb dX4_house_32 (by decide) ?_
  refine n_sub hx hb dX4_house_33 ?_
  have hf5 : g3 = (m_up g 0 0 3 (g 0 0 3 + 1)) := by rw [hg3]
  rw [hf5] at hP
  exact W.iret (v := (iI ((g 0 0 3 + 1) - 1))) hx hb hr (fun t ht hW9 => ⟨⟨(iI ((g 0 0 3 + 1) - 1)), (), rfl, (congrArg iI (by omega)), ⟨vt, by rw [ht]; exact hP⟩⟩, hS.F ht⟩) hS.2.2 dX4_house_34
set_option maxHeartbeats 4000000 in
set_option maxRecDepth 100000 in
theorem c_book (l : Launch) (D : va_G) (a : Nat → Nat) (cH cB cJ cI : ClassId) (ha : pj a) (g : m_St) (vt : Nat → Int32) (sz : Nat) (q1 : Int) (q2 : Int) (q3 : Int) (q4 : Int) (q5 : Int) (q6 : Int) (hWf : Wf g) (h4 : g 0 0 4 < 16) (r1 : 0 ≤ q1 ∧ q1 < g 0 0 3) (r2 : 0 ≤ q2 ∧ q2 ≤ 9) (r3 : 0 ≤ q3 ∧ q3 ≤ 2) (r4 : 50 ≤ q4 ∧ q4 ≤ 900) (r5 : 0 ≤ q5 ∧ q5 ≤ 60) (r6 : 0 ≤ q6 ∧ q6 ≤ 9) : Met l yX4_book (wc yX4_book cX4_book 7 (some .int)) ({ frames := 2, cells := 0, slots := 0, locals := 42 }) (va_Pc [.ref (a 0), .int (iI q1), .int (iI q2), .int (iI q3), .int (iI q4), .int (iI q5), .int (iI q6)] (pS D a cH cB cJ cI sz g vt)) (va_Qi (fun (r : Int32) (_ : Unit) => r = iI (g 0 0 4)) (fun _ t => ∃ vt1 : Nat → Int32, va_P D vwCl (pw a cH cB cJ cI (m_book g q1 q2 q3 q4 q5 q6) vt1) t.heap) (pA a sz)) 0 0 (pA a sz) := by
  refine Met.ofW (cc := cX4_book) (maxL := 7) (ret := (some .int)) (by decide +kernel) rfl ?_
  intro p e s m args below meth c s₁ B9 hml hv
  obtain ⟨rfl, hsz, hP, hK, hE⟩ := hv
  have hx := B9.exec
  have hb := B9.bytes
  have hr := B9.returns
  have hts := atoms_spec (ws := (wc yX4_book cX4_book 7 (some .int))) B9.pre
  have hw : ∀ w ∈ wsL_law0, w.before [.ref (a 0), .int (iI q1), .int (iI q2), .int (iI q3), .int (iI q4), .int (iI q5), .int (iI q6)].toArray s = true := fun w h => hts w (List.mem_cons_of_mem _ h)
  have hown : s.vm.findClass RX4 = some m.cls := findClass_of_methodNamed B9.named
  subst hsz
  have hS : va_S (pA a s.heap.size) s.heap s.heap [] := va_S.rf
  have hA : ∀ q : Nat, s.heap.size ≤ q → pA a s.heap.size q := fun _ h => pA_new h
  have hB : ∀ k, k < 58 → pA a s.heap.size (a k) := fun _ h => pA_in h
  have hl := lv_entry ([.ref (a 0), .int (iI q1), .int (iI q2), .int (iI q3), .int (iI q4), .int (iI q5), .int (iI q6)]) (n := 7) (Nat.le_of_ble_eq_true rfl)
  rw [lg_entry_eq]
  generalize (lg_sl ([.ref (a 0), .int (iI q1), .int (iI q2), .int (iI q3), .int (iI q4), .int (iI q5), .int (iI q6)]) ++ List.replicate (7 - (lg_sl ([.ref (a 0), .int (iI q1), .int (iI q2), .int (iI q3), .int (iI q4), .int (iI q5), .int (iI q6)])).length) Slot.unset).toArray = ls at hl ⊢
  have hl : lv_has ls 7 [(0, .ref (a 0)), (1, .int (iI q1)), (2, .int (iI q2)), (3, .int (iI q3)), (4, .int (iI q4)), (5, .int (iI q5)), (6, .int (iI q6))] := hl
  suffices h9 : ∀ (H : Heap) (locs : List Loc), va_P D vwCl (pw a cH cB cJ cI g vt) H → va_S (pA a s.heap.size) s.heap H locs → W p l e (headSpec (wc yX4_book cX4_book 7 (some .int)) ({ frames := 2, cells := 0, slots := 0, locals := 42 })).room s m [.ref (a 0), .int (iI q1), .int (iI q2), .int (iI q3), .int (iI q4), .int (iI q5), .int (iI q6)].toArray below meth c H locs 0 0 (MQ below (va_Qi (fun (r : Int32) (_ : Unit) => r = iI (g 0 0 4)) (fun _ t => ∃ vt1 : Nat → Int32, va_P D vwCl (pw a cH cB cJ cI (m_book g q1 q2 q3 q4 q5 q6) vt1) t.heap) (pA a s.heap.size)) [.ref (a 0), .int (iI q1), .int (iI q2), .int (iI q3), .int (iI q4), .int (iI q5), .int (iI q6)].toArray s 0 0 (pA a s.heap.size)) (F0 m 0 ls []) from h9 s.heap [] hP hS
  clear hP hS
  intro H locs hP hS
  have m4 := Wf.m4 hWf
  have m3 := Wf.m3 hWf
  refine lv_aload_n hx hb dX4_book_0 rfl (lv_at hl 0 rfl) ?_
  refine lv_iload_n hx hb dX4_book_1 rfl (lv_at hl 1 rfl) ?_
  refine va_calli (va_runV (As := [.int (iI q1)]) (rest := []) ⟨hx, hb, hml, hown, hw⟩ (c_isHouse l D a cH cB cJ cI ha g vt H.size q1 hWf (by omega)) (cwV 1 hw (gA_V kw_136 kw_137 kw_138 kw_2 kw_139) rfl rfl rfl (by decide +kernel) ⟨Nat.le_of_ble_eq_true rfl, Nat.le_of_ble_eq_true rfl⟩) (pS_v (ci := 4) (q0 := 0) rfl pw_0 hP hK hE) rfl rfl hl.1 rfl (lv_room (Nat.le_of_ble_eq_true rfl)) dX4_book_2 ⟨Nat.le_of_ble_eq_true rfl, Nat.le_of_ble_eq_true rfl⟩) hS (fun q h1 h2 => ro_A h1 h2) (fun q h => ro_F hS hA q h) (fun r u t H1 locs ht hvm hw9 hB9 hz1 hk1 hS => ?_)
  have hw9 : r = (bi (decide (0 ≤ q1 ∧ q1 < g 0 0 3))) := hw9
  subst hw9
  have hP := ro_P hP hk1
  generalize H1 = H at hP hS ⊢
  refine n_b_ne hx hb (tgt := 18) dX4_book_5 (by decide) (fun h1 => ?_) (fun h1 => absurd h1 (by intro h1; have h1 := of_decide_eq_false h1; omega))
  have h1 := of_decide_eq_true h1
  refine lv_iload_n hx hb dX4_book_18 rfl (lv_at hl 2 rfl) ?_
  refine va_calli (va_runS (As := [.int (iI q2)]) (rest := []) ⟨hx, hb, hml, hown, hw⟩ (c_isAuthor l D a cH cB cJ cI ha g vt H.size q2 (by omega)) (va_cwS 1 hw (gA_S kw_140 kw_141 kw_2 kw_142) rfl rfl rfl (by decide +kernel) ⟨Nat.le_of_ble_eq_true rfl, Nat.le_of_ble_eq_true rfl⟩) (pS_s hP hK hE) rfl rfl hl.1 rfl (lv_room (Nat.le_of_ble_eq_true rfl)) dX4_book_19 ⟨Nat.le_of_ble_eq_true rfl, Nat.le_of_ble_eq_true rfl⟩) hS (fun q h1 h2 => ro_A h1 h2) (fun q h => ro_F hS hA q h) (fun r u t H1 locs ht hvm hw9 hB9 hz1 hk1 hS => ?_)
  have hw9 : r = (bi (decide (0 ≤ q2 ∧ q2 ≤ 9))) := hw9
  subst hw9
  have hP := ro_P hP hk1
  generalize H1 = H at hP hS ⊢
  refine n_b_eq hx hb (tgt := 69) dX4_book_22 (by decide) (fun h2 => absurd h2 (by intro h2; have h2 := of_decide_eq_false h2; omega)) (fun h2 => ?_)
  have h2 := of_decide_eq_true h2
  refine lv_iload_n hx hb dX4_book_25 rfl (lv_at hl 3 rfl) ?_
  refine lv_iconst (v := iI 0) hx hb dX4_book_26 (by decide) ?_
  refine lv_iconst (v := iI 2) hx hb dX4_book_27 (by decide) ?_
  refine va_calli (va_runS (As := [.int (iI q3), .int (iI 0), .int (iI 2)]) (rest := []) ⟨hx, hb, hml, hown, hw⟩ (c_isWithin l D a cH cB cJ cI ha g vt H.size q3 0 2 (by omega) (by omega) (by omega)) (va_cwS 3 hw (gA_S kw_82 kw_83 kw_2 kw_84) rfl rfl rfl (by decide +kernel) ⟨Nat.le_of_ble_eq_true rfl, Nat.le_of_ble_eq_true rfl⟩) (pS_s hP hK hE) rfl rfl hl.1 rfl (lv_room (Nat.le_of_ble_eq_true rfl)) dX4_book_28 ⟨Nat.le_of_ble_eq_true rfl, Nat.le_of_ble_eq_true rfl⟩) hS (fun q h1 h2 => ro_A h1 h2) (fun q h => ro_F hS hA q h) (fun r u t H1 locs ht hvm hw9 hB9 hz1 hk1 hS => ?_)
  have hw9 : r = (bi (decide (0 ≤ q3 ∧ q3 ≤ 2))) := hw9
  subst hw9
  have hP := ro_P hP hk1
  generalize H1 = H at hP hS ⊢
  refine n_b_eq hx hb (tgt := 69) dX4_book_31 (by decide) (fun h3 => absurd h3 (by intro h3; have h3 := of_decide_eq_false h3; omega)) (fun h3 => ?_)
  have h3 := of_decide_eq_true h3
  refine lv_iload hx hb dX4_book_34 (lv_at hl 4 rfl) ?_
  refine lv_bipush (v := iI 50) hx hb dX4_book_36 (by decide) ?_
  refine lv_sipush (v := iI 900) hx hb dX4_book_38 (by decide) ?_
  refine va_calli (va_runS (As := [.int (iI q4), .int (iI 50), .int (iI 900)]) (rest := []) ⟨hx, hb, hml, hown, hw⟩ (c_isWithin l D a cH cB cJ cI ha g vt H.size q4 50 900 (by omega) (by omega) (by omega)) (va_cwS 3 hw (gA_S kw_82 kw_83 kw_2 kw_84) rfl rfl rfl (by decide +kernel) ⟨Nat.le_of_ble_eq_true rfl, Nat.le_of_ble_eq_true rfl⟩) (pS_s hP hK hE) rfl rfl hl.1 rfl (lv_room (Nat.le_of_ble_eq_true rfl)) dX4_book_41 ⟨Nat.le_of_ble_eq_true rfl, Nat.le_of_ble_eq_true rfl⟩) hS (fun q h1 h2 => ro_A h1 h2) (fun q h => ro_F hS hA q h) (fun r u t H1 locs ht hvm hw9 hB9 hz1 hk1 hS => ?_)
  have hw9 : r = (bi (decide (50 ≤ q4 ∧ q4 ≤ 900))) := hw9
  subst hw9
  have hP := ro_P hP hk1
  generalize H1 = H at hP hS ⊢
  refine n_b_eq hx hb (tgt := 69) dX4_book_44 (by decide) (fun h4 => absurd h4 (by intro h4; have h4 := of_decide_eq_false h4; omega)) (fun h4 => ?_)
  have h4 := of_decide_eq_true h4
  refine lv_iload hx hb dX4_book_47 (lv_at hl 5 rfl) ?_
  refine lv_iconst (v := iI 0) hx hb dX4_book_49 (by decide) ?_
  refine lv_bipush (v := iI 60) hx hb dX4_book_50 (by decide) ?_
  refine va_calli (va_runS (As := [.int (iI q5), .int (iI 0), .int (iI 60)]) (rest := []) ⟨hx, hb, hml, hown, hw⟩ (c_isWithin l D a cH cB cJ cI ha g vt H.size q5 0 60 (by omega) (by omega) (by omega)) (va_cwS 3 hw (gA_S kw_82 kw_83 kw_2 kw_84) rfl rfl rfl (by decide +kernel) ⟨Nat.le_of_ble_eq_true rfl, Nat.le_of_ble_eq_true rfl⟩) (pS_s hP hK hE) rfl rfl hl.1 rfl (lv_room (Nat.le_of_ble_eq_true rfl)) dX4_book_52 ⟨Nat.le_of_ble_eq_true rfl, Nat.le_of_ble_eq_true rfl⟩) hS (fun q h1 h2 => ro_A h1 h2) (fun q h => ro_F hS hA q h) (fun r u t H1 locs ht hvm hw9 hB9 hz1 hk1 hS => ?_)
  have hw9 : r = (bi (decide (0 ≤ q5 ∧ q5 ≤ 60))) := hw9
  subst hw9
  have hP := ro_P hP hk1
  generalize H1 = H at hP hS ⊢
  refine n_b_eq hx hb (tgt := 69) dX4_book_55 (by decide) (fun h5 => absurd h5 (by intro h5; have h5 := of_decide_eq_false h5; omega)) (fun h5 => ?_)
  have h5 := of_decide_eq_true h5
  refine lv_iload hx hb dX4_book_58 (lv_at hl 6 rfl) ?_
  refine lv_iconst (v := iI 0) hx hb dX4_book_60 (by decide) ?_
  refine lv_bipush (v := iI 9) hx hb dX4_book_61 (by decide) ?_
  refine va_calli (va_runS (As := [.int (iI q6), .int (iI 0), .int (iI 9)]) (rest := []) ⟨hx, hb, hml, hown, hw⟩ (c_isWithin l D a cH cB cJ cI ha g vt H.size q6 0 9 (by omega) (by omega) (by omega)) (va_cwS 3 hw (gA_S kw_82 kw_83 kw_2 kw_84) rfl rfl rfl (by decide +kernel) ⟨Nat.le_of_ble_eq_true rfl, Nat.le_of_ble_eq_true rfl⟩) (pS_s hP hK hE) rfl rfl hl.1 rfl (lv_room (Nat.le_of_ble_eq_true rfl)) dX4_book_63 ⟨Nat.le_of_ble_eq_true rfl, Nat.le_of_ble_eq_true rfl⟩) hS (fun q h1 h2 => ro_A h1 h2) (fun q h => ro_F hS hA q h) (fun r u t H1 locs ht hvm hw9 hB9 hz1 hk1 hS => ?_)
  have hw9 : r = (bi (decide (0 ≤ q6 ∧ q6 ≤ 9))) := hw9
  subst hw9
  have hP := ro_P hP hk1
  generalize H1 = H at hP hS ⊢
  refine n_b_ne hx hb (tgt := 79) dX4_book_66 (by decide) (fun h6 => ?_) (fun h6 => absurd h6 (by intro h6; have h6 := of_decide_eq_false h6; omega))
  have h6 := of_decide_eq_true h6
  refine lv_aload_n hx hb dX4_book_79 rfl (lv_at hl 0 rfl) ?_
  have s7 := Wf.m4 hWf
  refine va_get (D := D) (ci := 4) (v := .int (iI (g 0 0 4))) (C := RX4) (T := TX4) (N := 19) hx hb hw hin_wsX40 hown hK hP 0 pw_0 rfl 4 (by decide) (hw _ kw_98) (fun _ h9 => h9) rfl dX4_book_80 ?_
  refine lv_bipush (v := iI 16) hx hb dX4_book_83 (by decide) ?_
  refine n_icmp_lt hx hb (by unfold RI; omega) (by unfold RI; omega) (tgt := 98) dX4_book_85 (by decide) (fun h8 => ?_) (fun h8 => absurd h8 (by intro h8; omega))
  refine lv_aload_n hx hb dX4_book_98 rfl (lv_at hl 0 rfl) ?_
  refine va_get (D := D) (ci := 4) (v := .ref (a 2)) (C := RX4) (T := TX4) (N := 19) hx hb hw hin_wsX40 hown hK hP 0 pw_0 rfl 1 (by decide) (hw _ kw_17) (fun _ h9 => h9) rfl dX4_book_99 ?_
  refine lv_aload_n hx hb dX4_book_102 rfl (lv_at hl 0 rfl) ?_
  refine va_get (D := D) (ci := 4) (v := .int (iI (g 0 0 4))) (C := RX4) (T := TX4) (N := 19) hx hb hw hin_wsX40 hown hK hP 0 pw_0 rfl 4 (by decide) (hw _ kw_98) (fun _ h9 => h9) rfl dX4_book_103 ?_
  refine p_aldB hx hb hK hP (k := g 0 0 4) (by omega) (by omega) dX4_book_106 ?_
  refine lv_iload_n hx hb dX4_book_107 rfl (lv_at hl 1 rfl) ?_
  refine lv_iload_n hx hb dX4_book_108 rfl (lv_at hl 2 rfl) ?_
  refine lv_iload_n hx hb dX4_book_109 rfl (lv_at hl 3 rfl) ?_
  refine lv_iload hx hb dX4_book_110 (lv_at hl 4 rfl) ?_
  refine lv_iload hx hb dX4_book_112 (lv_at hl 5 rfl) ?_
  refine lv_iload hx hb dX4_book_114 (lv_at hl 6 rfl) ?_
  refine va_callv (va_runV (As := [.int (iI q1), .int (iI q2), .int (iI q3), .int (iI q4), .int (iI q5), .int (iI q6)]) (rest := []) ⟨hx, hb, hml, hown, hw⟩ (c_describeB l D a cH cB cJ cI ha g vt H.size (g 0 0 4) q1 q2 q3 q4 q5 q6 (by omega)) (cwV 6 hw (gA_V kw_143 kw_144 kw_145 kw_32 kw_146) rfl rfl rfl (by decide +kernel) ⟨Nat.le_of_ble_eq_true rfl, Nat.le_of_ble_eq_true rfl⟩) (pS_v (ci := 0) (q0 := (12 + (g 0 0 4).toNat)) rfl (pw_B (b := g 0 0 4) (by omega) (by omega)) hP hK hE) rfl rfl hl.1 rfl (lv_room (Nat.le_of_ble_eq_true rfl)) dX4_book_116 ⟨Nat.le_of_ble_eq_true rfl, Nat.le_of_ble_eq_true rfl⟩) hS (fun q _ h => rw_A hS hA hB q h) (fun q h => rw_A hS hA hB q h) (fun u t H1 locs ht hvm hw9 hB9 hz1 hk1 hS => ?_)
  obtain ⟨v9, hP1⟩ := hB9
  rw [ht] at hP1
  obtain ⟨g10, hg10⟩ : ∃ z, z = (m_describeB g (g 0 0 4) q1 q2 q3 q4 q5 q6) := ⟨_, rfl⟩
  rw [← hg10] at hP1
  have hP : va_P D vwCl (pw a cH cB cJ cI g10 v9) H1 := hP1
  generalize H1 = H at hP hS ⊢
  refine lv_aload_n hx hb dX4_book_119 rfl (lv_at hl 0 rfl) ?_
  refine va_get (D := D) (ci := 4) (v := .ref (a 2)) (C := RX4) (T := TX4) (N := 19) hx hb hw hin_wsX40 hown hK hP 0 pw_0 rfl 1 (by decide) (hw _ kw_17) (fun _ h9 => h9) rfl dX4_book_120 ?_
  refine lv_aload_n hx hb dX4_book_123 rfl (lv_at hl 0 rfl) ?_
  have e11 : g10 0 0 4 = g 0 0 4 := by simp [hg10, m_describeB, m_up]
  refine va_get (D := D) (ci := 4) (v := .int (iI (g 0 0 4))) (C := RX4) (T := TX4) (N := 19) hx hb hw hin_wsX40 hown hK hP 0 pw_0 rfl 4 (by decide) (hw _ kw_98) (fun _ h9 => h9) (by rw [← e11]; rfl) dX4_book_124 ?_
  refine p_aldB hx hb hK hP (k := g 0 0 4) (by omega) (by omega) dX4_book_127 ?_
  refine lv_aload_n hx hb dX4_book_128 rfl (lv_at hl 0 rfl) ?_
  have e12 : g10 0 0 8 = g 0 0 8 := by simp [hg10, m_describeB, m_up]
  have s13 := Wf.m8 hWf
  refine va_get (D := D) (ci := 4) (v := .int (iI (g 0 0 8))) (C := RX4) (T := TX4) (N := 19) hx hb hw hin_wsX40 hown hK hP 0 pw_0 rfl 8 (by decide) (hw _ kw_96) (fun _ h9 => h9) (by rw [← e12]; rfl) dX4_book_129 ?_
  refine va_put (D := D) (ci := 0) (v := .int (iI (g 0 0 8))) (C := RX0) (T := TX0) (N := 11) (ty := .int) hx hb hw hin_wsX00 tyX0 tyX0_ok nmX0 hown hK hP (pw_D ha (fun k hk => pA_in hk)) hS (12 + (g 0 0 4).toNat) (pw_B (b := g 0 0 4) (by omega) (by omega)) rfl 6 (by decide) (hw _ kw_135) (fun _ h9 => h9) rfl (tyX0_ok 6 (by decide)) rfl rfl (show 6 < 11 from by decide) dX4_book_132 (fun H locs hP _ hS => ?_)
  rw [pw_setB (by omega) (by omega) (by decide)] at hP
  have hP : va_P D vwCl (pw a cH cB cJ cI (m_up g10 2 (g 0 0 4) 6 (g 0 0 8)) v9) H := hP
  obtain ⟨g14, hg14⟩ : ∃ z, z = m_up g10 2 (g 0 0 4) 6 (g 0 0 8) := ⟨_, rfl⟩
  rw [← hg14] at hP
  refine lv_aload_n hx hb dX4_book_135 rfl (lv_at hl 0 rfl) ?_
  refine lv_dup hx hb dX4_book_136 rfl ?_
  have e15 : g14 0 0 4 = g 0 0 4 := by simp [hg14, hg10, m_describeB, m_up]
  refine va_get (D := D) (ci := 4) (v := .int (iI (g 0 0 4))) (C := RX4) (T := TX4) (N := 19) hx hb hw hin_wsX40 hown hK hP 0 pw_0 rfl 4 (by decide) (hw _ kw_98) (fun _ h9 => h9) (by rw [← e15]; rfl) dX4_book_137 ?_
  refine lv_iconst (v := iI 1) hx hb dX4_book_140 (by decide) ?_
  refine n_add hx hb dX4_book_141 ?_
  refine va_put (D := D) (ci := 4) (v := .int (iI (g 0 0 4 + 1))) (C := RX4) (T := TX4) (N := 19) (ty := .int) hx hb hw hin_wsX40 tyX4 tyX4_ok nmX4 hown hK hP (pw_D ha (fun k hk => pA_in hk)) hS 0 pw_0 rfl 4 (by decide) (hw _ kw_98) (fun _ h9 => h9) rfl (tyX4_ok 4 (by decide)) rfl rfl (show 4 < 19 from by decide) dX4_book_142 (fun H locs hP _ hS => ?_)
  rw [pw_setM (by decide) (by decide) (by decide) (by decide)] at hP
  have hP : va_P D vwCl (pw a cH cB cJ cI (m_up g14 0 0 4 (g 0 0 4 + 1)) v9) H := hP
  obtain ⟨g16, hg16⟩ : ∃ z, z = m_up g14 0 0 4 (g 0 0 4 + 1) := ⟨_, rfl⟩
  rw [← hg16] at hP
  refine lv_aload_n hx hb dX4_book_145 rfl (lv_at hl 0 rfl) ?_
  have e17 : g16 0 0 4 = (g 0 0 4 + 1) := by simp [hg16, m_up]
  refine va_get (D := D) (ci := 4) (v := .int (iI (g 0 0 4 + 1))) (C := RX4) (T := TX4) (N := 19) hx hb hw hin_wsX40 hown hK hP 0 pw_0 rfl 4 (by decide) (hw _ kw_98) (fun _ h9 => h9) (by rw [← e17]; rfl) dX4_book_146 ?_
  refine lv_iconst (v := iI 1) hx hb dX4_book_149 (by decide) ?_
  refine n_sub hx hb dX4_book_150 ?_
  have hf18 : g16 = (m_book g q1 q2 q3 q4 q5 q6) := by rw [hg16, hg14, hg10] <;> rfl
  rw [hf18] at hP
  exact W.iret (v := (iI ((g 0 0 4 + 1) - 1))) hx hb hr (fun t ht hW9 => ⟨⟨(iI ((g 0 0 4 + 1) - 1)), (), rfl, (congrArg iI (by omega)), ⟨v9, by rw [ht]; exact hP⟩⟩, hS.F ht⟩) hS.2.2 dX4_book_151
set_option maxHeartbeats 4000000 in
set_option maxRecDepth 100000 in
theorem c_judge (l : Launch) (D : va_G) (a : Nat → Nat) (cH cB cJ cI : ClassId) (ha : pj a) (g : m_St) (vt : Nat → Int32) (sz : Nat) (q1 : Int) (q2 : Int) (q3 : Int) (hWf : Wf g) (h5 : g 0 0 5 < 5) (h9 : g 0 0 9 = 0) (r1 : 20 ≤ q1 ∧ q1 ≤ 200) (r2 : 0 ≤ q2 ∧ q2 ≤ 9) (r3 : -10 ≤ q3 ∧ q3 ≤ 10) : Met l yX4_judge (wc yX4_judge cX4_judge 4 (some .int)) ({ frames := 1, cells := 0, slots := 0, locals := 23 }) (va_Pc [.ref (a 0), .int (iI q1), .int (iI q2), .int (iI q3)] (pS D a cH cB cJ cI sz g vt)) (va_Qi (fun (r : Int32) (_ : Unit) => r = iI (g 0 0 5)) (fun _ t => ∃ vt1 : Nat → Int32, va_P D vwCl (pw a cH cB cJ cI (m_judge g q1 q2 q3) vt1) t.heap) (pA a sz)) 0 0 (pA a sz) := by
  refine Met.ofW (cc := cX4_judge) (maxL := 4) (ret := (some .int)) (by decide +kernel) rfl ?_
  intro p e s m args below meth c s₁ B9 hml hv
  obtain ⟨rfl, hsz, hP, hK, hE⟩ := hv
  have hx := B9.exec
  have hb := B9.bytes
  have hr := B9.returns
  have hts := atoms_spec (ws := (wc yX4_judge cX4_judge 4 (some .int))) B9.pre
  have hw : ∀ w ∈ wsL_law0, w.before [.ref (a 0), .int (iI q1), .int (iI q2), .int (iI q3)].toArray s = true := fun w h => hts w (List.mem_cons_of_mem _ h)
  have hown : s.vm.findClass RX4 = some m.cls := findClass_of_methodNamed B9.named
  subst hsz
  have hS : va_S (pA a s.heap.size) s.heap s.heap [] := va_S.rf
  have hA : ∀ q : Nat, s.heap.size ≤ q → pA a s.heap.size q := fun _ h => pA_new h
  have hB : ∀ k, k < 58 → pA a s.heap.size (a k) := fun _ h => pA_in h
  have hl := lv_entry ([.ref (a 0), .int (iI q1), .int (iI q2), .int (iI q3)]) (n := 4) (Nat.le_of_ble_eq_true rfl)
  rw [lg_entry_eq]
  generalize (lg_sl ([.ref (a 0), .int (iI q1), .int (iI q2), .int (iI q3)]) ++ List.replicate (4 - (lg_sl ([.ref (a 0), .int (iI q1), .int (iI q2), .int (iI q3)])).length) Slot.unset).toArray = ls at hl ⊢
  have hl : lv_has ls 4 [(0, .ref (a 0)), (1, .int (iI q1)), (2, .int (iI q2)), (3, .int (iI q3))] := hl
  suffices h9 : ∀ (H : Heap) (locs : List Loc), va_P D vwCl (pw a cH cB cJ cI g vt) H → va_S (pA a s.heap.size) s.heap H locs → W p l e (headSpec (wc yX4_judge cX4_judge 4 (some .int)) ({ frames := 1, cells := 0, slots := 0, locals := 23 })).room s m [.ref (a 0), .int (iI q1), .int (iI q2), .int (iI q3)].toArray below meth c H locs 0 0 (MQ below (va_Qi (fun (r : Int32) (_ : Unit) => r = iI (g 0 0 5)) (fun _ t => ∃ vt1 : Nat → Int32, va_P D vwCl (pw a cH cB cJ cI (m_judge g q1 q2 q3) vt1) t.heap) (pA a s.heap.size)) [.ref (a 0), .int (iI q1), .int (iI q2), .int (iI q3)].toArray s 0 0 (pA a s.heap.size)) (F0 m 0 ls []) from h9 s.heap [] hP hS
  clear hP hS
  intro H locs hP hS
  have m5 := Wf.m5 hWf
  refine lv_iload_n hx hb dX4_judge_0 rfl (lv_at hl 1 rfl) ?_
  refine lv_bipush (v := iI 20) hx hb dX4_judge_1 (by decide) ?_
  refine lv_sipush (v := iI 200) hx hb dX4_judge_3 (by decide) ?_
  refine va_calli (va_runS (As := [.int (iI q1), .int (iI 20), .int (iI 200)]) (rest := []) ⟨hx, hb, hml, hown, hw⟩ (c_isWithin l D a cH cB cJ cI ha g vt H.size q1 20 200 (by omega) (by omega) (by omega)) (va_cwS 3 hw (gA_S kw_82 kw_83 kw_2 kw_84) rfl rfl rfl (by decide +kernel) ⟨Nat.le_of_ble_eq_true rfl, Nat.le_of_ble_eq_true rfl⟩) (pS_s hP hK hE) rfl rfl hl.1 rfl (lv_room (Nat.le_of_ble_eq_true rfl)) dX4_judge_6 ⟨Nat.le_of_ble_eq_true rfl, Nat.le_of_ble_eq_true rfl⟩) hS (fun q h1 h2 => ro_A h1 h2) (fun q h => ro_F hS hA q h) (fun r u t H1 locs ht hvm hw9 hB9 hz1 hk1 hS => ?_)
  have hw9 : r = (bi (decide (20 ≤ q1 ∧ q1 ≤ 200))) := hw9
  subst hw9
  have hP := ro_P hP hk1
  generalize H1 = H at hP hS ⊢
  refine n_b_eq hx hb (tgt := 33) dX4_judge_9 (by decide) (fun h1 => absurd h1 (by intro h1; have h1 := of_decide_eq_false h1; omega)) (fun h1 => ?_)
  have h1 := of_decide_eq_true h1
  refine lv_iload_n hx hb dX4_judge_12 rfl (lv_at hl 2 rfl) ?_
  refine lv_iconst (v := iI 0) hx hb dX4_judge_13 (by decide) ?_
  refine lv_bipush (v := iI 9) hx hb dX4_judge_14 (by decide) ?_
  refine va_calli (va_runS (As := [.int (iI q2), .int (iI 0), .int (iI 9)]) (rest := []) ⟨hx, hb, hml, hown, hw⟩ (c_isWithin l D a cH cB cJ cI ha g vt H.size q2 0 9 (by omega) (by omega) (by omega)) (va_cwS 3 hw (gA_S kw_82 kw_83 kw_2 kw_84) rfl rfl rfl (by decide +kernel) ⟨Nat.le_of_ble_eq_true rfl, Nat.le_of_ble_eq_true rfl⟩) (pS_s hP hK hE) rfl rfl hl.1 rfl (lv_room (Nat.le_of_ble_eq_true rfl)) dX4_judge_16 ⟨Nat.le_of_ble_eq_true rfl, Nat.le_of_ble_eq_true rfl⟩) hS (fun q h1 h2 => ro_A h1 h2) (fun q h => ro_F hS hA q h) (fun r u t H1 locs ht hvm hw9 hB9 hz1 hk1 hS => ?_)
  have hw9 : r = (bi (decide (0 ≤ q2 ∧ q2 ≤ 9))) := hw9
  subst hw9
  have hP := ro_P hP hk1
  generalize H1 = H at hP hS ⊢
  refine n_b_eq hx hb (tgt := 33) dX4_judge_19 (by decide) (fun h2 => absurd h2 (by intro h2; have h2 := of_decide_eq_false h2; omega)) (fun h2 => ?_)
  have h2 := of_decide_eq_true h2
  refine lv_iload_n hx hb dX4_judge_22 rfl (lv_at hl 3 rfl) ?_
  refine lv_bipush (v := iI (-10)) hx hb dX4_judge_23 (by decide) ?_
  refine lv_bipush (v := iI 10) hx hb dX4_judge_25 (by decide) ?_
  refine va_calli (va_runS (As := [.int (iI q3), .int (iI (-10)), .int (iI 10)]) (rest := []) ⟨hx, hb, hml, hown, hw⟩ (c_isWithin l D a cH cB cJ cI ha g vt H.size q3 (-10) 10 (by omega) (by omega) (by omega)) (va_cwS 3 hw (gA_S kw_82 kw_83 kw_2 kw_84) rfl rfl rfl (by decide +kernel) ⟨Nat.le_of_ble_eq_true rfl, Nat.le_of_ble_eq_true rfl⟩) (pS_s hP hK hE) rfl rfl hl.1 rfl (lv_room (Nat.le_of_ble_eq_true rfl)) dX4_judge_27 ⟨Nat.le_of_ble_eq_true rfl, Nat.le_of_ble_eq_true rfl⟩) hS (fun q h1 h2 => ro_A h1 h2) (fun q h => ro_F hS hA q h) (fun r u t H1 locs ht hvm hw9 hB9 hz1 hk1 hS => ?_)
  have hw9 : r = (bi (decide ((-10) ≤ q3 ∧ q3 ≤ 10))) := hw9
  subst hw9
  have hP := ro_P hP hk1
  generalize H1 = H at hP hS ⊢
  refine n_b_ne hx hb (tgt := 43) dX4_judge_30 (by decide) (fun h3 => ?_) (fun h3 => absurd h3 (by intro h3; have h3 := of_decide_eq_false h3; omega))
  have h3 := of_decide_eq_true h3
  refine lv_aload_n hx hb dX4_judge_43 rfl (lv_at hl 0 rfl) ?_
  have s4 := Wf.m5 hWf
  refine va_get (D := D) (ci := 4) (v := .int (iI (g 0 0 5))) (C := RX4) (T := TX4) (N := 19) hx hb hw hin_wsX40 hown hK hP 0 pw_0 rfl 5 (by decide) (hw _ kw_81) (fun _ h9 => h9) rfl dX4_judge_44 ?_
  refine lv_iconst (v := iI 5) hx hb dX4_judge_47 (by decide) ?_
  refine n_icmp_ge hx hb (by unfold RI; omega) (by unfold RI; omega) (tgt := 58) dX4_judge_48 (by decide) (fun h5 => absurd h5 (by intro h5; omega)) (fun h5 => ?_)
  refine lv_aload_n hx hb dX4_judge_51 rfl (lv_at hl 0 rfl) ?_
  have s6 := Wf.m9 hWf
  refine va_get (D := D) (ci := 4) (v := .int (iI (g 0 0 9))) (C := RX4) (T := TX4) (N := 19) hx hb hw hin_wsX40 hown hK hP 0 pw_0 rfl 9 (by decide) (hw _ kw_25) (fun _ h9 => h9) rfl dX4_judge_52 ?_
  refine n_if_eq hx hb (by unfold RI; omega) (tgt := 68) dX4_judge_55 (by decide) (fun h7 => ?_) (fun h7 => absurd h7 (by intro h7; omega))
  refine lv_aload_n hx hb dX4_judge_68 rfl (lv_at hl 0 rfl) ?_
  refine va_get (D := D) (ci := 4) (v := .ref (a 3)) (C := RX4) (T := TX4) (N := 19) hx hb hw hin_wsX40 hown hK hP 0 pw_0 rfl 2 (by decide) (hw _ kw_19) (fun _ h9 => h9) rfl dX4_judge_69 ?_
  refine lv_aload_n hx hb dX4_judge_72 rfl (lv_at hl 0 rfl) ?_
  refine va_get (D := D) (ci := 4) (v := .int (iI (g 0 0 5))) (C := RX4) (T := TX4) (N := 19) hx hb hw hin_wsX40 hown hK hP 0 pw_0 rfl 5 (by decide) (hw _ kw_81) (fun _ h9 => h9) rfl dX4_judge_73 ?_
  refine p_aldJ hx hb hK hP (k := g 0 0 5) (by omega) (by omega) dX4_judge_76 ?_
  refine lv_iload_n hx hb dX4_judge_77 rfl (lv_at hl 1 rfl) ?_
  refine lv_iload_n hx hb dX4_judge_78 rfl (lv_at hl 2 rfl) ?_
  refine lv_iload_n hx hb dX4_judge_79 rfl (lv_at hl 3 rfl) ?_
  refine va_callv (va_runV (As := [.int (iI q1), .int (iI q2), .int (iI q3)]) (rest := []) ⟨hx, hb, hml, hown, hw⟩ (c_describeJ l D a cH cB cJ cI ha g vt H.size (g 0 0 5) q1 q2 q3 (by omega)) (cwV 3 hw (gA_V kw_85 kw_86 kw_87 kw_34 kw_88) rfl rfl rfl (by decide +kernel) ⟨Nat.le_of_ble_eq_true rfl, Nat.le_of_ble_eq_true rfl⟩) (pS_v (ci := 2) (q0 := (28 + 6 * (g 0 0 5).toNat)) rfl (pw_J (j := g 0 0 5) (by omega) (by omega)) hP hK hE) rfl rfl hl.1 rfl (lv_room (Nat.le_of_ble_eq_true rfl)) dX4_judge_80 ⟨Nat.le_of_ble_eq_true rfl, Nat.le_of_ble_eq_true rfl⟩) hS (fun q _ h => rw_A hS hA hB q h) (fun q h => rw_A hS hA hB q h) (fun u t H1 locs ht hvm hw9 hB9 hz1 hk1 hS => ?_)
  obtain ⟨v8, hP1⟩ := hB9
  rw [ht] at hP1
  obtain ⟨g9, hg9⟩ : ∃ z, z = (m_up (m_up (m_up g 3 (g 0 0 5) 0 q1) 3 (g 0 0 5) 1 q2) 3 (g 0 0 5) 2 q3) := ⟨_, rfl⟩
  rw [← hg9] at hP1
  have hP : va_P D vwCl (pw a cH cB cJ cI g9 v8) H1 := hP1
  generalize H1 = H at hP hS ⊢
  refine lv_aload_n hx hb dX4_judge_83 rfl (lv_at hl 0 rfl) ?_
  refine lv_dup hx hb dX4_judge_84 rfl ?_
  have e10 : g9 0 0 5 = g 0 0 5 := by simp [hg9, m_up]
  refine va_get (D := D) (ci := 4) (v := .int (iI (g 0 0 5))) (C := RX4) (T := TX4) (N := 19) hx hb hw hin_wsX40 hown hK hP 0 pw_0 rfl 5 (by decide) (hw _ kw_81) (fun _ h9 => h9) (by rw [← e10]; rfl) dX4_judge_85 ?_
  refine lv_iconst (v := iI 1) hx hb dX4_judge_88 (by decide) ?_
  refine n_add hx hb dX4_judge_89 ?_
  refine va_put (D := D) (ci := 4) (v := .int (iI (g 0 0 5 + 1))) (C := RX4) (T := TX4) (N := 19) (ty := .int) hx hb hw hin_wsX40 tyX4 tyX4_ok nmX4 hown hK hP (pw_D ha (fun k hk => pA_in hk)) hS 0 pw_0 rfl 5 (by decide) (hw _ kw_81) (fun _ h9 => h9) rfl (tyX4_ok 5 (by decide)) rfl rfl (show 5 < 19 from by decide) dX4_judge_90 (fun H locs hP _ hS => ?_)
  rw [pw_setM (by decide) (by decide) (by decide) (by decide)] at hP
  have hP : va_P D vwCl (pw a cH cB cJ cI (m_up g9 0 0 5 (g 0 0 5 + 1)) v8) H := hP
  obtain ⟨g11, hg11⟩ : ∃ z, z = m_up g9 0 0 5 (g 0 0 5 + 1) := ⟨_, rfl⟩
  rw [← hg11] at hP
  refine lv_aload_n hx hb dX4_judge_93 rfl (lv_at hl 0 rfl) ?_
  have e12 : g11 0 0 5 = (g 0 0 5 + 1) := by simp [hg11, m_up]
  refine va_get (D := D) (ci := 4) (v := .int (iI (g 0 0 5 + 1))) (C := RX4) (T := TX4) (N := 19) hx hb hw hin_wsX40 hown hK hP 0 pw_0 rfl 5 (by decide) (hw _ kw_81) (fun _ h9 => h9) (by rw [← e12]; rfl) dX4_judge_94 ?_
  refine lv_iconst (v := iI 1) hx hb dX4_judge_97 (by decide) ?_
  refine n_sub hx hb dX4_judge_98 ?_
  have hf13 : g11 = (m_judge g q1 q2 q3) := by rw [hg11, hg9] <;> rfl
  rw [hf13] at hP
  exact W.iret (v := (iI ((g 0 0 5 + 1) - 1))) hx hb hr (fun t ht hW9 => ⟨⟨(iI ((g 0 0 5 + 1) - 1)), (), rfl, (congrArg iI (by omega)), ⟨v8, by rw [ht]; exact hP⟩⟩, hS.F ht⟩) hS.2.2 dX4_judge_99
set_option maxHeartbeats 4000000 in
set_option maxRecDepth 100000 in
theorem c_conflict (l : Launch) (D : va_G) (a : Nat → Nat) (cH cB cJ cI : ClassId) (ha : pj a) (g : m_St) (vt : Nat → Int32) (sz : Nat) (jj : Int) (au : Int) (hWf : Wf g) (hjj : 0 ≤ jj ∧ jj < g 0 0 5) (hau : 0 ≤ au ∧ au ≤ 9) : Met l yX4_conflict (wc yX4_conflict cX4_conflict 3 (some .int)) ({ frames := 2, cells := 0, slots := 0, locals := 42 }) (va_Pc [.ref (a 0), .int (iI jj), .int (iI au)] (pS D a cH cB cJ cI sz g vt)) (va_Qi (fun (r : Int32) (_ : Unit) => r = iI (m_pcn (m_bo (g 3 jj 3) (m_bt au)))) (fun _ t => ∃ vt1 : Nat → Int32, va_P D vwCl (pw a cH cB cJ cI (m_conflict g jj au) vt1) t.heap) (pA a sz)) 0 0 (pA a sz) := by
  refine Met.ofW (cc := cX4_conflict) (maxL := 3) (ret := (some .int)) (by decide +kernel) rfl ?_
  intro p e s m args below meth c s₁ B9 hml hv
  obtain ⟨rfl, hsz, hP, hK, hE⟩ := hv
  have hx := B9.exec
  have hb := B9.bytes
  have hr := B9.returns
  have hts := atoms_spec (ws := (wc yX4_conflict cX4_conflict 3 (some .int))) B9.pre
  have hw : ∀ w ∈ wsL_law0, w.before [.ref (a 0), .int (iI jj), .int (iI au)].toArray s = true := fun w h => hts w (List.mem_cons_of_mem _ h)
  have hown : s.vm.findClass RX4 = some m.cls := findClass_of_methodNamed B9.named
  subst hsz
  have hS : va_S (pA a s.heap.size) s.heap s.heap [] := va_S.rf
  have hA : ∀ q : Nat, s.heap.size ≤ q → pA a s.heap.size q := fun _ h => pA_new h
  have hB : ∀ k, k < 58 → pA a s.heap.size (a k) := fun _ h => pA_in h
  have hl := lv_entry ([.ref (a 0), .int (iI jj), .int (iI au)]) (n := 3) (Nat.le_of_ble_eq_true rfl)
  rw [lg_entry_eq]
  generalize (lg_sl ([.ref (a 0), .int (iI jj), .int (iI au)]) ++ List.replicate (3 - (lg_sl ([.ref (a 0), .int (iI jj), .int (iI au)])).length) Slot.unset).toArray = ls at hl ⊢
  have hl : lv_has ls 3 [(0, .ref (a 0)), (1, .int (iI jj)), (2, .int (iI au))] := hl
  suffices h9 : ∀ (H : Heap) (locs : List Loc), va_P D vwCl (pw a cH cB cJ cI g vt) H → va_S (pA a s.heap.size) s.heap H locs → W p l e (headSpec (wc yX4_conflict cX4_conflict 3 (some .int)) ({ frames := 2, cells := 0, slots := 0, locals := 42 })).room s m [.ref (a 0), .int (iI jj), .int (iI au)].toArray below meth c H locs 0 0 (MQ below (va_Qi (fun (r : Int32) (_ : Unit) => r = iI (m_pcn (m_bo (g 3 jj 3) (m_bt au)))) (fun _ t => ∃ vt1 : Nat → Int32, va_P D vwCl (pw a cH cB cJ cI (m_conflict g jj au) vt1) t.heap) (pA a s.heap.size)) [.ref (a 0), .int (iI jj), .int (iI au)].toArray s 0 0 (pA a s.heap.size)) (F0 m 0 ls []) from h9 s.heap [] hP hS
  clear hP hS
  intro H locs hP hS
  have m5 := Wf.m5 hWf
  have j3 := Wf.j3 hWf (k := jj) (by omega) (by omega)
  have hb10 := bo_10 (S := g 3 jj 3) (k := au) (by omega) (by omega) (by omega)
  refine lv_aload_n hx hb dX4_conflict_0 rfl (lv_at hl 0 rfl) ?_
  refine lv_iload_n hx hb dX4_conflict_1 rfl (lv_at hl 1 rfl) ?_
  refine va_calli (va_runV (As := [.int (iI jj)]) (rest := []) ⟨hx, hb, hml, hown, hw⟩ (c_isJudge l D a cH cB cJ cI ha g vt H.size jj hWf (by omega)) (cwV 1 hw (gA_V kw_158 kw_159 kw_160 kw_2 kw_161) rfl rfl rfl (by decide +kernel) ⟨Nat.le_of_ble_eq_true rfl, Nat.le_of_ble_eq_true rfl⟩) (pS_v (ci := 4) (q0 := 0) rfl pw_0 hP hK hE) rfl rfl hl.1 rfl (lv_room (Nat.le_of_ble_eq_true rfl)) dX4_conflict_2 ⟨Nat.le_of_ble_eq_true rfl, Nat.le_of_ble_eq_true rfl⟩) hS (fun q h1 h2 => ro_A h1 h2) (fun q h => ro_F hS hA q h) (fun r u t H1 locs ht hvm hw9 hB9 hz1 hk1 hS => ?_)
  have hw9 : r = (bi (decide (0 ≤ jj ∧ jj < g 0 0 5))) := hw9
  subst hw9
  have hP := ro_P hP hk1
  generalize H1 = H at hP hS ⊢
  refine n_b_ne hx hb (tgt := 18) dX4_conflict_5 (by decide) (fun h1 => ?_) (fun h1 => absurd h1 (by intro h1; have h1 := of_decide_eq_false h1; omega))
  have h1 := of_decide_eq_true h1
  refine lv_iload_n hx hb dX4_conflict_18 rfl (lv_at hl 2 rfl) ?_
  refine va_calli (va_runS (As := [.int (iI au)]) (rest := []) ⟨hx, hb, hml, hown, hw⟩ (c_isAuthor l D a cH cB cJ cI ha g vt H.size au (by omega)) (va_cwS 1 hw (gA_S kw_140 kw_141 kw_2 kw_142) rfl rfl rfl (by decide +kernel) ⟨Nat.le_of_ble_eq_true rfl, Nat.le_of_ble_eq_true rfl⟩) (pS_s hP hK hE) rfl rfl hl.1 rfl (lv_room (Nat.le_of_ble_eq_true rfl)) dX4_conflict_19 ⟨Nat.le_of_ble_eq_true rfl, Nat.le_of_ble_eq_true rfl⟩) hS (fun q h1 h2 => ro_A h1 h2) (fun q h => ro_F hS hA q h) (fun r u t H1 locs ht hvm hw9 hB9 hz1 hk1 hS => ?_)
  have hw9 : r = (bi (decide (0 ≤ au ∧ au ≤ 9))) := hw9
  subst hw9
  have hP := ro_P hP hk1
  generalize H1 = H at hP hS ⊢
  refine n_b_ne hx hb (tgt := 35) dX4_conflict_22 (by decide) (fun h2 => ?_) (fun h2 => absurd h2 (by intro h2; have h2 := of_decide_eq_false h2; omega))
  have h2 := of_decide_eq_true h2
  refine lv_aload_n hx hb dX4_conflict_35 rfl (lv_at hl 0 rfl) ?_
  refine va_get (D := D) (ci := 4) (v := .ref (a 3)) (C := RX4) (T := TX4) (N := 19) hx hb hw hin_wsX40 hown hK hP 0 pw_0 rfl 2 (by decide) (hw _ kw_19) (fun _ h9 => h9) rfl dX4_conflict_36 ?_
  refine lv_iload_n hx hb dX4_conflict_39 rfl (lv_at hl 1 rfl) ?_
  refine p_aldJ hx hb hK hP (k := jj) (by omega) (by omega) dX4_conflict_40 ?_
  refine lv_dup hx hb dX4_conflict_41 rfl ?_
  have s3 := Wf.j3 hWf (k := jj) (by omega) (by omega)
  refine va_get (D := D) (ci := 2) (v := .int (iI (g 3 jj 3))) (C := RX2) (T := TX2) (N := 16) hx hb hw hin_wsX20 hown hK hP (28 + 6 * jj.toNat) (pw_J (j := jj) (by omega) (by omega)) rfl 3 (by decide) (hw _ kw_170) (fun _ h9 => h9) rfl dX4_conflict_42 ?_
  refine lv_iload_n hx hb dX4_conflict_45 rfl (lv_at hl 2 rfl) ?_
  refine va_calli (va_runS (As := [.int (iI au)]) (rest := [.int (iI (g 3 jj 3)), .ref (a (28 + 6 * jj.toNat))]) ⟨hx, hb, hml, hown, hw⟩ (c_bit l D a cH cB cJ cI ha g vt H.size au (by omega)) (va_cwS 1 hw (gA_S kw_171 kw_172 kw_2 kw_173) rfl rfl rfl (by decide +kernel) ⟨Nat.le_of_ble_eq_true rfl, Nat.le_of_ble_eq_true rfl⟩) (pS_s hP hK hE) rfl rfl hl.1 rfl (lv_room (Nat.le_of_ble_eq_true rfl)) dX4_conflict_46 ⟨Nat.le_of_ble_eq_true rfl, Nat.le_of_ble_eq_true rfl⟩) hS (fun q h1 h2 => ro_A h1 h2) (fun q h => ro_F hS hA q h) (fun r u t H1 locs ht hvm hw9 hB9 hz1 hk1 hS => ?_)
  have hw9 : r = (iI (m_bt au)) := hw9
  subst hw9
  have hP := ro_P hP hk1
  generalize H1 = H at hP hS ⊢
  have s4 := bt_nn au
  have s5 := bt_lt (n := au) (by omega) (by omega)
  refine n_or hx hb (by omega) (by omega) dX4_conflict_49 ?_
  have s6 := bo_nn (g 3 jj 3) (m_bt au)
  refine va_put (D := D) (ci := 2) (v := .int (iI (m_bo (g 3 jj 3) (m_bt au)))) (C := RX2) (T := TX2) (N := 16) (ty := .int) hx hb hw hin_wsX20 tyX2 tyX2_ok nmX2 hown hK hP (pw_D ha (fun k hk => pA_in hk)) hS (28 + 6 * jj.toNat) (pw_J (j := jj) (by omega) (by omega)) rfl 3 (by decide) (hw _ kw_170) (fun _ h9 => h9) rfl (tyX2_ok 3 (by decide)) rfl rfl (show 3 < 16 from by decide) dX4_conflict_50 (fun H locs hP _ hS => ?_)
  rw [pw_setJ (by omega) (by omega) (by decide) (by decide) (by decide) (by decide) (by decide) (by decide)] at hP
  have hP : va_P D vwCl (pw a cH cB cJ cI (m_up g 3 jj 3 (m_bo (g 3 jj 3) (m_bt au))) vt) H := hP
  obtain ⟨g7, hg7⟩ : ∃ z, z = m_up g 3 jj 3 (m_bo (g 3 jj 3) (m_bt au)) := ⟨_, rfl⟩
  rw [← hg7] at hP
  refine lv_aload_n hx hb dX4_conflict_53 rfl (lv_at hl 0 rfl) ?_
  refine va_get (D := D) (ci := 4) (v := .ref (a 3)) (C := RX4) (T := TX4) (N := 19) hx hb hw hin_wsX40 hown hK hP 0 pw_0 rfl 2 (by decide) (hw _ kw_19) (fun _ h9 => h9) rfl dX4_conflict_54 ?_
  refine lv_iload_n hx hb dX4_conflict_57 rfl (lv_at hl 1 rfl) ?_
  refine p_aldJ hx hb hK hP (k := jj) (by omega) (by omega) dX4_conflict_58 ?_
  have e8 : g7 3 jj 3 = (m_bo (g 3 jj 3) (m_bt au)) := by simp [hg7, m_up]
  refine va_get (D := D) (ci := 2) (v := .int (iI (m_bo (g 3 jj 3) (m_bt au)))) (C := RX2) (T := TX2) (N := 16) hx hb hw hin_wsX20 hown hK hP (28 + 6 * jj.toNat) (pw_J (j := jj) (by omega) (by omega)) rfl 3 (by decide) (hw _ kw_170) (fun _ h9 => h9) (by rw [← e8]; rfl) dX4_conflict_59 ?_
  refine va_calli (va_runS (As := [.int (iI (m_bo (g 3 jj 3) (m_bt au)))]) (rest := []) ⟨hx, hb, hml, hown, hw⟩ (c_bitCount l D a cH cB cJ cI ha g7 vt H.size (m_bo (g 3 jj 3) (m_bt au)) (by omega)) (va_cwS 1 hw (gA_S kw_112 kw_113 kw_114 kw_115) rfl rfl rfl (by decide +kernel) ⟨Nat.le_of_ble_eq_true rfl, Nat.le_of_ble_eq_true rfl⟩) (pS_s hP hK hE) rfl rfl hl.1 rfl (lv_room (Nat.le_of_ble_eq_true rfl)) dX4_conflict_62 ⟨Nat.le_of_ble_eq_true rfl, Nat.le_of_ble_eq_true rfl⟩) hS (fun q h1 h2 => ro_A h1 h2) (fun q h => ro_F hS hA q h) (fun r u t H1 locs ht hvm hw9 hB9 hz1 hk1 hS => ?_)
  have hw9 : r = (iI (m_pcn (m_bo (g 3 jj 3) (m_bt au)))) := hw9
  subst hw9
  have hP := ro_P hP hk1
  generalize H1 = H at hP hS ⊢
  have s9 := pcn_b (m_bo (g 3 jj 3) (m_bt au))
  have hf10 : g7 = (m_conflict g jj au) := by rw [hg7] <;> rfl
  rw [hf10] at hP
  exact W.iret (v := (iI (m_pcn (m_bo (g 3 jj 3) (m_bt au))))) hx hb hr (fun t ht hW9 => ⟨⟨(iI (m_pcn (m_bo (g 3 jj 3) (m_bt au)))), (), rfl, rfl, ⟨vt, by rw [ht]; exact hP⟩⟩, hS.F ht⟩) hS.2.2 dX4_conflict_65
set_option maxHeartbeats 4000000 in
set_option maxRecDepth 100000 in
theorem c_rules (l : Launch) (D : va_G) (a : Nat → Nat) (cH cB cJ cI : ClassId) (ha : pj a) (g : m_St) (vt : Nat → Int32) (sz : Nat) (q1 : Int) (q2 : Int) (q3 : Int) (q4 : Int) (hWf : Wf g) (r1 : 1 ≤ q1 ∧ q1 ≤ 7) (r3 : q3 ≤ 900) (r2 : 50 ≤ q2 ∧ q2 ≤ q3) (r4 : 0 ≤ q4 ∧ q4 ≤ 50) : Met l yX4_rules (wc yX4_rules cX4_rules 5 (some .int)) ({ frames := 1, cells := 0, slots := 0, locals := 24 }) (va_Pc [.ref (a 0), .int (iI q1), .int (iI q2), .int (iI q3), .int (iI q4)] (pS D a cH cB cJ cI sz g vt)) (va_Qi (fun (r : Int32) (_ : Unit) => r = iI (g 9 0 3)) (fun _ t => ∃ vt1 : Nat → Int32, va_P D vwCl (pw a cH cB cJ cI (m_setRules g 1 q1 q2 q3 q4) vt1) t.heap) (pA a sz)) 0 0 (pA a sz) := by
  refine Met.ofW (cc := cX4_rules) (maxL := 5) (ret := (some .int)) (by decide +kernel) rfl ?_
  intro p e s m args below meth c s₁ B9 hml hv
  obtain ⟨rfl, hsz, hP, hK, hE⟩ := hv
  have hx := B9.exec
  have hb := B9.bytes
  have hr := B9.returns
  have hts := atoms_spec (ws := (wc yX4_rules cX4_rules 5 (some .int))) B9.pre
  have hw : ∀ w ∈ wsL_law0, w.before [.ref (a 0), .int (iI q1), .int (iI q2), .int (iI q3), .int (iI q4)].toArray s = true := fun w h => hts w (List.mem_cons_of_mem _ h)
  have hown : s.vm.findClass RX4 = some m.cls := findClass_of_methodNamed B9.named
  subst hsz
  have hS : va_S (pA a s.heap.size) s.heap s.heap [] := va_S.rf
  have hA : ∀ q : Nat, s.heap.size ≤ q → pA a s.heap.size q := fun _ h => pA_new h
  have hB : ∀ k, k < 58 → pA a s.heap.size (a k) := fun _ h => pA_in h
  have hl := lv_entry ([.ref (a 0), .int (iI q1), .int (iI q2), .int (iI q3), .int (iI q4)]) (n := 5) (Nat.le_of_ble_eq_true rfl)
  rw [lg_entry_eq]
  generalize (lg_sl ([.ref (a 0), .int (iI q1), .int (iI q2), .int (iI q3), .int (iI q4)]) ++ List.replicate (5 - (lg_sl ([.ref (a 0), .int (iI q1), .int (iI q2), .int (iI q3), .int (iI q4)])).length) Slot.unset).toArray = ls at hl ⊢
  have hl : lv_has ls 5 [(0, .ref (a 0)), (1, .int (iI q1)), (2, .int (iI q2)), (3, .int (iI q3)), (4, .int (iI q4))] := hl
  suffices h9 : ∀ (H : Heap) (locs : List Loc), va_P D vwCl (pw a cH cB cJ cI g vt) H → va_S (pA a s.heap.size) s.heap H locs → W p l e (headSpec (wc yX4_rules cX4_rules 5 (some .int)) ({ frames := 1, cells := 0, slots := 0, locals := 24 })).room s m [.ref (a 0), .int (iI q1), .int (iI q2), .int (iI q3), .int (iI q4)].toArray below meth c H locs 0 0 (MQ below (va_Qi (fun (r : Int32) (_ : Unit) => r = iI (g 9 0 3)) (fun _ t => ∃ vt1 : Nat → Int32, va_P D vwCl (pw a cH cB cJ cI (m_setRules g 1 q1 q2 q3 q4) vt1) t.heap) (pA a s.heap.size)) [.ref (a 0), .int (iI q1), .int (iI q2), .int (iI q3), .int (iI q4)].toArray s 0 0 (pA a s.heap.size)) (F0 m 0 ls []) from h9 s.heap [] hP hS
  clear hP hS
  intro H locs hP hS
  refine lv_iload_n hx hb dX4_rules_0 rfl (lv_at hl 1 rfl) ?_
  refine lv_iconst (v := iI 1) hx hb dX4_rules_1 (by decide) ?_
  refine lv_bipush (v := iI 7) hx hb dX4_rules_2 (by decide) ?_
  refine va_calli (va_runS (As := [.int (iI q1), .int (iI 1), .int (iI 7)]) (rest := []) ⟨hx, hb, hml, hown, hw⟩ (c_isWithin l D a cH cB cJ cI ha g vt H.size q1 1 7 (by omega) (by omega) (by omega)) (va_cwS 3 hw (gA_S kw_82 kw_83 kw_2 kw_84) rfl rfl rfl (by decide +kernel) ⟨Nat.le_of_ble_eq_true rfl, Nat.le_of_ble_eq_true rfl⟩) (pS_s hP hK hE) rfl rfl hl.1 rfl (lv_room (Nat.le_of_ble_eq_true rfl)) dX4_rules_4 ⟨Nat.le_of_ble_eq_true rfl, Nat.le_of_ble_eq_true rfl⟩) hS (fun q h1 h2 => ro_A h1 h2) (fun q h => ro_F hS hA q h) (fun r u t H1 locs ht hvm hw9 hB9 hz1 hk1 hS => ?_)
  have hw9 : r = (bi (decide (1 ≤ q1 ∧ q1 ≤ 7))) := hw9
  subst hw9
  have hP := ro_P hP hk1
  generalize H1 = H at hP hS ⊢
  refine n_b_eq hx hb (tgt := 38) dX4_rules_7 (by decide) (fun h1 => absurd h1 (by intro h1; have h1 := of_decide_eq_false h1; omega)) (fun h1 => ?_)
  have h1 := of_decide_eq_true h1
  refine lv_iload_n hx hb dX4_rules_10 rfl (lv_at hl 2 rfl) ?_
  refine lv_bipush (v := iI 50) hx hb dX4_rules_11 (by decide) ?_
  refine lv_iload_n hx hb dX4_rules_13 rfl (lv_at hl 3 rfl) ?_
  refine va_calli (va_runS (As := [.int (iI q2), .int (iI 50), .int (iI q3)]) (rest := []) ⟨hx, hb, hml, hown, hw⟩ (c_isWithin l D a cH cB cJ cI ha g vt H.size q2 50 q3 (by omega) (by omega) (by omega)) (va_cwS 3 hw (gA_S kw_82 kw_83 kw_2 kw_84) rfl rfl rfl (by decide +kernel) ⟨Nat.le_of_ble_eq_true rfl, Nat.le_of_ble_eq_true rfl⟩) (pS_s hP hK hE) rfl rfl hl.1 rfl (lv_room (Nat.le_of_ble_eq_true rfl)) dX4_rules_14 ⟨Nat.le_of_ble_eq_true rfl, Nat.le_of_ble_eq_true rfl⟩) hS (fun q h1 h2 => ro_A h1 h2) (fun q h => ro_F hS hA q h) (fun r u t H1 locs ht hvm hw9 hB9 hz1 hk1 hS => ?_)
  have hw9 : r = (bi (decide (50 ≤ q2 ∧ q2 ≤ q3))) := hw9
  subst hw9
  have hP := ro_P hP hk1
  generalize H1 = H at hP hS ⊢
  refine n_b_eq hx hb (tgt := 38) dX4_rules_17 (by decide) (fun h2 => absurd h2 (by intro h2; have h2 := of_decide_eq_false h2; omega)) (fun h2 => ?_)
  have h2 := of_decide_eq_true h2
  refine lv_iload_n hx hb dX4_rules_20 rfl (lv_at hl 3 rfl) ?_
  refine lv_sipush (v := iI 900) hx hb dX4_rules_21 (by decide) ?_
  refine n_icmp_gt hx hb (by unfold RI; omega) (by unfold RI; omega) (tgt := 38) dX4_rules_24 (by decide) (fun h3 => absurd h3 (by intro h3; omega)) (fun h3 => ?_)
  refine lv_iload hx hb dX4_rules_27 (lv_at hl 4 rfl) ?_
  refine lv_iconst (v := iI 0) hx hb dX4_rules_29 (by decide) ?_
  refine lv_bipush (v := iI 50) hx hb dX4_rules_30 (by decide) ?_
  refine va_calli (va_runS (As := [.int (iI q4), .int (iI 0), .int (iI 50)]) (rest := []) ⟨hx, hb, hml, hown, hw⟩ (c_isWithin l D a cH cB cJ cI ha g vt H.size q4 0 50 (by omega) (by omega) (by omega)) (va_cwS 3 hw (gA_S kw_82 kw_83 kw_2 kw_84) rfl rfl rfl (by decide +kernel) ⟨Nat.le_of_ble_eq_true rfl, Nat.le_of_ble_eq_true rfl⟩) (pS_s hP hK hE) rfl rfl hl.1 rfl (lv_room (Nat.le_of_ble_eq_true rfl)) dX4_rules_32 ⟨Nat.le_of_ble_eq_true rfl, Nat.le_of_ble_eq_true rfl⟩) hS (fun q h1 h2 => ro_A h1 h2) (fun q h => ro_F hS hA q h) (fun r u t H1 locs ht hvm hw9 hB9 hz1 hk1 hS => ?_)
  have hw9 : r = (bi (decide (0 ≤ q4 ∧ q4 ≤ 50))) := hw9
  subst hw9
  have hP := ro_P hP hk1
  generalize H1 = H at hP hS ⊢
  refine n_b_ne hx hb (tgt := 48) dX4_rules_35 (by decide) (fun h4 => ?_) (fun h4 => absurd h4 (by intro h4; have h4 := of_decide_eq_false h4; omega))
  have h4 := of_decide_eq_true h4
  refine lv_aload_n hx hb dX4_rules_48 rfl (lv_at hl 0 rfl) ?_
  refine va_get (D := D) (ci := 4) (v := .ref (a 5)) (C := RX4) (T := TX4) (N := 19) hx hb hw hin_wsX40 hown hK hP 0 pw_0 rfl 7 (by decide) (hw _ kw_24) (fun _ h9 => h9) rfl dX4_rules_49 ?_
  refine lv_iload_n hx hb dX4_rules_52 rfl (lv_at hl 1 rfl) ?_
  refine lv_iload_n hx hb dX4_rules_53 rfl (lv_at hl 2 rfl) ?_
  refine lv_iload_n hx hb dX4_rules_54 rfl (lv_at hl 3 rfl) ?_
  refine lv_iload hx hb dX4_rules_55 (lv_at hl 4 rfl) ?_
  refine va_callv (va_runV (As := [.int (iI q1), .int (iI q2), .int (iI q3), .int (iI q4)]) (rest := []) ⟨hx, hb, hml, hown, hw⟩ (c_set1 l D a cH cB cJ cI ha g vt H.size q1 q2 q3 q4 ) (cwV 4 hw (gA_V kw_202 kw_203 kw_204 kw_22 kw_205) rfl rfl rfl (by decide +kernel) ⟨Nat.le_of_ble_eq_true rfl, Nat.le_of_ble_eq_true rfl⟩) (pS_v (ci := 3) (q0 := 5) rfl pw_5 hP hK hE) rfl rfl hl.1 rfl (lv_room (Nat.le_of_ble_eq_true rfl)) dX4_rules_57 ⟨Nat.le_of_ble_eq_true rfl, Nat.le_of_ble_eq_true rfl⟩) hS (fun q _ h => rw_A hS hA hB q h) (fun q h => rw_A hS hA hB q h) (fun u t H1 locs ht hvm hw9 hB9 hz1 hk1 hS => ?_)
  obtain ⟨v5, hP1⟩ := hB9
  rw [ht] at hP1
  obtain ⟨g6, hg6⟩ : ∃ z, z = (m_setRules g 1 q1 q2 q3 q4) := ⟨_, rfl⟩
  rw [← hg6] at hP1
  have hP : va_P D vwCl (pw a cH cB cJ cI g6 v5) H1 := hP1
  generalize H1 = H at hP hS ⊢
  refine lv_aload_n hx hb dX4_rules_60 rfl (lv_at hl 0 rfl) ?_
  refine va_get (D := D) (ci := 4) (v := .ref (a 4)) (C := RX4) (T := TX4) (N := 19) hx hb hw hin_wsX40 hown hK hP 0 pw_0 rfl 6 (by decide) (hw _ kw_23) (fun _ h9 => h9) rfl dX4_rules_61 ?_
  have e7 : g6 9 0 3 = g 9 0 3 := by simp [hg6, m_setRules, m_up]
  have s8 := Wf.u3 hWf (k := 0) (by omega) (by omega)
  refine va_get (D := D) (ci := 3) (v := .int (iI (g 9 0 3))) (C := RX3) (T := TX3) (N := 4) hx hb hw hin_wsX30 hown hK hP 4 pw_4 rfl 3 (by decide) (hw _ kw_102) (fun _ h9 => h9) (by rw [← e7]; rfl) dX4_rules_64 ?_
  have hf9 : g6 = (m_setRules g 1 q1 q2 q3 q4) := by rw [hg6] <;> rfl
  rw [hf9] at hP
  exact W.iret (v := (iI (g 9 0 3))) hx hb hr (fun t ht hW9 => ⟨⟨(iI (g 9 0 3)), (), rfl, (congrArg iI (by rfl)), ⟨v5, by rw [ht]; exact hP⟩⟩, hS.F ht⟩) hS.2.2 dX4_rules_67
set_option maxHeartbeats 4000000 in
set_option maxRecDepth 100000 in
theorem c_print (l : Launch) (D : va_G) (a : Nat → Nat) (cH cB cJ cI : ClassId) (ha : pj a) (g : m_St) (vt : Nat → Int32) (sz : Nat) (bb : Int) (nn : Int) (hWf : Wf g) (hbb : 0 ≤ bb ∧ bb < g 0 0 4) (hnn : 1 ≤ nn ∧ nn ≤ 5000) : Met l yX4_print (wc yX4_print cX4_print 3 (some .int)) ({ frames := 1, cells := 0, slots := 0, locals := 22 }) (va_Pc [.ref (a 0), .int (iI bb), .int (iI nn)] (pS D a cH cB cJ cI sz g vt)) (va_Qi (fun (r : Int32) (_ : Unit) => r = iI (min 9999 (g 2 bb 8 + nn))) (fun _ t => ∃ vt1 : Nat → Int32, va_P D vwCl (pw a cH cB cJ cI (m_print g bb nn) vt1) t.heap) (pA a sz)) 0 0 (pA a sz) := by
  refine Met.ofW (cc := cX4_print) (maxL := 3) (ret := (some .int)) (by decide +kernel) rfl ?_
  intro p e s m args below meth c s₁ B9 hml hv
  obtain ⟨rfl, hsz, hP, hK, hE⟩ := hv
  have hx := B9.exec
  have hb := B9.bytes
  have hr := B9.returns
  have hts := atoms_spec (ws := (wc yX4_print cX4_print 3 (some .int))) B9.pre
  have hw : ∀ w ∈ wsL_law0, w.before [.ref (a 0), .int (iI bb), .int (iI nn)].toArray s = true := fun w h => hts w (List.mem_cons_of_mem _ h)
  have hown : s.vm.findClass RX4 = some m.cls := findClass_of_methodNamed B9.named
  subst hsz
  have hS : va_S (pA a s.heap.size) s.heap s.heap [] := va_S.rf
  have hA : ∀ q : Nat, s.heap.size ≤ q → pA a s.heap.size q := fun _ h => pA_new h
  have hB : ∀ k, k < 58 → pA a s.heap.size (a k) := fun _ h => pA_in h
  have hl := lv_entry ([.ref (a 0), .int (iI bb), .int (iI nn)]) (n := 3) (Nat.le_of_ble_eq_true rfl)
  rw [lg_entry_eq]
  generalize (lg_sl ([.ref (a 0), .int (iI bb), .int (iI nn)]) ++ List.replicate (3 - (lg_sl ([.ref (a 0), .int (iI bb), .int (iI nn)])).length) Slot.unset).toArray = ls at hl ⊢
  have hl : lv_has ls 3 [(0, .ref (a 0)), (1, .int (iI bb)), (2, .int (iI nn))] := hl
  suffices h9 : ∀ (H : Heap) (locs : List Loc), va_P D vwCl (pw a cH cB cJ cI g vt) H → va_S (pA a s.heap.size) s.heap H locs → W p l e (headSpec (wc yX4_print cX4_print 3 (some .int)) ({ frames := 1, cells := 0, slots := 0, locals := 22 })).room s m [.ref (a 0), .int (iI bb), .int (iI nn)].toArray below meth c H locs 0 0 (MQ below (va_Qi (fun (r : Int32) (_ : Unit) => r = iI (min 9999 (g 2 bb 8 + nn))) (fun _ t => ∃ vt1 : Nat → Int32, va_P D vwCl (pw a cH cB cJ cI (m_print g bb nn) vt1) t.heap) (pA a s.heap.size)) [.ref (a 0), .int (iI bb), .int (iI nn)].toArray s 0 0 (pA a s.heap.size)) (F0 m 0 ls []) from h9 s.heap [] hP hS
  clear hP hS
  intro H locs hP hS
  have m4 := Wf.m4 hWf
  refine lv_aload_n hx hb dX4_print_0 rfl (lv_at hl 0 rfl) ?_
  refine lv_iload_n hx hb dX4_print_1 rfl (lv_at hl 1 rfl) ?_
  refine va_calli (va_runV (As := [.int (iI bb)]) (rest := []) ⟨hx, hb, hml, hown, hw⟩ (c_isBook l D a cH cB cJ cI ha g vt H.size bb hWf (by omega)) (cwV 1 hw (gA_V kw_162 kw_163 kw_164 kw_2 kw_165) rfl rfl rfl (by decide +kernel) ⟨Nat.le_of_ble_eq_true rfl, Nat.le_of_ble_eq_true rfl⟩) (pS_v (ci := 4) (q0 := 0) rfl pw_0 hP hK hE) rfl rfl hl.1 rfl (lv_room (Nat.le_of_ble_eq_true rfl)) dX4_print_2 ⟨Nat.le_of_ble_eq_true rfl, Nat.le_of_ble_eq_true rfl⟩) hS (fun q h1 h2 => ro_A h1 h2) (fun q h => ro_F hS hA q h) (fun r u t H1 locs ht hvm hw9 hB9 hz1 hk1 hS => ?_)
  have hw9 : r = (bi (decide (0 ≤ bb ∧ bb < g 0 0 4))) := hw9
  subst hw9
  have hP := ro_P hP hk1
  generalize H1 = H at hP hS ⊢
  refine n_b_ne hx hb (tgt := 18) dX4_print_5 (by decide) (fun h1 => ?_) (fun h1 => absurd h1 (by intro h1; have h1 := of_decide_eq_false h1; omega))
  have h1 := of_decide_eq_true h1
  refine lv_iload_n hx hb dX4_print_18 rfl (lv_at hl 2 rfl) ?_
  refine lv_iconst (v := iI 1) hx hb dX4_print_19 (by decide) ?_
  refine lv_sipush (v := iI 5000) hx hb dX4_print_20 (by decide) ?_
  refine va_calli (va_runS (As := [.int (iI nn), .int (iI 1), .int (iI 5000)]) (rest := []) ⟨hx, hb, hml, hown, hw⟩ (c_isWithin l D a cH cB cJ cI ha g vt H.size nn 1 5000 (by omega) (by omega) (by omega)) (va_cwS 3 hw (gA_S kw_82 kw_83 kw_2 kw_84) rfl rfl rfl (by decide +kernel) ⟨Nat.le_of_ble_eq_true rfl, Nat.le_of_ble_eq_true rfl⟩) (pS_s hP hK hE) rfl rfl hl.1 rfl (lv_room (Nat.le_of_ble_eq_true rfl)) dX4_print_23 ⟨Nat.le_of_ble_eq_true rfl, Nat.le_of_ble_eq_true rfl⟩) hS (fun q h1 h2 => ro_A h1 h2) (fun q h => ro_F hS hA q h) (fun r u t H1 locs ht hvm hw9 hB9 hz1 hk1 hS => ?_)
  have hw9 : r = (bi (decide (1 ≤ nn ∧ nn ≤ 5000))) := hw9
  subst hw9
  have hP := ro_P hP hk1
  generalize H1 = H at hP hS ⊢
  refine n_b_ne hx hb (tgt := 39) dX4_print_26 (by decide) (fun h2 => ?_) (fun h2 => absurd h2 (by intro h2; have h2 := of_decide_eq_false h2; omega))
  have h2 := of_decide_eq_true h2
  refine lv_aload_n hx hb dX4_print_39 rfl (lv_at hl 0 rfl) ?_
  refine va_get (D := D) (ci := 4) (v := .ref (a 2)) (C := RX4) (T := TX4) (N := 19) hx hb hw hin_wsX40 hown hK hP 0 pw_0 rfl 1 (by decide) (hw _ kw_17) (fun _ h9 => h9) rfl dX4_print_40 ?_
  refine lv_iload_n hx hb dX4_print_43 rfl (lv_at hl 1 rfl) ?_
  refine p_aldB hx hb hK hP (k := bb) (by omega) (by omega) dX4_print_44 ?_
  refine lv_sipush (v := iI 9999) hx hb dX4_print_45 (by decide) ?_
  refine lv_aload_n hx hb dX4_print_48 rfl (lv_at hl 0 rfl) ?_
  refine va_get (D := D) (ci := 4) (v := .ref (a 2)) (C := RX4) (T := TX4) (N := 19) hx hb hw hin_wsX40 hown hK hP 0 pw_0 rfl 1 (by decide) (hw _ kw_17) (fun _ h9 => h9) rfl dX4_print_49 ?_
  refine lv_iload_n hx hb dX4_print_52 rfl (lv_at hl 1 rfl) ?_
  refine p_aldB hx hb hK hP (k := bb) (by omega) (by omega) dX4_print_53 ?_
  have s3 := Wf.b8 hWf (k := bb) (by omega) (by omega)
  refine va_get (D := D) (ci := 0) (v := .int (iI (g 2 bb 8))) (C := RX0) (T := TX0) (N := 11) hx hb hw hin_wsX00 hown hK hP (12 + bb.toNat) (pw_B (b := bb) (by omega) (by omega)) rfl 8 (by decide) (hw _ kw_212) (fun _ h9 => h9) rfl dX4_print_54 ?_
  refine lv_iload_n hx hb dX4_print_57 rfl (lv_at hl 2 rfl) ?_
  refine n_add hx hb dX4_print_58 ?_
  refine va_mmin hx hb (hml.trans hl.1.symm) hown (hw _ kw_274) (hw _ kw_275) (hw _ kw_6) (hw _ kw_276) (Nat.le_of_ble_eq_true rfl) (Nat.le_of_ble_eq_true rfl) (Nat.le_of_ble_eq_true rfl) (Nat.le_of_ble_eq_true rfl) dX4_print_59 ?_
  rw [n_min (by unfold RI; omega) (by unfold RI; omega)]
  refine va_put (D := D) (ci := 0) (v := .int (iI (min 9999 (g 2 bb 8 + nn)))) (C := RX0) (T := TX0) (N := 11) (ty := .int) hx hb hw hin_wsX00 tyX0 tyX0_ok nmX0 hown hK hP (pw_D ha (fun k hk => pA_in hk)) hS (12 + bb.toNat) (pw_B (b := bb) (by omega) (by omega)) rfl 8 (by decide) (hw _ kw_212) (fun _ h9 => h9) rfl (tyX0_ok 8 (by decide)) rfl rfl (show 8 < 11 from by decide) dX4_print_62 (fun H locs hP _ hS => ?_)
  rw [pw_setB (by omega) (by omega) (by decide)] at hP
  have hP : va_P D vwCl (pw a cH cB cJ cI (m_up g 2 bb 8 (min 9999 (g 2 bb 8 + nn))) vt) H := hP
  obtain ⟨g4, hg4⟩ : ∃ z, z = m_up g 2 bb 8 (min 9999 (g 2 bb 8 + nn)) := ⟨_, rfl⟩
  rw [← hg4] at hP
  refine lv_aload_n hx hb dX4_print_65 rfl (lv_at hl 0 rfl) ?_
  refine va_get (D := D) (ci := 4) (v := .ref (a 2)) (C := RX4) (T := TX4) (N := 19) hx hb hw hin_wsX40 hown hK hP 0 pw_0 rfl 1 (by decide) (hw _ kw_17) (fun _ h9 => h9) rfl dX4_print_66 ?_
  refine lv_iload_n hx hb dX4_print_69 rfl (lv_at hl 1 rfl) ?_
  refine p_aldB hx hb hK hP (k := bb) (by omega) (by omega) dX4_print_70 ?_
  have e5 : g4 2 bb 8 = (min 9999 (g 2 bb 8 + nn)) := by simp [hg4, m_up]
  refine va_get (D := D) (ci := 0) (v := .int (iI (min 9999 (g 2 bb 8 + nn)))) (C := RX0) (T := TX0) (N := 11) hx hb hw hin_wsX00 hown hK hP (12 + bb.toNat) (pw_B (b := bb) (by omega) (by omega)) rfl 8 (by decide) (hw _ kw_212) (fun _ h9 => h9) (by rw [← e5]; rfl) dX4_print_71 ?_
  have hf6 : g4 = (m_print g bb nn) := by rw [hg4] <;> rfl
  rw [hf6] at hP
  exact W.iret (v := (iI (min 9999 (g 2 bb 8 + nn)))) hx hb hr (fun t ht hW9 => ⟨⟨(iI (min 9999 (g 2 bb 8 + nn))), (), rfl, rfl, ⟨vt, by rw [ht]; exact hP⟩⟩, hS.F ht⟩) hS.2.2 dX4_print_74

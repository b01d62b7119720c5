set_option maxHeartbeats 4000000 in
set_option maxRecDepth 100000 in
theorem c_longList (l : Launch) (D : va_G) (a : Nat → Nat) (cH cB cJ cI : ClassId) (ha : pj a) (g : m_St) (vt : Nat → Int32) (sz : Nat) (mm : Int) (hWf : Wf g) (hmm : 3 ≤ mm ∧ mm ≤ 8) (h9 : g 0 0 9 = 1) (hcr : m_cratesRead g = true) : Met l yX4_longList (wc yX4_longList cX4_longList 2 (some .int)) ({ frames := 6, cells := 0, slots := 0, locals := 138 }) (va_Pc [.ref (a 0), .int (iI mm)] (pS D a cH cB cJ cI sz g vt)) (va_Qi (fun (r : Int32) (_ : Unit) => r = iI (m_pcn (m_fillLong g mm 16 (m_listable g) (g 0 0 11)))) (fun _ t => ∃ vt1 : Nat → Int32, va_P D vwCl (pw a cH cB cJ cI (m_longList g mm) vt1) t.heap) (pA a sz)) 0 0 (pA a sz) := by
  refine Met.ofW (cc := cX4_longList) (maxL := 2) (ret := (some .int)) (by decide +kernel) rfl ?_
  intro p e s m args below meth c s₁ B9 hml hv
  obtain ⟨rfl, hsz, hP, hK, hE⟩ := hv
  have hx := B9.exec
  have hb := B9.bytes
  have hr := B9.returns
  have hts := atoms_spec (ws := (wc yX4_longList cX4_longList 2 (some .int))) B9.pre
  have hw : ∀ w ∈ wsL_law0, w.before [.ref (a 0), .int (iI mm)].toArray s = true := fun w h => hts w (List.mem_cons_of_mem _ h)
  have hown : s.vm.findClass RX4 = some m.cls := findClass_of_methodNamed B9.named
  subst hsz
  have hS : va_S (pA a s.heap.size) s.heap s.heap [] := va_S.rf
  have hA : ∀ q : Nat, s.heap.size ≤ q → pA a s.heap.size q := fun _ h => pA_new h
  have hB : ∀ k, k < 58 → pA a s.heap.size (a k) := fun _ h => pA_in h
  have hl := lv_entry ([.ref (a 0), .int (iI mm)]) (n := 2) (Nat.le_of_ble_eq_true rfl)
  rw [lg_entry_eq]
  generalize (lg_sl ([.ref (a 0), .int (iI mm)]) ++ List.replicate (2 - (lg_sl ([.ref (a 0), .int (iI mm)])).length) Slot.unset).toArray = ls at hl ⊢
  have hl : lv_has ls 2 [(0, .ref (a 0)), (1, .int (iI mm))] := hl
  suffices h9 : ∀ (H : Heap) (locs : List Loc), va_P D vwCl (pw a cH cB cJ cI g vt) H → va_S (pA a s.heap.size) s.heap H locs → W p l e (headSpec (wc yX4_longList cX4_longList 2 (some .int)) ({ frames := 6, cells := 0, slots := 0, locals := 138 })).room s m [.ref (a 0), .int (iI mm)].toArray below meth c H locs 0 0 (MQ below (va_Qi (fun (r : Int32) (_ : Unit) => r = iI (m_pcn (m_fillLong g mm 16 (m_listable g) (g 0 0 11)))) (fun _ t => ∃ vt1 : Nat → Int32, va_P D vwCl (pw a cH cB cJ cI (m_longList g mm) vt1) t.heap) (pA a s.heap.size)) [.ref (a 0), .int (iI mm)].toArray s 0 0 (pA a s.heap.size)) (F0 m 0 ls []) from h9 s.heap [] hP hS
  clear hP hS
  intro H locs hP hS
  have hfl := flong_b hWf mm
  refine lv_iload_n hx hb dX4_longList_0 rfl (lv_at hl 1 rfl) ?_
  refine lv_iconst (v := iI 3) hx hb dX4_longList_1 (by decide) ?_
  refine lv_bipush (v := iI 8) hx hb dX4_longList_2 (by decide) ?_
  refine va_calli (va_runS (As := [.int (iI mm), .int (iI 3), .int (iI 8)]) (rest := []) ⟨hx, hb, hml, hown, hw⟩ (c_isWithin l D a cH cB cJ cI ha g vt H.size mm 3 8 (by omega) (by omega) (by omega)) (va_cwS 3 hw (gA_S kw_82 kw_83 kw_2 kw_84) rfl rfl rfl (by decide +kernel) ⟨Nat.le_of_ble_eq_true rfl, Nat.le_of_ble_eq_true rfl⟩) (pS_s hP hK hE) rfl rfl hl.1 rfl (lv_room (Nat.le_of_ble_eq_true rfl)) dX4_longList_4 ⟨Nat.le_of_ble_eq_true rfl, Nat.le_of_ble_eq_true rfl⟩) hS (fun q h1 h2 => ro_A h1 h2) (fun q h => ro_F hS hA q h) (fun r u t H1 locs ht hvm hw9 hB9 hz1 hk1 hS => ?_)
  have hw9 : r = (bi (decide (3 ≤ mm ∧ mm ≤ 8))) := hw9
  subst hw9
  have hP := ro_P hP hk1
  generalize H1 = H at hP hS ⊢
  refine n_b_ne hx hb (tgt := 20) dX4_longList_7 (by decide) (fun h1 => ?_) (fun h1 => absurd h1 (by intro h1; have h1 := of_decide_eq_false h1; omega))
  have h1 := of_decide_eq_true h1
  refine lv_aload_n hx hb dX4_longList_20 rfl (lv_at hl 0 rfl) ?_
  have s2 := Wf.m9 hWf
  refine va_get (D := D) (ci := 4) (v := .int (iI (g 0 0 9))) (C := RX4) (T := TX4) (N := 19) hx hb hw hin_wsX40 hown hK hP 0 pw_0 rfl 9 (by decide) (hw _ kw_25) (fun _ h9 => h9) rfl dX4_longList_21 ?_
  refine lv_iconst (v := iI 1) hx hb dX4_longList_24 (by decide) ?_
  refine n_icmp_ne hx hb (by unfold RI; omega) (by unfold RI; omega) (tgt := 35) dX4_longList_25 (by decide) (fun h3 => absurd h3 (by intro h3; omega)) (fun h3 => ?_)
  refine lv_aload_n hx hb dX4_longList_28 rfl (lv_at hl 0 rfl) ?_
  refine va_calli (va_runV (As := []) (rest := []) ⟨hx, hb, hml, hown, hw⟩ (c_areCratesRead l D a cH cB cJ cI ha g vt H.size  hWf) (cwV 0 hw (gA_V kw_338 kw_339 kw_340 kw_2 kw_341) rfl rfl rfl (by decide +kernel) ⟨Nat.le_of_ble_eq_true rfl, Nat.le_of_ble_eq_true rfl⟩) (pS_v (ci := 4) (q0 := 0) rfl pw_0 hP hK hE) rfl rfl hl.1 rfl (lv_room (Nat.le_of_ble_eq_true rfl)) dX4_longList_29 ⟨Nat.le_of_ble_eq_true rfl, Nat.le_of_ble_eq_true rfl⟩) hS (fun q h1 h2 => ro_A h1 h2) (fun q h => ro_F hS hA q h) (fun r u t H1 locs ht hvm hw9 hB9 hz1 hk1 hS => ?_)
  have hw9 : r = (bi (m_cratesRead g)) := hw9
  subst hw9
  have hP := ro_P hP hk1
  generalize H1 = H at hP hS ⊢
  refine n_b_ne hx hb (tgt := 45) dX4_longList_32 (by decide) (fun h4 => ?_) (fun h4 => absurd h4 (by intro h4; rw [hcr] at h4; cases h4))
  refine lv_aload_n hx hb dX4_longList_45 rfl (lv_at hl 0 rfl) ?_
  refine lv_iload_n hx hb dX4_longList_46 rfl (lv_at hl 1 rfl) ?_
  refine va_callv (va_runV (As := [.int (iI mm)]) (rest := []) ⟨hx, hb, hml, hown, hw⟩ (c_fillLong l D a cH cB cJ cI ha g vt H.size mm hWf (by omega)) (cwV 1 hw (gA_V kw_342 kw_343 kw_344 kw_2 kw_345) rfl rfl rfl (by decide +kernel) ⟨Nat.le_of_ble_eq_true rfl, Nat.le_of_ble_eq_true rfl⟩) (pS_v (ci := 4) (q0 := 0) rfl pw_0 hP hK hE) rfl rfl hl.1 rfl (lv_room (Nat.le_of_ble_eq_true rfl)) dX4_longList_47 ⟨Nat.le_of_ble_eq_true rfl, Nat.le_of_ble_eq_true rfl⟩) hS (fun q _ h => rw_A hS hA hB q h) (fun q h => rw_A hS hA hB q h) (fun u t H1 locs ht hvm hw9 hB9 hz1 hk1 hS => ?_)
  obtain ⟨v5, hP1⟩ := hB9
  rw [ht] at hP1
  obtain ⟨g6, hg6⟩ : ∃ z, z = (m_up g 0 0 11 (m_fillLong g mm 16 (m_listable g) (g 0 0 11))) := ⟨_, rfl⟩
  rw [← hg6] at hP1
  have hP : va_P D vwCl (pw a cH cB cJ cI g6 v5) H1 := hP1
  generalize H1 = H at hP hS ⊢
  refine lv_aload_n hx hb dX4_longList_50 rfl (lv_at hl 0 rfl) ?_
  refine lv_iconst (v := iI 2) hx hb dX4_longList_51 (by decide) ?_
  refine va_put (D := D) (ci := 4) (v := .int (iI 2)) (C := RX4) (T := TX4) (N := 19) (ty := .int) hx hb hw hin_wsX40 tyX4 tyX4_ok nmX4 hown hK hP (pw_D ha (fun k hk => pA_in hk)) hS 0 pw_0 rfl 9 (by decide) (hw _ kw_25) (fun _ h9 => h9) rfl (tyX4_ok 9 (by decide)) rfl rfl (show 9 < 19 from by decide) dX4_longList_52 (fun H locs hP _ hS => ?_)
  rw [pw_setM (by decide) (by decide) (by decide) (by decide)] at hP
  have hP : va_P D vwCl (pw a cH cB cJ cI (m_up g6 0 0 9 2) v5) H := hP
  obtain ⟨g7, hg7⟩ : ∃ z, z = m_up g6 0 0 9 2 := ⟨_, rfl⟩
  rw [← hg7] at hP
  refine lv_aload_n hx hb dX4_longList_55 rfl (lv_at hl 0 rfl) ?_
  have e8 : g7 0 0 11 = (m_fillLong g mm 16 (m_listable g) (g 0 0 11)) := by simp [hg7, hg6, m_up]
  refine va_get (D := D) (ci := 4) (v := .int (iI (m_fillLong g mm 16 (m_listable g) (g 0 0 11)))) (C := RX4) (T := TX4) (N := 19) hx hb hw hin_wsX40 hown hK hP 0 pw_0 rfl 11 (by decide) (hw _ kw_99) (fun _ h9 => h9) (by rw [← e8]; rfl) dX4_longList_56 ?_
  refine va_calli (va_runS (As := [.int (iI (m_fillLong g mm 16 (m_listable g) (g 0 0 11)))]) (rest := []) ⟨hx, hb, hml, hown, hw⟩ (c_bitCount l D a cH cB cJ cI ha g7 v5 H.size (m_fillLong g mm 16 (m_listable g) (g 0 0 11)) (by omega)) (va_cwS 1 hw (gA_S kw_112 kw_113 kw_114 kw_115) rfl rfl rfl (by decide +kernel) ⟨Nat.le_of_ble_eq_true rfl, Nat.le_of_ble_eq_true rfl⟩) (pS_s hP hK hE) rfl rfl hl.1 rfl (lv_room (Nat.le_of_ble_eq_true rfl)) dX4_longList_59 ⟨Nat.le_of_ble_eq_true rfl, Nat.le_of_ble_eq_true rfl⟩) hS (fun q h1 h2 => ro_A h1 h2) (fun q h => ro_F hS hA q h) (fun r u t H1 locs ht hvm hw9 hB9 hz1 hk1 hS => ?_)
  have hw9 : r = (iI (m_pcn (m_fillLong g mm 16 (m_listable g) (g 0 0 11)))) := hw9
  subst hw9
  have hP := ro_P hP hk1
  generalize H1 = H at hP hS ⊢
  have s9 := pcn_b (m_fillLong g mm 16 (m_listable g) (g 0 0 11))
  have hf10 : g7 = (m_longList g mm) := by rw [hg7, hg6] <;> rfl
  rw [hf10] at hP
  exact W.iret (v := (iI (m_pcn (m_fillLong g mm 16 (m_listable g) (g 0 0 11))))) hx hb hr (fun t ht hW9 => ⟨⟨(iI (m_pcn (m_fillLong g mm 16 (m_listable g) (g 0 0 11)))), (), rfl, rfl, ⟨v5, by rw [ht]; exact hP⟩⟩, hS.F ht⟩) hS.2.2 dX4_longList_62
set_option maxHeartbeats 4000000 in
set_option maxRecDepth 100000 in
theorem c_shortList (l : Launch) (D : va_G) (a : Nat → Nat) (cH cB cJ cI : ClassId) (ha : pj a) (g : m_St) (vt : Nat → Int32) (sz : Nat) (mm : Int) (hWf : Wf g) (hmm : 2 ≤ mm ∧ mm ≤ 5) (h9 : g 0 0 9 = 2) : Met l yX4_shortList (wc yX4_shortList cX4_shortList 2 (some .int)) ({ frames := 6, cells := 0, slots := 0, locals := 137 }) (va_Pc [.ref (a 0), .int (iI mm)] (pS D a cH cB cJ cI sz g vt)) (va_Qi (fun (r : Int32) (_ : Unit) => r = iI (m_pcn (m_fillShort g mm.toNat (g 0 0 13)))) (fun _ t => ∃ vt1 : Nat → Int32, va_P D vwCl (pw a cH cB cJ cI (m_shortList g mm) vt1) t.heap) (pA a sz)) 0 0 (pA a sz) := by
  refine Met.ofW (cc := cX4_shortList) (maxL := 2) (ret := (some .int)) (by decide +kernel) rfl ?_
  intro p e s m args below meth c s₁ B9 hml hv
  obtain ⟨rfl, hsz, hP, hK, hE⟩ := hv
  have hx := B9.exec
  have hb := B9.bytes
  have hr := B9.returns
  have hts := atoms_spec (ws := (wc yX4_shortList cX4_shortList 2 (some .int))) B9.pre
  have hw : ∀ w ∈ wsL_law0, w.before [.ref (a 0), .int (iI mm)].toArray s = true := fun w h => hts w (List.mem_cons_of_mem _ h)
  have hown : s.vm.findClass RX4 = some m.cls := findClass_of_methodNamed B9.named
  subst hsz
  have hS : va_S (pA a s.heap.size) s.heap s.heap [] := va_S.rf
  have hA : ∀ q : Nat, s.heap.size ≤ q → pA a s.heap.size q := fun _ h => pA_new h
  have hB : ∀ k, k < 58 → pA a s.heap.size (a k) := fun _ h => pA_in h
  have hl := lv_entry ([.ref (a 0), .int (iI mm)]) (n := 2) (Nat.le_of_ble_eq_true rfl)
  rw [lg_entry_eq]
  generalize (lg_sl ([.ref (a 0), .int (iI mm)]) ++ List.replicate (2 - (lg_sl ([.ref (a 0), .int (iI mm)])).length) Slot.unset).toArray = ls at hl ⊢
  have hl : lv_has ls 2 [(0, .ref (a 0)), (1, .int (iI mm))] := hl
  suffices h9 : ∀ (H : Heap) (locs : List Loc), va_P D vwCl (pw a cH cB cJ cI g vt) H → va_S (pA a s.heap.size) s.heap H locs → W p l e (headSpec (wc yX4_shortList cX4_shortList 2 (some .int)) ({ frames := 6, cells := 0, slots := 0, locals := 137 })).room s m [.ref (a 0), .int (iI mm)].toArray below meth c H locs 0 0 (MQ below (va_Qi (fun (r : Int32) (_ : Unit) => r = iI (m_pcn (m_fillShort g mm.toNat (g 0 0 13)))) (fun _ t => ∃ vt1 : Nat → Int32, va_P D vwCl (pw a cH cB cJ cI (m_shortList g mm) vt1) t.heap) (pA a s.heap.size)) [.ref (a 0), .int (iI mm)].toArray s 0 0 (pA a s.heap.size)) (F0 m 0 ls []) from h9 s.heap [] hP hS
  clear hP hS
  intro H locs hP hS
  have hfs := fshort_b hWf mm.toNat
  refine lv_iload_n hx hb dX4_shortList_0 rfl (lv_at hl 1 rfl) ?_
  refine lv_iconst (v := iI 2) hx hb dX4_shortList_1 (by decide) ?_
  refine lv_iconst (v := iI 5) hx hb dX4_shortList_2 (by decide) ?_
  refine va_calli (va_runS (As := [.int (iI mm), .int (iI 2), .int (iI 5)]) (rest := []) ⟨hx, hb, hml, hown, hw⟩ (c_isWithin l D a cH cB cJ cI ha g vt H.size mm 2 5 (by omega) (by omega) (by omega)) (va_cwS 3 hw (gA_S kw_82 kw_83 kw_2 kw_84) rfl rfl rfl (by decide +kernel) ⟨Nat.le_of_ble_eq_true rfl, Nat.le_of_ble_eq_true rfl⟩) (pS_s hP hK hE) rfl rfl hl.1 rfl (lv_room (Nat.le_of_ble_eq_true rfl)) dX4_shortList_3 ⟨Nat.le_of_ble_eq_true rfl, Nat.le_of_ble_eq_true rfl⟩) hS (fun q h1 h2 => ro_A h1 h2) (fun q h => ro_F hS hA q h) (fun r u t H1 locs ht hvm hw9 hB9 hz1 hk1 hS => ?_)
  have hw9 : r = (bi (decide (2 ≤ mm ∧ mm ≤ 5))) := hw9
  subst hw9
  have hP := ro_P hP hk1
  generalize H1 = H at hP hS ⊢
  refine n_b_ne hx hb (tgt := 19) dX4_shortList_6 (by decide) (fun h1 => ?_) (fun h1 => absurd h1 (by intro h1; have h1 := of_decide_eq_false h1; omega))
  have h1 := of_decide_eq_true h1
  refine lv_aload_n hx hb dX4_shortList_19 rfl (lv_at hl 0 rfl) ?_
  have s2 := Wf.m9 hWf
  refine va_get (D := D) (ci := 4) (v := .int (iI (g 0 0 9))) (C := RX4) (T := TX4) (N := 19) hx hb hw hin_wsX40 hown hK hP 0 pw_0 rfl 9 (by decide) (hw _ kw_25) (fun _ h9 => h9) rfl dX4_shortList_20 ?_
  refine lv_iconst (v := iI 2) hx hb dX4_shortList_23 (by decide) ?_
  refine n_icmp_eq hx hb (by unfold RI; omega) (by unfold RI; omega) (tgt := 37) dX4_shortList_24 (by decide) (fun h3 => ?_) (fun h3 => absurd h3 (by intro h3; omega))
  refine lv_aload_n hx hb dX4_shortList_37 rfl (lv_at hl 0 rfl) ?_
  refine lv_iload_n hx hb dX4_shortList_38 rfl (lv_at hl 1 rfl) ?_
  refine va_callv (va_runV (As := [.int (iI mm)]) (rest := []) ⟨hx, hb, hml, hown, hw⟩ (c_fillShort l D a cH cB cJ cI ha g vt H.size mm hWf (by omega)) (cwV 1 hw (gA_V kw_377 kw_378 kw_379 kw_2 kw_380) rfl rfl rfl (by decide +kernel) ⟨Nat.le_of_ble_eq_true rfl, Nat.le_of_ble_eq_true rfl⟩) (pS_v (ci := 4) (q0 := 0) rfl pw_0 hP hK hE) rfl rfl hl.1 rfl (lv_room (Nat.le_of_ble_eq_true rfl)) dX4_shortList_39 ⟨Nat.le_of_ble_eq_true rfl, Nat.le_of_ble_eq_true rfl⟩) hS (fun q _ h => rw_A hS hA hB q h) (fun q h => rw_A hS hA hB q h) (fun u t H1 locs ht hvm hw9 hB9 hz1 hk1 hS => ?_)
  obtain ⟨v4, hP1⟩ := hB9
  rw [ht] at hP1
  obtain ⟨g5, hg5⟩ : ∃ z, z = (m_up g 0 0 13 (m_fillShort g mm.toNat (g 0 0 13))) := ⟨_, rfl⟩
  rw [← hg5] at hP1
  have hP : va_P D vwCl (pw a cH cB cJ cI g5 v4) H1 := hP1
  generalize H1 = H at hP hS ⊢
  refine lv_aload_n hx hb dX4_shortList_42 rfl (lv_at hl 0 rfl) ?_
  refine lv_iconst (v := iI 3) hx hb dX4_shortList_43 (by decide) ?_
  refine va_put (D := D) (ci := 4) (v := .int (iI 3)) (C := RX4) (T := TX4) (N := 19) (ty := .int) hx hb hw hin_wsX40 tyX4 tyX4_ok nmX4 hown hK hP (pw_D ha (fun k hk => pA_in hk)) hS 0 pw_0 rfl 9 (by decide) (hw _ kw_25) (fun _ h9 => h9) rfl (tyX4_ok 9 (by decide)) rfl rfl (show 9 < 19 from by decide) dX4_shortList_44 (fun H locs hP _ hS => ?_)
  rw [pw_setM (by decide) (by decide) (by decide) (by decide)] at hP
  have hP : va_P D vwCl (pw a cH cB cJ cI (m_up g5 0 0 9 3) v4) H := hP
  obtain ⟨g6, hg6⟩ : ∃ z, z = m_up g5 0 0 9 3 := ⟨_, rfl⟩
  rw [← hg6] at hP
  refine lv_aload_n hx hb dX4_shortList_47 rfl (lv_at hl 0 rfl) ?_
  have e7 : g6 0 0 13 = (m_fillShort g mm.toNat (g 0 0 13)) := by simp [hg6, hg5, m_up]
  refine va_get (D := D) (ci := 4) (v := .int (iI (m_fillShort g mm.toNat (g 0 0 13)))) (C := RX4) (T := TX4) (N := 19) hx hb hw hin_wsX40 hown hK hP 0 pw_0 rfl 13 (by decide) (hw _ kw_100) (fun _ h9 => h9) (by rw [← e7]; rfl) dX4_shortList_48 ?_
  refine va_calli (va_runS (As := [.int (iI (m_fillShort g mm.toNat (g 0 0 13)))]) (rest := []) ⟨hx, hb, hml, hown, hw⟩ (c_bitCount l D a cH cB cJ cI ha g6 v4 H.size (m_fillShort g mm.toNat (g 0 0 13)) (by omega)) (va_cwS 1 hw (gA_S kw_112 kw_113 kw_114 kw_115) rfl rfl rfl (by decide +kernel) ⟨Nat.le_of_ble_eq_true rfl, Nat.le_of_ble_eq_true rfl⟩) (pS_s hP hK hE) rfl rfl hl.1 rfl (lv_room (Nat.le_of_ble_eq_true rfl)) dX4_shortList_51 ⟨Nat.le_of_ble_eq_true rfl, Nat.le_of_ble_eq_true rfl⟩) hS (fun q h1 h2 => ro_A h1 h2) (fun q h => ro_F hS hA q h) (fun r u t H1 locs ht hvm hw9 hB9 hz1 hk1 hS => ?_)
  have hw9 : r = (iI (m_pcn (m_fillShort g mm.toNat (g 0 0 13)))) := hw9
  subst hw9
  have hP := ro_P hP hk1
  generalize H1 = H at hP hS ⊢
  have s8 := pcn_b (m_fillShort g mm.toNat (g 0 0 13))
  have hf9 : g6 = (m_shortList g mm) := by rw [hg6, hg5] <;> rfl
  rw [hf9] at hP
  exact W.iret (v := (iI (m_pcn (m_fillShort g mm.toNat (g 0 0 13))))) hx hb hr (fun t ht hW9 => ⟨⟨(iI (m_pcn (m_fillShort g mm.toNat (g 0 0 13)))), (), rfl, rfl, ⟨v4, by rw [ht]; exact hP⟩⟩, hS.F ht⟩) hS.2.2 dX4_shortList_54
set_option maxHeartbeats 4000000 in
set_option maxRecDepth 100000 in
theorem c_vote (l : Launch) (D : va_G) (a : Nat → Nat) (cH cB cJ cI : ClassId) (ha : pj a) (g : m_St) (vt : Nat → Int32) (sz : Nat) (jj : Int) (oo : Int) (hWf : Wf g) (hjj : 0 ≤ jj ∧ jj < g 0 0 5) (hoo : 0 ≤ oo ∧ oo ≤ 2147483647) (hio : m_isOrder g oo = true) (h9 : g 0 0 9 = 3) : Met l yX4_vote (wc yX4_vote cX4_vote 3 (some .int)) ({ frames := 3, cells := 0, slots := 0, locals := 69 }) (va_Pc [.ref (a 0), .int (iI jj), .int (iI oo)] (pS D a cH cB cJ cI sz g vt)) (va_Qi (fun (r : Int32) (_ : Unit) => r = iI (m_orderCount (m_takeOrder g jj oo))) (fun _ t => ∃ vt1 : Nat → Int32, va_P D vwCl (pw a cH cB cJ cI (m_takeOrder g jj oo) vt1) t.heap) (pA a sz)) 0 0 (pA a sz) := by
  refine Met.ofW (cc := cX4_vote) (maxL := 3) (ret := (some .int)) (by decide +kernel) rfl ?_
  intro p e s m args below meth c s₁ B9 hml hv
  obtain ⟨rfl, hsz, hP, hK, hE⟩ := hv
  have hx := B9.exec
  have hb := B9.bytes
  have hr := B9.returns
  have hts := atoms_spec (ws := (wc yX4_vote cX4_vote 3 (some .int))) B9.pre
  have hw : ∀ w ∈ wsL_law0, w.before [.ref (a 0), .int (iI jj), .int (iI oo)].toArray s = true := fun w h => hts w (List.mem_cons_of_mem _ h)
  have hown : s.vm.findClass RX4 = some m.cls := findClass_of_methodNamed B9.named
  subst hsz
  have hS : va_S (pA a s.heap.size) s.heap s.heap [] := va_S.rf
  have hA : ∀ q : Nat, s.heap.size ≤ q → pA a s.heap.size q := fun _ h => pA_new h
  have hB : ∀ k, k < 58 → pA a s.heap.size (a k) := fun _ h => pA_in h
  have hl := lv_entry ([.ref (a 0), .int (iI jj), .int (iI oo)]) (n := 3) (Nat.le_of_ble_eq_true rfl)
  rw [lg_entry_eq]
  generalize (lg_sl ([.ref (a 0), .int (iI jj), .int (iI oo)]) ++ List.replicate (3 - (lg_sl ([.ref (a 0), .int (iI jj), .int (iI oo)])).length) Slot.unset).toArray = ls at hl ⊢
  have hl : lv_has ls 3 [(0, .ref (a 0)), (1, .int (iI jj)), (2, .int (iI oo))] := hl
  suffices h9 : ∀ (H : Heap) (locs : List Loc), va_P D vwCl (pw a cH cB cJ cI g vt) H → va_S (pA a s.heap.size) s.heap H locs → W p l e (headSpec (wc yX4_vote cX4_vote 3 (some .int)) ({ frames := 3, cells := 0, slots := 0, locals := 69 })).room s m [.ref (a 0), .int (iI jj), .int (iI oo)].toArray below meth c H locs 0 0 (MQ below (va_Qi (fun (r : Int32) (_ : Unit) => r = iI (m_orderCount (m_takeOrder g jj oo))) (fun _ t => ∃ vt1 : Nat → Int32, va_P D vwCl (pw a cH cB cJ cI (m_takeOrder g jj oo) vt1) t.heap) (pA a s.heap.size)) [.ref (a 0), .int (iI jj), .int (iI oo)].toArray s 0 0 (pA a s.heap.size)) (F0 m 0 ls []) from h9 s.heap [] hP hS
  clear hP hS
  intro H locs hP hS
  have m5 := Wf.m5 hWf
  refine lv_aload_n hx hb dX4_vote_0 rfl (lv_at hl 0 rfl) ?_
  refine lv_iload_n hx hb dX4_vote_1 rfl (lv_at hl 1 rfl) ?_
  refine va_calli (va_runV (As := [.int (iI jj)]) (rest := []) ⟨hx, hb, hml, hown, hw⟩ (c_isJudge l D a cH cB cJ cI ha g vt H.size jj hWf (by omega)) (cwV 1 hw (gA_V kw_158 kw_159 kw_160 kw_2 kw_161) rfl rfl rfl (by decide +kernel) ⟨Nat.le_of_ble_eq_true rfl, Nat.le_of_ble_eq_true rfl⟩) (pS_v (ci := 4) (q0 := 0) rfl pw_0 hP hK hE) rfl rfl hl.1 rfl (lv_room (Nat.le_of_ble_eq_true rfl)) dX4_vote_2 ⟨Nat.le_of_ble_eq_true rfl, Nat.le_of_ble_eq_true rfl⟩) hS (fun q h1 h2 => ro_A h1 h2) (fun q h => ro_F hS hA q h) (fun r u t H1 locs ht hvm hw9 hB9 hz1 hk1 hS => ?_)
  have hw9 : r = (bi (decide (0 ≤ jj ∧ jj < g 0 0 5))) := hw9
  subst hw9
  have hP := ro_P hP hk1
  generalize H1 = H at hP hS ⊢
  refine n_b_ne hx hb (tgt := 18) dX4_vote_5 (by decide) (fun h1 => ?_) (fun h1 => absurd h1 (by intro h1; have h1 := of_decide_eq_false h1; omega))
  have h1 := of_decide_eq_true h1
  refine lv_aload_n hx hb dX4_vote_18 rfl (lv_at hl 0 rfl) ?_
  refine lv_iload_n hx hb dX4_vote_19 rfl (lv_at hl 2 rfl) ?_
  refine va_calli (va_runV (As := [.int (iI oo)]) (rest := []) ⟨hx, hb, hml, hown, hw⟩ (c_isOrder l D a cH cB cJ cI ha g vt H.size oo hWf (by omega)) (cwV 1 hw (gA_V kw_437 kw_438 kw_439 kw_2 kw_440) rfl rfl rfl (by decide +kernel) ⟨Nat.le_of_ble_eq_true rfl, Nat.le_of_ble_eq_true rfl⟩) (pS_v (ci := 4) (q0 := 0) rfl pw_0 hP hK hE) rfl rfl hl.1 rfl (lv_room (Nat.le_of_ble_eq_true rfl)) dX4_vote_20 ⟨Nat.le_of_ble_eq_true rfl, Nat.le_of_ble_eq_true rfl⟩) hS (fun q h1 h2 => ro_A h1 h2) (fun q h => ro_F hS hA q h) (fun r u t H1 locs ht hvm hw9 hB9 hz1 hk1 hS => ?_)
  have hw9 : r = (bi (m_isOrder g oo)) := hw9
  subst hw9
  have hP := ro_P hP hk1
  generalize H1 = H at hP hS ⊢
  refine n_b_ne hx hb (tgt := 36) dX4_vote_23 (by decide) (fun h2 => ?_) (fun h2 => absurd h2 (by intro h2; rw [hio] at h2; cases h2))
  refine lv_aload_n hx hb dX4_vote_36 rfl (lv_at hl 0 rfl) ?_
  have s3 := Wf.m9 hWf
  refine va_get (D := D) (ci := 4) (v := .int (iI (g 0 0 9))) (C := RX4) (T := TX4) (N := 19) hx hb hw hin_wsX40 hown hK hP 0 pw_0 rfl 9 (by decide) (hw _ kw_25) (fun _ h9 => h9) rfl dX4_vote_37 ?_
  refine lv_iconst (v := iI 3) hx hb dX4_vote_40 (by decide) ?_
  refine n_icmp_eq hx hb (by unfold RI; omega) (by unfold RI; omega) (tgt := 54) dX4_vote_41 (by decide) (fun h4 => ?_) (fun h4 => absurd h4 (by intro h4; omega))
  refine lv_aload_n hx hb dX4_vote_54 rfl (lv_at hl 0 rfl) ?_
  refine lv_aload_n hx hb dX4_vote_55 rfl (lv_at hl 0 rfl) ?_
  refine va_get (D := D) (ci := 4) (v := .ref (a 3)) (C := RX4) (T := TX4) (N := 19) hx hb hw hin_wsX40 hown hK hP 0 pw_0 rfl 2 (by decide) (hw _ kw_19) (fun _ h9 => h9) rfl dX4_vote_56 ?_
  refine lv_iload_n hx hb dX4_vote_59 rfl (lv_at hl 1 rfl) ?_
  refine p_aldJ hx hb hK hP (k := jj) (by omega) (by omega) dX4_vote_60 ?_
  refine lv_iload_n hx hb dX4_vote_61 rfl (lv_at hl 2 rfl) ?_
  refine va_callv (va_runV (As := [.ref (a (28 + 6 * jj.toNat)), .int (iI oo)]) (rest := []) ⟨hx, hb, hml, hown, hw⟩ (c_takeOrder l D a cH cB cJ cI ha g vt H.size jj oo hWf (by omega) (by omega)) (cwV 2 hw (gA_V kw_441 kw_442 kw_443 kw_2 kw_444) rfl rfl rfl (by decide +kernel) ⟨Nat.le_of_ble_eq_true rfl, Nat.le_of_ble_eq_true rfl⟩) (pS_v (ci := 4) (q0 := 0) rfl pw_0 hP hK hE) rfl rfl hl.1 rfl (lv_room (Nat.le_of_ble_eq_true rfl)) dX4_vote_62 ⟨Nat.le_of_ble_eq_true rfl, Nat.le_of_ble_eq_true rfl⟩) hS (fun q _ h => rw_A hS hA hB q h) (fun q h => rw_A hS hA hB q h) (fun u t H1 locs ht hvm hw9 hB9 hz1 hk1 hS => ?_)
  obtain ⟨v5, hP1⟩ := hB9
  rw [ht] at hP1
  obtain ⟨g6, hg6⟩ : ∃ z, z = (m_takeOrder g jj oo) := ⟨_, rfl⟩
  rw [← hg6] at hP1
  have hWg6 : Wf g6 := by rw [hg6]; exact Wf.order hWf
  have hP : va_P D vwCl (pw a cH cB cJ cI g6 v5) H1 := hP1
  generalize H1 = H at hP hS ⊢
  refine lv_aload_n hx hb dX4_vote_65 rfl (lv_at hl 0 rfl) ?_
  refine va_calli (va_runV (As := []) (rest := []) ⟨hx, hb, hml, hown, hw⟩ (c_orderCount l D a cH cB cJ cI ha g6 v5 H.size  hWg6) (cwV 0 hw (gA_V kw_451 kw_452 kw_453 kw_2 kw_454) rfl rfl rfl (by decide +kernel) ⟨Nat.le_of_ble_eq_true rfl, Nat.le_of_ble_eq_true rfl⟩) (pS_v (ci := 4) (q0 := 0) rfl pw_0 hP hK hE) rfl rfl hl.1 rfl (lv_room (Nat.le_of_ble_eq_true rfl)) dX4_vote_66 ⟨Nat.le_of_ble_eq_true rfl, Nat.le_of_ble_eq_true rfl⟩) hS (fun q h1 h2 => ro_A h1 h2) (fun q h => ro_F hS hA q h) (fun r u t H1 locs ht hvm hw9 hB9 hz1 hk1 hS => ?_)
  have hw9 : r = (iI (m_orderCount g6)) := hw9
  subst hw9
  have hP := ro_P hP hk1
  generalize H1 = H at hP hS ⊢
  have s7 := (show 0 ≤ m_orderCount g6 ∧ m_orderCount g6 ≤ 5 from cnt5 hWg6 _)
  have hf8 : g6 = (m_takeOrder g jj oo) := by rw [hg6] <;> rfl
  rw [hf8] at hP
  exact W.iret (v := (iI (m_orderCount g6))) hx hb hr (fun t ht hW9 => ⟨⟨(iI (m_orderCount g6)), (), rfl, (congrArg iI (by rw [hg6])), ⟨v5, by rw [ht]; exact hP⟩⟩, hS.F ht⟩) hS.2.2 dX4_vote_69
set_option maxHeartbeats 4000000 in
set_option maxRecDepth 100000 in
theorem c_points (l : Launch) (D : va_G) (a : Nat → Nat) (cH cB cJ cI : ClassId) (ha : pj a) (g : m_St) (vt : Nat → Int32) (sz : Nat) (jj : Int) (bb : Int) (nn : Int) (hWf : Wf g) (hjj : 0 ≤ jj ∧ jj < g 0 0 5) (hbb : 0 ≤ bb ∧ bb < g 0 0 4) (h9 : g 0 0 9 = 2) (hlg : m_has (g 0 0 11) bb = true) (hnn : 0 ≤ nn ∧ nn ≤ 12) (hag : m_agn g jj (g 2 bb 1) = false) (hlf : 0 ≤ m_ptsLeft g jj + g 7 jj bb - nn) : Met l yX4_points (wc yX4_points cX4_points 5 (some .int)) ({ frames := 1, cells := 0, slots := 0, locals := 22 }) (va_Pc [.ref (a 0), .int (iI jj), .int (iI bb), .int (iI nn)] (pS D a cH cB cJ cI sz g vt)) (va_Qi (fun (r : Int32) (_ : Unit) => r = iI (m_ptsLeft g jj + g 7 jj bb - nn)) (fun _ t => ∃ vt1 : Nat → Int32, va_P D vwCl (pw a cH cB cJ cI (m_points g jj bb nn) vt1) t.heap) (pA a sz)) 0 0 (pA a sz) := by
  refine Met.ofW (cc := cX4_points) (maxL := 5) (ret := (some .int)) (by decide +kernel) rfl ?_
  intro p e s m args below meth c s₁ B9 hml hv
  obtain ⟨rfl, hsz, hP, hK, hE⟩ := hv
  have hx := B9.exec
  have hb := B9.bytes
  have hr := B9.returns
  have hts := atoms_spec (ws := (wc yX4_points cX4_points 5 (some .int))) B9.pre
  have hw : ∀ w ∈ wsL_law0, w.before [.ref (a 0), .int (iI jj), .int (iI bb), .int (iI nn)].toArray s = true := fun w h => hts w (List.mem_cons_of_mem _ h)
  have hown : s.vm.findClass RX4 = some m.cls := findClass_of_methodNamed B9.named
  subst hsz
  have hS : va_S (pA a s.heap.size) s.heap s.heap [] := va_S.rf
  have hA : ∀ q : Nat, s.heap.size ≤ q → pA a s.heap.size q := fun _ h => pA_new h
  have hB : ∀ k, k < 58 → pA a s.heap.size (a k) := fun _ h => pA_in h
  have hl := lv_entry ([.ref (a 0), .int (iI jj), .int (iI bb), .int (iI nn)]) (n := 5) (Nat.le_of_ble_eq_true rfl)
  rw [lg_entry_eq]
  generalize (lg_sl ([.ref (a 0), .int (iI jj), .int (iI bb), .int (iI nn)]) ++ List.replicate (5 - (lg_sl ([.ref (a 0), .int (iI jj), .int (iI bb), .int (iI nn)])).length) Slot.unset).toArray = ls at hl ⊢
  have hl : lv_has ls 5 [(0, .ref (a 0)), (1, .int (iI jj)), (2, .int (iI bb)), (3, .int (iI nn))] := hl
  suffices h9 : ∀ (H : Heap) (locs : List Loc), va_P D vwCl (pw a cH cB cJ cI g vt) H → va_S (pA a s.heap.size) s.heap H locs → W p l e (headSpec (wc yX4_points cX4_points 5 (some .int)) ({ frames := 1, cells := 0, slots := 0, locals := 22 })).room s m [.ref (a 0), .int (iI jj), .int (iI bb), .int (iI nn)].toArray below meth c H locs 0 0 (MQ below (va_Qi (fun (r : Int32) (_ : Unit) => r = iI (m_ptsLeft g jj + g 7 jj bb - nn)) (fun _ t => ∃ vt1 : Nat → Int32, va_P D vwCl (pw a cH cB cJ cI (m_points g jj bb nn) vt1) t.heap) (pA a s.heap.size)) [.ref (a 0), .int (iI jj), .int (iI bb), .int (iI nn)].toArray s 0 0 (pA a s.heap.size)) (F0 m 0 ls []) from h9 s.heap [] hP hS
  clear hP hS
  intro H locs hP hS
  have m5 := Wf.m5 hWf
  have m4 := Wf.m4 hWf
  have m11 := Wf.m11 hWf
  refine lv_aload_n hx hb dX4_points_0 rfl (lv_at hl 0 rfl) ?_
  refine lv_iload_n hx hb dX4_points_1 rfl (lv_at hl 1 rfl) ?_
  refine va_calli (va_runV (As := [.int (iI jj)]) (rest := []) ⟨hx, hb, hml, hown, hw⟩ (c_isJudge l D a cH cB cJ cI ha g vt H.size jj hWf (by omega)) (cwV 1 hw (gA_V kw_158 kw_159 kw_160 kw_2 kw_161) rfl rfl rfl (by decide +kernel) ⟨Nat.le_of_ble_eq_true rfl, Nat.le_of_ble_eq_true rfl⟩) (pS_v (ci := 4) (q0 := 0) rfl pw_0 hP hK hE) rfl rfl hl.1 rfl (lv_room (Nat.le_of_ble_eq_true rfl)) dX4_points_2 ⟨Nat.le_of_ble_eq_true rfl, Nat.le_of_ble_eq_true rfl⟩) hS (fun q h1 h2 => ro_A h1 h2) (fun q h => ro_F hS hA q h) (fun r u t H1 locs ht hvm hw9 hB9 hz1 hk1 hS => ?_)
  have hw9 : r = (bi (decide (0 ≤ jj ∧ jj < g 0 0 5))) := hw9
  subst hw9
  have hP := ro_P hP hk1
  generalize H1 = H at hP hS ⊢
  refine n_b_eq hx hb (tgt := 35) dX4_points_5 (by decide) (fun h1 => absurd h1 (by intro h1; have h1 := of_decide_eq_false h1; omega)) (fun h1 => ?_)
  have h1 := of_decide_eq_true h1
  refine lv_aload_n hx hb dX4_points_8 rfl (lv_at hl 0 rfl) ?_
  refine lv_iload_n hx hb dX4_points_9 rfl (lv_at hl 2 rfl) ?_
  refine va_calli (va_runV (As := [.int (iI bb)]) (rest := []) ⟨hx, hb, hml, hown, hw⟩ (c_isBook l D a cH cB cJ cI ha g vt H.size bb hWf (by omega)) (cwV 1 hw (gA_V kw_162 kw_163 kw_164 kw_2 kw_165) rfl rfl rfl (by decide +kernel) ⟨Nat.le_of_ble_eq_true rfl, Nat.le_of_ble_eq_true rfl⟩) (pS_v (ci := 4) (q0 := 0) rfl pw_0 hP hK hE) rfl rfl hl.1 rfl (lv_room (Nat.le_of_ble_eq_true rfl)) dX4_points_10 ⟨Nat.le_of_ble_eq_true rfl, Nat.le_of_ble_eq_true rfl⟩) hS (fun q h1 h2 => ro_A h1 h2) (fun q h => ro_F hS hA q h) (fun r u t H1 locs ht hvm hw9 hB9 hz1 hk1 hS => ?_)
  have hw9 : r = (bi (decide (0 ≤ bb ∧ bb < g 0 0 4))) := hw9
  subst hw9
  have hP := ro_P hP hk1
  generalize H1 = H at hP hS ⊢
  refine n_b_eq hx hb (tgt := 35) dX4_points_13 (by decide) (fun h2 => absurd h2 (by intro h2; have h2 := of_decide_eq_false h2; omega)) (fun h2 => ?_)
  have h2 := of_decide_eq_true h2
  refine lv_aload_n hx hb dX4_points_16 rfl (lv_at hl 0 rfl) ?_
  have s3 := Wf.m9 hWf
  refine va_get (D := D) (ci := 4) (v := .int (iI (g 0 0 9))) (C := RX4) (T := TX4) (N := 19) hx hb hw hin_wsX40 hown hK hP 0 pw_0 rfl 9 (by decide) (hw _ kw_25) (fun _ h9 => h9) rfl dX4_points_17 ?_
  refine lv_iconst (v := iI 2) hx hb dX4_points_20 (by decide) ?_
  refine n_icmp_ne hx hb (by unfold RI; omega) (by unfold RI; omega) (tgt := 35) dX4_points_21 (by decide) (fun h4 => absurd h4 (by intro h4; omega)) (fun h4 => ?_)
  refine lv_aload_n hx hb dX4_points_24 rfl (lv_at hl 0 rfl) ?_
  have s5 := Wf.m11 hWf
  refine va_get (D := D) (ci := 4) (v := .int (iI (g 0 0 11))) (C := RX4) (T := TX4) (N := 19) hx hb hw hin_wsX40 hown hK hP 0 pw_0 rfl 11 (by decide) (hw _ kw_99) (fun _ h9 => h9) rfl dX4_points_25 ?_
  refine lv_iload_n hx hb dX4_points_28 rfl (lv_at hl 2 rfl) ?_
  refine va_calli (va_runS (As := [.int (iI (g 0 0 11)), .int (iI bb)]) (rest := []) ⟨hx, hb, hml, hown, hw⟩ (c_has l D a cH cB cJ cI ha g vt H.size (g 0 0 11) bb (by omega) (by omega)) (va_cwS 2 hw (gA_S kw_229 kw_223 kw_2 kw_224) rfl rfl rfl (by decide +kernel) ⟨Nat.le_of_ble_eq_true rfl, Nat.le_of_ble_eq_true rfl⟩) (pS_s hP hK hE) rfl rfl hl.1 rfl (lv_room (Nat.le_of_ble_eq_true rfl)) dX4_points_29 ⟨Nat.le_of_ble_eq_true rfl, Nat.le_of_ble_eq_true rfl⟩) hS (fun q h1 h2 => ro_A h1 h2) (fun q h => ro_F hS hA q h) (fun r u t H1 locs ht hvm hw9 hB9 hz1 hk1 hS => ?_)
  have hw9 : r = (bi (m_has (g 0 0 11) bb)) := hw9
  subst hw9
  have hP := ro_P hP hk1
  generalize H1 = H at hP hS ⊢
  refine n_b_ne hx hb (tgt := 45) dX4_points_32 (by decide) (fun h6 => ?_) (fun h6 => absurd h6 (by intro h6; rw [hlg] at h6; cases h6))
  refine lv_iload_n hx hb dX4_points_45 rfl (lv_at hl 3 rfl) ?_
  refine lv_iconst (v := iI 0) hx hb dX4_points_46 (by decide) ?_
  refine lv_bipush (v := iI 12) hx hb dX4_points_47 (by decide) ?_
  refine va_calli (va_runS (As := [.int (iI nn), .int (iI 0), .int (iI 12)]) (rest := []) ⟨hx, hb, hml, hown, hw⟩ (c_isWithin l D a cH cB cJ cI ha g vt H.size nn 0 12 (by omega) (by omega) (by omega)) (va_cwS 3 hw (gA_S kw_82 kw_83 kw_2 kw_84) rfl rfl rfl (by decide +kernel) ⟨Nat.le_of_ble_eq_true rfl, Nat.le_of_ble_eq_true rfl⟩) (pS_s hP hK hE) rfl rfl hl.1 rfl (lv_room (Nat.le_of_ble_eq_true rfl)) dX4_points_49 ⟨Nat.le_of_ble_eq_true rfl, Nat.le_of_ble_eq_true rfl⟩) hS (fun q h1 h2 => ro_A h1 h2) (fun q h => ro_F hS hA q h) (fun r u t H1 locs ht hvm hw9 hB9 hz1 hk1 hS => ?_)
  have hw9 : r = (bi (decide (0 ≤ nn ∧ nn ≤ 12))) := hw9
  subst hw9
  have hP := ro_P hP hk1
  generalize H1 = H at hP hS ⊢
  refine n_b_ne hx hb (tgt := 65) dX4_points_52 (by decide) (fun h7 => ?_) (fun h7 => absurd h7 (by intro h7; have h7 := of_decide_eq_false h7; omega))
  have h7 := of_decide_eq_true h7
  refine lv_aload_n hx hb dX4_points_65 rfl (lv_at hl 0 rfl) ?_
  refine va_get (D := D) (ci := 4) (v := .ref (a 3)) (C := RX4) (T := TX4) (N := 19) hx hb hw hin_wsX40 hown hK hP 0 pw_0 rfl 2 (by decide) (hw _ kw_19) (fun _ h9 => h9) rfl dX4_points_66 ?_
  refine lv_iload_n hx hb dX4_points_69 rfl (lv_at hl 1 rfl) ?_
  refine p_aldJ hx hb hK hP (k := jj) (by omega) (by omega) dX4_points_70 ?_
  refine va_calli (va_runV (As := []) (rest := []) ⟨hx, hb, hml, hown, hw⟩ (c_pointsLeft l D a cH cB cJ cI ha g vt H.size jj hWf (by omega)) (cwV 0 hw (gA_V kw_193 kw_194 kw_195 kw_34 kw_196) rfl rfl rfl (by decide +kernel) ⟨Nat.le_of_ble_eq_true rfl, Nat.le_of_ble_eq_true rfl⟩) (pS_v (ci := 2) (q0 := (28 + 6 * jj.toNat)) rfl (pw_J (j := jj) (by omega) (by omega)) hP hK hE) rfl rfl hl.1 rfl (lv_room (Nat.le_of_ble_eq_true rfl)) dX4_points_71 ⟨Nat.le_of_ble_eq_true rfl, Nat.le_of_ble_eq_true rfl⟩) hS (fun q h1 h2 => ro_A h1 h2) (fun q h => ro_F hS hA q h) (fun r u t H1 locs ht hvm hw9 hB9 hz1 hk1 hS => ?_)
  have hw9 : r = (iI (m_ptsLeft g jj)) := hw9
  subst hw9
  have hP := ro_P hP hk1
  generalize H1 = H at hP hS ⊢
  have s8 := ptsl_b hWf (jj := jj) (by omega)
  refine lv_aload_n hx hb dX4_points_74 rfl (lv_at hl 0 rfl) ?_
  refine va_get (D := D) (ci := 4) (v := .ref (a 3)) (C := RX4) (T := TX4) (N := 19) hx hb hw hin_wsX40 hown hK hP 0 pw_0 rfl 2 (by decide) (hw _ kw_19) (fun _ h9 => h9) rfl dX4_points_75 ?_
  refine lv_iload_n hx hb dX4_points_78 rfl (lv_at hl 1 rfl) ?_
  refine p_aldJ hx hb hK hP (k := jj) (by omega) (by omega) dX4_points_79 ?_
  refine va_get (D := D) (ci := 2) (v := .ref (a (28 + 4 + 6 * jj.toNat))) (C := RX2) (T := TX2) (N := 16) hx hb hw hin_wsX20 hown hK hP (28 + 6 * jj.toNat) (pw_J (j := jj) (by omega) (by omega)) rfl 13 (by decide) (hw _ kw_261) (fun _ h9 => h9) rfl dX4_points_80 ?_
  refine lv_iload_n hx hb dX4_points_83 rfl (lv_at hl 2 rfl) ?_
  refine p_rd hx hb hK hP (j := jj) (k := bb) (r := 4) (by omega) (by omega) (by decide) (by omega) (by rw [if_neg (by decide)]; omega) dX4_points_84 ?_
  have s9 := Wf.r7 hWf (j := jj) (k := bb) (by omega) (by omega) (by omega) (by omega)
  rw [show g (3 + 4) jj bb = g 7 jj bb from rfl]
  refine n_add hx hb dX4_points_85 ?_
  refine lv_iload_n hx hb dX4_points_86 rfl (lv_at hl 3 rfl) ?_
  refine n_sub hx hb dX4_points_87 ?_
  refine lv_istore (lv' := [(4, .int (iI (((m_ptsLeft g jj) + g 7 jj bb) - nn))), (0, .ref (a 0)), (1, .int (iI jj)), (2, .int (iI bb)), (3, .int (iI nn))]) hx hb dX4_points_88 hl (by decide) rfl (fun ls hl => ?_)
  refine lv_aload_n hx hb dX4_points_90 rfl (lv_at hl 1 rfl) ?_
  refine va_get (D := D) (ci := 4) (v := .ref (a 3)) (C := RX4) (T := TX4) (N := 19) hx hb hw hin_wsX40 hown hK hP 0 pw_0 rfl 2 (by decide) (hw _ kw_19) (fun _ h9 => h9) rfl dX4_points_91 ?_
  refine lv_iload_n hx hb dX4_points_94 rfl (lv_at hl 2 rfl) ?_
  refine p_aldJ hx hb hK hP (k := jj) (by omega) (by omega) dX4_points_95 ?_
  refine lv_aload_n hx hb dX4_points_96 rfl (lv_at hl 1 rfl) ?_
  refine va_get (D := D) (ci := 4) (v := .ref (a 2)) (C := RX4) (T := TX4) (N := 19) hx hb hw hin_wsX40 hown hK hP 0 pw_0 rfl 1 (by decide) (hw _ kw_17) (fun _ h9 => h9) rfl dX4_points_97 ?_
  refine lv_iload_n hx hb dX4_points_100 rfl (lv_at hl 3 rfl) ?_
  refine p_aldB hx hb hK hP (k := bb) (by omega) (by omega) dX4_points_101 ?_
  have s10 := Wf.b1 hWf (k := bb) (by omega) (by omega)
  refine va_get (D := D) (ci := 0) (v := .int (iI (g 2 bb 1))) (C := RX0) (T := TX0) (N := 11) hx hb hw hin_wsX00 hown hK hP (12 + bb.toNat) (pw_B (b := bb) (by omega) (by omega)) rfl 1 (by decide) (hw _ kw_211) (fun _ h9 => h9) rfl dX4_points_102 ?_
  refine va_calli (va_runV (As := [.int (iI (g 2 bb 1))]) (rest := []) ⟨hx, hb, hml, hown, hw⟩ (c_isAgainst l D a cH cB cJ cI ha g vt H.size jj (g 2 bb 1) hWf (by omega) (by omega)) (cwV 1 hw (gA_V kw_238 kw_239 kw_240 kw_34 kw_241) rfl rfl rfl (by decide +kernel) ⟨Nat.le_of_ble_eq_true rfl, Nat.le_of_ble_eq_true rfl⟩) (pS_v (ci := 2) (q0 := (28 + 6 * jj.toNat)) rfl (pw_J (j := jj) (by omega) (by omega)) hP hK hE) rfl rfl hl.1 rfl (lv_room (Nat.le_of_ble_eq_true rfl)) dX4_points_105 ⟨Nat.le_of_ble_eq_true rfl, Nat.le_of_ble_eq_true rfl⟩) hS (fun q h1 h2 => ro_A h1 h2) (fun q h => ro_F hS hA q h) (fun r u t H1 locs ht hvm hw9 hB9 hz1 hk1 hS => ?_)
  have hw9 : r = (bi (m_agn g jj (g 2 bb 1))) := hw9
  subst hw9
  have hP := ro_P hP hk1
  generalize H1 = H at hP hS ⊢
  refine n_b_ne hx hb (tgt := 116) dX4_points_108 (by decide) (fun h11 => absurd h11 (by intro h11; rw [hag] at h11; cases h11)) (fun h11 => ?_)
  refine lv_iload hx hb dX4_points_111 (lv_at hl 0 rfl) ?_
  refine n_if_ge hx hb (by unfold RI; omega) (tgt := 126) dX4_points_113 (by decide) (fun h12 => ?_) (fun h12 => absurd h12 (by intro h12; omega))
  refine lv_aload_n hx hb dX4_points_126 rfl (lv_at hl 1 rfl) ?_
  refine va_get (D := D) (ci := 4) (v := .ref (a 3)) (C := RX4) (T := TX4) (N := 19) hx hb hw hin_wsX40 hown hK hP 0 pw_0 rfl 2 (by decide) (hw _ kw_19) (fun _ h9 => h9) rfl dX4_points_127 ?_
  refine lv_iload_n hx hb dX4_points_130 rfl (lv_at hl 2 rfl) ?_
  refine p_aldJ hx hb hK hP (k := jj) (by omega) (by omega) dX4_points_131 ?_
  refine va_get (D := D) (ci := 2) (v := .ref (a (28 + 4 + 6 * jj.toNat))) (C := RX2) (T := TX2) (N := 16) hx hb hw hin_wsX20 hown hK hP (28 + 6 * jj.toNat) (pw_J (j := jj) (by omega) (by omega)) rfl 13 (by decide) (hw _ kw_261) (fun _ h9 => h9) rfl dX4_points_132 ?_
  refine lv_iload_n hx hb dX4_points_135 rfl (lv_at hl 3 rfl) ?_
  refine lv_iload_n hx hb dX4_points_136 rfl (lv_at hl 4 rfl) ?_
  refine p_wr hx hb hK hP (pw_D ha (fun k hk => pA_in hk)) hS (j := jj) (k := bb) (x := nn) (r := 4) (by omega) (by omega) (by decide) (by omega) (by rw [if_neg (by decide)]; omega) dX4_points_137 (fun H locs hP hS => ?_)
  have hP : va_P D vwCl (pw a cH cB cJ cI (m_up g 7 jj bb nn) vt) H := hP
  obtain ⟨g13, hg13⟩ : ∃ z, z = m_up g 7 jj bb nn := ⟨_, rfl⟩
  rw [← hg13] at hP
  refine lv_iload hx hb dX4_points_138 (lv_at hl 0 rfl) ?_
  have hf14 : g13 = (m_points g jj bb nn) := by rw [hg13] <;> rfl
  rw [hf14] at hP
  exact W.iret (v := (iI (((m_ptsLeft g jj) + g 7 jj bb) - nn))) hx hb hr (fun t ht hW9 => ⟨⟨(iI (((m_ptsLeft g jj) + g 7 jj bb) - nn)), (), rfl, (congrArg iI (by rfl)), ⟨vt, by rw [ht]; exact hP⟩⟩, hS.F ht⟩) hS.2.2 dX4_points_140
set_option maxHeartbeats 4000000 in
set_option maxRecDepth 100000 in
theorem c_end (l : Launch) (D : va_G) (a : Nat → Nat) (cH cB cJ cI : ClassId) (ha : pj a) (g : m_St) (vt : Nat → Int32) (sz : Nat) (hWf : Wf g) (h9 : g 0 0 9 = 3) (hsb : ∀ b, m_has (g 0 0 13) b = true → b < g 0 0 4) : Met l yX4_end (wc yX4_end cX4_end 1 (some .int)) ({ frames := 5, cells := 0, slots := 0, locals := 117 }) (va_Pc [.ref (a 0)] (pS D a cH cB cJ cI sz g vt)) (va_Qi (fun (r : Int32) (_ : Unit) => r = iI (m_winner g 0 0)) (fun _ t => ∃ vt1 : Nat → Int32, va_P D vwCl (pw a cH cB cJ cI (m_endIt g) vt1) t.heap) (pA a sz)) 0 0 (pA a sz) := by
  refine Met.ofW (cc := cX4_end) (maxL := 1) (ret := (some .int)) (by decide +kernel) rfl ?_
  intro p e s m args below meth c s₁ B9 hml hv
  obtain ⟨rfl, hsz, hP, hK, hE⟩ := hv
  have hx := B9.exec
  have hb := B9.bytes
  have hr := B9.returns
  have hts := atoms_spec (ws := (wc yX4_end cX4_end 1 (some .int))) B9.pre
  have hw : ∀ w ∈ wsL_law0, w.before [.ref (a 0)].toArray s = true := fun w h => hts w (List.mem_cons_of_mem _ h)
  have hown : s.vm.findClass RX4 = some m.cls := findClass_of_methodNamed B9.named
  subst hsz
  have hS : va_S (pA a s.heap.size) s.heap s.heap [] := va_S.rf
  have hA : ∀ q : Nat, s.heap.size ≤ q → pA a s.heap.size q := fun _ h => pA_new h
  have hB : ∀ k, k < 58 → pA a s.heap.size (a k) := fun _ h => pA_in h
  have hl := lv_entry ([.ref (a 0)]) (n := 1) (Nat.le_of_ble_eq_true rfl)
  rw [lg_entry_eq]
  generalize (lg_sl ([.ref (a 0)]) ++ List.replicate (1 - (lg_sl ([.ref (a 0)])).length) Slot.unset).toArray = ls at hl ⊢
  have hl : lv_has ls 1 [(0, .ref (a 0))] := hl
  suffices h9 : ∀ (H : Heap) (locs : List Loc), va_P D vwCl (pw a cH cB cJ cI g vt) H → va_S (pA a s.heap.size) s.heap H locs → W p l e (headSpec (wc yX4_end cX4_end 1 (some .int)) ({ frames := 5, cells := 0, slots := 0, locals := 117 })).room s m [.ref (a 0)].toArray below meth c H locs 0 0 (MQ below (va_Qi (fun (r : Int32) (_ : Unit) => r = iI (m_winner g 0 0)) (fun _ t => ∃ vt1 : Nat → Int32, va_P D vwCl (pw a cH cB cJ cI (m_endIt g) vt1) t.heap) (pA a s.heap.size)) [.ref (a 0)].toArray s 0 0 (pA a s.heap.size)) (F0 m 0 ls []) from h9 s.heap [] hP hS
  clear hP hS
  intro H locs hP hS
  refine lv_aload_n hx hb dX4_end_0 rfl (lv_at hl 0 rfl) ?_
  have s1 := Wf.m9 hWf
  refine va_get (D := D) (ci := 4) (v := .int (iI (g 0 0 9))) (C := RX4) (T := TX4) (N := 19) hx hb hw hin_wsX40 hown hK hP 0 pw_0 rfl 9 (by decide) (hw _ kw_25) (fun _ h9 => h9) rfl dX4_end_1 ?_
  refine lv_iconst (v := iI 3) hx hb dX4_end_4 (by decide) ?_
  refine n_icmp_eq hx hb (by unfold RI; omega) (by unfold RI; omega) (tgt := 19) dX4_end_5 (by decide) (fun h2 => ?_) (fun h2 => absurd h2 (by intro h2; omega))
  refine lv_aload_n hx hb dX4_end_19 rfl (lv_at hl 0 rfl) ?_
  refine lv_aload_n hx hb dX4_end_20 rfl (lv_at hl 0 rfl) ?_
  refine lv_iconst (v := iI 0) hx hb dX4_end_21 (by decide) ?_
  refine lv_iconst (v := iI 0) hx hb dX4_end_22 (by decide) ?_
  refine va_calli (va_runV (As := [.int (iI 0), .int (iI 0)]) (rest := [.ref (a 0)]) ⟨hx, hb, hml, hown, hw⟩ (c_winnerWithout l D a cH cB cJ cI ha g vt H.size 0 0 hWf (by omega) (by omega) (hsb)) (cwV 2 hw (gA_V kw_385 kw_386 kw_387 kw_2 kw_388) rfl rfl rfl (by decide +kernel) ⟨Nat.le_of_ble_eq_true rfl, Nat.le_of_ble_eq_true rfl⟩) (pS_v (ci := 4) (q0 := 0) rfl pw_0 hP hK hE) rfl rfl hl.1 rfl (lv_room (Nat.le_of_ble_eq_true rfl)) dX4_end_23 ⟨Nat.le_of_ble_eq_true rfl, Nat.le_of_ble_eq_true rfl⟩) hS (fun q _ h => rw_A hS hA hB q h) (fun q h => rw_A hS hA hB q h) (fun r u t H1 locs ht hvm hw9 hB9 hz1 hk1 hS => ?_)
  have hw9 : r = (iI (m_winner g 0 0)) := hw9
  subst hw9
  obtain ⟨v3, hP1⟩ := hB9
  rw [ht] at hP1
  have hP : va_P D vwCl (pw a cH cB cJ cI g v3) H1 := hP1
  generalize H1 = H at hP hS ⊢
  have s4 := win_b hWf 0 0
  refine va_callv (va_runV (As := [.int (iI (m_winner g 0 0))]) (rest := []) ⟨hx, hb, hml, hown, hw⟩ (c_crown l D a cH cB cJ cI ha g v3 H.size (m_winner g 0 0) hWf (by omega)) (cwV 1 hw (gA_V kw_409 kw_410 kw_411 kw_2 kw_412) rfl rfl rfl (by decide +kernel) ⟨Nat.le_of_ble_eq_true rfl, Nat.le_of_ble_eq_true rfl⟩) (pS_v (ci := 4) (q0 := 0) rfl pw_0 hP hK hE) rfl rfl hl.1 rfl (lv_room (Nat.le_of_ble_eq_true rfl)) dX4_end_26 ⟨Nat.le_of_ble_eq_true rfl, Nat.le_of_ble_eq_true rfl⟩) hS (fun q _ h => rw_A hS hA hB q h) (fun q h => rw_A hS hA hB q h) (fun u t H1 locs ht hvm hw9 hB9 hz1 hk1 hS => ?_)
  obtain ⟨v5, hP1⟩ := hB9
  rw [ht] at hP1
  obtain ⟨g6, hg6⟩ : ∃ z, z = (m_crown g (m_winner g 0 0)) := ⟨_, rfl⟩
  rw [← hg6] at hP1
  have hP : va_P D vwCl (pw a cH cB cJ cI g6 v5) H1 := hP1
  generalize H1 = H at hP hS ⊢
  refine lv_aload_n hx hb dX4_end_29 rfl (lv_at hl 0 rfl) ?_
  refine lv_iconst (v := iI 4) hx hb dX4_end_30 (by decide) ?_
  refine va_put (D := D) (ci := 4) (v := .int (iI 4)) (C := RX4) (T := TX4) (N := 19) (ty := .int) hx hb hw hin_wsX40 tyX4 tyX4_ok nmX4 hown hK hP (pw_D ha (fun k hk => pA_in hk)) hS 0 pw_0 rfl 9 (by decide) (hw _ kw_25) (fun _ h9 => h9) rfl (tyX4_ok 9 (by decide)) rfl rfl (show 9 < 19 from by decide) dX4_end_31 (fun H locs hP _ hS => ?_)
  rw [pw_setM (by decide) (by decide) (by decide) (by decide)] at hP
  have hP : va_P D vwCl (pw a cH cB cJ cI (m_up g6 0 0 9 4) v5) H := hP
  obtain ⟨g7, hg7⟩ : ∃ z, z = m_up g6 0 0 9 4 := ⟨_, rfl⟩
  rw [← hg7] at hP
  refine lv_aload_n hx hb dX4_end_34 rfl (lv_at hl 0 rfl) ?_
  have e8 : g7 0 0 14 = (m_winner g 0 0) := (show g7 0 0 14 = g6 0 0 14 from by simp [hg7, m_up]).trans (by rw [hg6]; exact crown_14 _ _)
  refine va_get (D := D) (ci := 4) (v := .int (iI (m_winner g 0 0))) (C := RX4) (T := TX4) (N := 19) hx hb hw hin_wsX40 hown hK hP 0 pw_0 rfl 14 (by decide) (hw _ kw_26) (fun _ h9 => h9) (by rw [← e8]; rfl) dX4_end_35 ?_
  have hf9 : g7 = (m_endIt g) := by rw [hg7, hg6] <;> rfl
  rw [hf9] at hP
  exact W.iret (v := (iI (m_winner g 0 0))) hx hb hr (fun t ht hW9 => ⟨⟨(iI (m_winner g 0 0)), (), rfl, rfl, ⟨v5, by rw [ht]; exact hP⟩⟩, hS.F ht⟩) hS.2.2 dX4_end_38
set_option maxHeartbeats 4000000 in
set_option maxRecDepth 100000 in
theorem c_strip (l : Launch) (D : va_G) (a : Nat → Nat) (cH cB cJ cI : ClassId) (ha : pj a) (g : m_St) (vt : Nat → Int32) (sz : Nat) (hWf : Wf g) (h9 : g 0 0 9 = 4) (hwn : 0 ≤ g 0 0 14) (hsb : ∀ b, m_has (g 0 0 13) b = true → b < g 0 0 4) : Met l yX4_strip (wc yX4_strip cX4_strip 1 (some .int)) ({ frames := 5, cells := 0, slots := 0, locals := 117 }) (va_Pc [.ref (a 0)] (pS D a cH cB cJ cI sz g vt)) (va_Qi (fun (r : Int32) (_ : Unit) => r = iI (m_winner (m_up g 0 0 17 (m_bo (g 0 0 17) (m_bt (g 0 0 14)))) 0 0)) (fun _ t => ∃ vt1 : Nat → Int32, va_P D vwCl (pw a cH cB cJ cI (m_strip g) vt1) t.heap) (pA a sz)) 0 0 (pA a sz) := by
  refine Met.ofW (cc := cX4_strip) (maxL := 1) (ret := (some .int)) (by decide +kernel) rfl ?_
  intro p e s m args below meth c s₁ B9 hml hv
  obtain ⟨rfl, hsz, hP, hK, hE⟩ := hv
  have hx := B9.exec
  have hb := B9.bytes
  have hr := B9.returns
  have hts := atoms_spec (ws := (wc yX4_strip cX4_strip 1 (some .int))) B9.pre
  have hw : ∀ w ∈ wsL_law0, w.before [.ref (a 0)].toArray s = true := fun w h => hts w (List.mem_cons_of_mem _ h)
  have hown : s.vm.findClass RX4 = some m.cls := findClass_of_methodNamed B9.named
  subst hsz
  have hS : va_S (pA a s.heap.size) s.heap s.heap [] := va_S.rf
  have hA : ∀ q : Nat, s.heap.size ≤ q → pA a s.heap.size q := fun _ h => pA_new h
  have hB : ∀ k, k < 58 → pA a s.heap.size (a k) := fun _ h => pA_in h
  have hl := lv_entry ([.ref (a 0)]) (n := 1) (Nat.le_of_ble_eq_true rfl)
  rw [lg_entry_eq]
  generalize (lg_sl ([.ref (a 0)]) ++ List.replicate (1 - (lg_sl ([.ref (a 0)])).length) Slot.unset).toArray = ls at hl ⊢
  have hl : lv_has ls 1 [(0, .ref (a 0))] := hl
  suffices h9 : ∀ (H : Heap) (locs : List Loc), va_P D vwCl (pw a cH cB cJ cI g vt) H → va_S (pA a s.heap.size) s.heap H locs → W p l e (headSpec (wc yX4_strip cX4_strip 1 (some .int)) ({ frames := 5, cells := 0, slots := 0, locals := 117 })).room s m [.ref (a 0)].toArray below meth c H locs 0 0 (MQ below (va_Qi (fun (r : Int32) (_ : Unit) => r = iI (m_winner (m_up g 0 0 17 (m_bo (g 0 0 17) (m_bt (g 0 0 14)))) 0 0)) (fun _ t => ∃ vt1 : Nat → Int32, va_P D vwCl (pw a cH cB cJ cI (m_strip g) vt1) t.heap) (pA a s.heap.size)) [.ref (a 0)].toArray s 0 0 (pA a s.heap.size)) (F0 m 0 ls []) from h9 s.heap [] hP hS
  clear hP hS
  intro H locs hP hS
  have m14 := Wf.m14 hWf
  have m17 := Wf.m17 hWf
  refine lv_aload_n hx hb dX4_strip_0 rfl (lv_at hl 0 rfl) ?_
  have s1 := Wf.m9 hWf
  refine va_get (D := D) (ci := 4) (v := .int (iI (g 0 0 9))) (C := RX4) (T := TX4) (N := 19) hx hb hw hin_wsX40 hown hK hP 0 pw_0 rfl 9 (by decide) (hw _ kw_25) (fun _ h9 => h9) rfl dX4_strip_1 ?_
  refine lv_iconst (v := iI 4) hx hb dX4_strip_4 (by decide) ?_
  refine n_icmp_ne hx hb (by unfold RI; omega) (by unfold RI; omega) (tgt := 16) dX4_strip_5 (by decide) (fun h2 => absurd h2 (by intro h2; omega)) (fun h2 => ?_)
  refine lv_aload_n hx hb dX4_strip_8 rfl (lv_at hl 0 rfl) ?_
  have s3 := Wf.m14 hWf
  refine va_get (D := D) (ci := 4) (v := .int (iI (g 0 0 14))) (C := RX4) (T := TX4) (N := 19) hx hb hw hin_wsX40 hown hK hP 0 pw_0 rfl 14 (by decide) (hw _ kw_26) (fun _ h9 => h9) rfl dX4_strip_9 ?_
  refine lv_iconst (v := iI (-1)) hx hb dX4_strip_12 (by decide) ?_
  refine n_icmp_ne hx hb (by unfold RI; omega) (by unfold RI; omega) (tgt := 27) dX4_strip_13 (by decide) (fun h4 => ?_) (fun h4 => absurd h4 (by intro h4; omega))
  refine lv_aload_n hx hb dX4_strip_27 rfl (lv_at hl 0 rfl) ?_
  refine lv_dup hx hb dX4_strip_28 rfl ?_
  have s5 := Wf.m17 hWf
  refine va_get (D := D) (ci := 4) (v := .int (iI (g 0 0 17))) (C := RX4) (T := TX4) (N := 19) hx hb hw hin_wsX40 hown hK hP 0 pw_0 rfl 17 (by decide) (hw _ kw_101) (fun _ h9 => h9) rfl dX4_strip_29 ?_
  refine lv_aload_n hx hb dX4_strip_32 rfl (lv_at hl 0 rfl) ?_
  refine va_get (D := D) (ci := 4) (v := .int (iI (g 0 0 14))) (C := RX4) (T := TX4) (N := 19) hx hb hw hin_wsX40 hown hK hP 0 pw_0 rfl 14 (by decide) (hw _ kw_26) (fun _ h9 => h9) rfl dX4_strip_33 ?_
  refine va_calli (va_runS (As := [.int (iI (g 0 0 14))]) (rest := [.int (iI (g 0 0 17)), .ref (a 0)]) ⟨hx, hb, hml, hown, hw⟩ (c_bit l D a cH cB cJ cI ha g vt H.size (g 0 0 14) (by omega)) (va_cwS 1 hw (gA_S kw_171 kw_172 kw_2 kw_173) rfl rfl rfl (by decide +kernel) ⟨Nat.le_of_ble_eq_true rfl, Nat.le_of_ble_eq_true rfl⟩) (pS_s hP hK hE) rfl rfl hl.1 rfl (lv_room (Nat.le_of_ble_eq_true rfl)) dX4_strip_36 ⟨Nat.le_of_ble_eq_true rfl, Nat.le_of_ble_eq_true rfl⟩) hS (fun q h1 h2 => ro_A h1 h2) (fun q h => ro_F hS hA q h) (fun r u t H1 locs ht hvm hw9 hB9 hz1 hk1 hS => ?_)
  have hw9 : r = (iI (m_bt (g 0 0 14))) := hw9
  subst hw9
  have hP := ro_P hP hk1
  generalize H1 = H at hP hS ⊢
  have s6 := bt_nn (g 0 0 14)
  have s7 := bt_lt (n := (g 0 0 14)) (by omega) (by omega)
  refine n_or hx hb (by omega) (by omega) dX4_strip_39 ?_
  have s8 := bo_nn (g 0 0 17) (m_bt (g 0 0 14))
  refine va_put (D := D) (ci := 4) (v := .int (iI (m_bo (g 0 0 17) (m_bt (g 0 0 14))))) (C := RX4) (T := TX4) (N := 19) (ty := .int) hx hb hw hin_wsX40 tyX4 tyX4_ok nmX4 hown hK hP (pw_D ha (fun k hk => pA_in hk)) hS 0 pw_0 rfl 17 (by decide) (hw _ kw_101) (fun _ h9 => h9) rfl (tyX4_ok 17 (by decide)) rfl rfl (show 17 < 19 from by decide) dX4_strip_40 (fun H locs hP _ hS => ?_)
  rw [pw_setM (by decide) (by decide) (by decide) (by decide)] at hP
  have hP : va_P D vwCl (pw a cH cB cJ cI (m_up g 0 0 17 (m_bo (g 0 0 17) (m_bt (g 0 0 14)))) vt) H := hP
  obtain ⟨g9, hg9⟩ : ∃ z, z = m_up g 0 0 17 (m_bo (g 0 0 17) (m_bt (g 0 0 14))) := ⟨_, rfl⟩
  rw [← hg9] at hP
  have hW17 : Wf g9 := by rw [hg9]; exact Wf.s17 hWf (bo_16 m17 (by omega) (by omega))
  refine lv_aload_n hx hb dX4_strip_43 rfl (lv_at hl 0 rfl) ?_
  refine lv_aload_n hx hb dX4_strip_44 rfl (lv_at hl 0 rfl) ?_
  refine lv_iconst (v := iI 0) hx hb dX4_strip_45 (by decide) ?_
  refine lv_iconst (v := iI 0) hx hb dX4_strip_46 (by decide) ?_
  refine va_calli (va_runV (As := [.int (iI 0), .int (iI 0)]) (rest := [.ref (a 0)]) ⟨hx, hb, hml, hown, hw⟩ (c_winnerWithout l D a cH cB cJ cI ha g9 vt H.size 0 0 hW17 (by omega) (by omega) (fun b hb9 => by rw [hg9] at hb9 ⊢; exact hsb b hb9)) (cwV 2 hw (gA_V kw_385 kw_386 kw_387 kw_2 kw_388) rfl rfl rfl (by decide +kernel) ⟨Nat.le_of_ble_eq_true rfl, Nat.le_of_ble_eq_true rfl⟩) (pS_v (ci := 4) (q0 := 0) rfl pw_0 hP hK hE) rfl rfl hl.1 rfl (lv_room (Nat.le_of_ble_eq_true rfl)) dX4_strip_47 ⟨Nat.le_of_ble_eq_true rfl, Nat.le_of_ble_eq_true rfl⟩) hS (fun q _ h => rw_A hS hA hB q h) (fun q h => rw_A hS hA hB q h) (fun r u t H1 locs ht hvm hw9 hB9 hz1 hk1 hS => ?_)
  have hw9 : r = (iI (m_winner g9 0 0)) := hw9
  subst hw9
  obtain ⟨v10, hP1⟩ := hB9
  rw [ht] at hP1
  have hP : va_P D vwCl (pw a cH cB cJ cI g9 v10) H1 := hP1
  generalize H1 = H at hP hS ⊢
  have s11 := win_b hW17 0 0
  refine va_callv (va_runV (As := [.int (iI (m_winner g9 0 0))]) (rest := []) ⟨hx, hb, hml, hown, hw⟩ (c_crown l D a cH cB cJ cI ha g9 v10 H.size (m_winner g9 0 0) hW17 (by omega)) (cwV 1 hw (gA_V kw_409 kw_410 kw_411 kw_2 kw_412) rfl rfl rfl (by decide +kernel) ⟨Nat.le_of_ble_eq_true rfl, Nat.le_of_ble_eq_true rfl⟩) (pS_v (ci := 4) (q0 := 0) rfl pw_0 hP hK hE) rfl rfl hl.1 rfl (lv_room (Nat.le_of_ble_eq_true rfl)) dX4_strip_50 ⟨Nat.le_of_ble_eq_true rfl, Nat.le_of_ble_eq_true rfl⟩) hS (fun q _ h => rw_A hS hA hB q h) (fun q h => rw_A hS hA hB q h) (fun u t H1 locs ht hvm hw9 hB9 hz1 hk1 hS => ?_)
  obtain ⟨v12, hP1⟩ := hB9
  rw [ht] at hP1
  obtain ⟨g13, hg13⟩ : ∃ z, z = (m_crown g9 (m_winner g9 0 0)) := ⟨_, rfl⟩
  rw [← hg13] at hP1
  have hP : va_P D vwCl (pw a cH cB cJ cI g13 v12) H1 := hP1
  generalize H1 = H at hP hS ⊢
  refine lv_aload_n hx hb dX4_strip_53 rfl (lv_at hl 0 rfl) ?_
  have e14 : g13 0 0 14 = (m_winner g9 0 0) := (by rw [hg13]; exact crown_14 _ _)
  refine va_get (D := D) (ci := 4) (v := .int (iI (m_winner g9 0 0))) (C := RX4) (T := TX4) (N := 19) hx hb hw hin_wsX40 hown hK hP 0 pw_0 rfl 14 (by decide) (hw _ kw_26) (fun _ h9 => h9) (by rw [← e14]; rfl) dX4_strip_54 ?_
  have hf15 : g13 = (m_strip g) := by rw [hg13, hg9] <;> rfl
  rw [hf15] at hP
  exact W.iret (v := (iI (m_winner g9 0 0))) hx hb hr (fun t ht hW9 => ⟨⟨(iI (m_winner g9 0 0)), (), rfl, (congrArg iI (by rw [hg9])), ⟨v12, by rw [ht]; exact hP⟩⟩, hS.F ht⟩) hS.2.2 dX4_strip_57
set_option maxHeartbeats 4000000 in
set_option maxRecDepth 100000 in
theorem c_next (l : Launch) (D : va_G) (a : Nat → Nat) (cH cB cJ cI : ClassId) (ha : pj a) (g : m_St) (vt : Nat → Int32) (sz : Nat) (hWf : Wf g) (h9 : g 0 0 9 = 4) (h8 : g 0 0 8 < 20) : Met l yX4_next (wc yX4_next cX4_next 2 (some .int)) ({ frames := 1, cells := 0, slots := 0, locals := 24 }) (va_Pc [.ref (a 0)] (pS D a cH cB cJ cI sz g vt)) (va_Qi (fun (r : Int32) (_ : Unit) => r = iI (g 0 0 8 + 1)) (fun _ t => ∃ vt1 : Nat → Int32, va_P D vwCl (pw a cH cB cJ cI (m_next g) vt1) t.heap) (pA a sz)) 0 0 (pA a sz) := by
  refine Met.ofW (cc := cX4_next) (maxL := 2) (ret := (some .int)) (by decide +kernel) rfl ?_
  intro p e s m args below meth c s₁ B9 hml hv
  obtain ⟨rfl, hsz, hP, hK, hE⟩ := hv
  have hx := B9.exec
  have hb := B9.bytes
  have hr := B9.returns
  have hts := atoms_spec (ws := (wc yX4_next cX4_next 2 (some .int))) B9.pre
  have hw : ∀ w ∈ wsL_law0, w.before [.ref (a 0)].toArray s = true := fun w h => hts w (List.mem_cons_of_mem _ h)
  have hown : s.vm.findClass RX4 = some m.cls := findClass_of_methodNamed B9.named
  subst hsz
  have hS : va_S (pA a s.heap.size) s.heap s.heap [] := va_S.rf
  have hA : ∀ q : Nat, s.heap.size ≤ q → pA a s.heap.size q := fun _ h => pA_new h
  have hB : ∀ k, k < 58 → pA a s.heap.size (a k) := fun _ h => pA_in h
  have hl := lv_entry ([.ref (a 0)]) (n := 2) (Nat.le_of_ble_eq_true rfl)
  rw [lg_entry_eq]
  generalize (lg_sl ([.ref (a 0)]) ++ List.replicate (2 - (lg_sl ([.ref (a 0)])).length) Slot.unset).toArray = ls at hl ⊢
  have hl : lv_has ls 2 [(0, .ref (a 0))] := hl
  suffices h9 : ∀ (H : Heap) (locs : List Loc), va_P D vwCl (pw a cH cB cJ cI g vt) H → va_S (pA a s.heap.size) s.heap H locs → W p l e (headSpec (wc yX4_next cX4_next 2 (some .int)) ({ frames := 1, cells := 0, slots := 0, locals := 24 })).room s m [.ref (a 0)].toArray below meth c H locs 0 0 (MQ below (va_Qi (fun (r : Int32) (_ : Unit) => r = iI (g 0 0 8 + 1)) (fun _ t => ∃ vt1 : Nat → Int32, va_P D vwCl (pw a cH cB cJ cI (m_next g) vt1) t.heap) (pA a s.heap.size)) [.ref (a 0)].toArray s 0 0 (pA a s.heap.size)) (F0 m 0 ls []) from h9 s.heap [] hP hS
  clear hP hS
  intro H locs hP hS
  refine lv_aload_n hx hb dX4_next_0 rfl (lv_at hl 0 rfl) ?_
  have s1 := Wf.m9 hWf
  refine va_get (D := D) (ci := 4) (v := .int (iI (g 0 0 9))) (C := RX4) (T := TX4) (N := 19) hx hb hw hin_wsX40 hown hK hP 0 pw_0 rfl 9 (by decide) (hw _ kw_25) (fun _ h9 => h9) rfl dX4_next_1 ?_
  refine lv_iconst (v := iI 4) hx hb dX4_next_4 (by decide) ?_
  refine n_icmp_ne hx hb (by unfold RI; omega) (by unfold RI; omega) (tgt := 17) dX4_next_5 (by decide) (fun h2 => absurd h2 (by intro h2; omega)) (fun h2 => ?_)
  refine lv_aload_n hx hb dX4_next_8 rfl (lv_at hl 0 rfl) ?_
  have s3 := Wf.m8 hWf
  refine va_get (D := D) (ci := 4) (v := .int (iI (g 0 0 8))) (C := RX4) (T := TX4) (N := 19) hx hb hw hin_wsX40 hown hK hP 0 pw_0 rfl 8 (by decide) (hw _ kw_96) (fun _ h9 => h9) rfl dX4_next_9 ?_
  refine lv_bipush (v := iI 20) hx hb dX4_next_12 (by decide) ?_
  refine n_icmp_lt hx hb (by unfold RI; omega) (by unfold RI; omega) (tgt := 28) dX4_next_14 (by decide) (fun h4 => ?_) (fun h4 => absurd h4 (by intro h4; omega))
  refine lv_aload_n hx hb dX4_next_28 rfl (lv_at hl 0 rfl) ?_
  refine lv_dup hx hb dX4_next_29 rfl ?_
  refine va_get (D := D) (ci := 4) (v := .int (iI (g 0 0 8))) (C := RX4) (T := TX4) (N := 19) hx hb hw hin_wsX40 hown hK hP 0 pw_0 rfl 8 (by decide) (hw _ kw_96) (fun _ h9 => h9) rfl dX4_next_30 ?_
  refine lv_iconst (v := iI 1) hx hb dX4_next_33 (by decide) ?_
  refine n_add hx hb dX4_next_34 ?_
  refine va_put (D := D) (ci := 4) (v := .int (iI (g 0 0 8 + 1))) (C := RX4) (T := TX4) (N := 19) (ty := .int) hx hb hw hin_wsX40 tyX4 tyX4_ok nmX4 hown hK hP (pw_D ha (fun k hk => pA_in hk)) hS 0 pw_0 rfl 8 (by decide) (hw _ kw_96) (fun _ h9 => h9) rfl (tyX4_ok 8 (by decide)) rfl rfl (show 8 < 19 from by decide) dX4_next_35 (fun H locs hP _ hS => ?_)
  rw [pw_setM (by decide) (by decide) (by decide) (by decide)] at hP
  have hP : va_P D vwCl (pw a cH cB cJ cI (m_up g 0 0 8 (g 0 0 8 + 1)) vt) H := hP
  obtain ⟨g5, hg5⟩ : ∃ z, z = m_up g 0 0 8 (g 0 0 8 + 1) := ⟨_, rfl⟩
  rw [← hg5] at hP
  refine lv_aload_n hx hb dX4_next_38 rfl (lv_at hl 0 rfl) ?_
  refine lv_iconst (v := iI 0) hx hb dX4_next_39 (by decide) ?_
  refine va_put (D := D) (ci := 4) (v := .int (iI 0)) (C := RX4) (T := TX4) (N := 19) (ty := .int) hx hb hw hin_wsX40 tyX4 tyX4_ok nmX4 hown hK hP (pw_D ha (fun k hk => pA_in hk)) hS 0 pw_0 rfl 9 (by decide) (hw _ kw_25) (fun _ h9 => h9) rfl (tyX4_ok 9 (by decide)) rfl rfl (show 9 < 19 from by decide) dX4_next_40 (fun H locs hP _ hS => ?_)
  rw [pw_setM (by decide) (by decide) (by decide) (by decide)] at hP
  have hP : va_P D vwCl (pw a cH cB cJ cI (m_up g5 0 0 9 0) vt) H := hP
  obtain ⟨g6, hg6⟩ : ∃ z, z = m_up g5 0 0 9 0 := ⟨_, rfl⟩
  rw [← hg6] at hP
  refine lv_aload_n hx hb dX4_next_43 rfl (lv_at hl 0 rfl) ?_
  refine va_get (D := D) (ci := 4) (v := .ref (a 4)) (C := RX4) (T := TX4) (N := 19) hx hb hw hin_wsX40 hown hK hP 0 pw_0 rfl 6 (by decide) (hw _ kw_23) (fun _ h9 => h9) rfl dX4_next_44 ?_
  refine lv_aload_n hx hb dX4_next_47 rfl (lv_at hl 0 rfl) ?_
  refine va_get (D := D) (ci := 4) (v := .ref (a 5)) (C := RX4) (T := TX4) (N := 19) hx hb hw hin_wsX40 hown hK hP 0 pw_0 rfl 7 (by decide) (hw _ kw_24) (fun _ h9 => h9) rfl dX4_next_48 ?_
  have e7 : g6 9 1 0 = g 9 1 0 := by simp [hg6, hg5, m_up]
  have s8 := Wf.u0 hWf (k := 1) (by omega) (by omega)
  refine va_get (D := D) (ci := 3) (v := .int (iI (g 9 1 0))) (C := RX3) (T := TX3) (N := 4) hx hb hw hin_wsX30 hown hK hP 5 pw_5 rfl 0 (by decide) (hw _ kw_417) (fun _ h9 => h9) (by rw [← e7]; rfl) dX4_next_51 ?_
  refine lv_aload_n hx hb dX4_next_54 rfl (lv_at hl 0 rfl) ?_
  refine va_get (D := D) (ci := 4) (v := .ref (a 5)) (C := RX4) (T := TX4) (N := 19) hx hb hw hin_wsX40 hown hK hP 0 pw_0 rfl 7 (by decide) (hw _ kw_24) (fun _ h9 => h9) rfl dX4_next_55 ?_
  have e9 : g6 9 1 1 = g 9 1 1 := by simp [hg6, hg5, m_up]
  have s10 := Wf.u1 hWf (k := 1) (by omega) (by omega)
  refine va_get (D := D) (ci := 3) (v := .int (iI (g 9 1 1))) (C := RX3) (T := TX3) (N := 4) hx hb hw hin_wsX30 hown hK hP 5 pw_5 rfl 1 (by decide) (hw _ kw_418) (fun _ h9 => h9) (by rw [← e9]; rfl) dX4_next_58 ?_
  refine lv_aload_n hx hb dX4_next_61 rfl (lv_at hl 0 rfl) ?_
  refine va_get (D := D) (ci := 4) (v := .ref (a 5)) (C := RX4) (T := TX4) (N := 19) hx hb hw hin_wsX40 hown hK hP 0 pw_0 rfl 7 (by decide) (hw _ kw_24) (fun _ h9 => h9) rfl dX4_next_62 ?_
  have e11 : g6 9 1 2 = g 9 1 2 := by simp [hg6, hg5, m_up]
  have s12 := Wf.u2 hWf (k := 1) (by omega) (by omega)
  refine va_get (D := D) (ci := 3) (v := .int (iI (g 9 1 2))) (C := RX3) (T := TX3) (N := 4) hx hb hw hin_wsX30 hown hK hP 5 pw_5 rfl 2 (by decide) (hw _ kw_419) (fun _ h9 => h9) (by rw [← e11]; rfl) dX4_next_65 ?_
  refine lv_aload_n hx hb dX4_next_68 rfl (lv_at hl 0 rfl) ?_
  refine va_get (D := D) (ci := 4) (v := .ref (a 5)) (C := RX4) (T := TX4) (N := 19) hx hb hw hin_wsX40 hown hK hP 0 pw_0 rfl 7 (by decide) (hw _ kw_24) (fun _ h9 => h9) rfl dX4_next_69 ?_
  have e13 : g6 9 1 3 = g 9 1 3 := by simp [hg6, hg5, m_up]
  have s14 := Wf.u3 hWf (k := 1) (by omega) (by omega)
  refine va_get (D := D) (ci := 3) (v := .int (iI (g 9 1 3))) (C := RX3) (T := TX3) (N := 4) hx hb hw hin_wsX30 hown hK hP 5 pw_5 rfl 3 (by decide) (hw _ kw_102) (fun _ h9 => h9) (by rw [← e13]; rfl) dX4_next_72 ?_
  refine va_callv (va_runV (As := [.int (iI (g 9 1 0)), .int (iI (g 9 1 1)), .int (iI (g 9 1 2)), .int (iI (g 9 1 3))]) (rest := []) ⟨hx, hb, hml, hown, hw⟩ (c_set0 l D a cH cB cJ cI ha g6 vt H.size (g 9 1 0) (g 9 1 1) (g 9 1 2) (g 9 1 3) ) (cwV 4 hw (gA_V kw_202 kw_203 kw_204 kw_22 kw_205) rfl rfl rfl (by decide +kernel) ⟨Nat.le_of_ble_eq_true rfl, Nat.le_of_ble_eq_true rfl⟩) (pS_v (ci := 3) (q0 := 4) rfl pw_4 hP hK hE) rfl rfl hl.1 rfl (lv_room (Nat.le_of_ble_eq_true rfl)) dX4_next_75 ⟨Nat.le_of_ble_eq_true rfl, Nat.le_of_ble_eq_true rfl⟩) hS (fun q _ h => rw_A hS hA hB q h) (fun q h => rw_A hS hA hB q h) (fun u t H1 locs ht hvm hw9 hB9 hz1 hk1 hS => ?_)
  obtain ⟨v15, hP1⟩ := hB9
  rw [ht] at hP1
  obtain ⟨g16, hg16⟩ : ∃ z, z = (m_setRules g6 0 (g 9 1 0) (g 9 1 1) (g 9 1 2) (g 9 1 3)) := ⟨_, rfl⟩
  rw [← hg16] at hP1
  have hP : va_P D vwCl (pw a cH cB cJ cI g16 v15) H1 := hP1
  generalize H1 = H at hP hS ⊢
  refine lv_aload_n hx hb dX4_next_78 rfl (lv_at hl 0 rfl) ?_
  refine lv_aload_n hx hb dX4_next_79 rfl (lv_at hl 0 rfl) ?_
  have e17 : g16 0 0 14 = g 0 0 14 := by simp [hg16, hg6, hg5, m_setRules, m_up]
  have s18 := Wf.m14 hWf
  refine va_get (D := D) (ci := 4) (v := .int (iI (g 0 0 14))) (C := RX4) (T := TX4) (N := 19) hx hb hw hin_wsX40 hown hK hP 0 pw_0 rfl 14 (by decide) (hw _ kw_26) (fun _ h9 => h9) (by rw [← e17]; rfl) dX4_next_80 ?_
  refine va_put (D := D) (ci := 4) (v := .int (iI (g 0 0 14))) (C := RX4) (T := TX4) (N := 19) (ty := .int) hx hb hw hin_wsX40 tyX4 tyX4_ok nmX4 hown hK hP (pw_D ha (fun k hk => pA_in hk)) hS 0 pw_0 rfl 15 (by decide) (hw _ kw_27) (fun _ h9 => h9) rfl (tyX4_ok 15 (by decide)) rfl rfl (show 15 < 19 from by decide) dX4_next_83 (fun H locs hP _ hS => ?_)
  rw [pw_setM (by decide) (by decide) (by decide) (by decide)] at hP
  have hP : va_P D vwCl (pw a cH cB cJ cI (m_up g16 0 0 15 (g 0 0 14)) v15) H := hP
  obtain ⟨g19, hg19⟩ : ∃ z, z = m_up g16 0 0 15 (g 0 0 14) := ⟨_, rfl⟩
  rw [← hg19] at hP
  refine lv_aload_n hx hb dX4_next_86 rfl (lv_at hl 0 rfl) ?_
  refine lv_iconst (v := iI (-1)) hx hb dX4_next_87 (by decide) ?_
  refine va_put (D := D) (ci := 4) (v := .int (iI (-1))) (C := RX4) (T := TX4) (N := 19) (ty := .int) hx hb hw hin_wsX40 tyX4 tyX4_ok nmX4 hown hK hP (pw_D ha (fun k hk => pA_in hk)) hS 0 pw_0 rfl 14 (by decide) (hw _ kw_26) (fun _ h9 => h9) rfl (tyX4_ok 14 (by decide)) rfl rfl (show 14 < 19 from by decide) dX4_next_88 (fun H locs hP _ hS => ?_)
  rw [pw_setM (by decide) (by decide) (by decide) (by decide)] at hP
  have hP : va_P D vwCl (pw a cH cB cJ cI (m_up g19 0 0 14 (-1)) v15) H := hP
  obtain ⟨g20, hg20⟩ : ∃ z, z = m_up g19 0 0 14 (-1) := ⟨_, rfl⟩
  rw [← hg20] at hP
  refine lv_aload_n hx hb dX4_next_91 rfl (lv_at hl 0 rfl) ?_
  refine lv_aload_n hx hb dX4_next_92 rfl (lv_at hl 0 rfl) ?_
  have e21 : g20 0 0 11 = g 0 0 11 := by simp [hg20, hg19, hg16, hg6, hg5, m_setRules, m_up]
  have s22 := Wf.m11 hWf
  refine va_get (D := D) (ci := 4) (v := .int (iI (g 0 0 11))) (C := RX4) (T := TX4) (N := 19) hx hb hw hin_wsX40 hown hK hP 0 pw_0 rfl 11 (by decide) (hw _ kw_99) (fun _ h9 => h9) (by rw [← e21]; rfl) dX4_next_93 ?_
  refine va_put (D := D) (ci := 4) (v := .int (iI (g 0 0 11))) (C := RX4) (T := TX4) (N := 19) (ty := .int) hx hb hw hin_wsX40 tyX4 tyX4_ok nmX4 hown hK hP (pw_D ha (fun k hk => pA_in hk)) hS 0 pw_0 rfl 12 (by decide) (hw _ kw_273) (fun _ h9 => h9) rfl (tyX4_ok 12 (by decide)) rfl rfl (show 12 < 19 from by decide) dX4_next_96 (fun H locs hP _ hS => ?_)
  rw [pw_setM (by decide) (by decide) (by decide) (by decide)] at hP
  have hP : va_P D vwCl (pw a cH cB cJ cI (m_up g20 0 0 12 (g 0 0 11)) v15) H := hP
  obtain ⟨g23, hg23⟩ : ∃ z, z = m_up g20 0 0 12 (g 0 0 11) := ⟨_, rfl⟩
  rw [← hg23] at hP
  refine lv_aload_n hx hb dX4_next_99 rfl (lv_at hl 0 rfl) ?_
  refine lv_iconst (v := iI 0) hx hb dX4_next_100 (by decide) ?_
  refine va_put (D := D) (ci := 4) (v := .int (iI 0)) (C := RX4) (T := TX4) (N := 19) (ty := .int) hx hb hw hin_wsX40 tyX4 tyX4_ok nmX4 hown hK hP (pw_D ha (fun k hk => pA_in hk)) hS 0 pw_0 rfl 11 (by decide) (hw _ kw_99) (fun _ h9 => h9) rfl (tyX4_ok 11 (by decide)) rfl rfl (show 11 < 19 from by decide) dX4_next_101 (fun H locs hP _ hS => ?_)
  rw [pw_setM (by decide) (by decide) (by decide) (by decide)] at hP
  have hP : va_P D vwCl (pw a cH cB cJ cI (m_up g23 0 0 11 0) v15) H := hP
  obtain ⟨g24, hg24⟩ : ∃ z, z = m_up g23 0 0 11 0 := ⟨_, rfl⟩
  rw [← hg24] at hP
  refine lv_aload_n hx hb dX4_next_104 rfl (lv_at hl 0 rfl) ?_
  refine lv_iconst (v := iI 0) hx hb dX4_next_105 (by decide) ?_
  refine va_put (D := D) (ci := 4) (v := .int (iI 0)) (C := RX4) (T := TX4) (N := 19) (ty := .int) hx hb hw hin_wsX40 tyX4 tyX4_ok nmX4 hown hK hP (pw_D ha (fun k hk => pA_in hk)) hS 0 pw_0 rfl 13 (by decide) (hw _ kw_100) (fun _ h9 => h9) rfl (tyX4_ok 13 (by decide)) rfl rfl (show 13 < 19 from by decide) dX4_next_106 (fun H locs hP _ hS => ?_)
  rw [pw_setM (by decide) (by decide) (by decide) (by decide)] at hP
  have hP : va_P D vwCl (pw a cH cB cJ cI (m_up g24 0 0 13 0) v15) H := hP
  obtain ⟨g25, hg25⟩ : ∃ z, z = m_up g24 0 0 13 0 := ⟨_, rfl⟩
  rw [← hg25] at hP
  refine lv_iconst (v := iI 0) hx hb dX4_next_109 (by decide) ?_
  refine lv_istore_n (lv' := [(1, .int (iI 0)), (0, .ref (a 0))]) hx hb dX4_next_110 rfl hl (by decide) rfl (fun ls hl => ?_)
  have loop111 : ∀ (d n : Nat) (gq : m_St) (vq : Nat → Int32) (H : Heap) (locs : List Loc) (ls : Array Slot), n + d = 5 → gq = m_fo (fun h u => m_up u 1 h 1 0) g25 n → va_P D vwCl (pw a cH cB cJ cI gq vq) H → va_S (pA a s.heap.size) s.heap H locs → lv_has ls 2 [(1, .int (iI ((n : Nat) : Int))), (0, .ref (a 0))] → W p l e (headSpec (wc yX4_next cX4_next 2 (some .int)) ({ frames := 1, cells := 0, slots := 0, locals := 24 })).room s m [.ref (a 0)].toArray below meth c H locs 0 0 (MQ below (va_Qi (fun (r : Int32) (_ : Unit) => r = iI (g 0 0 8 + 1)) (fun _ t => ∃ vt1 : Nat → Int32, va_P D vwCl (pw a cH cB cJ cI (m_next g) vt1) t.heap) (pA a s.heap.size)) [.ref (a 0)].toArray s 0 0 (pA a s.heap.size)) (F0 m 111 ls []) := by
    intro d
    induction d with
    | zero =>
      intro n gq vq H locs ls hn hgq hP hS hl
      obtain rfl : n = 5 := by omega
      refine lv_iload_n hx hb dX4_next_111 rfl (lv_at hl 0 rfl) ?_
      refine lv_iconst (v := iI 5) hx hb dX4_next_112 (by decide) ?_
      refine n_icmp_ge hx hb (by unfold RI; omega) (by unfold RI; omega) (tgt := 132) dX4_next_113 (by decide) (fun h26 => ?_) (fun h26 => absurd h26 (by intro h26; omega))
      refine lv_iconst (v := iI 0) hx hb dX4_next_132 (by decide) ?_
      refine lv_istore_n (lv' := [(1, .int (iI 0)), (0, .ref (a 0))]) hx hb dX4_next_133 rfl hl (by decide) rfl (fun ls hl => ?_)
      have loop134 : ∀ (d1 n1 : Nat) (gq1 : m_St) (vq1 : Nat → Int32) (H : Heap) (locs : List Loc) (ls : Array Slot), n1 + d1 = 5 → gq1 = m_fo (fun j u => m_clearYear j u) gq n1 → va_P D vwCl (pw a cH cB cJ cI gq1 vq1) H → va_S (pA a s.heap.size) s.heap H locs → lv_has ls 2 [(1, .int (iI ((n1 : Nat) : Int))), (0, .ref (a 0))] → W p l e (headSpec (wc yX4_next cX4_next 2 (some .int)) ({ frames := 1, cells := 0, slots := 0, locals := 24 })).room s m [.ref (a 0)].toArray below meth c H locs 0 0 (MQ below (va_Qi (fun (r : Int32) (_ : Unit) => r = iI (g 0 0 8 + 1)) (fun _ t => ∃ vt1 : Nat → Int32, va_P D vwCl (pw a cH cB cJ cI (m_next g) vt1) t.heap) (pA a s.heap.size)) [.ref (a 0)].toArray s 0 0 (pA a s.heap.size)) (F0 m 134 ls []) := by
        intro d1
        induction d1 with
        | zero =>
          intro n1 gq1 vq1 H locs ls hn1 hgq1 hP hS hl
          obtain rfl : n1 = 5 := by omega
          refine lv_iload_n hx hb dX4_next_134 rfl (lv_at hl 0 rfl) ?_
          refine lv_iconst (v := iI 5) hx hb dX4_next_135 (by decide) ?_
          refine n_icmp_ge hx hb (by unfold RI; omega) (by unfold RI; omega) (tgt := 154) dX4_next_136 (by decide) (fun h27 => ?_) (fun h27 => absurd h27 (by intro h27; omega))
          refine lv_aload_n hx hb dX4_next_154 rfl (lv_at hl 1 rfl) ?_
          have e28 : gq1 0 0 8 = (g 0 0 8 + 1) := by simp [hgq1, hgq, hg25, hg24, hg23, hg20, hg19, hg16, hg6, hg5, next_c2, next_c1, m_setRules, m_up]
          refine va_get (D := D) (ci := 4) (v := .int (iI (g 0 0 8 + 1))) (C := RX4) (T := TX4) (N := 19) hx hb hw hin_wsX40 hown hK hP 0 pw_0 rfl 8 (by decide) (hw _ kw_96) (fun _ h9 => h9) (by rw [← e28]; rfl) dX4_next_155 ?_
          have hf29 : gq1 = (m_next g) := by rw [hgq1, hgq, hg25, hg24, hg23, hg20, hg19, hg16, hg6, hg5] <;> rfl
          rw [hf29] at hP
          exact W.iret (v := (iI (g 0 0 8 + 1))) hx hb hr (fun t ht hW9 => ⟨⟨(iI (g 0 0 8 + 1)), (), rfl, rfl, ⟨vq1, by rw [ht]; exact hP⟩⟩, hS.F ht⟩) hS.2.2 dX4_next_158
        | succ d1 ih134 =>
          intro n1 gq1 vq1 H locs ls hn1 hgq1 hP hS hl
          refine lv_iload_n hx hb dX4_next_134 rfl (lv_at hl 0 rfl) ?_
          refine lv_iconst (v := iI 5) hx hb dX4_next_135 (by decide) ?_
          refine n_icmp_ge hx hb (by unfold RI; omega) (by unfold RI; omega) (tgt := 154) dX4_next_136 (by decide) (fun h30 => absurd h30 (by intro h30; omega)) (fun h30 => ?_)
          refine lv_aload_n hx hb dX4_next_139 rfl (lv_at hl 1 rfl) ?_
          refine va_get (D := D) (ci := 4) (v := .ref (a 3)) (C := RX4) (T := TX4) (N := 19) hx hb hw hin_wsX40 hown hK hP 0 pw_0 rfl 2 (by decide) (hw _ kw_19) (fun _ h9 => h9) rfl dX4_next_140 ?_
          refine lv_iload_n hx hb dX4_next_143 rfl (lv_at hl 0 rfl) ?_
          refine p_aldJ hx hb hK hP (k := ((n1 : Nat) : Int)) (by omega) (by omega) dX4_next_144 ?_
          refine va_callv (va_runV (As := []) (rest := []) ⟨hx, hb, hml, hown, hw⟩ (c_clearYear l D a cH cB cJ cI ha gq1 vq1 H.size ((n1 : Nat) : Int) (by omega)) (cwV 0 hw (gA_V kw_420 kw_421 kw_422 kw_34 kw_423) rfl rfl rfl (by decide +kernel) ⟨Nat.le_of_ble_eq_true rfl, Nat.le_of_ble_eq_true rfl⟩) (pS_v (ci := 2) (q0 := (28 + 6 * ((n1 : Nat) : Int).toNat)) rfl (pw_J (j := ((n1 : Nat) : Int)) (by omega) (by omega)) hP hK hE) rfl rfl hl.1 rfl (lv_room (Nat.le_of_ble_eq_true rfl)) dX4_next_145 ⟨Nat.le_of_ble_eq_true rfl, Nat.le_of_ble_eq_true rfl⟩) hS (fun q _ h => rw_A hS hA hB q h) (fun q h => rw_A hS hA hB q h) (fun u t H1 locs ht hvm hw9 hB9 hz1 hk1 hS => ?_)
          obtain ⟨v31, hP1⟩ := hB9
          rw [ht] at hP1
          obtain ⟨g32, hg32⟩ : ∃ z, z = (m_clearYear ((n1 : Nat) : Int) gq1) := ⟨_, rfl⟩
          rw [← hg32] at hP1
          have hP : va_P D vwCl (pw a cH cB cJ cI g32 v31) H1 := hP1
          generalize H1 = H at hP hS ⊢
          refine n_inc (lv' := [(1, .int (iI (((n1 : Nat) : Int) + 1))), (0, .ref (a 0))]) hx hb dX4_next_148 hl (k := 0) rfl (by decide) rfl (fun ls hl => ?_)
          refine lv_goto (tgt := 134) hx hb dX4_next_151 (by decide) ?_
          have hl : lv_has ls 2 [(1, .int (iI (((n1 : Nat) : Int) + 1))), (0, .ref (a 0))] := lv_sub hl [0, 1] rfl
          have e33 : (((n1 : Nat) : Int) + 1) = (((n1 + 1) : Nat) : Int) := by rfl
          have hl : lv_has ls 2 [(1, .int (iI (((n1 + 1) : Nat) : Int))), (0, .ref (a 0))] := lv_cast hl (by rw [e33])
          exact ih134 (n1 + 1) g32 v31 H locs ls (by omega) (by rw [hg32, hgq1] <;> rfl) hP hS hl
      have hl : lv_has ls 2 [(1, .int (iI 0)), (0, .ref (a 0))] := lv_sub hl [0, 1] rfl
      have hl : lv_has ls 2 [(1, .int (iI ((0 : Nat) : Int))), (0, .ref (a 0))] := hl
      exact loop134 5 0 gq vq H locs ls (by omega) rfl hP hS hl
    | succ d ih111 =>
      intro n gq vq H locs ls hn hgq hP hS hl
      refine lv_iload_n hx hb dX4_next_111 rfl (lv_at hl 0 rfl) ?_
      refine lv_iconst (v := iI 5) hx hb dX4_next_112 (by decide) ?_
      refine n_icmp_ge hx hb (by unfold RI; omega) (by unfold RI; omega) (tgt := 132) dX4_next_113 (by decide) (fun h34 => absurd h34 (by intro h34; omega)) (fun h34 => ?_)
      refine lv_aload_n hx hb dX4_next_116 rfl (lv_at hl 1 rfl) ?_
      refine va_get (D := D) (ci := 4) (v := .ref (a 1)) (C := RX4) (T := TX4) (N := 19) hx hb hw hin_wsX40 hown hK hP 0 pw_0 rfl 0 (by decide) (hw _ kw_15) (fun _ h9 => h9) rfl dX4_next_117 ?_
      refine lv_iload_n hx hb dX4_next_120 rfl (lv_at hl 0 rfl) ?_
      refine p_aldH hx hb hK hP (k := ((n : Nat) : Int)) (by omega) (by omega) dX4_next_121 ?_
      refine lv_iconst (v := iI 0) hx hb dX4_next_122 (by decide) ?_
      refine va_put (D := D) (ci := 1) (v := .int (iI 0)) (C := RX1) (T := TX1) (N := 2) (ty := .int) hx hb hw hin_wsX10 tyX1 tyX1_ok nmX1 hown hK hP (pw_D ha (fun k hk => pA_in hk)) hS (7 + ((n : Nat) : Int).toNat) (pw_H (h := ((n : Nat) : Int)) (by omega) (by omega)) rfl 1 (by decide) (hw _ kw_267) (fun _ h9 => h9) rfl (tyX1_ok 1 (by decide)) rfl rfl (show 1 < 2 from by decide) dX4_next_123 (fun H locs hP _ hS => ?_)
      rw [pw_setH (by omega) (by omega) (by decide)] at hP
      have hP : va_P D vwCl (pw a cH cB cJ cI (m_up gq 1 ((n : Nat) : Int) 1 0) vq) H := hP
      obtain ⟨g35, hg35⟩ : ∃ z, z = m_up gq 1 ((n : Nat) : Int) 1 0 := ⟨_, rfl⟩
      rw [← hg35] at hP
      refine n_inc (lv' := [(1, .int (iI (((n : Nat) : Int) + 1))), (0, .ref (a 0))]) hx hb dX4_next_126 hl (k := 0) rfl (by decide) rfl (fun ls hl => ?_)
      refine lv_goto (tgt := 111) hx hb dX4_next_129 (by decide) ?_
      have hl : lv_has ls 2 [(1, .int (iI (((n : Nat) : Int) + 1))), (0, .ref (a 0))] := lv_sub hl [0, 1] rfl
      have e36 : (((n : Nat) : Int) + 1) = (((n + 1) : Nat) : Int) := by rfl
      have hl : lv_has ls 2 [(1, .int (iI (((n + 1) : Nat) : Int))), (0, .ref (a 0))] := lv_cast hl (by rw [e36])
      exact ih111 (n + 1) g35 vq H locs ls (by omega) (by rw [hg35, hgq] <;> rfl) hP hS hl
  have hl : lv_has ls 2 [(1, .int (iI 0)), (0, .ref (a 0))] := lv_sub hl [0, 1] rfl
  have hl : lv_has ls 2 [(1, .int (iI ((0 : Nat) : Int))), (0, .ref (a 0))] := hl
  exact loop111 5 0 g25 v15 H locs ls (by omega) rfl hP hS hl
set_option maxHeartbeats 4000000 in
set_option maxRecDepth 100000 in
theorem c_enter (l : Launch) (D : va_G) (a : Nat → Nat) (cH cB cJ cI : ClassId) (ha : pj a) (g : m_St) (vt : Nat → Int32) (sz : Nat) (bb : Int) (hWf : Wf g) (hbb : 0 ≤ bb ∧ bb < g 0 0 4) (h9 : g 0 0 9 = 0) (he : m_ent g bb = false) : Met l yX4_enter (wc yX4_enter cX4_enter 3 (some .int)) ({ frames := 3, cells := 0, slots := 0, locals := 67 }) (va_Pc [.ref (a 0), .int (iI bb)] (pS D a cH cB cJ cI sz g vt)) (va_Qi (fun (r : Int32) (_ : Unit) => r = iI (m_enterRet g bb)) (fun _ t => ∃ vt1 : Nat → Int32, va_P D vwCl (pw a cH cB cJ cI (m_enter g bb) vt1) t.heap) (pA a sz)) 0 0 (pA a sz) := by
  refine Met.ofW (cc := cX4_enter) (maxL := 3) (ret := (some .int)) (by decide +kernel) rfl ?_
  intro p e s m args below meth c s₁ B9 hml hv
  obtain ⟨rfl, hsz, hP, hK, hE⟩ := hv
  have hx := B9.exec
  have hb := B9.bytes
  have hr := B9.returns
  have hts := atoms_spec (ws := (wc yX4_enter cX4_enter 3 (some .int))) B9.pre
  have hw : ∀ w ∈ wsL_law0, w.before [.ref (a 0), .int (iI bb)].toArray s = true := fun w h => hts w (List.mem_cons_of_mem _ h)
  have hown : s.vm.findClass RX4 = some m.cls := findClass_of_methodNamed B9.named
  subst hsz
  have hS : va_S (pA a s.heap.size) s.heap s.heap [] := va_S.rf
  have hA : ∀ q : Nat, s.heap.size ≤ q → pA a s.heap.size q := fun _ h => pA_new h
  have hB : ∀ k, k < 58 → pA a s.heap.size (a k) := fun _ h => pA_in h
  have hl := lv_entry ([.ref (a 0), .int (iI bb)]) (n := 3) (Nat.le_of_ble_eq_true rfl)
  rw [lg_entry_eq]
  generalize (lg_sl ([.ref (a 0), .int (iI bb)]) ++ List.replicate (3 - (lg_sl ([.ref (a 0), .int (iI bb)])).length) Slot.unset).toArray = ls at hl ⊢
  have hl : lv_has ls 3 [(0, .ref (a 0)), (1, .int (iI bb))] := hl
  suffices h9 : ∀ (H : Heap) (locs : List Loc), va_P D vwCl (pw a cH cB cJ cI g vt) H → va_S (pA a s.heap.size) s.heap H locs → W p l e (headSpec (wc yX4_enter cX4_enter 3 (some .int)) ({ frames := 3, cells := 0, slots := 0, locals := 67 })).room s m [.ref (a 0), .int (iI bb)].toArray below meth c H locs 0 0 (MQ below (va_Qi (fun (r : Int32) (_ : Unit) => r = iI (m_enterRet g bb)) (fun _ t => ∃ vt1 : Nat → Int32, va_P D vwCl (pw a cH cB cJ cI (m_enter g bb) vt1) t.heap) (pA a s.heap.size)) [.ref (a 0), .int (iI bb)].toArray s 0 0 (pA a s.heap.size)) (F0 m 0 ls []) from h9 s.heap [] hP hS
  clear hP hS
  intro H locs hP hS
  have m4 := Wf.m4 hWf
  refine lv_aload_n hx hb dX4_enter_0 rfl (lv_at hl 0 rfl) ?_
  refine lv_iload_n hx hb dX4_enter_1 rfl (lv_at hl 1 rfl) ?_
  refine va_calli (va_runV (As := [.int (iI bb)]) (rest := []) ⟨hx, hb, hml, hown, hw⟩ (c_isBook l D a cH cB cJ cI ha g vt H.size bb hWf (by omega)) (cwV 1 hw (gA_V kw_162 kw_163 kw_164 kw_2 kw_165) rfl rfl rfl (by decide +kernel) ⟨Nat.le_of_ble_eq_true rfl, Nat.le_of_ble_eq_true rfl⟩) (pS_v (ci := 4) (q0 := 0) rfl pw_0 hP hK hE) rfl rfl hl.1 rfl (lv_room (Nat.le_of_ble_eq_true rfl)) dX4_enter_2 ⟨Nat.le_of_ble_eq_true rfl, Nat.le_of_ble_eq_true rfl⟩) hS (fun q h1 h2 => ro_A h1 h2) (fun q h => ro_F hS hA q h) (fun r u t H1 locs ht hvm hw9 hB9 hz1 hk1 hS => ?_)
  have hw9 : r = (bi (decide (0 ≤ bb ∧ bb < g 0 0 4))) := hw9
  subst hw9
  have hP := ro_P hP hk1
  generalize H1 = H at hP hS ⊢
  refine n_b_ne hx hb (tgt := 18) dX4_enter_5 (by decide) (fun h1 => ?_) (fun h1 => absurd h1 (by intro h1; have h1 := of_decide_eq_false h1; omega))
  have h1 := of_decide_eq_true h1
  refine lv_aload_n hx hb dX4_enter_18 rfl (lv_at hl 0 rfl) ?_
  have s2 := Wf.m9 hWf
  refine va_get (D := D) (ci := 4) (v := .int (iI (g 0 0 9))) (C := RX4) (T := TX4) (N := 19) hx hb hw hin_wsX40 hown hK hP 0 pw_0 rfl 9 (by decide) (hw _ kw_25) (fun _ h9 => h9) rfl dX4_enter_19 ?_
  refine n_if_ne hx hb (by unfold RI; omega) (tgt := 33) dX4_enter_22 (by decide) (fun h3 => absurd h3 (by intro h3; omega)) (fun h3 => ?_)
  refine lv_aload_n hx hb dX4_enter_25 rfl (lv_at hl 0 rfl) ?_
  refine lv_iload_n hx hb dX4_enter_26 rfl (lv_at hl 1 rfl) ?_
  refine va_calli (va_runV (As := [.int (iI bb)]) (rest := []) ⟨hx, hb, hml, hown, hw⟩ (c_isEntered l D a cH cB cJ cI ha g vt H.size bb hWf (by omega)) (cwV 1 hw (gA_V kw_107 kw_108 kw_109 kw_2 kw_110) rfl rfl rfl (by decide +kernel) ⟨Nat.le_of_ble_eq_true rfl, Nat.le_of_ble_eq_true rfl⟩) (pS_v (ci := 4) (q0 := 0) rfl pw_0 hP hK hE) rfl rfl hl.1 rfl (lv_room (Nat.le_of_ble_eq_true rfl)) dX4_enter_27 ⟨Nat.le_of_ble_eq_true rfl, Nat.le_of_ble_eq_true rfl⟩) hS (fun q h1 h2 => ro_A h1 h2) (fun q h => ro_F hS hA q h) (fun r u t H1 locs ht hvm hw9 hB9 hz1 hk1 hS => ?_)
  have hw9 : r = (bi (m_ent g bb)) := hw9
  subst hw9
  have hP := ro_P hP hk1
  generalize H1 = H at hP hS ⊢
  refine n_b_eq hx hb (tgt := 43) dX4_enter_30 (by decide) (fun h4 => ?_) (fun h4 => absurd h4 (by intro h4; rw [he] at h4; cases h4))
  refine lv_aload_n hx hb dX4_enter_43 rfl (lv_at hl 0 rfl) ?_
  refine lv_iload_n hx hb dX4_enter_44 rfl (lv_at hl 1 rfl) ?_
  refine va_calli (va_runV (As := [.int (iI bb)]) (rest := []) ⟨hx, hb, hml, hown, hw⟩ (c_isEligible l D a cH cB cJ cI ha g vt H.size bb hWf (by omega)) (cwV 1 hw (gA_V kw_213 kw_214 kw_215 kw_2 kw_216) rfl rfl rfl (by decide +kernel) ⟨Nat.le_of_ble_eq_true rfl, Nat.le_of_ble_eq_true rfl⟩) (pS_v (ci := 4) (q0 := 0) rfl pw_0 hP hK hE) rfl rfl hl.1 rfl (lv_room (Nat.le_of_ble_eq_true rfl)) dX4_enter_45 ⟨Nat.le_of_ble_eq_true rfl, Nat.le_of_ble_eq_true rfl⟩) hS (fun q h1 h2 => ro_A h1 h2) (fun q h => ro_F hS hA q h) (fun r u t H1 locs ht hvm hw9 hB9 hz1 hk1 hS => ?_)
  have hw9 : r = (bi (m_elig g bb)) := hw9
  subst hw9
  have hP := ro_P hP hk1
  generalize H1 = H at hP hS ⊢
  refine n_b_ne hx hb (tgt := 54) dX4_enter_48 (by decide) (fun h5 => ?_) (fun h5 => ?_)
  · skip
    refine lv_aload_n hx hb dX4_enter_54 rfl (lv_at hl 0 rfl) ?_
    refine va_get (D := D) (ci := 4) (v := .ref (a 2)) (C := RX4) (T := TX4) (N := 19) hx hb hw hin_wsX40 hown hK hP 0 pw_0 rfl 1 (by decide) (hw _ kw_17) (fun _ h9 => h9) rfl dX4_enter_55 ?_
    refine lv_iload_n hx hb dX4_enter_58 rfl (lv_at hl 1 rfl) ?_
    refine p_aldB hx hb hK hP (k := bb) (by omega) (by omega) dX4_enter_59 ?_
    have s6 := Wf.b0 hWf (k := bb) (by omega) (by omega)
    refine va_get (D := D) (ci := 0) (v := .int (iI (g 2 bb 0))) (C := RX0) (T := TX0) (N := 11) hx hb hw hin_wsX00 hown hK hP (12 + bb.toNat) (pw_B (b := bb) (by omega) (by omega)) rfl 0 (by decide) (hw _ kw_210) (fun _ h9 => h9) rfl dX4_enter_60 ?_
    refine lv_istore_n (lv' := [(2, .int (iI (g 2 bb 0))), (0, .ref (a 0)), (1, .int (iI bb))]) hx hb dX4_enter_63 rfl hl (by decide) rfl (fun ls hl => ?_)
    refine lv_aload_n hx hb dX4_enter_64 rfl (lv_at hl 1 rfl) ?_
    refine va_get (D := D) (ci := 4) (v := .ref (a 1)) (C := RX4) (T := TX4) (N := 19) hx hb hw hin_wsX40 hown hK hP 0 pw_0 rfl 0 (by decide) (hw _ kw_15) (fun _ h9 => h9) rfl dX4_enter_65 ?_
    refine lv_iload_n hx hb dX4_enter_68 rfl (lv_at hl 0 rfl) ?_
    refine p_aldH hx hb hK hP (k := g 2 bb 0) (by omega) (by omega) dX4_enter_69 ?_
    have s7 := Wf.h1 hWf (k := g 2 bb 0) (by omega) (by omega)
    refine va_get (D := D) (ci := 1) (v := .int (iI (g 1 (g 2 bb 0) 1))) (C := RX1) (T := TX1) (N := 2) hx hb hw hin_wsX10 hown hK hP (7 + (g 2 bb 0).toNat) (pw_H (h := g 2 bb 0) (by omega) (by omega)) rfl 1 (by decide) (hw _ kw_267) (fun _ h9 => h9) rfl dX4_enter_70 ?_
    refine lv_aload_n hx hb dX4_enter_73 rfl (lv_at hl 1 rfl) ?_
    refine lv_iload_n hx hb dX4_enter_74 rfl (lv_at hl 0 rfl) ?_
    refine va_calli (va_runV (As := [.int (iI (g 2 bb 0))]) (rest := [.int (iI (g 1 (g 2 bb 0) 1))]) ⟨hx, hb, hml, hown, hw⟩ (c_quotaOf l D a cH cB cJ cI ha g vt H.size (g 2 bb 0) hWf (by omega)) (cwV 1 hw (gA_V kw_269 kw_270 kw_271 kw_2 kw_272) rfl rfl rfl (by decide +kernel) ⟨Nat.le_of_ble_eq_true rfl, Nat.le_of_ble_eq_true rfl⟩) (pS_v (ci := 4) (q0 := 0) rfl pw_0 hP hK hE) rfl rfl hl.1 rfl (lv_room (Nat.le_of_ble_eq_true rfl)) dX4_enter_75 ⟨Nat.le_of_ble_eq_true rfl, Nat.le_of_ble_eq_true rfl⟩) hS (fun q h1 h2 => ro_A h1 h2) (fun q h => ro_F hS hA q h) (fun r u t H1 locs ht hvm hw9 hB9 hz1 hk1 hS => ?_)
    have hw9 : r = (iI (m_quota g (g 2 bb 0))) := hw9
    subst hw9
    have hP := ro_P hP hk1
    generalize H1 = H at hP hS ⊢
    have s8 := quota_b g (g 2 bb 0) (by have := Wf.m4 hWf; omega)
    refine n_icmp_lt hx hb (by unfold RI; omega) (by unfold RI; omega) (tgt := 84) dX4_enter_78 (by decide) (fun h9 => ?_) (fun h9 => ?_)
    · skip
      refine lv_aload_n hx hb dX4_enter_84 rfl (lv_at hl 1 rfl) ?_
      refine va_get (D := D) (ci := 4) (v := .ref (a 1)) (C := RX4) (T := TX4) (N := 19) hx hb hw hin_wsX40 hown hK hP 0 pw_0 rfl 0 (by decide) (hw _ kw_15) (fun _ h9 => h9) rfl dX4_enter_85 ?_
      refine lv_iload_n hx hb dX4_enter_88 rfl (lv_at hl 0 rfl) ?_
      refine p_aldH hx hb hK hP (k := g 2 bb 0) (by omega) (by omega) dX4_enter_89 ?_
      refine lv_dup hx hb dX4_enter_90 rfl ?_
      refine va_get (D := D) (ci := 1) (v := .int (iI (g 1 (g 2 bb 0) 1))) (C := RX1) (T := TX1) (N := 2) hx hb hw hin_wsX10 hown hK hP (7 + (g 2 bb 0).toNat) (pw_H (h := g 2 bb 0) (by omega) (by omega)) rfl 1 (by decide) (hw _ kw_267) (fun _ h9 => h9) rfl dX4_enter_91 ?_
      refine lv_iconst (v := iI 1) hx hb dX4_enter_94 (by decide) ?_
      refine n_add hx hb dX4_enter_95 ?_
      refine va_put (D := D) (ci := 1) (v := .int (iI (g 1 (g 2 bb 0) 1 + 1))) (C := RX1) (T := TX1) (N := 2) (ty := .int) hx hb hw hin_wsX10 tyX1 tyX1_ok nmX1 hown hK hP (pw_D ha (fun k hk => pA_in hk)) hS (7 + (g 2 bb 0).toNat) (pw_H (h := g 2 bb 0) (by omega) (by omega)) rfl 1 (by decide) (hw _ kw_267) (fun _ h9 => h9) rfl (tyX1_ok 1 (by decide)) rfl rfl (show 1 < 2 from by decide) dX4_enter_96 (fun H locs hP _ hS => ?_)
      rw [pw_setH (by omega) (by omega) (by decide)] at hP
      have hP : va_P D vwCl (pw a cH cB cJ cI (m_up g 1 (g 2 bb 0) 1 (g 1 (g 2 bb 0) 1 + 1)) vt) H := hP
      obtain ⟨g10, hg10⟩ : ∃ z, z = m_up g 1 (g 2 bb 0) 1 (g 1 (g 2 bb 0) 1 + 1) := ⟨_, rfl⟩
      rw [← hg10] at hP
      have hWq : Wf g10 := by rw [hg10]; exact Wf.q1 hWf (by omega)
      refine lv_aload_n hx hb dX4_enter_99 rfl (lv_at hl 1 rfl) ?_
      refine lv_iload_n hx hb dX4_enter_100 rfl (lv_at hl 2 rfl) ?_
      refine lv_aload_n hx hb dX4_enter_101 rfl (lv_at hl 1 rfl) ?_
      refine va_get (D := D) (ci := 4) (v := .ref (a 4)) (C := RX4) (T := TX4) (N := 19) hx hb hw hin_wsX40 hown hK hP 0 pw_0 rfl 6 (by decide) (hw _ kw_23) (fun _ h9 => h9) rfl dX4_enter_102 ?_
      have e11 : g10 9 0 3 = g 9 0 3 := by simp [hg10, m_up]
      have s12 := Wf.u3 hWf (k := 0) (by omega) (by omega)
      refine va_get (D := D) (ci := 3) (v := .int (iI (g 9 0 3))) (C := RX3) (T := TX3) (N := 4) hx hb hw hin_wsX30 hown hK hP 4 pw_4 rfl 3 (by decide) (hw _ kw_102) (fun _ h9 => h9) (by rw [← e11]; rfl) dX4_enter_105 ?_
      refine va_calli (va_runV (As := [.int (iI bb), .int (iI (g 9 0 3))]) (rest := []) ⟨hx, hb, hml, hown, hw⟩ (c_enterFor l D a cH cB cJ cI ha g10 vt H.size bb (g 9 0 3) hWq (by omega)) (cwV 2 hw (gA_V kw_289 kw_290 kw_291 kw_2 kw_292) rfl rfl rfl (by decide +kernel) ⟨Nat.le_of_ble_eq_true rfl, Nat.le_of_ble_eq_true rfl⟩) (pS_v (ci := 4) (q0 := 0) rfl pw_0 hP hK hE) rfl rfl hl.1 rfl (lv_room (Nat.le_of_ble_eq_true rfl)) dX4_enter_108 ⟨Nat.le_of_ble_eq_true rfl, Nat.le_of_ble_eq_true rfl⟩) hS (fun q _ h => rw_A hS hA hB q h) (fun q h => rw_A hS hA hB q h) (fun r u t H1 locs ht hvm hw9 hB9 hz1 hk1 hS => ?_)
      have hw9 : r = (iI (m_entCount (m_enterFor g10 bb (g 9 0 3)))) := hw9
      subst hw9
      obtain ⟨v13, hP1⟩ := hB9
      rw [ht] at hP1
      obtain ⟨g14, hg14⟩ : ∃ z, z = (m_enterFor g10 bb (g 9 0 3)) := ⟨_, rfl⟩
      rw [← hg14] at hP1
      have hP : va_P D vwCl (pw a cH cB cJ cI g14 v13) H1 := hP1
      generalize H1 = H at hP hS ⊢
      have hf15 : g14 = (m_enter g bb) := by unfold m_enter; first | (rw [show m_elig g bb = false from by assumption]; rfl) | (rw [show m_elig g bb = true from by assumption, cond_true, if_pos (by omega)]) | (rw [show m_elig g bb = true from by assumption, cond_true, if_neg (by omega), hg14, hg10])
      rw [hf15] at hP
      exact W.iret (v := (iI (m_entCount (m_enterFor g10 bb (g 9 0 3))))) hx hb hr (fun t ht hW9 => ⟨⟨(iI (m_entCount (m_enterFor g10 bb (g 9 0 3)))), (), rfl, (congrArg iI (by unfold m_enterRet; first | (rw [show m_elig g bb = false from by assumption]; rfl) | (rw [show m_elig g bb = true from by assumption, cond_true, if_pos (by omega)]) | (rw [show m_elig g bb = true from by assumption, cond_true, if_neg (by omega), ← hf15, hg14, hg10]))), ⟨v13, by rw [ht]; exact hP⟩⟩, hS.F ht⟩) hS.2.2 dX4_enter_111
    · skip
      refine lv_bipush (v := iI (-3)) hx hb dX4_enter_81 (by decide) ?_
      have hf16 : g = (m_enter g bb) := by unfold m_enter; first | (rw [show m_elig g bb = false from by assumption]; rfl) | (rw [show m_elig g bb = true from by assumption, cond_true, if_pos (by omega)]) | (rw [show m_elig g bb = true from by assumption, cond_true, if_neg (by omega), rfl])
      rw [hf16] at hP
      exact W.iret (v := (iI (-3))) hx hb hr (fun t ht hW9 => ⟨⟨(iI (-3)), (), rfl, (congrArg iI (by unfold m_enterRet; first | (rw [show m_elig g bb = false from by assumption]; rfl) | (rw [show m_elig g bb = true from by assumption, cond_true, if_pos (by omega)]) | (rw [show m_elig g bb = true from by assumption, cond_true, if_neg (by omega), ← hf16, rfl]))), ⟨vt, by rw [ht]; exact hP⟩⟩, hS.F ht⟩) hS.2.2 dX4_enter_83
  · skip
    refine lv_bipush (v := iI (-2)) hx hb dX4_enter_51 (by decide) ?_
    have hf17 : g = (m_enter g bb) := by unfold m_enter; first | (rw [show m_elig g bb = false from by assumption]; rfl) | (rw [show m_elig g bb = true from by assumption, cond_true, if_pos (by omega)]) | (rw [show m_elig g bb = true from by assumption, cond_true, if_neg (by omega), rfl])
    rw [hf17] at hP
    exact W.iret (v := (iI (-2))) hx hb hr (fun t ht hW9 => ⟨⟨(iI (-2)), (), rfl, (congrArg iI (by unfold m_enterRet; first | (rw [show m_elig g bb = false from by assumption]; rfl) | (rw [show m_elig g bb = true from by assumption, cond_true, if_pos (by omega)]) | (rw [show m_elig g bb = true from by assumption, cond_true, if_neg (by omega), ← hf17, rfl]))), ⟨vt, by rw [ht]; exact hP⟩⟩, hS.F ht⟩) hS.2.2 dX4_enter_53
set_option maxHeartbeats 4000000 in
set_option maxRecDepth 100000 in
theorem c_callIn (l : Launch) (D : va_G) (a : Nat → Nat) (cH cB cJ cI : ClassId) (ha : pj a) (g : m_St) (vt : Nat → Int32) (sz : Nat) (jj : Int) (bb : Int) (hWf : Wf g) (hjj : 0 ≤ jj ∧ jj < g 0 0 5) (hbb : 0 ≤ bb ∧ bb < g 0 0 4) (h9 : g 0 0 9 = 0) (he : m_ent g bb = false) : Met l yX4_callIn (wc yX4_callIn cX4_callIn 3 (some .int)) ({ frames := 3, cells := 0, slots := 0, locals := 67 }) (va_Pc [.ref (a 0), .int (iI jj), .int (iI bb)] (pS D a cH cB cJ cI sz g vt)) (va_Qi (fun (r : Int32) (_ : Unit) => r = iI (m_callRet g jj bb)) (fun _ t => ∃ vt1 : Nat → Int32, va_P D vwCl (pw a cH cB cJ cI (m_callIn g jj bb) vt1) t.heap) (pA a sz)) 0 0 (pA a sz) := by
  refine Met.ofW (cc := cX4_callIn) (maxL := 3) (ret := (some .int)) (by decide +kernel) rfl ?_
  intro p e s m args below meth c s₁ B9 hml hv
  obtain ⟨rfl, hsz, hP, hK, hE⟩ := hv
  have hx := B9.exec
  have hb := B9.bytes
  have hr := B9.returns
  have hts := atoms_spec (ws := (wc yX4_callIn cX4_callIn 3 (some .int))) B9.pre
  have hw : ∀ w ∈ wsL_law0, w.before [.ref (a 0), .int (iI jj), .int (iI bb)].toArray s = true := fun w h => hts w (List.mem_cons_of_mem _ h)
  have hown : s.vm.findClass RX4 = some m.cls := findClass_of_methodNamed B9.named
  subst hsz
  have hS : va_S (pA a s.heap.size) s.heap s.heap [] := va_S.rf
  have hA : ∀ q : Nat, s.heap.size ≤ q → pA a s.heap.size q := fun _ h => pA_new h
  have hB : ∀ k, k < 58 → pA a s.heap.size (a k) := fun _ h => pA_in h
  have hl := lv_entry ([.ref (a 0), .int (iI jj), .int (iI bb)]) (n := 3) (Nat.le_of_ble_eq_true rfl)
  rw [lg_entry_eq]
  generalize (lg_sl ([.ref (a 0), .int (iI jj), .int (iI bb)]) ++ List.replicate (3 - (lg_sl ([.ref (a 0), .int (iI jj), .int (iI bb)])).length) Slot.unset).toArray = ls at hl ⊢
  have hl : lv_has ls 3 [(0, .ref (a 0)), (1, .int (iI jj)), (2, .int (iI bb))] := hl
  suffices h9 : ∀ (H : Heap) (locs : List Loc), va_P D vwCl (pw a cH cB cJ cI g vt) H → va_S (pA a s.heap.size) s.heap H locs → W p l e (headSpec (wc yX4_callIn cX4_callIn 3 (some .int)) ({ frames := 3, cells := 0, slots := 0, locals := 67 })).room s m [.ref (a 0), .int (iI jj), .int (iI bb)].toArray below meth c H locs 0 0 (MQ below (va_Qi (fun (r : Int32) (_ : Unit) => r = iI (m_callRet g jj bb)) (fun _ t => ∃ vt1 : Nat → Int32, va_P D vwCl (pw a cH cB cJ cI (m_callIn g jj bb) vt1) t.heap) (pA a s.heap.size)) [.ref (a 0), .int (iI jj), .int (iI bb)].toArray s 0 0 (pA a s.heap.size)) (F0 m 0 ls []) from h9 s.heap [] hP hS
  clear hP hS
  intro H locs hP hS
  have m4 := Wf.m4 hWf
  have m5 := Wf.m5 hWf
  refine lv_aload_n hx hb dX4_callIn_0 rfl (lv_at hl 0 rfl) ?_
  refine lv_iload_n hx hb dX4_callIn_1 rfl (lv_at hl 1 rfl) ?_
  refine va_calli (va_runV (As := [.int (iI jj)]) (rest := []) ⟨hx, hb, hml, hown, hw⟩ (c_isJudge l D a cH cB cJ cI ha g vt H.size jj hWf (by omega)) (cwV 1 hw (gA_V kw_158 kw_159 kw_160 kw_2 kw_161) rfl rfl rfl (by decide +kernel) ⟨Nat.le_of_ble_eq_true rfl, Nat.le_of_ble_eq_true rfl⟩) (pS_v (ci := 4) (q0 := 0) rfl pw_0 hP hK hE) rfl rfl hl.1 rfl (lv_room (Nat.le_of_ble_eq_true rfl)) dX4_callIn_2 ⟨Nat.le_of_ble_eq_true rfl, Nat.le_of_ble_eq_true rfl⟩) hS (fun q h1 h2 => ro_A h1 h2) (fun q h => ro_F hS hA q h) (fun r u t H1 locs ht hvm hw9 hB9 hz1 hk1 hS => ?_)
  have hw9 : r = (bi (decide (0 ≤ jj ∧ jj < g 0 0 5))) := hw9
  subst hw9
  have hP := ro_P hP hk1
  generalize H1 = H at hP hS ⊢
  refine n_b_eq hx hb (tgt := 16) dX4_callIn_5 (by decide) (fun h1 => absurd h1 (by intro h1; have h1 := of_decide_eq_false h1; omega)) (fun h1 => ?_)
  have h1 := of_decide_eq_true h1
  refine lv_aload_n hx hb dX4_callIn_8 rfl (lv_at hl 0 rfl) ?_
  refine lv_iload_n hx hb dX4_callIn_9 rfl (lv_at hl 2 rfl) ?_
  refine va_calli (va_runV (As := [.int (iI bb)]) (rest := []) ⟨hx, hb, hml, hown, hw⟩ (c_isBook l D a cH cB cJ cI ha g vt H.size bb hWf (by omega)) (cwV 1 hw (gA_V kw_162 kw_163 kw_164 kw_2 kw_165) rfl rfl rfl (by decide +kernel) ⟨Nat.le_of_ble_eq_true rfl, Nat.le_of_ble_eq_true rfl⟩) (pS_v (ci := 4) (q0 := 0) rfl pw_0 hP hK hE) rfl rfl hl.1 rfl (lv_room (Nat.le_of_ble_eq_true rfl)) dX4_callIn_10 ⟨Nat.le_of_ble_eq_true rfl, Nat.le_of_ble_eq_true rfl⟩) hS (fun q h1 h2 => ro_A h1 h2) (fun q h => ro_F hS hA q h) (fun r u t H1 locs ht hvm hw9 hB9 hz1 hk1 hS => ?_)
  have hw9 : r = (bi (decide (0 ≤ bb ∧ bb < g 0 0 4))) := hw9
  subst hw9
  have hP := ro_P hP hk1
  generalize H1 = H at hP hS ⊢
  refine n_b_ne hx hb (tgt := 26) dX4_callIn_13 (by decide) (fun h2 => ?_) (fun h2 => absurd h2 (by intro h2; have h2 := of_decide_eq_false h2; omega))
  have h2 := of_decide_eq_true h2
  refine lv_aload_n hx hb dX4_callIn_26 rfl (lv_at hl 0 rfl) ?_
  have s3 := Wf.m9 hWf
  refine va_get (D := D) (ci := 4) (v := .int (iI (g 0 0 9))) (C := RX4) (T := TX4) (N := 19) hx hb hw hin_wsX40 hown hK hP 0 pw_0 rfl 9 (by decide) (hw _ kw_25) (fun _ h9 => h9) rfl dX4_callIn_27 ?_
  refine n_if_ne hx hb (by unfold RI; omega) (tgt := 41) dX4_callIn_30 (by decide) (fun h4 => absurd h4 (by intro h4; omega)) (fun h4 => ?_)
  refine lv_aload_n hx hb dX4_callIn_33 rfl (lv_at hl 0 rfl) ?_
  refine lv_iload_n hx hb dX4_callIn_34 rfl (lv_at hl 2 rfl) ?_
  refine va_calli (va_runV (As := [.int (iI bb)]) (rest := []) ⟨hx, hb, hml, hown, hw⟩ (c_isEntered l D a cH cB cJ cI ha g vt H.size bb hWf (by omega)) (cwV 1 hw (gA_V kw_107 kw_108 kw_109 kw_2 kw_110) rfl rfl rfl (by decide +kernel) ⟨Nat.le_of_ble_eq_true rfl, Nat.le_of_ble_eq_true rfl⟩) (pS_v (ci := 4) (q0 := 0) rfl pw_0 hP hK hE) rfl rfl hl.1 rfl (lv_room (Nat.le_of_ble_eq_true rfl)) dX4_callIn_35 ⟨Nat.le_of_ble_eq_true rfl, Nat.le_of_ble_eq_true rfl⟩) hS (fun q h1 h2 => ro_A h1 h2) (fun q h => ro_F hS hA q h) (fun r u t H1 locs ht hvm hw9 hB9 hz1 hk1 hS => ?_)
  have hw9 : r = (bi (m_ent g bb)) := hw9
  subst hw9
  have hP := ro_P hP hk1
  generalize H1 = H at hP hS ⊢
  refine n_b_eq hx hb (tgt := 51) dX4_callIn_38 (by decide) (fun h5 => ?_) (fun h5 => absurd h5 (by intro h5; rw [he] at h5; cases h5))
  refine lv_aload_n hx hb dX4_callIn_51 rfl (lv_at hl 0 rfl) ?_
  refine lv_iload_n hx hb dX4_callIn_52 rfl (lv_at hl 2 rfl) ?_
  refine va_calli (va_runV (As := [.int (iI bb)]) (rest := []) ⟨hx, hb, hml, hown, hw⟩ (c_isEligible l D a cH cB cJ cI ha g vt H.size bb hWf (by omega)) (cwV 1 hw (gA_V kw_213 kw_214 kw_215 kw_2 kw_216) rfl rfl rfl (by decide +kernel) ⟨Nat.le_of_ble_eq_true rfl, Nat.le_of_ble_eq_true rfl⟩) (pS_v (ci := 4) (q0 := 0) rfl pw_0 hP hK hE) rfl rfl hl.1 rfl (lv_room (Nat.le_of_ble_eq_true rfl)) dX4_callIn_53 ⟨Nat.le_of_ble_eq_true rfl, Nat.le_of_ble_eq_true rfl⟩) hS (fun q h1 h2 => ro_A h1 h2) (fun q h => ro_F hS hA q h) (fun r u t H1 locs ht hvm hw9 hB9 hz1 hk1 hS => ?_)
  have hw9 : r = (bi (m_elig g bb)) := hw9
  subst hw9
  have hP := ro_P hP hk1
  generalize H1 = H at hP hS ⊢
  refine n_b_ne hx hb (tgt := 62) dX4_callIn_56 (by decide) (fun h6 => ?_) (fun h6 => ?_)
  · skip
    refine lv_aload_n hx hb dX4_callIn_62 rfl (lv_at hl 0 rfl) ?_
    refine va_get (D := D) (ci := 4) (v := .ref (a 3)) (C := RX4) (T := TX4) (N := 19) hx hb hw hin_wsX40 hown hK hP 0 pw_0 rfl 2 (by decide) (hw _ kw_19) (fun _ h9 => h9) rfl dX4_callIn_63 ?_
    refine lv_iload_n hx hb dX4_callIn_66 rfl (lv_at hl 1 rfl) ?_
    refine p_aldJ hx hb hK hP (k := jj) (by omega) (by omega) dX4_callIn_67 ?_
    have s7 := Wf.j4 hWf (k := jj) (by omega) (by omega)
    refine va_get (D := D) (ci := 2) (v := .int (iI (g 3 jj 4))) (C := RX2) (T := TX2) (N := 16) hx hb hw hin_wsX20 hown hK hP (28 + 6 * jj.toNat) (pw_J (j := jj) (by omega) (by omega)) rfl 4 (by decide) (hw _ kw_297) (fun _ h9 => h9) rfl dX4_callIn_68 ?_
    refine n_if_ne hx hb (by unfold RI; omega) (tgt := 95) dX4_callIn_71 (by decide) (fun h8 => ?_) (fun h8 => ?_)
    · skip
      refine lv_bipush (v := iI (-3)) hx hb dX4_callIn_95 (by decide) ?_
      have hf9 : g = (m_callIn g jj bb) := by unfold m_callIn; first | (rw [show m_elig g bb = false from by assumption]; rfl) | (rw [show m_elig g bb = true from by assumption, cond_true, if_pos (by first | exact Or.inl (by assumption) | exact Or.inr (by assumption))]) | (rw [show m_elig g bb = true from by assumption, cond_true, if_neg (not_or_2 (by assumption) (by assumption)), rfl])
      rw [hf9] at hP
      exact W.iret (v := (iI (-3))) hx hb hr (fun t ht hW9 => ⟨⟨(iI (-3)), (), rfl, (congrArg iI (by unfold m_callRet; first | (rw [show m_elig g bb = false from by assumption]; rfl) | (rw [show m_elig g bb = true from by assumption, cond_true, if_pos (by first | exact Or.inl (by assumption) | exact Or.inr (by assumption))]) | (rw [show m_elig g bb = true from by assumption, cond_true, if_neg (not_or_2 (by assumption) (by assumption)), ← hf9, rfl]))), ⟨vt, by rw [ht]; exact hP⟩⟩, hS.F ht⟩) hS.2.2 dX4_callIn_97
    · skip
      refine lv_aload_n hx hb dX4_callIn_74 rfl (lv_at hl 0 rfl) ?_
      refine va_get (D := D) (ci := 4) (v := .ref (a 3)) (C := RX4) (T := TX4) (N := 19) hx hb hw hin_wsX40 hown hK hP 0 pw_0 rfl 2 (by decide) (hw _ kw_19) (fun _ h9 => h9) rfl dX4_callIn_75 ?_
      refine lv_iload_n hx hb dX4_callIn_78 rfl (lv_at hl 1 rfl) ?_
      refine p_aldJ hx hb hK hP (k := jj) (by omega) (by omega) dX4_callIn_79 ?_
      refine lv_aload_n hx hb dX4_callIn_80 rfl (lv_at hl 0 rfl) ?_
      refine va_get (D := D) (ci := 4) (v := .ref (a 2)) (C := RX4) (T := TX4) (N := 19) hx hb hw hin_wsX40 hown hK hP 0 pw_0 rfl 1 (by decide) (hw _ kw_17) (fun _ h9 => h9) rfl dX4_callIn_81 ?_
      refine lv_iload_n hx hb dX4_callIn_84 rfl (lv_at hl 2 rfl) ?_
      refine p_aldB hx hb hK hP (k := bb) (by omega) (by omega) dX4_callIn_85 ?_
      have s10 := Wf.b1 hWf (k := bb) (by omega) (by omega)
      refine va_get (D := D) (ci := 0) (v := .int (iI (g 2 bb 1))) (C := RX0) (T := TX0) (N := 11) hx hb hw hin_wsX00 hown hK hP (12 + bb.toNat) (pw_B (b := bb) (by omega) (by omega)) rfl 1 (by decide) (hw _ kw_211) (fun _ h9 => h9) rfl dX4_callIn_86 ?_
      refine va_calli (va_runV (As := [.int (iI (g 2 bb 1))]) (rest := []) ⟨hx, hb, hml, hown, hw⟩ (c_isAgainst l D a cH cB cJ cI ha g vt H.size jj (g 2 bb 1) hWf (by omega) (by omega)) (cwV 1 hw (gA_V kw_238 kw_239 kw_240 kw_34 kw_241) rfl rfl rfl (by decide +kernel) ⟨Nat.le_of_ble_eq_true rfl, Nat.le_of_ble_eq_true rfl⟩) (pS_v (ci := 2) (q0 := (28 + 6 * jj.toNat)) rfl (pw_J (j := jj) (by omega) (by omega)) hP hK hE) rfl rfl hl.1 rfl (lv_room (Nat.le_of_ble_eq_true rfl)) dX4_callIn_89 ⟨Nat.le_of_ble_eq_true rfl, Nat.le_of_ble_eq_true rfl⟩) hS (fun q h1 h2 => ro_A h1 h2) (fun q h => ro_F hS hA q h) (fun r u t H1 locs ht hvm hw9 hB9 hz1 hk1 hS => ?_)
      have hw9 : r = (bi (m_agn g jj (g 2 bb 1))) := hw9
      subst hw9
      have hP := ro_P hP hk1
      generalize H1 = H at hP hS ⊢
      refine n_b_eq hx hb (tgt := 98) dX4_callIn_92 (by decide) (fun h11 => ?_) (fun h11 => ?_)
      · skip
        refine lv_aload_n hx hb dX4_callIn_98 rfl (lv_at hl 0 rfl) ?_
        refine va_get (D := D) (ci := 4) (v := .ref (a 3)) (C := RX4) (T := TX4) (N := 19) hx hb hw hin_wsX40 hown hK hP 0 pw_0 rfl 2 (by decide) (hw _ kw_19) (fun _ h9 => h9) rfl dX4_callIn_99 ?_
        refine lv_iload_n hx hb dX4_callIn_102 rfl (lv_at hl 1 rfl) ?_
        refine p_aldJ hx hb hK hP (k := jj) (by omega) (by omega) dX4_callIn_103 ?_
        refine lv_iconst (v := iI 1) hx hb dX4_callIn_104 (by decide) ?_
        refine va_put (D := D) (ci := 2) (v := .int (iI 1)) (C := RX2) (T := TX2) (N := 16) (ty := .boolean) hx hb hw hin_wsX20 tyX2 tyX2_ok nmX2 hown hK hP (pw_D ha (fun k hk => pA_in hk)) hS (28 + 6 * jj.toNat) (pw_J (j := jj) (by omega) (by omega)) rfl 4 (by decide) (hw _ kw_297) (fun _ h9 => h9) rfl (tyX2_ok 4 (by decide)) (by first | rfl | decide) rfl (show 4 < 16 from by decide) dX4_callIn_105 (fun H locs hP _ hS => ?_)
        rw [pw_setJ (by omega) (by omega) (by decide) (by decide) (by decide) (by decide) (by decide) (by decide)] at hP
        have hP : va_P D vwCl (pw a cH cB cJ cI (m_up g 3 jj 4 1) vt) H := hP
        obtain ⟨g12, hg12⟩ : ∃ z, z = m_up g 3 jj 4 1 := ⟨_, rfl⟩
        rw [← hg12] at hP
        have hWq : Wf g12 := by rw [hg12]; exact Wf.j4u hWf
        refine lv_aload_n hx hb dX4_callIn_108 rfl (lv_at hl 0 rfl) ?_
        refine lv_iload_n hx hb dX4_callIn_109 rfl (lv_at hl 2 rfl) ?_
        refine lv_aload_n hx hb dX4_callIn_110 rfl (lv_at hl 0 rfl) ?_
        refine va_get (D := D) (ci := 4) (v := .ref (a 4)) (C := RX4) (T := TX4) (N := 19) hx hb hw hin_wsX40 hown hK hP 0 pw_0 rfl 6 (by decide) (hw _ kw_23) (fun _ h9 => h9) rfl dX4_callIn_111 ?_
        have e13 : g12 9 0 3 = g 9 0 3 := by simp [hg12, m_up]
        have s14 := Wf.u3 hWf (k := 0) (by omega) (by omega)
        refine va_get (D := D) (ci := 3) (v := .int (iI (g 9 0 3))) (C := RX3) (T := TX3) (N := 4) hx hb hw hin_wsX30 hown hK hP 4 pw_4 rfl 3 (by decide) (hw _ kw_102) (fun _ h9 => h9) (by rw [← e13]; rfl) dX4_callIn_114 ?_
        refine lv_iconst (v := iI 2) hx hb dX4_callIn_117 (by decide) ?_
        refine n_div hx hb (by unfold RI; omega) (by unfold RI; omega) (by omega) dX4_callIn_118 ?_
        refine va_calli (va_runV (As := [.int (iI bb), .int (iI ((g 9 0 3).tdiv 2))]) (rest := []) ⟨hx, hb, hml, hown, hw⟩ (c_enterFor l D a cH cB cJ cI ha g12 vt H.size bb ((g 9 0 3).tdiv 2) hWq (by omega)) (cwV 2 hw (gA_V kw_289 kw_290 kw_291 kw_2 kw_292) rfl rfl rfl (by decide +kernel) ⟨Nat.le_of_ble_eq_true rfl, Nat.le_of_ble_eq_true rfl⟩) (pS_v (ci := 4) (q0 := 0) rfl pw_0 hP hK hE) rfl rfl hl.1 rfl (lv_room (Nat.le_of_ble_eq_true rfl)) dX4_callIn_119 ⟨Nat.le_of_ble_eq_true rfl, Nat.le_of_ble_eq_true rfl⟩) hS (fun q _ h => rw_A hS hA hB q h) (fun q h => rw_A hS hA hB q h) (fun r u t H1 locs ht hvm hw9 hB9 hz1 hk1 hS => ?_)
        have hw9 : r = (iI (m_entCount (m_enterFor g12 bb ((g 9 0 3).tdiv 2)))) := hw9
        subst hw9
        obtain ⟨v15, hP1⟩ := hB9
        rw [ht] at hP1
        obtain ⟨g16, hg16⟩ : ∃ z, z = (m_enterFor g12 bb ((g 9 0 3).tdiv 2)) := ⟨_, rfl⟩
        rw [← hg16] at hP1
        have hP : va_P D vwCl (pw a cH cB cJ cI g16 v15) H1 := hP1
        generalize H1 = H at hP hS ⊢
        have hf17 : g16 = (m_callIn g jj bb) := by unfold m_callIn; first | (rw [show m_elig g bb = false from by assumption]; rfl) | (rw [show m_elig g bb = true from by assumption, cond_true, if_pos (by first | exact Or.inl (by assumption) | exact Or.inr (by assumption))]) | (rw [show m_elig g bb = true from by assumption, cond_true, if_neg (not_or_2 (by assumption) (by assumption)), hg16, hg12])
        rw [hf17] at hP
        exact W.iret (v := (iI (m_entCount (m_enterFor g12 bb ((g 9 0 3).tdiv 2))))) hx hb hr (fun t ht hW9 => ⟨⟨(iI (m_entCount (m_enterFor g12 bb ((g 9 0 3).tdiv 2)))), (), rfl, (congrArg iI (by unfold m_callRet; first | (rw [show m_elig g bb = false from by assumption]; rfl) | (rw [show m_elig g bb = true from by assumption, cond_true, if_pos (by first | exact Or.inl (by assumption) | exact Or.inr (by assumption))]) | (rw [show m_elig g bb = true from by assumption, cond_true, if_neg (not_or_2 (by assumption) (by assumption)), ← hf17, hg16, hg12]))), ⟨v15, by rw [ht]; exact hP⟩⟩, hS.F ht⟩) hS.2.2 dX4_callIn_122
      · skip
        refine lv_bipush (v := iI (-3)) hx hb dX4_callIn_95 (by decide) ?_
        have hf18 : g = (m_callIn g jj bb) := by unfold m_callIn; first | (rw [show m_elig g bb = false from by assumption]; rfl) | (rw [show m_elig g bb = true from by assumption, cond_true, if_pos (by first | exact Or.inl (by assumption) | exact Or.inr (by assumption))]) | (rw [show m_elig g bb = true from by assumption, cond_true, if_neg (not_or_2 (by assumption) (by assumption)), rfl])
        rw [hf18] at hP
        exact W.iret (v := (iI (-3))) hx hb hr (fun t ht hW9 => ⟨⟨(iI (-3)), (), rfl, (congrArg iI (by unfold m_callRet; first | (rw [show m_elig g bb = false from by assumption]; rfl) | (rw [show m_elig g bb = true from by assumption, cond_true, if_pos (by first | exact Or.inl (by assumption) | exact Or.inr (by assumption))]) | (rw [show m_elig g bb = true from by assumption, cond_true, if_neg (not_or_2 (by assumption) (by assumption)), ← hf18, rfl]))), ⟨vt, by rw [ht]; exact hP⟩⟩, hS.F ht⟩) hS.2.2 dX4_callIn_97
  · skip
    refine lv_bipush (v := iI (-2)) hx hb dX4_callIn_59 (by decide) ?_
    have hf19 : g = (m_callIn g jj bb) := by unfold m_callIn; first | (rw [show m_elig g bb = false from by assumption]; rfl) | (rw [show m_elig g bb = true from by assumption, cond_true, if_pos (by first | exact Or.inl (by assumption) | exact Or.inr (by assumption))]) | (rw [show m_elig g bb = true from by assumption, cond_true, if_neg (not_or_2 (by assumption) (by assumption)), rfl])
    rw [hf19] at hP
    exact W.iret (v := (iI (-2))) hx hb hr (fun t ht hW9 => ⟨⟨(iI (-2)), (), rfl, (congrArg iI (by unfold m_callRet; first | (rw [show m_elig g bb = false from by assumption]; rfl) | (rw [show m_elig g bb = true from by assumption, cond_true, if_pos (by first | exact Or.inl (by assumption) | exact Or.inr (by assumption))]) | (rw [show m_elig g bb = true from by assumption, cond_true, if_neg (not_or_2 (by assumption) (by assumption)), ← hf19, rfl]))), ⟨vt, by rw [ht]; exact hP⟩⟩, hS.F ht⟩) hS.2.2 dX4_callIn_61

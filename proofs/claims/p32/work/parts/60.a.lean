set_option maxHeartbeats 4000000 in
set_option maxRecDepth 100000 in
/-- isWithin -/
theorem c_isWithin (l : Launch) (D : va_G) (a : Nat → Nat) (cH cB cJ cI : ClassId) (ha : pj a) (g : m_St) (vt : Nat → Int32) (sz : Nat) (v : Int) (lo : Int) (hi : Int) (rv : -2147483648 ≤ v ∧ v ≤ 2147483647) (rlo : -2147483648 ≤ lo ∧ lo ≤ 2147483647) (rhi : -2147483648 ≤ hi ∧ hi ≤ 2147483647) : Met l yX4_isWithin (wc yX4_isWithin cX4_isWithin 3 (some .boolean)) ({ frames := 0, cells := 0, slots := 0, locals := 0 }) (va_Pc [.int (iI v), .int (iI lo), .int (iI hi)] (pS D a cH cB cJ cI sz g vt)) (va_Qi (fun (r : Int32) (_ : Unit) => r = bi (decide (lo ≤ v ∧ v ≤ hi))) (fun _ _ => True) (fun q => sz ≤ q)) 0 0 (fun q => sz ≤ q) := by
  refine Met.ofW (cc := cX4_isWithin) (maxL := 3) (ret := (some .boolean)) (by decide +kernel) rfl ?_
  intro p e s m args below meth c s₁ B9 hml hv
  obtain ⟨rfl, hsz, hP, hK, hE⟩ := hv
  have hx := B9.exec
  have hb := B9.bytes
  have hr := B9.returns
  have hts := atoms_spec (ws := (wc yX4_isWithin cX4_isWithin 3 (some .boolean))) B9.pre
  have hw : ∀ w ∈ wsL_law0, w.before [.int (iI v), .int (iI lo), .int (iI hi)].toArray s = true := fun w h => hts w (List.mem_cons_of_mem _ h)
  have hown : s.vm.findClass RX4 = some m.cls := findClass_of_methodNamed B9.named
  subst hsz
  have hS : va_S (fun q => s.heap.size ≤ q) s.heap s.heap [] := va_S.rf
  have hA : ∀ q : Nat, s.heap.size ≤ q → (fun q : Nat => s.heap.size ≤ q) q := fun _ h => h
  have hl := lv_entry ([.int (iI v), .int (iI lo), .int (iI hi)]) (n := 3) (Nat.le_of_ble_eq_true rfl)
  rw [lg_entry_eq]
  generalize (lg_sl ([.int (iI v), .int (iI lo), .int (iI hi)]) ++ List.replicate (3 - (lg_sl ([.int (iI v), .int (iI lo), .int (iI hi)])).length) Slot.unset).toArray = ls at hl ⊢
  have hl : lv_has ls 3 [(0, .int (iI v)), (1, .int (iI lo)), (2, .int (iI hi))] := hl
  suffices h9 : ∀ (H : Heap) (locs : List Loc), va_P D vwCl (pw a cH cB cJ cI g vt) H → va_S (fun q => s.heap.size ≤ q) s.heap H locs → W p l e (headSpec (wc yX4_isWithin cX4_isWithin 3 (some .boolean)) ({ frames := 0, cells := 0, slots := 0, locals := 0 })).room s m [.int (iI v), .int (iI lo), .int (iI hi)].toArray below meth c H locs 0 0 (MQ below (va_Qi (fun (r : Int32) (_ : Unit) => r = bi (decide (lo ≤ v ∧ v ≤ hi))) (fun _ _ => True) (fun q => s.heap.size ≤ q)) [.int (iI v), .int (iI lo), .int (iI hi)].toArray s 0 0 (fun q => s.heap.size ≤ q)) (F0 m 0 ls []) from h9 s.heap [] hP hS
  clear hP hS
  intro H locs hP hS
  refine lv_iload_n hx hb dX4_isWithin_0 rfl (lv_at hl 0 rfl) ?_
  refine lv_iload_n hx hb dX4_isWithin_1 rfl (lv_at hl 1 rfl) ?_
  refine n_icmp_lt hx hb (by unfold RI; omega) (by unfold RI; omega) (tgt := 14) dX4_isWithin_2 (by decide) (fun h1 => ?_) (fun h1 => ?_)
  · skip
    refine lv_iconst (v := iI 0) hx hb dX4_isWithin_14 (by decide) ?_
    exact W.zret (v := (iI 0)) (ty := .boolean) hx hb hr (by decide +kernel) (fun t ht hW9 => ⟨⟨(iI 0), (), rfl, (show iI 0 = bi (decide (lo ≤ v ∧ v ≤ hi)) from by rw [show (decide (lo ≤ v ∧ v ≤ hi)) = false from by first | exact decide_eq_true (by omega) | exact decide_eq_false (by omega)]; rfl), trivial⟩, hS.F ht⟩) hS.2.2 dX4_isWithin_15
  · skip
    refine lv_iload_n hx hb dX4_isWithin_5 rfl (lv_at hl 0 rfl) ?_
    refine lv_iload_n hx hb dX4_isWithin_6 rfl (lv_at hl 2 rfl) ?_
    refine n_icmp_gt hx hb (by unfold RI; omega) (by unfold RI; omega) (tgt := 14) dX4_isWithin_7 (by decide) (fun h2 => ?_) (fun h2 => ?_)
    · skip
      refine lv_iconst (v := iI 0) hx hb dX4_isWithin_14 (by decide) ?_
      exact W.zret (v := (iI 0)) (ty := .boolean) hx hb hr (by decide +kernel) (fun t ht hW9 => ⟨⟨(iI 0), (), rfl, (show iI 0 = bi (decide (lo ≤ v ∧ v ≤ hi)) from by rw [show (decide (lo ≤ v ∧ v ≤ hi)) = false from by first | exact decide_eq_true (by omega) | exact decide_eq_false (by omega)]; rfl), trivial⟩, hS.F ht⟩) hS.2.2 dX4_isWithin_15
    · skip
      refine lv_iconst (v := iI 1) hx hb dX4_isWithin_10 (by decide) ?_
      refine lv_goto (tgt := 15) hx hb dX4_isWithin_11 (by decide) ?_
      exact W.zret (v := (iI 1)) (ty := .boolean) hx hb hr (by decide +kernel) (fun t ht hW9 => ⟨⟨(iI 1), (), rfl, (show iI 1 = bi (decide (lo ≤ v ∧ v ≤ hi)) from by rw [show (decide (lo ≤ v ∧ v ≤ hi)) = true from by first | exact decide_eq_true (by omega) | exact decide_eq_false (by omega)]; rfl), trivial⟩, hS.F ht⟩) hS.2.2 dX4_isWithin_15
set_option maxHeartbeats 4000000 in
set_option maxRecDepth 100000 in
theorem c_isAuthor (l : Launch) (D : va_G) (a : Nat → Nat) (cH cB cJ cI : ClassId) (ha : pj a) (g : m_St) (vt : Nat → Int32) (sz : Nat) (au : Int) (ra : -2147483648 ≤ au ∧ au ≤ 2147483647) : Met l yX4_isAuthor (wc yX4_isAuthor cX4_isAuthor 1 (some .boolean)) ({ frames := 1, cells := 0, slots := 0, locals := 22 }) (va_Pc [.int (iI au)] (pS D a cH cB cJ cI sz g vt)) (va_Qi (fun (r : Int32) (_ : Unit) => r = bi (decide (0 ≤ au ∧ au ≤ 9))) (fun _ _ => True) (fun q => sz ≤ q)) 0 0 (fun q => sz ≤ q) := by
  refine Met.ofW (cc := cX4_isAuthor) (maxL := 1) (ret := (some .boolean)) (by decide +kernel) rfl ?_
  intro p e s m args below meth c s₁ B9 hml hv
  obtain ⟨rfl, hsz, hP, hK, hE⟩ := hv
  have hx := B9.exec
  have hb := B9.bytes
  have hr := B9.returns
  have hts := atoms_spec (ws := (wc yX4_isAuthor cX4_isAuthor 1 (some .boolean))) B9.pre
  have hw : ∀ w ∈ wsL_law0, w.before [.int (iI au)].toArray s = true := fun w h => hts w (List.mem_cons_of_mem _ h)
  have hown : s.vm.findClass RX4 = some m.cls := findClass_of_methodNamed B9.named
  subst hsz
  have hS : va_S (fun q => s.heap.size ≤ q) s.heap s.heap [] := va_S.rf
  have hA : ∀ q : Nat, s.heap.size ≤ q → (fun q : Nat => s.heap.size ≤ q) q := fun _ h => h
  have hl := lv_entry ([.int (iI au)]) (n := 1) (Nat.le_of_ble_eq_true rfl)
  rw [lg_entry_eq]
  generalize (lg_sl ([.int (iI au)]) ++ List.replicate (1 - (lg_sl ([.int (iI au)])).length) Slot.unset).toArray = ls at hl ⊢
  have hl : lv_has ls 1 [(0, .int (iI au))] := hl
  suffices h9 : ∀ (H : Heap) (locs : List Loc), va_P D vwCl (pw a cH cB cJ cI g vt) H → va_S (fun q => s.heap.size ≤ q) s.heap H locs → W p l e (headSpec (wc yX4_isAuthor cX4_isAuthor 1 (some .boolean)) ({ frames := 1, cells := 0, slots := 0, locals := 22 })).room s m [.int (iI au)].toArray below meth c H locs 0 0 (MQ below (va_Qi (fun (r : Int32) (_ : Unit) => r = bi (decide (0 ≤ au ∧ au ≤ 9))) (fun _ _ => True) (fun q => s.heap.size ≤ q)) [.int (iI au)].toArray s 0 0 (fun q => s.heap.size ≤ q)) (F0 m 0 ls []) from h9 s.heap [] hP hS
  clear hP hS
  intro H locs hP hS
  refine lv_iload_n hx hb dX4_isAuthor_0 rfl (lv_at hl 0 rfl) ?_
  refine lv_iconst (v := iI 0) hx hb dX4_isAuthor_1 (by decide) ?_
  refine lv_bipush (v := iI 9) hx hb dX4_isAuthor_2 (by decide) ?_
  refine va_calli (va_runS (As := [.int (iI au), .int (iI 0), .int (iI 9)]) (rest := []) ⟨hx, hb, hml, hown, hw⟩ (c_isWithin l D a cH cB cJ cI ha g vt H.size au 0 9 (by omega) (by omega) (by omega)) (va_cwS 3 hw (gA_S kw_82 kw_83 kw_2 kw_84) rfl rfl rfl (by decide +kernel) ⟨Nat.le_of_ble_eq_true rfl, Nat.le_of_ble_eq_true rfl⟩) (pS_s hP hK hE) rfl rfl hl.1 rfl (lv_room (Nat.le_of_ble_eq_true rfl)) dX4_isAuthor_4 ⟨Nat.le_of_ble_eq_true rfl, Nat.le_of_ble_eq_true rfl⟩) hS (fun q h1 h2 => ro_A h1 h2) (fun q h => ro_F hS hA q h) (fun r u t H1 locs ht hvm hw9 hB9 hz1 hk1 hS => ?_)
  have hw9 : r = (bi (decide (0 ≤ au ∧ au ≤ 9))) := hw9
  subst hw9
  have hP := ro_P hP hk1
  generalize H1 = H at hP hS ⊢
  exact W.zret (v := (bi (decide (0 ≤ au ∧ au ≤ 9)))) (ty := .boolean) hx hb hr (by cases (decide (0 ≤ au ∧ au ≤ 9)) <;> decide) (fun t ht hW9 => ⟨⟨(bi (decide (0 ≤ au ∧ au ≤ 9))), (), rfl, rfl, trivial⟩, hS.F ht⟩) hS.2.2 dX4_isAuthor_7
set_option maxHeartbeats 4000000 in
set_option maxRecDepth 100000 in
theorem c_isHouse (l : Launch) (D : va_G) (a : Nat → Nat) (cH cB cJ cI : ClassId) (ha : pj a) (g : m_St) (vt : Nat → Int32) (sz : Nat) (kk : Int) (hWf : Wf g) (rk : -2147483648 ≤ kk ∧ kk ≤ 2147483647) : Met l yX4_isHouse (wc yX4_isHouse cX4_isHouse 2 (some .boolean)) ({ frames := 0, cells := 0, slots := 0, locals := 0 }) (va_Pc [.ref (a 0), .int (iI kk)] (pS D a cH cB cJ cI sz g vt)) (va_Qi (fun (r : Int32) (_ : Unit) => r = bi (decide (0 ≤ kk ∧ kk < g 0 0 3))) (fun _ _ => True) (fun q => sz ≤ q)) 0 0 (fun q => sz ≤ q) := by
  refine Met.ofW (cc := cX4_isHouse) (maxL := 2) (ret := (some .boolean)) (by decide +kernel) rfl ?_
  intro p e s m args below meth c s₁ B9 hml hv
  obtain ⟨rfl, hsz, hP, hK, hE⟩ := hv
  have hx := B9.exec
  have hb := B9.bytes
  have hr := B9.returns
  have hts := atoms_spec (ws := (wc yX4_isHouse cX4_isHouse 2 (some .boolean))) B9.pre
  have hw : ∀ w ∈ wsL_law0, w.before [.ref (a 0), .int (iI kk)].toArray s = true := fun w h => hts w (List.mem_cons_of_mem _ h)
  have hown : s.vm.findClass RX4 = some m.cls := findClass_of_methodNamed B9.named
  subst hsz
  have hS : va_S (fun q => s.heap.size ≤ q) s.heap s.heap [] := va_S.rf
  have hA : ∀ q : Nat, s.heap.size ≤ q → (fun q : Nat => s.heap.size ≤ q) q := fun _ h => h
  have hl := lv_entry ([.ref (a 0), .int (iI kk)]) (n := 2) (Nat.le_of_ble_eq_true rfl)
  rw [lg_entry_eq]
  generalize (lg_sl ([.ref (a 0), .int (iI kk)]) ++ List.replicate (2 - (lg_sl ([.ref (a 0), .int (iI kk)])).length) Slot.unset).toArray = ls at hl ⊢
  have hl : lv_has ls 2 [(0, .ref (a 0)), (1, .int (iI kk))] := hl
  suffices h9 : ∀ (H : Heap) (locs : List Loc), va_P D vwCl (pw a cH cB cJ cI g vt) H → va_S (fun q => s.heap.size ≤ q) s.heap H locs → W p l e (headSpec (wc yX4_isHouse cX4_isHouse 2 (some .boolean)) ({ frames := 0, cells := 0, slots := 0, locals := 0 })).room s m [.ref (a 0), .int (iI kk)].toArray below meth c H locs 0 0 (MQ below (va_Qi (fun (r : Int32) (_ : Unit) => r = bi (decide (0 ≤ kk ∧ kk < g 0 0 3))) (fun _ _ => True) (fun q => s.heap.size ≤ q)) [.ref (a 0), .int (iI kk)].toArray s 0 0 (fun q => s.heap.size ≤ q)) (F0 m 0 ls []) from h9 s.heap [] hP hS
  clear hP hS
  intro H locs hP hS
  refine lv_iload_n hx hb dX4_isHouse_0 rfl (lv_at hl 1 rfl) ?_
  refine n_if_lt hx hb (by unfold RI; omega) (tgt := 16) dX4_isHouse_1 (by decide) (fun h1 => ?_) (fun h1 => ?_)
  · skip
    refine lv_iconst (v := iI 0) hx hb dX4_isHouse_16 (by decide) ?_
    exact W.zret (v := (iI 0)) (ty := .boolean) hx hb hr (by decide +kernel) (fun t ht hW9 => ⟨⟨(iI 0), (), rfl, (show iI 0 = bi (decide (0 ≤ kk ∧ kk < g 0 0 3)) from by rw [show (decide (0 ≤ kk ∧ kk < g 0 0 3)) = false from by first | exact decide_eq_true (by omega) | exact decide_eq_false (by omega)]; rfl), trivial⟩, hS.F ht⟩) hS.2.2 dX4_isHouse_17
  · skip
    refine lv_iload_n hx hb dX4_isHouse_4 rfl (lv_at hl 1 rfl) ?_
    refine lv_aload_n hx hb dX4_isHouse_5 rfl (lv_at hl 0 rfl) ?_
    have s2 := Wf.m3 hWf
    refine va_get (D := D) (ci := 4) (v := .int (iI (g 0 0 3))) (C := RX4) (T := TX4) (N := 19) hx hb hw hin_wsX40 hown hK hP 0 pw_0 rfl 3 (by decide) (hw _ kw_74) (fun _ h9 => h9) rfl dX4_isHouse_6 ?_
    refine n_icmp_ge hx hb (by unfold RI; omega) (by unfold RI; omega) (tgt := 16) dX4_isHouse_9 (by decide) (fun h3 => ?_) (fun h3 => ?_)
    · skip
      refine lv_iconst (v := iI 0) hx hb dX4_isHouse_16 (by decide) ?_
      exact W.zret (v := (iI 0)) (ty := .boolean) hx hb hr (by decide +kernel) (fun t ht hW9 => ⟨⟨(iI 0), (), rfl, (show iI 0 = bi (decide (0 ≤ kk ∧ kk < g 0 0 3)) from by rw [show (decide (0 ≤ kk ∧ kk < g 0 0 3)) = false from by first | exact decide_eq_true (by omega) | exact decide_eq_false (by omega)]; rfl), trivial⟩, hS.F ht⟩) hS.2.2 dX4_isHouse_17
    · skip
      refine lv_iconst (v := iI 1) hx hb dX4_isHouse_12 (by decide) ?_
      refine lv_goto (tgt := 17) hx hb dX4_isHouse_13 (by decide) ?_
      exact W.zret (v := (iI 1)) (ty := .boolean) hx hb hr (by decide +kernel) (fun t ht hW9 => ⟨⟨(iI 1), (), rfl, (show iI 1 = bi (decide (0 ≤ kk ∧ kk < g 0 0 3)) from by rw [show (decide (0 ≤ kk ∧ kk < g 0 0 3)) = true from by first | exact decide_eq_true (by omega) | exact decide_eq_false (by omega)]; rfl), trivial⟩, hS.F ht⟩) hS.2.2 dX4_isHouse_17
set_option maxHeartbeats 4000000 in
set_option maxRecDepth 100000 in
theorem c_isBook (l : Launch) (D : va_G) (a : Nat → Nat) (cH cB cJ cI : ClassId) (ha : pj a) (g : m_St) (vt : Nat → Int32) (sz : Nat) (kk : Int) (hWf : Wf g) (rk : -2147483648 ≤ kk ∧ kk ≤ 2147483647) : Met l yX4_isBook (wc yX4_isBook cX4_isBook 2 (some .boolean)) ({ frames := 0, cells := 0, slots := 0, locals := 0 }) (va_Pc [.ref (a 0), .int (iI kk)] (pS D a cH cB cJ cI sz g vt)) (va_Qi (fun (r : Int32) (_ : Unit) => r = bi (decide (0 ≤ kk ∧ kk < g 0 0 4))) (fun _ _ => True) (fun q => sz ≤ q)) 0 0 (fun q => sz ≤ q) := by
  refine Met.ofW (cc := cX4_isBook) (maxL := 2) (ret := (some .boolean)) (by decide +kernel) rfl ?_
  intro p e s m args below meth c s₁ B9 hml hv
  obtain ⟨rfl, hsz, hP, hK, hE⟩ := hv
  have hx := B9.exec
  have hb := B9.bytes
  have hr := B9.returns
  have hts := atoms_spec (ws := (wc yX4_isBook cX4_isBook 2 (some .boolean))) B9.pre
  have hw : ∀ w ∈ wsL_law0, w.before [.ref (a 0), .int (iI kk)].toArray s = true := fun w h => hts w (List.mem_cons_of_mem _ h)
  have hown : s.vm.findClass RX4 = some m.cls := findClass_of_methodNamed B9.named
  subst hsz
  have hS : va_S (fun q => s.heap.size ≤ q) s.heap s.heap [] := va_S.rf
  have hA : ∀ q : Nat, s.heap.size ≤ q → (fun q : Nat => s.heap.size ≤ q) q := fun _ h => h
  have hl := lv_entry ([.ref (a 0), .int (iI kk)]) (n := 2) (Nat.le_of_ble_eq_true rfl)
  rw [lg_entry_eq]
  generalize (lg_sl ([.ref (a 0), .int (iI kk)]) ++ List.replicate (2 - (lg_sl ([.ref (a 0), .int (iI kk)])).length) Slot.unset).toArray = ls at hl ⊢
  have hl : lv_has ls 2 [(0, .ref (a 0)), (1, .int (iI kk))] := hl
  suffices h9 : ∀ (H : Heap) (locs : List Loc), va_P D vwCl (pw a cH cB cJ cI g vt) H → va_S (fun q => s.heap.size ≤ q) s.heap H locs → W p l e (headSpec (wc yX4_isBook cX4_isBook 2 (some .boolean)) ({ frames := 0, cells := 0, slots := 0, locals := 0 })).room s m [.ref (a 0), .int (iI kk)].toArray below meth c H locs 0 0 (MQ below (va_Qi (fun (r : Int32) (_ : Unit) => r = bi (decide (0 ≤ kk ∧ kk < g 0 0 4))) (fun _ _ => True) (fun q => s.heap.size ≤ q)) [.ref (a 0), .int (iI kk)].toArray s 0 0 (fun q => s.heap.size ≤ q)) (F0 m 0 ls []) from h9 s.heap [] hP hS
  clear hP hS
  intro H locs hP hS
  refine lv_iload_n hx hb dX4_isBook_0 rfl (lv_at hl 1 rfl) ?_
  refine n_if_lt hx hb (by unfold RI; omega) (tgt := 16) dX4_isBook_1 (by decide) (fun h1 => ?_) (fun h1 => ?_)
  · skip
    refine lv_iconst (v := iI 0) hx hb dX4_isBook_16 (by decide) ?_
    exact W.zret (v := (iI 0)) (ty := .boolean) hx hb hr (by decide +kernel) (fun t ht hW9 => ⟨⟨(iI 0), (), rfl, (show iI 0 = bi (decide (0 ≤ kk ∧ kk < g 0 0 4)) from by rw [show (decide (0 ≤ kk ∧ kk < g 0 0 4)) = false from by first | exact decide_eq_true (by omega) | exact decide_eq_false (by omega)]; rfl), trivial⟩, hS.F ht⟩) hS.2.2 dX4_isBook_17
  · skip
    refine lv_iload_n hx hb dX4_isBook_4 rfl (lv_at hl 1 rfl) ?_
    refine lv_aload_n hx hb dX4_isBook_5 rfl (lv_at hl 0 rfl) ?_
    have s2 := Wf.m4 hWf
    refine va_get (D := D) (ci := 4) (v := .int (iI (g 0 0 4))) (C := RX4) (T := TX4) (N := 19) hx hb hw hin_wsX40 hown hK hP 0 pw_0 rfl 4 (by decide) (hw _ kw_98) (fun _ h9 => h9) rfl dX4_isBook_6 ?_
    refine n_icmp_ge hx hb (by unfold RI; omega) (by unfold RI; omega) (tgt := 16) dX4_isBook_9 (by decide) (fun h3 => ?_) (fun h3 => ?_)
    · skip
      refine lv_iconst (v := iI 0) hx hb dX4_isBook_16 (by decide) ?_
      exact W.zret (v := (iI 0)) (ty := .boolean) hx hb hr (by decide +kernel) (fun t ht hW9 => ⟨⟨(iI 0), (), rfl, (show iI 0 = bi (decide (0 ≤ kk ∧ kk < g 0 0 4)) from by rw [show (decide (0 ≤ kk ∧ kk < g 0 0 4)) = false from by first | exact decide_eq_true (by omega) | exact decide_eq_false (by omega)]; rfl), trivial⟩, hS.F ht⟩) hS.2.2 dX4_isBook_17
    · skip
      refine lv_iconst (v := iI 1) hx hb dX4_isBook_12 (by decide) ?_
      refine lv_goto (tgt := 17) hx hb dX4_isBook_13 (by decide) ?_
      exact W.zret (v := (iI 1)) (ty := .boolean) hx hb hr (by decide +kernel) (fun t ht hW9 => ⟨⟨(iI 1), (), rfl, (show iI 1 = bi (decide (0 ≤ kk ∧ kk < g 0 0 4)) from by rw [show (decide (0 ≤ kk ∧ kk < g 0 0 4)) = true from by first | exact decide_eq_true (by omega) | exact decide_eq_false (by omega)]; rfl), trivial⟩, hS.F ht⟩) hS.2.2 dX4_isBook_17
set_option maxHeartbeats 4000000 in
set_option maxRecDepth 100000 in
theorem c_isJudge (l : Launch) (D : va_G) (a : Nat → Nat) (cH cB cJ cI : ClassId) (ha : pj a) (g : m_St) (vt : Nat → Int32) (sz : Nat) (kk : Int) (hWf : Wf g) (rk : -2147483648 ≤ kk ∧ kk ≤ 2147483647) : Met l yX4_isJudge (wc yX4_isJudge cX4_isJudge 2 (some .boolean)) ({ frames := 0, cells := 0, slots := 0, locals := 0 }) (va_Pc [.ref (a 0), .int (iI kk)] (pS D a cH cB cJ cI sz g vt)) (va_Qi (fun (r : Int32) (_ : Unit) => r = bi (decide (0 ≤ kk ∧ kk < g 0 0 5))) (fun _ _ => True) (fun q => sz ≤ q)) 0 0 (fun q => sz ≤ q) := by
  refine Met.ofW (cc := cX4_isJudge) (maxL := 2) (ret := (some .boolean)) (by decide +kernel) rfl ?_
  intro p e s m args below meth c s₁ B9 hml hv
  obtain ⟨rfl, hsz, hP, hK, hE⟩ := hv
  have hx := B9.exec
  have hb := B9.bytes
  have hr := B9.returns
  have hts := atoms_spec (ws := (wc yX4_isJudge cX4_isJudge 2 (some .boolean))) B9.pre
  have hw : ∀ w ∈ wsL_law0, w.before [.ref (a 0), .int (iI kk)].toArray s = true := fun w h => hts w (List.mem_cons_of_mem _ h)
  have hown : s.vm.findClass RX4 = some m.cls := findClass_of_methodNamed B9.named
  subst hsz
  have hS : va_S (fun q => s.heap.size ≤ q) s.heap s.heap [] := va_S.rf
  have hA : ∀ q : Nat, s.heap.size ≤ q → (fun q : Nat => s.heap.size ≤ q) q := fun _ h => h
  have hl := lv_entry ([.ref (a 0), .int (iI kk)]) (n := 2) (Nat.le_of_ble_eq_true rfl)
  rw [lg_entry_eq]
  generalize (lg_sl ([.ref (a 0), .int (iI kk)]) ++ List.replicate (2 - (lg_sl ([.ref (a 0), .int (iI kk)])).length) Slot.unset).toArray = ls at hl ⊢
  have hl : lv_has ls 2 [(0, .ref (a 0)), (1, .int (iI kk))] := hl
  suffices h9 : ∀ (H : Heap) (locs : List Loc), va_P D vwCl (pw a cH cB cJ cI g vt) H → va_S (fun q => s.heap.size ≤ q) s.heap H locs → W p l e (headSpec (wc yX4_isJudge cX4_isJudge 2 (some .boolean)) ({ frames := 0, cells := 0, slots := 0, locals := 0 })).room s m [.ref (a 0), .int (iI kk)].toArray below meth c H locs 0 0 (MQ below (va_Qi (fun (r : Int32) (_ : Unit) => r = bi (decide (0 ≤ kk ∧ kk < g 0 0 5))) (fun _ _ => True) (fun q => s.heap.size ≤ q)) [.ref (a 0), .int (iI kk)].toArray s 0 0 (fun q => s.heap.size ≤ q)) (F0 m 0 ls []) from h9 s.heap [] hP hS
  clear hP hS
  intro H locs hP hS
  refine lv_iload_n hx hb dX4_isJudge_0 rfl (lv_at hl 1 rfl) ?_
  refine n_if_lt hx hb (by unfold RI; omega) (tgt := 16) dX4_isJudge_1 (by decide) (fun h1 => ?_) (fun h1 => ?_)
  · skip
    refine lv_iconst (v := iI 0) hx hb dX4_isJudge_16 (by decide) ?_
    exact W.zret (v := (iI 0)) (ty := .boolean) hx hb hr (by decide +kernel) (fun t ht hW9 => ⟨⟨(iI 0), (), rfl, (show iI 0 = bi (decide (0 ≤ kk ∧ kk < g 0 0 5)) from by rw [show (decide (0 ≤ kk ∧ kk < g 0 0 5)) = false from by first | exact decide_eq_true (by omega) | exact decide_eq_false (by omega)]; rfl), trivial⟩, hS.F ht⟩) hS.2.2 dX4_isJudge_17
  · skip
    refine lv_iload_n hx hb dX4_isJudge_4 rfl (lv_at hl 1 rfl) ?_
    refine lv_aload_n hx hb dX4_isJudge_5 rfl (lv_at hl 0 rfl) ?_
    have s2 := Wf.m5 hWf
    refine va_get (D := D) (ci := 4) (v := .int (iI (g 0 0 5))) (C := RX4) (T := TX4) (N := 19) hx hb hw hin_wsX40 hown hK hP 0 pw_0 rfl 5 (by decide) (hw _ kw_81) (fun _ h9 => h9) rfl dX4_isJudge_6 ?_
    refine n_icmp_ge hx hb (by unfold RI; omega) (by unfold RI; omega) (tgt := 16) dX4_isJudge_9 (by decide) (fun h3 => ?_) (fun h3 => ?_)
    · skip
      refine lv_iconst (v := iI 0) hx hb dX4_isJudge_16 (by decide) ?_
      exact W.zret (v := (iI 0)) (ty := .boolean) hx hb hr (by decide +kernel) (fun t ht hW9 => ⟨⟨(iI 0), (), rfl, (show iI 0 = bi (decide (0 ≤ kk ∧ kk < g 0 0 5)) from by rw [show (decide (0 ≤ kk ∧ kk < g 0 0 5)) = false from by first | exact decide_eq_true (by omega) | exact decide_eq_false (by omega)]; rfl), trivial⟩, hS.F ht⟩) hS.2.2 dX4_isJudge_17
    · skip
      refine lv_iconst (v := iI 1) hx hb dX4_isJudge_12 (by decide) ?_
      refine lv_goto (tgt := 17) hx hb dX4_isJudge_13 (by decide) ?_
      exact W.zret (v := (iI 1)) (ty := .boolean) hx hb hr (by decide +kernel) (fun t ht hW9 => ⟨⟨(iI 1), (), rfl, (show iI 1 = bi (decide (0 ≤ kk ∧ kk < g 0 0 5)) from by rw [show (decide (0 ≤ kk ∧ kk < g 0 0 5)) = true from by first | exact decide_eq_true (by omega) | exact decide_eq_false (by omega)]; rfl), trivial⟩, hS.F ht⟩) hS.2.2 dX4_isJudge_17
set_option maxHeartbeats 4000000 in
set_option maxRecDepth 100000 in
theorem c_bit (l : Launch) (D : va_G) (a : Nat → Nat) (cH cB cJ cI : ClassId) (ha : pj a) (g : m_St) (vt : Nat → Int32) (sz : Nat) (kk : Int) (k0 : 0 ≤ kk ∧ kk < 31) : Met l yX4_bit (wc yX4_bit cX4_bit 1 (some .int)) ({ frames := 0, cells := 0, slots := 0, locals := 0 }) (va_Pc [.int (iI kk)] (pS D a cH cB cJ cI sz g vt)) (va_Qi (fun (r : Int32) (_ : Unit) => r = iI (m_bt kk)) (fun _ _ => True) (fun q => sz ≤ q)) 0 0 (fun q => sz ≤ q) := by
  refine Met.ofW (cc := cX4_bit) (maxL := 1) (ret := (some .int)) (by decide +kernel) rfl ?_
  intro p e s m args below meth c s₁ B9 hml hv
  obtain ⟨rfl, hsz, hP, hK, hE⟩ := hv
  have hx := B9.exec
  have hb := B9.bytes
  have hr := B9.returns
  have hts := atoms_spec (ws := (wc yX4_bit cX4_bit 1 (some .int))) B9.pre
  have hw : ∀ w ∈ wsL_law0, w.before [.int (iI kk)].toArray s = true := fun w h => hts w (List.mem_cons_of_mem _ h)
  have hown : s.vm.findClass RX4 = some m.cls := findClass_of_methodNamed B9.named
  subst hsz
  have hS : va_S (fun q => s.heap.size ≤ q) s.heap s.heap [] := va_S.rf
  have hA : ∀ q : Nat, s.heap.size ≤ q → (fun q : Nat => s.heap.size ≤ q) q := fun _ h => h
  have hl := lv_entry ([.int (iI kk)]) (n := 1) (Nat.le_of_ble_eq_true rfl)
  rw [lg_entry_eq]
  generalize (lg_sl ([.int (iI kk)]) ++ List.replicate (1 - (lg_sl ([.int (iI kk)])).length) Slot.unset).toArray = ls at hl ⊢
  have hl : lv_has ls 1 [(0, .int (iI kk))] := hl
  suffices h9 : ∀ (H : Heap) (locs : List Loc), va_P D vwCl (pw a cH cB cJ cI g vt) H → va_S (fun q => s.heap.size ≤ q) s.heap H locs → W p l e (headSpec (wc yX4_bit cX4_bit 1 (some .int)) ({ frames := 0, cells := 0, slots := 0, locals := 0 })).room s m [.int (iI kk)].toArray below meth c H locs 0 0 (MQ below (va_Qi (fun (r : Int32) (_ : Unit) => r = iI (m_bt kk)) (fun _ _ => True) (fun q => s.heap.size ≤ q)) [.int (iI kk)].toArray s 0 0 (fun q => s.heap.size ≤ q)) (F0 m 0 ls []) from h9 s.heap [] hP hS
  clear hP hS
  intro H locs hP hS
  refine lv_iconst (v := iI 1) hx hb dX4_bit_0 (by decide) ?_
  refine lv_iload_n hx hb dX4_bit_1 rfl (lv_at hl 0 rfl) ?_
  refine n_shl1 hx hb (by omega) (by omega) dX4_bit_2 ?_
  have s1 := bt_nn kk
  exact W.iret (v := (iI (m_bt kk))) hx hb hr (fun t ht hW9 => ⟨⟨(iI (m_bt kk)), (), rfl, rfl, trivial⟩, hS.F ht⟩) hS.2.2 dX4_bit_3
set_option maxHeartbeats 4000000 in
set_option maxRecDepth 100000 in
theorem c_has (l : Launch) (D : va_G) (a : Nat → Nat) (cH cB cJ cI : ClassId) (ha : pj a) (g : m_St) (vt : Nat → Int32) (sz : Nat) (S : Int) (kk : Int) (hSS : 0 ≤ S ∧ S < 2147483648) (k0 : -1 ≤ kk ∧ kk < 31) : Met l yX4_has (wc yX4_has cX4_has 2 (some .boolean)) ({ frames := 0, cells := 0, slots := 0, locals := 0 }) (va_Pc [.int (iI S), .int (iI kk)] (pS D a cH cB cJ cI sz g vt)) (va_Qi (fun (r : Int32) (_ : Unit) => r = bi (m_has S kk)) (fun _ _ => True) (fun q => sz ≤ q)) 0 0 (fun q => sz ≤ q) := by
  refine Met.ofW (cc := cX4_has) (maxL := 2) (ret := (some .boolean)) (by decide +kernel) rfl ?_
  intro p e s m args below meth c s₁ B9 hml hv
  obtain ⟨rfl, hsz, hP, hK, hE⟩ := hv
  have hx := B9.exec
  have hb := B9.bytes
  have hr := B9.returns
  have hts := atoms_spec (ws := (wc yX4_has cX4_has 2 (some .boolean))) B9.pre
  have hw : ∀ w ∈ wsL_law0, w.before [.int (iI S), .int (iI kk)].toArray s = true := fun w h => hts w (List.mem_cons_of_mem _ h)
  have hown : s.vm.findClass RX4 = some m.cls := findClass_of_methodNamed B9.named
  subst hsz
  have hS : va_S (fun q => s.heap.size ≤ q) s.heap s.heap [] := va_S.rf
  have hA : ∀ q : Nat, s.heap.size ≤ q → (fun q : Nat => s.heap.size ≤ q) q := fun _ h => h
  have hl := lv_entry ([.int (iI S), .int (iI kk)]) (n := 2) (Nat.le_of_ble_eq_true rfl)
  rw [lg_entry_eq]
  generalize (lg_sl ([.int (iI S), .int (iI kk)]) ++ List.replicate (2 - (lg_sl ([.int (iI S), .int (iI kk)])).length) Slot.unset).toArray = ls at hl ⊢
  have hl : lv_has ls 2 [(0, .int (iI S)), (1, .int (iI kk))] := hl
  suffices h9 : ∀ (H : Heap) (locs : List Loc), va_P D vwCl (pw a cH cB cJ cI g vt) H → va_S (fun q => s.heap.size ≤ q) s.heap H locs → W p l e (headSpec (wc yX4_has cX4_has 2 (some .boolean)) ({ frames := 0, cells := 0, slots := 0, locals := 0 })).room s m [.int (iI S), .int (iI kk)].toArray below meth c H locs 0 0 (MQ below (va_Qi (fun (r : Int32) (_ : Unit) => r = bi (m_has S kk)) (fun _ _ => True) (fun q => s.heap.size ≤ q)) [.int (iI S), .int (iI kk)].toArray s 0 0 (fun q => s.heap.size ≤ q)) (F0 m 0 ls []) from h9 s.heap [] hP hS
  clear hP hS
  intro H locs hP hS
  refine lv_iload_n hx hb dX4_has_0 rfl (lv_at hl 0 rfl) ?_
  refine lv_iconst (v := iI 1) hx hb dX4_has_1 (by decide) ?_
  refine lv_iload_n hx hb dX4_has_2 rfl (lv_at hl 1 rfl) ?_
  rcases (show kk = -1 ∨ 0 ≤ kk from by omega) with hn1 | hn1
  · skip
    refine lv_ishl hx hb dX4_has_3 ?_
    refine lv_iand hx hb dX4_has_4 ?_
    rw [show iI S &&& (iI 1 <<< (iI kk &&& 31)) = iI 0 from by rw [hn1]; exact bt_m1 hSS]
    refine n_if_eq hx hb (by unfold RI; omega) (tgt := 12) dX4_has_5 (by decide) (fun h1 => ?_) (fun h1 => absurd h1 (by intro h1; omega))
    refine lv_iconst (v := iI 0) hx hb dX4_has_12 (by decide) ?_
    exact W.zret (v := (iI 0)) (ty := .boolean) hx hb hr (by decide +kernel) (fun t ht hW9 => ⟨⟨(iI 0), (), rfl, (show iI 0 = bi (m_has S kk) from by rw [show (m_has S kk) = false from by first | exact ba_f hn1 h1 | exact ba_t hn1 h1 | (rw [hn1]; exact has_n (by omega))]; rfl), trivial⟩, hS.F ht⟩) hS.2.2 dX4_has_13
  · skip
    refine n_shl1 hx hb (by omega) (by omega) dX4_has_3 ?_
    have s2 := bt_nn kk
    refine n_and hx hb (by omega) (by omega) dX4_has_4 ?_
    have s3 := ba_nn S (m_bt kk)
    have s4 := ba_le (S := S) (T := (m_bt kk)) (by omega)
    refine n_if_eq hx hb (by unfold RI; omega) (tgt := 12) dX4_has_5 (by decide) (fun h5 => ?_) (fun h5 => ?_)
    · skip
      refine lv_iconst (v := iI 0) hx hb dX4_has_12 (by decide) ?_
      exact W.zret (v := (iI 0)) (ty := .boolean) hx hb hr (by decide +kernel) (fun t ht hW9 => ⟨⟨(iI 0), (), rfl, (show iI 0 = bi (m_has S kk) from by rw [show (m_has S kk) = false from by first | exact ba_f hn1 h5 | exact ba_t hn1 h5 | (rw [hn1]; exact has_n (by omega))]; rfl), trivial⟩, hS.F ht⟩) hS.2.2 dX4_has_13
    · skip
      refine lv_iconst (v := iI 1) hx hb dX4_has_8 (by decide) ?_
      refine lv_goto (tgt := 13) hx hb dX4_has_9 (by decide) ?_
      exact W.zret (v := (iI 1)) (ty := .boolean) hx hb hr (by decide +kernel) (fun t ht hW9 => ⟨⟨(iI 1), (), rfl, (show iI 1 = bi (m_has S kk) from by rw [show (m_has S kk) = true from by first | exact ba_f hn1 h5 | exact ba_t hn1 h5 | (rw [hn1]; exact has_n (by omega))]; rfl), trivial⟩, hS.F ht⟩) hS.2.2 dX4_has_13
set_option maxHeartbeats 4000000 in
set_option maxRecDepth 100000 in
theorem c_isAgainst (l : Launch) (D : va_G) (a : Nat → Nat) (cH cB cJ cI : ClassId) (ha : pj a) (g : m_St) (vt : Nat → Int32) (sz : Nat) (jj : Int) (au : Int) (hWf : Wf g) (j0 : 0 ≤ jj ∧ jj < 5) (a0 : 0 ≤ au ∧ au ≤ 9) : Met l yX2_isAgainst (wc yX2_isAgainst cX2_isAgainst 2 (some .boolean)) ({ frames := 0, cells := 0, slots := 0, locals := 0 }) (va_Pc [.ref (a (28 + 6 * jj.toNat)), .int (iI au)] (pS D a cH cB cJ cI sz g vt)) (va_Qi (fun (r : Int32) (_ : Unit) => r = bi (m_agn g jj au)) (fun _ _ => True) (fun q => sz ≤ q)) 0 0 (fun q => sz ≤ q) := by
  refine Met.ofW (cc := cX2_isAgainst) (maxL := 2) (ret := (some .boolean)) (by decide +kernel) rfl ?_
  intro p e s m args below meth c s₁ B9 hml hv
  obtain ⟨rfl, hsz, hP, hK, hE⟩ := hv
  have hx := B9.exec
  have hb := B9.bytes
  have hr := B9.returns
  have hts := atoms_spec (ws := (wc yX2_isAgainst cX2_isAgainst 2 (some .boolean))) B9.pre
  have hw : ∀ w ∈ wsL_law0, w.before [.ref (a (28 + 6 * jj.toNat)), .int (iI au)].toArray s = true := fun w h => hts w (List.mem_cons_of_mem _ h)
  have hown : s.vm.findClass RX2 = some m.cls := findClass_of_methodNamed B9.named
  subst hsz
  have hS : va_S (fun q => s.heap.size ≤ q) s.heap s.heap [] := va_S.rf
  have hA : ∀ q : Nat, s.heap.size ≤ q → (fun q : Nat => s.heap.size ≤ q) q := fun _ h => h
  have hl := lv_entry ([.ref (a (28 + 6 * jj.toNat)), .int (iI au)]) (n := 2) (Nat.le_of_ble_eq_true rfl)
  rw [lg_entry_eq]
  generalize (lg_sl ([.ref (a (28 + 6 * jj.toNat)), .int (iI au)]) ++ List.replicate (2 - (lg_sl ([.ref (a (28 + 6 * jj.toNat)), .int (iI au)])).length) Slot.unset).toArray = ls at hl ⊢
  have hl : lv_has ls 2 [(0, .ref (a (28 + 6 * jj.toNat))), (1, .int (iI au))] := hl
  suffices h9 : ∀ (H : Heap) (locs : List Loc), va_P D vwCl (pw a cH cB cJ cI g vt) H → va_S (fun q => s.heap.size ≤ q) s.heap H locs → W p l e (headSpec (wc yX2_isAgainst cX2_isAgainst 2 (some .boolean)) ({ frames := 0, cells := 0, slots := 0, locals := 0 })).room s m [.ref (a (28 + 6 * jj.toNat)), .int (iI au)].toArray below meth c H locs 0 0 (MQ below (va_Qi (fun (r : Int32) (_ : Unit) => r = bi (m_agn g jj au)) (fun _ _ => True) (fun q => s.heap.size ≤ q)) [.ref (a (28 + 6 * jj.toNat)), .int (iI au)].toArray s 0 0 (fun q => s.heap.size ≤ q)) (F0 m 0 ls []) from h9 s.heap [] hP hS
  clear hP hS
  intro H locs hP hS
  refine lv_aload_n hx hb dX2_isAgainst_0 rfl (lv_at hl 0 rfl) ?_
  have s1 := Wf.j3 hWf (k := jj) (by omega) (by omega)
  refine va_get (D := D) (ci := 2) (v := .int (iI (g 3 jj 3))) (C := RX2) (T := TX2) (N := 16) hx hb hw hin_wsX20 hown hK hP (28 + 6 * jj.toNat) (pw_J (j := jj) (by omega) (by omega)) rfl 3 (by decide) (hw _ kw_242) (fun _ h9 => h9) rfl dX2_isAgainst_1 ?_
  refine lv_iconst (v := iI 1) hx hb dX2_isAgainst_4 (by decide) ?_
  refine lv_iload_n hx hb dX2_isAgainst_5 rfl (lv_at hl 1 rfl) ?_
  refine n_shl1 hx hb (by omega) (by omega) dX2_isAgainst_6 ?_
  have s2 := bt_nn au
  refine n_and hx hb (by omega) (by omega) dX2_isAgainst_7 ?_
  have s3 := ba_nn (g 3 jj 3) (m_bt au)
  have s4 := ba_le (S := g 3 jj 3) (T := (m_bt au)) (by omega)
  refine n_if_eq hx hb (by unfold RI; omega) (tgt := 15) dX2_isAgainst_8 (by decide) (fun h5 => ?_) (fun h5 => ?_)
  · skip
    refine lv_iconst (v := iI 0) hx hb dX2_isAgainst_15 (by decide) ?_
    exact W.zret (v := (iI 0)) (ty := .boolean) hx hb hr (by decide +kernel) (fun t ht hW9 => ⟨⟨(iI 0), (), rfl, (show iI 0 = bi (m_agn g jj au) from by rw [show (m_agn g jj au) = false from by first | exact ba_f (by omega) h5 | exact ba_t (by omega) h5]; rfl), trivial⟩, hS.F ht⟩) hS.2.2 dX2_isAgainst_16
  · skip
    refine lv_iconst (v := iI 1) hx hb dX2_isAgainst_11 (by decide) ?_
    refine lv_goto (tgt := 16) hx hb dX2_isAgainst_12 (by decide) ?_
    exact W.zret (v := (iI 1)) (ty := .boolean) hx hb hr (by decide +kernel) (fun t ht hW9 => ⟨⟨(iI 1), (), rfl, (show iI 1 = bi (m_agn g jj au) from by rw [show (m_agn g jj au) = true from by first | exact ba_f (by omega) h5 | exact ba_t (by omega) h5]; rfl), trivial⟩, hS.F ht⟩) hS.2.2 dX2_isAgainst_16
set_option maxHeartbeats 4000000 in
set_option maxRecDepth 100000 in
theorem c_compare (l : Launch) (D : va_G) (a : Nat → Nat) (cH cB cJ cI : ClassId) (ha : pj a) (g : m_St) (vt : Nat → Int32) (sz : Nat) (xx : Int) (yy : Int) (r1 : -2147483648 ≤ xx ∧ xx ≤ 2147483647) (r2 : -2147483648 ≤ yy ∧ yy ≤ 2147483647) : Met l yJ6_compare_7cf53 (wc yJ6_compare_7cf53 cJ6_compare_7cf53 2 (some .int)) ({ frames := 0, cells := 0, slots := 0, locals := 0 }) (va_Pc [.int (iI xx), .int (iI yy)] (pS D a cH cB cJ cI sz g vt)) (va_Qi (fun (r : Int32) (_ : Unit) => r = iI (m_cmp xx yy)) (fun _ _ => True) (fun q => sz ≤ q)) 0 0 (fun q => sz ≤ q) := by
  refine Met.ofW (cc := cJ6_compare_7cf53) (maxL := 2) (ret := (some .int)) (by decide +kernel) rfl ?_
  intro p e s m args below meth c s₁ B9 hml hv
  obtain ⟨rfl, hsz, hP, hK, hE⟩ := hv
  have hx := B9.exec
  have hb := B9.bytes
  have hr := B9.returns
  have hts := atoms_spec (ws := (wc yJ6_compare_7cf53 cJ6_compare_7cf53 2 (some .int))) B9.pre
  have hw : ∀ w ∈ wsL_law0, w.before [.int (iI xx), .int (iI yy)].toArray s = true := fun w h => hts w (List.mem_cons_of_mem _ h)
  have hown : s.vm.findClass RJ6 = some m.cls := findClass_of_methodNamed B9.named
  subst hsz
  have hS : va_S (fun q => s.heap.size ≤ q) s.heap s.heap [] := va_S.rf
  have hA : ∀ q : Nat, s.heap.size ≤ q → (fun q : Nat => s.heap.size ≤ q) q := fun _ h => h
  have hl := lv_entry ([.int (iI xx), .int (iI yy)]) (n := 2) (Nat.le_of_ble_eq_true rfl)
  rw [lg_entry_eq]
  generalize (lg_sl ([.int (iI xx), .int (iI yy)]) ++ List.replicate (2 - (lg_sl ([.int (iI xx), .int (iI yy)])).length) Slot.unset).toArray = ls at hl ⊢
  have hl : lv_has ls 2 [(0, .int (iI xx)), (1, .int (iI yy))] := hl
  suffices h9 : ∀ (H : Heap) (locs : List Loc), va_P D vwCl (pw a cH cB cJ cI g vt) H → va_S (fun q => s.heap.size ≤ q) s.heap H locs → W p l e (headSpec (wc yJ6_compare_7cf53 cJ6_compare_7cf53 2 (some .int)) ({ frames := 0, cells := 0, slots := 0, locals := 0 })).room s m [.int (iI xx), .int (iI yy)].toArray below meth c H locs 0 0 (MQ below (va_Qi (fun (r : Int32) (_ : Unit) => r = iI (m_cmp xx yy)) (fun _ _ => True) (fun q => s.heap.size ≤ q)) [.int (iI xx), .int (iI yy)].toArray s 0 0 (fun q => s.heap.size ≤ q)) (F0 m 0 ls []) from h9 s.heap [] hP hS
  clear hP hS
  intro H locs hP hS
  refine lv_iload_n hx hb dJ6_compare_7cf53_0 rfl (lv_at hl 0 rfl) ?_
  refine lv_iload_n hx hb dJ6_compare_7cf53_1 rfl (lv_at hl 1 rfl) ?_
  refine n_icmp_ge hx hb (by unfold RI; omega) (by unfold RI; omega) (tgt := 9) dJ6_compare_7cf53_2 (by decide) (fun h1 => ?_) (fun h1 => ?_)
  · skip
    refine lv_iload_n hx hb dJ6_compare_7cf53_9 rfl (lv_at hl 0 rfl) ?_
    refine lv_iload_n hx hb dJ6_compare_7cf53_10 rfl (lv_at hl 1 rfl) ?_
    refine n_icmp_ne hx hb (by unfold RI; omega) (by unfold RI; omega) (tgt := 18) dJ6_compare_7cf53_11 (by decide) (fun h2 => ?_) (fun h2 => ?_)
    · skip
      refine lv_iconst (v := iI 1) hx hb dJ6_compare_7cf53_18 (by decide) ?_
      exact W.iret (v := (iI 1)) hx hb hr (fun t ht hW9 => ⟨⟨(iI 1), (), rfl, (congrArg iI (by unfold m_cmp; (repeat' split) <;> omega)), trivial⟩, hS.F ht⟩) hS.2.2 dJ6_compare_7cf53_19
    · skip
      refine lv_iconst (v := iI 0) hx hb dJ6_compare_7cf53_14 (by decide) ?_
      refine lv_goto (tgt := 19) hx hb dJ6_compare_7cf53_15 (by decide) ?_
      exact W.iret (v := (iI 0)) hx hb hr (fun t ht hW9 => ⟨⟨(iI 0), (), rfl, (congrArg iI (by unfold m_cmp; (repeat' split) <;> omega)), trivial⟩, hS.F ht⟩) hS.2.2 dJ6_compare_7cf53_19
  · skip
    refine lv_iconst (v := iI (-1)) hx hb dJ6_compare_7cf53_5 (by decide) ?_
    refine lv_goto (tgt := 19) hx hb dJ6_compare_7cf53_6 (by decide) ?_
    exact W.iret (v := (iI (-1))) hx hb hr (fun t ht hW9 => ⟨⟨(iI (-1)), (), rfl, (congrArg iI (by unfold m_cmp; (repeat' split) <;> omega)), trivial⟩, hS.F ht⟩) hS.2.2 dJ6_compare_7cf53_19

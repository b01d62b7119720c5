set_option maxHeartbeats 4000000 in
set_option maxRecDepth 100000 in
theorem c_longListable (l : Launch) (D : va_G) (a : Nat → Nat) (cH cB cJ cI : ClassId) (ha : pj a) (g : m_St) (vt : Nat → Int32) (sz : Nat) (hWf : Wf g) : Met l yX4_longListable (wc yX4_longListable cX4_longListable 3 (some .int)) ({ frames := 4, cells := 0, slots := 0, locals := 88 }) (va_Pc [.ref (a 0)] (pS D a cH cB cJ cI sz g vt)) (va_Qi (fun (r : Int32) (_ : Unit) => r = iI (m_listable g)) (fun _ _ => True) (fun q => sz ≤ q)) 0 0 (fun q => sz ≤ q) := by
  refine Met.ofW (cc := cX4_longListable) (maxL := 3) (ret := (some .int)) (by decide +kernel) rfl ?_
  intro p e s m args below meth c s₁ B9 hml hv
  obtain ⟨rfl, hsz, hP, hK, hE⟩ := hv
  have hx := B9.exec
  have hb := B9.bytes
  have hr := B9.returns
  have hts := atoms_spec (ws := (wc yX4_longListable cX4_longListable 3 (some .int))) B9.pre
  have hw : ∀ w ∈ wsL_law0, w.before [.ref (a 0)].toArray s = true := fun w h => hts w (List.mem_cons_of_mem _ h)
  have hown : s.vm.findClass RX4 = some m.cls := findClass_of_methodNamed B9.named
  subst hsz
  have hS : va_S (fun q => s.heap.size ≤ q) s.heap s.heap [] := va_S.rf
  have hA : ∀ q : Nat, s.heap.size ≤ q → (fun q : Nat => s.heap.size ≤ q) q := fun _ h => h
  have hl := lv_entry ([.ref (a 0)]) (n := 3) (Nat.le_of_ble_eq_true rfl)
  rw [lg_entry_eq]
  generalize (lg_sl ([.ref (a 0)]) ++ List.replicate (3 - (lg_sl ([.ref (a 0)])).length) Slot.unset).toArray = ls at hl ⊢
  have hl : lv_has ls 3 [(0, .ref (a 0))] := hl
  suffices h9 : ∀ (H : Heap) (locs : List Loc), va_P D vwCl (pw a cH cB cJ cI g vt) H → va_S (fun q => s.heap.size ≤ q) s.heap H locs → W p l e (headSpec (wc yX4_longListable cX4_longListable 3 (some .int)) ({ frames := 4, cells := 0, slots := 0, locals := 88 })).room s m [.ref (a 0)].toArray below meth c H locs 0 0 (MQ below (va_Qi (fun (r : Int32) (_ : Unit) => r = iI (m_listable g)) (fun _ _ => True) (fun q => s.heap.size ≤ q)) [.ref (a 0)].toArray s 0 0 (fun q => s.heap.size ≤ q)) (F0 m 0 ls []) from h9 s.heap [] hP hS
  clear hP hS
  intro H locs hP hS
  have m4 := Wf.m4 hWf
  refine lv_iconst (v := iI 0) hx hb dX4_longListable_0 (by decide) ?_
  refine lv_istore_n (lv' := [(1, .int (iI 0)), (0, .ref (a 0))]) hx hb dX4_longListable_1 rfl hl (by decide) rfl (fun ls hl => ?_)
  refine lv_iconst (v := iI 0) hx hb dX4_longListable_2 (by decide) ?_
  refine lv_istore_n (lv' := [(2, .int (iI 0)), (1, .int (iI 0)), (0, .ref (a 0))]) hx hb dX4_longListable_3 rfl hl (by decide) rfl (fun ls hl => ?_)
  have loop4 : ∀ (d n : Nat) (x1 : Int) (H : Heap) (locs : List Loc) (ls : Array Slot), n + d = (g 0 0 4).toNat → x1 = m_fo (fun b S => bif m_ent g b && m_marksEnough g b then m_bo S (m_bt b) else S) 0 n → (0 ≤ x1 ∧ x1 < 65536) → va_P D vwCl (pw a cH cB cJ cI g vt) H → va_S (fun q => s.heap.size ≤ q) s.heap H locs → lv_has ls 3 [(2, .int (iI ((n : Nat) : Int))), (1, .int (iI x1)), (0, .ref (a 0))] → W p l e (headSpec (wc yX4_longListable cX4_longListable 3 (some .int)) ({ frames := 4, cells := 0, slots := 0, locals := 88 })).room s m [.ref (a 0)].toArray below meth c H locs 0 0 (MQ below (va_Qi (fun (r : Int32) (_ : Unit) => r = iI (m_listable g)) (fun _ _ => True) (fun q => s.heap.size ≤ q)) [.ref (a 0)].toArray s 0 0 (fun q => s.heap.size ≤ q)) (F0 m 4 ls []) := by
    intro d
    induction d with
    | zero =>
      intro n x1 H locs ls hn hx1 hs hP hS hl
      obtain rfl : n = (g 0 0 4).toNat := by omega
      refine lv_iload_n hx hb dX4_longListable_4 rfl (lv_at hl 0 rfl) ?_
      refine lv_aload_n hx hb dX4_longListable_5 rfl (lv_at hl 2 rfl) ?_
      have s1 := Wf.m4 hWf
      refine va_get (D := D) (ci := 4) (v := .int (iI (g 0 0 4))) (C := RX4) (T := TX4) (N := 19) hx hb hw hin_wsX40 hown hK hP 0 pw_0 rfl 4 (by decide) (hw _ kw_98) (fun _ h9 => h9) rfl dX4_longListable_6 ?_
      refine n_icmp_ge hx hb (by unfold RI; omega) (by unfold RI; omega) (tgt := 41) dX4_longListable_9 (by decide) (fun h2 => ?_) (fun h2 => absurd h2 (by intro h2; omega))
      refine lv_iload_n hx hb dX4_longListable_41 rfl (lv_at hl 1 rfl) ?_
      exact W.iret (v := (iI x1)) hx hb hr (fun t ht hW9 => ⟨⟨(iI x1), (), rfl, (congrArg iI (by rw [hx1]; rfl)), trivial⟩, hS.F ht⟩) hS.2.2 dX4_longListable_42
    | succ d ih4 =>
      intro n x1 H locs ls hn hx1 hs hP hS hl
      refine lv_iload_n hx hb dX4_longListable_4 rfl (lv_at hl 0 rfl) ?_
      refine lv_aload_n hx hb dX4_longListable_5 rfl (lv_at hl 2 rfl) ?_
      have s3 := Wf.m4 hWf
      refine va_get (D := D) (ci := 4) (v := .int (iI (g 0 0 4))) (C := RX4) (T := TX4) (N := 19) hx hb hw hin_wsX40 hown hK hP 0 pw_0 rfl 4 (by decide) (hw _ kw_98) (fun _ h9 => h9) rfl dX4_longListable_6 ?_
      refine n_icmp_ge hx hb (by unfold RI; omega) (by unfold RI; omega) (tgt := 41) dX4_longListable_9 (by decide) (fun h4 => absurd h4 (by intro h4; omega)) (fun h4 => ?_)
      refine lv_aload_n hx hb dX4_longListable_12 rfl (lv_at hl 2 rfl) ?_
      refine lv_iload_n hx hb dX4_longListable_13 rfl (lv_at hl 0 rfl) ?_
      refine va_calli (va_runV (As := [.int (iI ((n : Nat) : Int))]) (rest := []) ⟨hx, hb, hml, hown, hw⟩ (c_isEntered l D a cH cB cJ cI ha g vt H.size ((n : Nat) : Int) hWf (by omega)) (cwV 1 hw (gA_V kw_107 kw_108 kw_109 kw_2 kw_110) rfl rfl rfl (by decide +kernel) ⟨Nat.le_of_ble_eq_true rfl, Nat.le_of_ble_eq_true rfl⟩) (pS_v (ci := 4) (q0 := 0) rfl pw_0 hP hK hE) rfl rfl hl.1 rfl (lv_room (Nat.le_of_ble_eq_true rfl)) dX4_longListable_14 ⟨Nat.le_of_ble_eq_true rfl, Nat.le_of_ble_eq_true rfl⟩) hS (fun q h1 h2 => ro_A h1 h2) (fun q h => ro_F hS hA q h) (fun r u t H1 locs ht hvm hw9 hB9 hz1 hk1 hS => ?_)
      have hw9 : r = (bi (m_ent g ((n : Nat) : Int))) := hw9
      subst hw9
      have hP := ro_P hP hk1
      generalize H1 = H at hP hS ⊢
      refine n_b_eq hx hb (tgt := 35) dX4_longListable_17 (by decide) (fun h5 => ?_) (fun h5 => ?_)
      · skip
        refine n_inc (lv' := [(2, .int (iI (((n : Nat) : Int) + 1))), (1, .int (iI x1)), (0, .ref (a 0))]) hx hb dX4_longListable_35 hl (k := 0) rfl (by decide) rfl (fun ls hl => ?_)
        refine lv_goto (tgt := 4) hx hb dX4_longListable_38 (by decide) ?_
        have hl : lv_has ls 3 [(2, .int (iI (((n : Nat) : Int) + 1))), (1, .int (iI x1)), (0, .ref (a 0))] := lv_sub hl [0, 1, 2] rfl
        have e6 : (((n : Nat) : Int) + 1) = (((n + 1) : Nat) : Int) := by rfl
        have hl : lv_has ls 3 [(2, .int (iI (((n + 1) : Nat) : Int))), (1, .int (iI x1)), (0, .ref (a 0))] := lv_cast hl (by rw [e6])
        exact ih4 (n + 1) x1 H locs ls (by omega) (by simp only [m_fo, ← hx1]; simp [h4, Int.not_le.mpr h4, h5]) (by first | assumption | exact bo_16 hs (by omega) (by omega)) hP hS hl
      · skip
        refine lv_aload_n hx hb dX4_longListable_20 rfl (lv_at hl 2 rfl) ?_
        refine lv_iload_n hx hb dX4_longListable_21 rfl (lv_at hl 0 rfl) ?_
        refine va_calli (va_runV (As := [.int (iI ((n : Nat) : Int))]) (rest := []) ⟨hx, hb, hml, hown, hw⟩ (c_hasMarksEnough l D a cH cB cJ cI ha g vt H.size ((n : Nat) : Int) hWf (by omega)) (cwV 1 hw (gA_V kw_350 kw_351 kw_352 kw_2 kw_353) rfl rfl rfl (by decide +kernel) ⟨Nat.le_of_ble_eq_true rfl, Nat.le_of_ble_eq_true rfl⟩) (pS_v (ci := 4) (q0 := 0) rfl pw_0 hP hK hE) rfl rfl hl.1 rfl (lv_room (Nat.le_of_ble_eq_true rfl)) dX4_longListable_22 ⟨Nat.le_of_ble_eq_true rfl, Nat.le_of_ble_eq_true rfl⟩) hS (fun q h1 h2 => ro_A h1 h2) (fun q h => ro_F hS hA q h) (fun r u t H1 locs ht hvm hw9 hB9 hz1 hk1 hS => ?_)
        have hw9 : r = (bi (m_marksEnough g ((n : Nat) : Int))) := hw9
        subst hw9
        have hP := ro_P hP hk1
        generalize H1 = H at hP hS ⊢
        refine n_b_eq hx hb (tgt := 35) dX4_longListable_25 (by decide) (fun h7 => ?_) (fun h7 => ?_)
        · skip
          refine n_inc (lv' := [(2, .int (iI (((n : Nat) : Int) + 1))), (1, .int (iI x1)), (0, .ref (a 0))]) hx hb dX4_longListable_35 hl (k := 0) rfl (by decide) rfl (fun ls hl => ?_)
          refine lv_goto (tgt := 4) hx hb dX4_longListable_38 (by decide) ?_
          have hl : lv_has ls 3 [(2, .int (iI (((n : Nat) : Int) + 1))), (1, .int (iI x1)), (0, .ref (a 0))] := lv_sub hl [0, 1, 2] rfl
          have e8 : (((n : Nat) : Int) + 1) = (((n + 1) : Nat) : Int) := by rfl
          have hl : lv_has ls 3 [(2, .int (iI (((n + 1) : Nat) : Int))), (1, .int (iI x1)), (0, .ref (a 0))] := lv_cast hl (by rw [e8])
          exact ih4 (n + 1) x1 H locs ls (by omega) (by simp only [m_fo, ← hx1]; simp [h4, Int.not_le.mpr h4, h5, h7]) (by first | assumption | exact bo_16 hs (by omega) (by omega)) hP hS hl
        · skip
          refine lv_iload_n hx hb dX4_longListable_28 rfl (lv_at hl 1 rfl) ?_
          refine lv_iload_n hx hb dX4_longListable_29 rfl (lv_at hl 0 rfl) ?_
          refine va_calli (va_runS (As := [.int (iI ((n : Nat) : Int))]) (rest := [.int (iI x1)]) ⟨hx, hb, hml, hown, hw⟩ (c_bit l D a cH cB cJ cI ha g vt H.size ((n : Nat) : Int) (by omega)) (va_cwS 1 hw (gA_S kw_171 kw_172 kw_2 kw_173) rfl rfl rfl (by decide +kernel) ⟨Nat.le_of_ble_eq_true rfl, Nat.le_of_ble_eq_true rfl⟩) (pS_s hP hK hE) rfl rfl hl.1 rfl (lv_room (Nat.le_of_ble_eq_true rfl)) dX4_longListable_30 ⟨Nat.le_of_ble_eq_true rfl, Nat.le_of_ble_eq_true rfl⟩) hS (fun q h1 h2 => ro_A h1 h2) (fun q h => ro_F hS hA q h) (fun r u t H1 locs ht hvm hw9 hB9 hz1 hk1 hS => ?_)
          have hw9 : r = (iI (m_bt ((n : Nat) : Int))) := hw9
          subst hw9
          have hP := ro_P hP hk1
          generalize H1 = H at hP hS ⊢
          have s9 := bt_nn ((n : Nat) : Int)
          have s10 := bt_lt (n := ((n : Nat) : Int)) (by omega) (by omega)
          refine n_or hx hb (by omega) (by omega) dX4_longListable_33 ?_
          have s11 := bo_nn x1 (m_bt ((n : Nat) : Int))
          refine lv_istore_n (lv' := [(1, .int (iI (m_bo x1 (m_bt ((n : Nat) : Int))))), (2, .int (iI ((n : Nat) : Int))), (0, .ref (a 0))]) hx hb dX4_longListable_34 rfl hl (by decide) rfl (fun ls hl => ?_)
          refine n_inc (lv' := [(2, .int (iI (((n : Nat) : Int) + 1))), (1, .int (iI (m_bo x1 (m_bt ((n : Nat) : Int))))), (0, .ref (a 0))]) hx hb dX4_longListable_35 hl (k := 1) rfl (by decide) rfl (fun ls hl => ?_)
          refine lv_goto (tgt := 4) hx hb dX4_longListable_38 (by decide) ?_
          have hl : lv_has ls 3 [(2, .int (iI (((n : Nat) : Int) + 1))), (1, .int (iI (m_bo x1 (m_bt ((n : Nat) : Int))))), (0, .ref (a 0))] := lv_sub hl [0, 1, 2] rfl
          have e12 : (((n : Nat) : Int) + 1) = (((n + 1) : Nat) : Int) := by rfl
          have hl : lv_has ls 3 [(2, .int (iI (((n + 1) : Nat) : Int))), (1, .int (iI (m_bo x1 (m_bt ((n : Nat) : Int))))), (0, .ref (a 0))] := lv_cast hl (by rw [e12])
          exact ih4 (n + 1) (m_bo x1 (m_bt ((n : Nat) : Int))) H locs ls (by omega) (by simp only [m_fo, ← hx1]; simp [h4, Int.not_le.mpr h4, h5, h7]) (by first | assumption | exact bo_16 hs (by omega) (by omega)) hP hS hl
  have hl : lv_has ls 3 [(2, .int (iI 0)), (1, .int (iI 0)), (0, .ref (a 0))] := lv_sub hl [0, 1, 2] rfl
  have hl : lv_has ls 3 [(2, .int (iI ((0 : Nat) : Int))), (1, .int (iI 0)), (0, .ref (a 0))] := hl
  exact loop4 ((g 0 0 4).toNat) 0 0 H locs ls (by omega) rfl (by omega) hP hS hl
set_option maxHeartbeats 4000000 in
set_option maxRecDepth 100000 in
theorem c_isBetter (l : Launch) (D : va_G) (a : Nat → Nat) (cH cB cJ cI : ClassId) (ha : pj a) (g : m_St) (vt : Nat → Int32) (sz : Nat) (bb : Int) (oo : Int) (hWf : Wf g) (hbb : 0 ≤ bb ∧ bb < 16) (hoo : 0 ≤ oo ∧ oo < 16) : Met l yX4_isBetter (wc yX4_isBetter cX4_isBetter 5 (some .boolean)) ({ frames := 3, cells := 0, slots := 0, locals := 67 }) (va_Pc [.ref (a 0), .int (iI bb), .int (iI oo)] (pS D a cH cB cJ cI sz g vt)) (va_Qi (fun (r : Int32) (_ : Unit) => r = bi (m_better g bb oo)) (fun _ _ => True) (fun q => sz ≤ q)) 0 0 (fun q => sz ≤ q) := by
  refine Met.ofW (cc := cX4_isBetter) (maxL := 5) (ret := (some .boolean)) (by decide +kernel) rfl ?_
  intro p e s m args below meth c s₁ B9 hml hv
  obtain ⟨rfl, hsz, hP, hK, hE⟩ := hv
  have hx := B9.exec
  have hb := B9.bytes
  have hr := B9.returns
  have hts := atoms_spec (ws := (wc yX4_isBetter cX4_isBetter 5 (some .boolean))) B9.pre
  have hw : ∀ w ∈ wsL_law0, w.before [.ref (a 0), .int (iI bb), .int (iI oo)].toArray s = true := fun w h => hts w (List.mem_cons_of_mem _ h)
  have hown : s.vm.findClass RX4 = some m.cls := findClass_of_methodNamed B9.named
  subst hsz
  have hS : va_S (fun q => s.heap.size ≤ q) s.heap s.heap [] := va_S.rf
  have hA : ∀ q : Nat, s.heap.size ≤ q → (fun q : Nat => s.heap.size ≤ q) q := fun _ h => h
  have hl := lv_entry ([.ref (a 0), .int (iI bb), .int (iI oo)]) (n := 5) (Nat.le_of_ble_eq_true rfl)
  rw [lg_entry_eq]
  generalize (lg_sl ([.ref (a 0), .int (iI bb), .int (iI oo)]) ++ List.replicate (5 - (lg_sl ([.ref (a 0), .int (iI bb), .int (iI oo)])).length) Slot.unset).toArray = ls at hl ⊢
  have hl : lv_has ls 5 [(0, .ref (a 0)), (1, .int (iI bb)), (2, .int (iI oo))] := hl
  suffices h9 : ∀ (H : Heap) (locs : List Loc), va_P D vwCl (pw a cH cB cJ cI g vt) H → va_S (fun q => s.heap.size ≤ q) s.heap H locs → W p l e (headSpec (wc yX4_isBetter cX4_isBetter 5 (some .boolean)) ({ frames := 3, cells := 0, slots := 0, locals := 67 })).room s m [.ref (a 0), .int (iI bb), .int (iI oo)].toArray below meth c H locs 0 0 (MQ below (va_Qi (fun (r : Int32) (_ : Unit) => r = bi (m_better g bb oo)) (fun _ _ => True) (fun q => s.heap.size ≤ q)) [.ref (a 0), .int (iI bb), .int (iI oo)].toArray s 0 0 (fun q => s.heap.size ≤ q)) (F0 m 0 ls []) from h9 s.heap [] hP hS
  clear hP hS
  intro H locs hP hS
  refine lv_aload_n hx hb dX4_isBetter_0 rfl (lv_at hl 0 rfl) ?_
  refine lv_iload_n hx hb dX4_isBetter_1 rfl (lv_at hl 1 rfl) ?_
  refine va_calli (va_runV (As := [.int (iI bb)]) (rest := []) ⟨hx, hb, hml, hown, hw⟩ (c_pointsOf l D a cH cB cJ cI ha g vt H.size bb hWf (by omega)) (cwV 1 hw (gA_V kw_257 kw_258 kw_259 kw_2 kw_260) rfl rfl rfl (by decide +kernel) ⟨Nat.le_of_ble_eq_true rfl, Nat.le_of_ble_eq_true rfl⟩) (pS_v (ci := 4) (q0 := 0) rfl pw_0 hP hK hE) rfl rfl hl.1 rfl (lv_room (Nat.le_of_ble_eq_true rfl)) dX4_isBetter_2 ⟨Nat.le_of_ble_eq_true rfl, Nat.le_of_ble_eq_true rfl⟩) hS (fun q h1 h2 => ro_A h1 h2) (fun q h => ro_F hS hA q h) (fun r u t H1 locs ht hvm hw9 hB9 hz1 hk1 hS => ?_)
  have hw9 : r = (iI (m_pts g bb)) := hw9
  subst hw9
  have hP := ro_P hP hk1
  generalize H1 = H at hP hS ⊢
  have s1 := pts_b hWf (bb := bb) (by omega)
  refine lv_aload_n hx hb dX4_isBetter_5 rfl (lv_at hl 0 rfl) ?_
  refine lv_iload_n hx hb dX4_isBetter_6 rfl (lv_at hl 2 rfl) ?_
  refine va_calli (va_runV (As := [.int (iI oo)]) (rest := [.int (iI (m_pts g bb))]) ⟨hx, hb, hml, hown, hw⟩ (c_pointsOf l D a cH cB cJ cI ha g vt H.size oo hWf (by omega)) (cwV 1 hw (gA_V kw_257 kw_258 kw_259 kw_2 kw_260) rfl rfl rfl (by decide +kernel) ⟨Nat.le_of_ble_eq_true rfl, Nat.le_of_ble_eq_true rfl⟩) (pS_v (ci := 4) (q0 := 0) rfl pw_0 hP hK hE) rfl rfl hl.1 rfl (lv_room (Nat.le_of_ble_eq_true rfl)) dX4_isBetter_7 ⟨Nat.le_of_ble_eq_true rfl, Nat.le_of_ble_eq_true rfl⟩) hS (fun q h1 h2 => ro_A h1 h2) (fun q h => ro_F hS hA q h) (fun r u t H1 locs ht hvm hw9 hB9 hz1 hk1 hS => ?_)
  have hw9 : r = (iI (m_pts g oo)) := hw9
  subst hw9
  have hP := ro_P hP hk1
  generalize H1 = H at hP hS ⊢
  have s2 := pts_b hWf (bb := oo) (by omega)
  refine va_calli (va_runS (As := [.int (iI (m_pts g bb)), .int (iI (m_pts g oo))]) (rest := []) ⟨hx, hb, hml, hown, hw⟩ (c_compare l D a cH cB cJ cI ha g vt H.size (m_pts g bb) (m_pts g oo) (by omega) (by omega)) (va_cwS 2 hw (gA_S kw_366 kw_367 kw_114 kw_368) rfl rfl rfl (by decide +kernel) ⟨Nat.le_of_ble_eq_true rfl, Nat.le_of_ble_eq_true rfl⟩) (pS_s hP hK hE) rfl rfl hl.1 rfl (lv_room (Nat.le_of_ble_eq_true rfl)) dX4_isBetter_10 ⟨Nat.le_of_ble_eq_true rfl, Nat.le_of_ble_eq_true rfl⟩) hS (fun q h1 h2 => ro_A h1 h2) (fun q h => ro_F hS hA q h) (fun r u t H1 locs ht hvm hw9 hB9 hz1 hk1 hS => ?_)
  have hw9 : r = (iI (m_cmp (m_pts g bb) (m_pts g oo))) := hw9
  subst hw9
  have hP := ro_P hP hk1
  generalize H1 = H at hP hS ⊢
  have s3 := cmp_b (m_pts g bb) (m_pts g oo)
  refine lv_istore_n (lv' := [(3, .int (iI (m_cmp (m_pts g bb) (m_pts g oo)))), (0, .ref (a 0)), (1, .int (iI bb)), (2, .int (iI oo))]) hx hb dX4_isBetter_13 rfl hl (by decide) rfl (fun ls hl => ?_)
  refine lv_iload_n hx hb dX4_isBetter_14 rfl (lv_at hl 0 rfl) ?_
  refine n_if_eq hx hb (by unfold RI; omega) (tgt := 28) dX4_isBetter_15 (by decide) (fun h4 => ?_) (fun h4 => ?_)
  · skip
    refine lv_aload_n hx hb dX4_isBetter_28 rfl (lv_at hl 1 rfl) ?_
    refine lv_iload_n hx hb dX4_isBetter_29 rfl (lv_at hl 2 rfl) ?_
    refine va_calli (va_runV (As := [.int (iI bb)]) (rest := []) ⟨hx, hb, hml, hown, hw⟩ (c_giversTo l D a cH cB cJ cI ha g vt H.size bb hWf (by omega)) (cwV 1 hw (gA_V kw_369 kw_370 kw_371 kw_2 kw_372) rfl rfl rfl (by decide +kernel) ⟨Nat.le_of_ble_eq_true rfl, Nat.le_of_ble_eq_true rfl⟩) (pS_v (ci := 4) (q0 := 0) rfl pw_0 hP hK hE) rfl rfl hl.1 rfl (lv_room (Nat.le_of_ble_eq_true rfl)) dX4_isBetter_30 ⟨Nat.le_of_ble_eq_true rfl, Nat.le_of_ble_eq_true rfl⟩) hS (fun q h1 h2 => ro_A h1 h2) (fun q h => ro_F hS hA q h) (fun r u t H1 locs ht hvm hw9 hB9 hz1 hk1 hS => ?_)
    have hw9 : r = (iI (m_giv g bb)) := hw9
    subst hw9
    have hP := ro_P hP hk1
    generalize H1 = H at hP hS ⊢
    have s5 := (show 0 ≤ m_giv g bb ∧ m_giv g bb ≤ 5 from cnt5 hWf _)
    refine lv_aload_n hx hb dX4_isBetter_33 rfl (lv_at hl 1 rfl) ?_
    refine lv_iload_n hx hb dX4_isBetter_34 rfl (lv_at hl 3 rfl) ?_
    refine va_calli (va_runV (As := [.int (iI oo)]) (rest := [.int (iI (m_giv g bb))]) ⟨hx, hb, hml, hown, hw⟩ (c_giversTo l D a cH cB cJ cI ha g vt H.size oo hWf (by omega)) (cwV 1 hw (gA_V kw_369 kw_370 kw_371 kw_2 kw_372) rfl rfl rfl (by decide +kernel) ⟨Nat.le_of_ble_eq_true rfl, Nat.le_of_ble_eq_true rfl⟩) (pS_v (ci := 4) (q0 := 0) rfl pw_0 hP hK hE) rfl rfl hl.1 rfl (lv_room (Nat.le_of_ble_eq_true rfl)) dX4_isBetter_35 ⟨Nat.le_of_ble_eq_true rfl, Nat.le_of_ble_eq_true rfl⟩) hS (fun q h1 h2 => ro_A h1 h2) (fun q h => ro_F hS hA q h) (fun r u t H1 locs ht hvm hw9 hB9 hz1 hk1 hS => ?_)
    have hw9 : r = (iI (m_giv g oo)) := hw9
    subst hw9
    have hP := ro_P hP hk1
    generalize H1 = H at hP hS ⊢
    have s6 := (show 0 ≤ m_giv g oo ∧ m_giv g oo ≤ 5 from cnt5 hWf _)
    refine va_calli (va_runS (As := [.int (iI (m_giv g bb)), .int (iI (m_giv g oo))]) (rest := []) ⟨hx, hb, hml, hown, hw⟩ (c_compare l D a cH cB cJ cI ha g vt H.size (m_giv g bb) (m_giv g oo) (by omega) (by omega)) (va_cwS 2 hw (gA_S kw_366 kw_367 kw_114 kw_368) rfl rfl rfl (by decide +kernel) ⟨Nat.le_of_ble_eq_true rfl, Nat.le_of_ble_eq_true rfl⟩) (pS_s hP hK hE) rfl rfl hl.1 rfl (lv_room (Nat.le_of_ble_eq_true rfl)) dX4_isBetter_38 ⟨Nat.le_of_ble_eq_true rfl, Nat.le_of_ble_eq_true rfl⟩) hS (fun q h1 h2 => ro_A h1 h2) (fun q h => ro_F hS hA q h) (fun r u t H1 locs ht hvm hw9 hB9 hz1 hk1 hS => ?_)
    have hw9 : r = (iI (m_cmp (m_giv g bb) (m_giv g oo))) := hw9
    subst hw9
    have hP := ro_P hP hk1
    generalize H1 = H at hP hS ⊢
    have s7 := cmp_b (m_giv g bb) (m_giv g oo)
    refine lv_istore (lv' := [(4, .int (iI (m_cmp (m_giv g bb) (m_giv g oo)))), (3, .int (iI (m_cmp (m_pts g bb) (m_pts g oo)))), (0, .ref (a 0)), (1, .int (iI bb)), (2, .int (iI oo))]) hx hb dX4_isBetter_41 hl (by decide) rfl (fun ls hl => ?_)
    refine lv_iload hx hb dX4_isBetter_43 (lv_at hl 0 rfl) ?_
    refine n_if_eq hx hb (by unfold RI; omega) (tgt := 59) dX4_isBetter_45 (by decide) (fun h8 => ?_) (fun h8 => ?_)
    · skip
      refine lv_aload_n hx hb dX4_isBetter_59 rfl (lv_at hl 2 rfl) ?_
      refine lv_iload_n hx hb dX4_isBetter_60 rfl (lv_at hl 3 rfl) ?_
      refine va_calli (va_runV (As := [.int (iI bb)]) (rest := []) ⟨hx, hb, hml, hown, hw⟩ (c_scoreOf l D a cH cB cJ cI ha g vt H.size bb hWf (by omega)) (cwV 1 hw (gA_V kw_230 kw_231 kw_232 kw_2 kw_233) rfl rfl rfl (by decide +kernel) ⟨Nat.le_of_ble_eq_true rfl, Nat.le_of_ble_eq_true rfl⟩) (pS_v (ci := 4) (q0 := 0) rfl pw_0 hP hK hE) rfl rfl hl.1 rfl (lv_room (Nat.le_of_ble_eq_true rfl)) dX4_isBetter_61 ⟨Nat.le_of_ble_eq_true rfl, Nat.le_of_ble_eq_true rfl⟩) hS (fun q h1 h2 => ro_A h1 h2) (fun q h => ro_F hS hA q h) (fun r u t H1 locs ht hvm hw9 hB9 hz1 hk1 hS => ?_)
      have hw9 : r = (iI (m_score g bb)) := hw9
      subst hw9
      have hP := ro_P hP hk1
      generalize H1 = H at hP hS ⊢
      have s9 := score_b hWf (bb := bb) (by omega)
      refine lv_aload_n hx hb dX4_isBetter_64 rfl (lv_at hl 2 rfl) ?_
      refine lv_iload_n hx hb dX4_isBetter_65 rfl (lv_at hl 4 rfl) ?_
      refine va_calli (va_runV (As := [.int (iI oo)]) (rest := [.int (iI (m_score g bb))]) ⟨hx, hb, hml, hown, hw⟩ (c_scoreOf l D a cH cB cJ cI ha g vt H.size oo hWf (by omega)) (cwV 1 hw (gA_V kw_230 kw_231 kw_232 kw_2 kw_233) rfl rfl rfl (by decide +kernel) ⟨Nat.le_of_ble_eq_true rfl, Nat.le_of_ble_eq_true rfl⟩) (pS_v (ci := 4) (q0 := 0) rfl pw_0 hP hK hE) rfl rfl hl.1 rfl (lv_room (Nat.le_of_ble_eq_true rfl)) dX4_isBetter_66 ⟨Nat.le_of_ble_eq_true rfl, Nat.le_of_ble_eq_true rfl⟩) hS (fun q h1 h2 => ro_A h1 h2) (fun q h => ro_F hS hA q h) (fun r u t H1 locs ht hvm hw9 hB9 hz1 hk1 hS => ?_)
      have hw9 : r = (iI (m_score g oo)) := hw9
      subst hw9
      have hP := ro_P hP hk1
      generalize H1 = H at hP hS ⊢
      have s10 := score_b hWf (bb := oo) (by omega)
      refine n_icmp_le hx hb (by unfold RI; omega) (by unfold RI; omega) (tgt := 76) dX4_isBetter_69 (by decide) (fun h11 => ?_) (fun h11 => ?_)
      · skip
        refine lv_iconst (v := iI 0) hx hb dX4_isBetter_76 (by decide) ?_
        exact W.zret (v := (iI 0)) (ty := .boolean) hx hb hr (by decide +kernel) (fun t ht hW9 => ⟨⟨(iI 0), (), rfl, (show iI 0 = bi (m_better g bb oo) from by rw [show (m_better g bb oo) = false from by first | exact better_1 h4 h8 h11 | exact better_2 h4 h8 h11 | exact better_3 h4 h8 h11 | exact better_4 h4 h8 h11 | exact better_5 h4 h8 h11 | exact better_6 h4 h8 h11]; rfl), trivial⟩, hS.F ht⟩) hS.2.2 dX4_isBetter_77
      · skip
        refine lv_iconst (v := iI 1) hx hb dX4_isBetter_72 (by decide) ?_
        refine lv_goto (tgt := 77) hx hb dX4_isBetter_73 (by decide) ?_
        exact W.zret (v := (iI 1)) (ty := .boolean) hx hb hr (by decide +kernel) (fun t ht hW9 => ⟨⟨(iI 1), (), rfl, (show iI 1 = bi (m_better g bb oo) from by rw [show (m_better g bb oo) = true from by first | exact better_1 h4 h8 h11 | exact better_2 h4 h8 h11 | exact better_3 h4 h8 h11 | exact better_4 h4 h8 h11 | exact better_5 h4 h8 h11 | exact better_6 h4 h8 h11]; rfl), trivial⟩, hS.F ht⟩) hS.2.2 dX4_isBetter_77
    · skip
      refine lv_iload hx hb dX4_isBetter_48 (lv_at hl 0 rfl) ?_
      refine n_if_le hx hb (by unfold RI; omega) (tgt := 57) dX4_isBetter_50 (by decide) (fun h12 => ?_) (fun h12 => ?_)
      · skip
        refine lv_iconst (v := iI 0) hx hb dX4_isBetter_57 (by decide) ?_
        exact W.zret (v := (iI 0)) (ty := .boolean) hx hb hr (by decide +kernel) (fun t ht hW9 => ⟨⟨(iI 0), (), rfl, (show iI 0 = bi (m_better g bb oo) from by rw [show (m_better g bb oo) = false from by first | exact better_1 h4 h8 h12 | exact better_2 h4 h8 h12 | exact better_3 h4 h8 h12 | exact better_4 h4 h8 h12 | exact better_5 h4 h8 h12 | exact better_6 h4 h8 h12]; rfl), trivial⟩, hS.F ht⟩) hS.2.2 dX4_isBetter_58
      · skip
        refine lv_iconst (v := iI 1) hx hb dX4_isBetter_53 (by decide) ?_
        refine lv_goto (tgt := 58) hx hb dX4_isBetter_54 (by decide) ?_
        exact W.zret (v := (iI 1)) (ty := .boolean) hx hb hr (by decide +kernel) (fun t ht hW9 => ⟨⟨(iI 1), (), rfl, (show iI 1 = bi (m_better g bb oo) from by rw [show (m_better g bb oo) = true from by first | exact better_1 h4 h8 h12 | exact better_2 h4 h8 h12 | exact better_3 h4 h8 h12 | exact better_4 h4 h8 h12 | exact better_5 h4 h8 h12 | exact better_6 h4 h8 h12]; rfl), trivial⟩, hS.F ht⟩) hS.2.2 dX4_isBetter_58
  · skip
    refine lv_iload_n hx hb dX4_isBetter_18 rfl (lv_at hl 0 rfl) ?_
    refine n_if_le hx hb (by unfold RI; omega) (tgt := 26) dX4_isBetter_19 (by decide) (fun h13 => ?_) (fun h13 => ?_)
    · skip
      refine lv_iconst (v := iI 0) hx hb dX4_isBetter_26 (by decide) ?_
      exact W.zret (v := (iI 0)) (ty := .boolean) hx hb hr (by decide +kernel) (fun t ht hW9 => ⟨⟨(iI 0), (), rfl, (show iI 0 = bi (m_better g bb oo) from by rw [show (m_better g bb oo) = false from by first | exact better_1 h4 h13 | exact better_2 h4 h13 | exact better_3 h4 h13 | exact better_4 h4 h13 | exact better_5 h4 h13 | exact better_6 h4 h13]; rfl), trivial⟩, hS.F ht⟩) hS.2.2 dX4_isBetter_27
    · skip
      refine lv_iconst (v := iI 1) hx hb dX4_isBetter_22 (by decide) ?_
      refine lv_goto (tgt := 27) hx hb dX4_isBetter_23 (by decide) ?_
      exact W.zret (v := (iI 1)) (ty := .boolean) hx hb hr (by decide +kernel) (fun t ht hW9 => ⟨⟨(iI 1), (), rfl, (show iI 1 = bi (m_better g bb oo) from by rw [show (m_better g bb oo) = true from by first | exact better_1 h4 h13 | exact better_2 h4 h13 | exact better_3 h4 h13 | exact better_4 h4 h13 | exact better_5 h4 h13 | exact better_6 h4 h13]; rfl), trivial⟩, hS.F ht⟩) hS.2.2 dX4_isBetter_27
set_option maxHeartbeats 4000000 in
set_option maxRecDepth 100000 in
theorem c_bestOf (l : Launch) (D : va_G) (a : Nat → Nat) (cH cB cJ cI : ClassId) (ha : pj a) (g : m_St) (vt : Nat → Int32) (sz : Nat) (S : Int) (hWf : Wf g) (hSS : 0 ≤ S ∧ S < 65536) : Met l yX4_bestOf (wc yX4_bestOf cX4_bestOf 4 (some .int)) ({ frames := 4, cells := 0, slots := 0, locals := 91 }) (va_Pc [.ref (a 0), .int (iI S)] (pS D a cH cB cJ cI sz g vt)) (va_Qi (fun (r : Int32) (_ : Unit) => r = iI (m_best g S)) (fun _ _ => True) (fun q => sz ≤ q)) 0 0 (fun q => sz ≤ q) := by
  refine Met.ofW (cc := cX4_bestOf) (maxL := 4) (ret := (some .int)) (by decide +kernel) rfl ?_
  intro p e s m args below meth c s₁ B9 hml hv
  obtain ⟨rfl, hsz, hP, hK, hE⟩ := hv
  have hx := B9.exec
  have hb := B9.bytes
  have hr := B9.returns
  have hts := atoms_spec (ws := (wc yX4_bestOf cX4_bestOf 4 (some .int))) B9.pre
  have hw : ∀ w ∈ wsL_law0, w.before [.ref (a 0), .int (iI S)].toArray s = true := fun w h => hts w (List.mem_cons_of_mem _ h)
  have hown : s.vm.findClass RX4 = some m.cls := findClass_of_methodNamed B9.named
  subst hsz
  have hS : va_S (fun q => s.heap.size ≤ q) s.heap s.heap [] := va_S.rf
  have hA : ∀ q : Nat, s.heap.size ≤ q → (fun q : Nat => s.heap.size ≤ q) q := fun _ h => h
  have hl := lv_entry ([.ref (a 0), .int (iI S)]) (n := 4) (Nat.le_of_ble_eq_true rfl)
  rw [lg_entry_eq]
  generalize (lg_sl ([.ref (a 0), .int (iI S)]) ++ List.replicate (4 - (lg_sl ([.ref (a 0), .int (iI S)])).length) Slot.unset).toArray = ls at hl ⊢
  have hl : lv_has ls 4 [(0, .ref (a 0)), (1, .int (iI S))] := hl
  suffices h9 : ∀ (H : Heap) (locs : List Loc), va_P D vwCl (pw a cH cB cJ cI g vt) H → va_S (fun q => s.heap.size ≤ q) s.heap H locs → W p l e (headSpec (wc yX4_bestOf cX4_bestOf 4 (some .int)) ({ frames := 4, cells := 0, slots := 0, locals := 91 })).room s m [.ref (a 0), .int (iI S)].toArray below meth c H locs 0 0 (MQ below (va_Qi (fun (r : Int32) (_ : Unit) => r = iI (m_best g S)) (fun _ _ => True) (fun q => s.heap.size ≤ q)) [.ref (a 0), .int (iI S)].toArray s 0 0 (fun q => s.heap.size ≤ q)) (F0 m 0 ls []) from h9 s.heap [] hP hS
  clear hP hS
  intro H locs hP hS
  have m4 := Wf.m4 hWf
  refine lv_iconst (v := iI (-1)) hx hb dX4_bestOf_0 (by decide) ?_
  refine lv_istore_n (lv' := [(2, .int (iI (-1))), (0, .ref (a 0)), (1, .int (iI S))]) hx hb dX4_bestOf_1 rfl hl (by decide) rfl (fun ls hl => ?_)
  refine lv_iconst (v := iI 0) hx hb dX4_bestOf_2 (by decide) ?_
  refine lv_istore_n (lv' := [(3, .int (iI 0)), (2, .int (iI (-1))), (0, .ref (a 0)), (1, .int (iI S))]) hx hb dX4_bestOf_3 rfl hl (by decide) rfl (fun ls hl => ?_)
  have loop4 : ∀ (d n : Nat) (x2 : Int) (H : Heap) (locs : List Loc) (ls : Array Slot), n + d = (g 0 0 4).toNat → x2 = m_fo (fun b r => bif m_has S b && (r == -1 || m_better g b r) then b else r) (-1) n → (x2 = -1 ∨ (0 ≤ x2 ∧ x2 < ((n : Nat) : Int))) → va_P D vwCl (pw a cH cB cJ cI g vt) H → va_S (fun q => s.heap.size ≤ q) s.heap H locs → lv_has ls 4 [(3, .int (iI ((n : Nat) : Int))), (2, .int (iI x2)), (0, .ref (a 0)), (1, .int (iI S))] → W p l e (headSpec (wc yX4_bestOf cX4_bestOf 4 (some .int)) ({ frames := 4, cells := 0, slots := 0, locals := 91 })).room s m [.ref (a 0), .int (iI S)].toArray below meth c H locs 0 0 (MQ below (va_Qi (fun (r : Int32) (_ : Unit) => r = iI (m_best g S)) (fun _ _ => True) (fun q => s.heap.size ≤ q)) [.ref (a 0), .int (iI S)].toArray s 0 0 (fun q => s.heap.size ≤ q)) (F0 m 4 ls []) := by
    intro d
    induction d with
    | zero =>
      intro n x2 H locs ls hn hx2 hxb hP hS hl
      obtain rfl : n = (g 0 0 4).toNat := by omega
      refine lv_iload_n hx hb dX4_bestOf_4 rfl (lv_at hl 0 rfl) ?_
      refine lv_aload_n hx hb dX4_bestOf_5 rfl (lv_at hl 2 rfl) ?_
      have s1 := Wf.m4 hWf
      refine va_get (D := D) (ci := 4) (v := .int (iI (g 0 0 4))) (C := RX4) (T := TX4) (N := 19) hx hb hw hin_wsX40 hown hK hP 0 pw_0 rfl 4 (by decide) (hw _ kw_98) (fun _ h9 => h9) rfl dX4_bestOf_6 ?_
      refine n_icmp_ge hx hb (by unfold RI; omega) (by unfold RI; omega) (tgt := 42) dX4_bestOf_9 (by decide) (fun h2 => ?_) (fun h2 => absurd h2 (by intro h2; omega))
      refine lv_iload_n hx hb dX4_bestOf_42 rfl (lv_at hl 1 rfl) ?_
      exact W.iret (v := (iI x2)) hx hb hr (fun t ht hW9 => ⟨⟨(iI x2), (), rfl, (congrArg iI (by rw [hx2]; rfl)), trivial⟩, hS.F ht⟩) hS.2.2 dX4_bestOf_43
    | succ d ih4 =>
      intro n x2 H locs ls hn hx2 hxb hP hS hl
      refine lv_iload_n hx hb dX4_bestOf_4 rfl (lv_at hl 0 rfl) ?_
      refine lv_aload_n hx hb dX4_bestOf_5 rfl (lv_at hl 2 rfl) ?_
      have s3 := Wf.m4 hWf
      refine va_get (D := D) (ci := 4) (v := .int (iI (g 0 0 4))) (C := RX4) (T := TX4) (N := 19) hx hb hw hin_wsX40 hown hK hP 0 pw_0 rfl 4 (by decide) (hw _ kw_98) (fun _ h9 => h9) rfl dX4_bestOf_6 ?_
      refine n_icmp_ge hx hb (by unfold RI; omega) (by unfold RI; omega) (tgt := 42) dX4_bestOf_9 (by decide) (fun h4 => absurd h4 (by intro h4; omega)) (fun h4 => ?_)
      refine lv_iload_n hx hb dX4_bestOf_12 rfl (lv_at hl 3 rfl) ?_
      refine lv_iload_n hx hb dX4_bestOf_13 rfl (lv_at hl 0 rfl) ?_
      refine va_calli (va_runS (As := [.int (iI S), .int (iI ((n : Nat) : Int))]) (rest := []) ⟨hx, hb, hml, hown, hw⟩ (c_has l D a cH cB cJ cI ha g vt H.size S ((n : Nat) : Int) (by omega) (by omega)) (va_cwS 2 hw (gA_S kw_229 kw_223 kw_2 kw_224) rfl rfl rfl (by decide +kernel) ⟨Nat.le_of_ble_eq_true rfl, Nat.le_of_ble_eq_true rfl⟩) (pS_s hP hK hE) rfl rfl hl.1 rfl (lv_room (Nat.le_of_ble_eq_true rfl)) dX4_bestOf_14 ⟨Nat.le_of_ble_eq_true rfl, Nat.le_of_ble_eq_true rfl⟩) hS (fun q h1 h2 => ro_A h1 h2) (fun q h => ro_F hS hA q h) (fun r u t H1 locs ht hvm hw9 hB9 hz1 hk1 hS => ?_)
      have hw9 : r = (bi (m_has S ((n : Nat) : Int))) := hw9
      subst hw9
      have hP := ro_P hP hk1
      generalize H1 = H at hP hS ⊢
      refine n_b_eq hx hb (tgt := 36) dX4_bestOf_17 (by decide) (fun h5 => ?_) (fun h5 => ?_)
      · skip
        refine n_inc (lv' := [(3, .int (iI (((n : Nat) : Int) + 1))), (2, .int (iI x2)), (0, .ref (a 0)), (1, .int (iI S))]) hx hb dX4_bestOf_36 hl (k := 0) rfl (by decide) rfl (fun ls hl => ?_)
        refine lv_goto (tgt := 4) hx hb dX4_bestOf_39 (by decide) ?_
        have hl : lv_has ls 4 [(3, .int (iI (((n : Nat) : Int) + 1))), (2, .int (iI x2)), (0, .ref (a 0)), (1, .int (iI S))] := lv_sub hl [0, 1, 2, 3] rfl
        have e6 : (((n : Nat) : Int) + 1) = (((n + 1) : Nat) : Int) := by rfl
        have hl : lv_has ls 4 [(3, .int (iI (((n + 1) : Nat) : Int))), (2, .int (iI x2)), (0, .ref (a 0)), (1, .int (iI S))] := lv_cast hl (by rw [e6])
        exact ih4 (n + 1) x2 H locs ls (by omega) (by simp only [m_fo, ← hx2]; simp [h4, Int.not_le.mpr h4, h5]) (by omega) hP hS hl
      · skip
        refine lv_iload_n hx hb dX4_bestOf_20 rfl (lv_at hl 1 rfl) ?_
        refine lv_iconst (v := iI (-1)) hx hb dX4_bestOf_21 (by decide) ?_
        refine n_icmp_eq hx hb (by unfold RI; omega) (by unfold RI; omega) (tgt := 34) dX4_bestOf_22 (by decide) (fun h7 => ?_) (fun h7 => ?_)
        · skip
          refine lv_iload_n hx hb dX4_bestOf_34 rfl (lv_at hl 0 rfl) ?_
          refine lv_istore_n (lv' := [(2, .int (iI ((n : Nat) : Int))), (3, .int (iI ((n : Nat) : Int))), (0, .ref (a 0)), (1, .int (iI S))]) hx hb dX4_bestOf_35 rfl hl (by decide) rfl (fun ls hl => ?_)
          refine n_inc (lv' := [(3, .int (iI (((n : Nat) : Int) + 1))), (2, .int (iI ((n : Nat) : Int))), (0, .ref (a 0)), (1, .int (iI S))]) hx hb dX4_bestOf_36 hl (k := 1) rfl (by decide) rfl (fun ls hl => ?_)
          refine lv_goto (tgt := 4) hx hb dX4_bestOf_39 (by decide) ?_
          have hl : lv_has ls 4 [(3, .int (iI (((n : Nat) : Int) + 1))), (2, .int (iI ((n : Nat) : Int))), (0, .ref (a 0)), (1, .int (iI S))] := lv_sub hl [0, 1, 2, 3] rfl
          have e8 : (((n : Nat) : Int) + 1) = (((n + 1) : Nat) : Int) := by rfl
          have hl : lv_has ls 4 [(3, .int (iI (((n + 1) : Nat) : Int))), (2, .int (iI ((n : Nat) : Int))), (0, .ref (a 0)), (1, .int (iI S))] := lv_cast hl (by rw [e8])
          exact ih4 (n + 1) ((n : Nat) : Int) H locs ls (by omega) (by simp only [m_fo, ← hx2]; simp [h4, Int.not_le.mpr h4, h5, h7]) (by omega) hP hS hl
        · skip
          refine lv_aload_n hx hb dX4_bestOf_25 rfl (lv_at hl 2 rfl) ?_
          refine lv_iload_n hx hb dX4_bestOf_26 rfl (lv_at hl 0 rfl) ?_
          refine lv_iload_n hx hb dX4_bestOf_27 rfl (lv_at hl 1 rfl) ?_
          refine va_calli (va_runV (As := [.int (iI ((n : Nat) : Int)), .int (iI x2)]) (rest := []) ⟨hx, hb, hml, hown, hw⟩ (c_isBetter l D a cH cB cJ cI ha g vt H.size ((n : Nat) : Int) x2 hWf (by omega) (by omega)) (cwV 2 hw (gA_V kw_362 kw_363 kw_364 kw_2 kw_365) rfl rfl rfl (by decide +kernel) ⟨Nat.le_of_ble_eq_true rfl, Nat.le_of_ble_eq_true rfl⟩) (pS_v (ci := 4) (q0 := 0) rfl pw_0 hP hK hE) rfl rfl hl.1 rfl (lv_room (Nat.le_of_ble_eq_true rfl)) dX4_bestOf_28 ⟨Nat.le_of_ble_eq_true rfl, Nat.le_of_ble_eq_true rfl⟩) hS (fun q h1 h2 => ro_A h1 h2) (fun q h => ro_F hS hA q h) (fun r u t H1 locs ht hvm hw9 hB9 hz1 hk1 hS => ?_)
          have hw9 : r = (bi (m_better g ((n : Nat) : Int) x2)) := hw9
          subst hw9
          have hP := ro_P hP hk1
          generalize H1 = H at hP hS ⊢
          refine n_b_eq hx hb (tgt := 36) dX4_bestOf_31 (by decide) (fun h9 => ?_) (fun h9 => ?_)
          · skip
            refine n_inc (lv' := [(3, .int (iI (((n : Nat) : Int) + 1))), (2, .int (iI x2)), (0, .ref (a 0)), (1, .int (iI S))]) hx hb dX4_bestOf_36 hl (k := 0) rfl (by decide) rfl (fun ls hl => ?_)
            refine lv_goto (tgt := 4) hx hb dX4_bestOf_39 (by decide) ?_
            have hl : lv_has ls 4 [(3, .int (iI (((n : Nat) : Int) + 1))), (2, .int (iI x2)), (0, .ref (a 0)), (1, .int (iI S))] := lv_sub hl [0, 1, 2, 3] rfl
            have e10 : (((n : Nat) : Int) + 1) = (((n + 1) : Nat) : Int) := by rfl
            have hl : lv_has ls 4 [(3, .int (iI (((n + 1) : Nat) : Int))), (2, .int (iI x2)), (0, .ref (a 0)), (1, .int (iI S))] := lv_cast hl (by rw [e10])
            exact ih4 (n + 1) x2 H locs ls (by omega) (by simp only [m_fo, ← hx2]; simp [h4, Int.not_le.mpr h4, h5, h7, beq_false_of_ne h7, h9]) (by omega) hP hS hl
          · skip
            refine lv_iload_n hx hb dX4_bestOf_34 rfl (lv_at hl 0 rfl) ?_
            refine lv_istore_n (lv' := [(2, .int (iI ((n : Nat) : Int))), (3, .int (iI ((n : Nat) : Int))), (0, .ref (a 0)), (1, .int (iI S))]) hx hb dX4_bestOf_35 rfl hl (by decide) rfl (fun ls hl => ?_)
            refine n_inc (lv' := [(3, .int (iI (((n : Nat) : Int) + 1))), (2, .int (iI ((n : Nat) : Int))), (0, .ref (a 0)), (1, .int (iI S))]) hx hb dX4_bestOf_36 hl (k := 1) rfl (by decide) rfl (fun ls hl => ?_)
            refine lv_goto (tgt := 4) hx hb dX4_bestOf_39 (by decide) ?_
            have hl : lv_has ls 4 [(3, .int (iI (((n : Nat) : Int) + 1))), (2, .int (iI ((n : Nat) : Int))), (0, .ref (a 0)), (1, .int (iI S))] := lv_sub hl [0, 1, 2, 3] rfl
            have e11 : (((n : Nat) : Int) + 1) = (((n + 1) : Nat) : Int) := by rfl
            have hl : lv_has ls 4 [(3, .int (iI (((n + 1) : Nat) : Int))), (2, .int (iI ((n : Nat) : Int))), (0, .ref (a 0)), (1, .int (iI S))] := lv_cast hl (by rw [e11])
            exact ih4 (n + 1) ((n : Nat) : Int) H locs ls (by omega) (by simp only [m_fo, ← hx2]; simp [h4, Int.not_le.mpr h4, h5, h7, beq_false_of_ne h7, h9]) (by omega) hP hS hl
  have hl : lv_has ls 4 [(3, .int (iI 0)), (2, .int (iI (-1))), (0, .ref (a 0)), (1, .int (iI S))] := lv_sub hl [0, 1, 2, 3] rfl
  have hl : lv_has ls 4 [(3, .int (iI ((0 : Nat) : Int))), (2, .int (iI (-1))), (0, .ref (a 0)), (1, .int (iI S))] := hl
  exact loop4 ((g 0 0 4).toNat) 0 (-1) H locs ls (by omega) rfl (Or.inl rfl) hP hS hl
set_option maxHeartbeats 4000000 in
set_option maxRecDepth 100000 in
theorem c_isOrder (l : Launch) (D : va_G) (a : Nat → Nat) (cH cB cJ cI : ClassId) (ha : pj a) (g : m_St) (vt : Nat → Int32) (sz : Nat) (oo : Int) (hWf : Wf g) (hoo : 0 ≤ oo ∧ oo ≤ 2147483647) : Met l yX4_isOrder (wc yX4_isOrder cX4_isOrder 7 (some .boolean)) ({ frames := 1, cells := 0, slots := 0, locals := 22 }) (va_Pc [.ref (a 0), .int (iI oo)] (pS D a cH cB cJ cI sz g vt)) (va_Qi (fun (r : Int32) (_ : Unit) => r = bi (m_isOrder g oo)) (fun _ _ => True) (fun q => sz ≤ q)) 0 0 (fun q => sz ≤ q) := by
  refine Met.ofW (cc := cX4_isOrder) (maxL := 7) (ret := (some .boolean)) (by decide +kernel) rfl ?_
  intro p e s m args below meth c s₁ B9 hml hv
  obtain ⟨rfl, hsz, hP, hK, hE⟩ := hv
  have hx := B9.exec
  have hb := B9.bytes
  have hr := B9.returns
  have hts := atoms_spec (ws := (wc yX4_isOrder cX4_isOrder 7 (some .boolean))) B9.pre
  have hw : ∀ w ∈ wsL_law0, w.before [.ref (a 0), .int (iI oo)].toArray s = true := fun w h => hts w (List.mem_cons_of_mem _ h)
  have hown : s.vm.findClass RX4 = some m.cls := findClass_of_methodNamed B9.named
  subst hsz
  have hS : va_S (fun q => s.heap.size ≤ q) s.heap s.heap [] := va_S.rf
  have hA : ∀ q : Nat, s.heap.size ≤ q → (fun q : Nat => s.heap.size ≤ q) q := fun _ h => h
  have hl := lv_entry ([.ref (a 0), .int (iI oo)]) (n := 7) (Nat.le_of_ble_eq_true rfl)
  rw [lg_entry_eq]
  generalize (lg_sl ([.ref (a 0), .int (iI oo)]) ++ List.replicate (7 - (lg_sl ([.ref (a 0), .int (iI oo)])).length) Slot.unset).toArray = ls at hl ⊢
  have hl : lv_has ls 7 [(0, .ref (a 0)), (1, .int (iI oo))] := hl
  suffices h9 : ∀ (H : Heap) (locs : List Loc), va_P D vwCl (pw a cH cB cJ cI g vt) H → va_S (fun q => s.heap.size ≤ q) s.heap H locs → W p l e (headSpec (wc yX4_isOrder cX4_isOrder 7 (some .boolean)) ({ frames := 1, cells := 0, slots := 0, locals := 22 })).room s m [.ref (a 0), .int (iI oo)].toArray below meth c H locs 0 0 (MQ below (va_Qi (fun (r : Int32) (_ : Unit) => r = bi (m_isOrder g oo)) (fun _ _ => True) (fun q => s.heap.size ≤ q)) [.ref (a 0), .int (iI oo)].toArray s 0 0 (fun q => s.heap.size ≤ q)) (F0 m 0 ls []) from h9 s.heap [] hP hS
  clear hP hS
  intro H locs hP hS
  refine lv_aload_n hx hb dX4_isOrder_0 rfl (lv_at hl 0 rfl) ?_
  have s1 := Wf.m13 hWf
  refine va_get (D := D) (ci := 4) (v := .int (iI (g 0 0 13))) (C := RX4) (T := TX4) (N := 19) hx hb hw hin_wsX40 hown hK hP 0 pw_0 rfl 13 (by decide) (hw _ kw_100) (fun _ h9 => h9) rfl dX4_isOrder_1 ?_
  refine va_calli (va_runS (As := [.int (iI (g 0 0 13))]) (rest := []) ⟨hx, hb, hml, hown, hw⟩ (c_bitCount l D a cH cB cJ cI ha g vt H.size (g 0 0 13) (by omega)) (va_cwS 1 hw (gA_S kw_112 kw_113 kw_114 kw_115) rfl rfl rfl (by decide +kernel) ⟨Nat.le_of_ble_eq_true rfl, Nat.le_of_ble_eq_true rfl⟩) (pS_s hP hK hE) rfl rfl hl.1 rfl (lv_room (Nat.le_of_ble_eq_true rfl)) dX4_isOrder_4 ⟨Nat.le_of_ble_eq_true rfl, Nat.le_of_ble_eq_true rfl⟩) hS (fun q h1 h2 => ro_A h1 h2) (fun q h => ro_F hS hA q h) (fun r u t H1 locs ht hvm hw9 hB9 hz1 hk1 hS => ?_)
  have hw9 : r = (iI (m_pcn (g 0 0 13))) := hw9
  subst hw9
  have hP := ro_P hP hk1
  generalize H1 = H at hP hS ⊢
  have s2 := pcn_b (g 0 0 13)
  refine lv_istore_n (lv' := [(2, .int (iI (m_pcn (g 0 0 13)))), (0, .ref (a 0)), (1, .int (iI oo))]) hx hb dX4_isOrder_7 rfl hl (by decide) rfl (fun ls hl => ?_)
  refine lv_iconst (v := iI 0) hx hb dX4_isOrder_8 (by decide) ?_
  refine lv_istore_n (lv' := [(3, .int (iI 0)), (2, .int (iI (m_pcn (g 0 0 13)))), (0, .ref (a 0)), (1, .int (iI oo))]) hx hb dX4_isOrder_9 rfl hl (by decide) rfl (fun ls hl => ?_)
  refine lv_iload_n hx hb dX4_isOrder_10 rfl (lv_at hl 3 rfl) ?_
  refine lv_istore (lv' := [(4, .int (iI oo)), (3, .int (iI 0)), (2, .int (iI (m_pcn (g 0 0 13)))), (0, .ref (a 0)), (1, .int (iI oo))]) hx hb dX4_isOrder_11 hl (by decide) rfl (fun ls hl => ?_)
  refine lv_iconst (v := iI 0) hx hb dX4_isOrder_13 (by decide) ?_
  refine lv_istore (lv' := [(5, .int (iI 0)), (4, .int (iI oo)), (3, .int (iI 0)), (2, .int (iI (m_pcn (g 0 0 13)))), (0, .ref (a 0)), (1, .int (iI oo))]) hx hb dX4_isOrder_14 hl (by decide) rfl (fun ls hl => ?_)
  have loop16 : ∀ (d n : Nat) (x3 : Int) (x4 : Int) (H : Heap) (locs : List Loc) (ls : Array Slot), n + d = (m_pcn (g 0 0 13)).toNat → (m_orderOk (m_pcn (g 0 0 13)) (m_pcn (g 0 0 13)).toNat 0 oo = m_orderOk (m_pcn (g 0 0 13)) d x3 x4) → (0 ≤ x3 ∧ x3 < 131072) → (0 ≤ x4 ∧ x4 ≤ 2147483647) → va_P D vwCl (pw a cH cB cJ cI g vt) H → va_S (fun q => s.heap.size ≤ q) s.heap H locs → lv_has ls 7 [(5, .int (iI ((n : Nat) : Int))), (4, .int (iI x4)), (3, .int (iI x3)), (2, .int (iI (m_pcn (g 0 0 13)))), (0, .ref (a 0)), (1, .int (iI oo))] → W p l e (headSpec (wc yX4_isOrder cX4_isOrder 7 (some .boolean)) ({ frames := 1, cells := 0, slots := 0, locals := 22 })).room s m [.ref (a 0), .int (iI oo)].toArray below meth c H locs 0 0 (MQ below (va_Qi (fun (r : Int32) (_ : Unit) => r = bi (m_isOrder g oo)) (fun _ _ => True) (fun q => s.heap.size ≤ q)) [.ref (a 0), .int (iI oo)].toArray s 0 0 (fun q => s.heap.size ≤ q)) (F0 m 16 ls []) := by
    intro d
    induction d with
    | zero =>
      intro n x3 x4 H locs ls hn hq hs hrx hP hS hl
      obtain rfl : n = (m_pcn (g 0 0 13)).toNat := by omega
      refine lv_iload hx hb dX4_isOrder_16 (lv_at hl 0 rfl) ?_
      refine lv_iload_n hx hb dX4_isOrder_18 rfl (lv_at hl 3 rfl) ?_
      refine n_icmp_ge hx hb (by unfold RI; omega) (by unfold RI; omega) (tgt := 71) dX4_isOrder_19 (by decide) (fun h3 => ?_) (fun h3 => absurd h3 (by intro h3; omega))
      refine lv_iload_n hx hb dX4_isOrder_71 rfl (lv_at hl 3 rfl) ?_
      refine n_if_le hx hb (by unfold RI; omega) (tgt := 84) dX4_isOrder_72 (by decide) (fun h4 => ?_) (fun h4 => ?_)
      · skip
        refine lv_iconst (v := iI 0) hx hb dX4_isOrder_84 (by decide) ?_
        exact W.zret (v := (iI 0)) (ty := .boolean) hx hb hr (by decide +kernel) (fun t ht hW9 => ⟨⟨(iI 0), (), rfl, (show iI 0 = bi (m_isOrder g oo) from by rw [show (m_isOrder g oo) = false from by unfold m_isOrder; rw [hq]; simp [m_orderOk, h3, Int.not_lt.mpr h3, h4, Int.not_lt.mpr h4]; try omega]; rfl), trivial⟩, hS.F ht⟩) hS.2.2 dX4_isOrder_85
      · skip
        refine lv_iload hx hb dX4_isOrder_75 (lv_at hl 1 rfl) ?_
        refine n_if_ne hx hb (by unfold RI; omega) (tgt := 84) dX4_isOrder_77 (by decide) (fun h5 => ?_) (fun h5 => ?_)
        · skip
          refine lv_iconst (v := iI 0) hx hb dX4_isOrder_84 (by decide) ?_
          exact W.zret (v := (iI 0)) (ty := .boolean) hx hb hr (by decide +kernel) (fun t ht hW9 => ⟨⟨(iI 0), (), rfl, (show iI 0 = bi (m_isOrder g oo) from by rw [show (m_isOrder g oo) = false from by unfold m_isOrder; rw [hq]; simp [m_orderOk, h3, Int.not_lt.mpr h3, h4, Int.not_le.mpr h4, h5, beq_false_of_ne h5]; try omega]; rfl), trivial⟩, hS.F ht⟩) hS.2.2 dX4_isOrder_85
        · skip
          refine lv_iconst (v := iI 1) hx hb dX4_isOrder_80 (by decide) ?_
          refine lv_goto (tgt := 85) hx hb dX4_isOrder_81 (by decide) ?_
          exact W.zret (v := (iI 1)) (ty := .boolean) hx hb hr (by decide +kernel) (fun t ht hW9 => ⟨⟨(iI 1), (), rfl, (show iI 1 = bi (m_isOrder g oo) from by rw [show (m_isOrder g oo) = true from by unfold m_isOrder; rw [hq]; simp [m_orderOk, h3, Int.not_lt.mpr h3, h4, Int.not_le.mpr h4, h5]; try omega]; rfl), trivial⟩, hS.F ht⟩) hS.2.2 dX4_isOrder_85
    | succ d ih16 =>
      intro n x3 x4 H locs ls hn hq hs hrx hP hS hl
      refine lv_iload hx hb dX4_isOrder_16 (lv_at hl 0 rfl) ?_
      refine lv_iload_n hx hb dX4_isOrder_18 rfl (lv_at hl 3 rfl) ?_
      refine n_icmp_ge hx hb (by unfold RI; omega) (by unfold RI; omega) (tgt := 71) dX4_isOrder_19 (by decide) (fun h6 => absurd h6 (by intro h6; omega)) (fun h6 => ?_)
      refine lv_iload hx hb dX4_isOrder_22 (lv_at hl 1 rfl) ?_
      refine lv_bipush (v := iI 10) hx hb dX4_isOrder_24 (by decide) ?_
      refine n_rem hx hb (by unfold RI; omega) (by unfold RI; omega) (by omega) dX4_isOrder_26 ?_
      have f7 := tmod_10 (x := x4) (by omega)
      refine lv_istore (lv' := [(6, .int (iI (x4.tmod 10))), (5, .int (iI ((n : Nat) : Int))), (4, .int (iI x4)), (3, .int (iI x3)), (2, .int (iI (m_pcn (g 0 0 13)))), (0, .ref (a 0)), (1, .int (iI oo))]) hx hb dX4_isOrder_27 hl (by decide) rfl (fun ls hl => ?_)
      refine lv_iload hx hb dX4_isOrder_29 (lv_at hl 0 rfl) ?_
      refine lv_iconst (v := iI 1) hx hb dX4_isOrder_31 (by decide) ?_
      refine lv_iload_n hx hb dX4_isOrder_32 rfl (lv_at hl 4 rfl) ?_
      refine va_calli (va_runS (As := [.int (iI (x4.tmod 10)), .int (iI 1), .int (iI (m_pcn (g 0 0 13)))]) (rest := []) ⟨hx, hb, hml, hown, hw⟩ (c_isWithin l D a cH cB cJ cI ha g vt H.size (x4.tmod 10) 1 (m_pcn (g 0 0 13)) (by omega) (by omega) (by omega)) (va_cwS 3 hw (gA_S kw_82 kw_83 kw_2 kw_84) rfl rfl rfl (by decide +kernel) ⟨Nat.le_of_ble_eq_true rfl, Nat.le_of_ble_eq_true rfl⟩) (pS_s hP hK hE) rfl rfl hl.1 rfl (lv_room (Nat.le_of_ble_eq_true rfl)) dX4_isOrder_33 ⟨Nat.le_of_ble_eq_true rfl, Nat.le_of_ble_eq_true rfl⟩) hS (fun q h1 h2 => ro_A h1 h2) (fun q h => ro_F hS hA q h) (fun r u t H1 locs ht hvm hw9 hB9 hz1 hk1 hS => ?_)
      have hw9 : r = (bi (decide (1 ≤ (x4.tmod 10) ∧ (x4.tmod 10) ≤ (m_pcn (g 0 0 13))))) := hw9
      subst hw9
      have hP := ro_P hP hk1
      generalize H1 = H at hP hS ⊢
      refine n_b_eq hx hb (tgt := 48) dX4_isOrder_36 (by decide) (fun h8 => ?_) (fun h8 => ?_)
      · skip
        have h8 := of_decide_eq_false h8
        refine lv_iconst (v := iI 0) hx hb dX4_isOrder_48 (by decide) ?_
        exact W.zret (v := (iI 0)) (ty := .boolean) hx hb hr (by decide +kernel) (fun t ht hW9 => ⟨⟨(iI 0), (), rfl, (show iI 0 = bi (m_isOrder g oo) from by rw [show (m_isOrder g oo) = false from by unfold m_isOrder; rw [hq]; simp [m_orderOk, h6, Int.not_le.mpr h6, h8]; try omega]; rfl), trivial⟩, hS.F ht⟩) hS.2.2 dX4_isOrder_49
      · skip
        have h8 := of_decide_eq_true h8
        refine lv_iload_n hx hb dX4_isOrder_39 rfl (lv_at hl 3 rfl) ?_
        refine lv_iload hx hb dX4_isOrder_40 (lv_at hl 0 rfl) ?_
        refine va_calli (va_runS (As := [.int (iI x3), .int (iI (x4.tmod 10))]) (rest := []) ⟨hx, hb, hml, hown, hw⟩ (c_has l D a cH cB cJ cI ha g vt H.size x3 (x4.tmod 10) (by omega) (by omega)) (va_cwS 2 hw (gA_S kw_229 kw_223 kw_2 kw_224) rfl rfl rfl (by decide +kernel) ⟨Nat.le_of_ble_eq_true rfl, Nat.le_of_ble_eq_true rfl⟩) (pS_s hP hK hE) rfl rfl hl.1 rfl (lv_room (Nat.le_of_ble_eq_true rfl)) dX4_isOrder_42 ⟨Nat.le_of_ble_eq_true rfl, Nat.le_of_ble_eq_true rfl⟩) hS (fun q h1 h2 => ro_A h1 h2) (fun q h => ro_F hS hA q h) (fun r u t H1 locs ht hvm hw9 hB9 hz1 hk1 hS => ?_)
        have hw9 : r = (bi (m_has x3 (x4.tmod 10))) := hw9
        subst hw9
        have hP := ro_P hP hk1
        generalize H1 = H at hP hS ⊢
        refine n_b_eq hx hb (tgt := 50) dX4_isOrder_45 (by decide) (fun h9 => ?_) (fun h9 => ?_)
        · skip
          refine lv_iload_n hx hb dX4_isOrder_50 rfl (lv_at hl 3 rfl) ?_
          refine lv_iload hx hb dX4_isOrder_51 (lv_at hl 0 rfl) ?_
          refine va_calli (va_runS (As := [.int (iI (x4.tmod 10))]) (rest := [.int (iI x3)]) ⟨hx, hb, hml, hown, hw⟩ (c_bit l D a cH cB cJ cI ha g vt H.size (x4.tmod 10) (by omega)) (va_cwS 1 hw (gA_S kw_171 kw_172 kw_2 kw_173) rfl rfl rfl (by decide +kernel) ⟨Nat.le_of_ble_eq_true rfl, Nat.le_of_ble_eq_true rfl⟩) (pS_s hP hK hE) rfl rfl hl.1 rfl (lv_room (Nat.le_of_ble_eq_true rfl)) dX4_isOrder_53 ⟨Nat.le_of_ble_eq_true rfl, Nat.le_of_ble_eq_true rfl⟩) hS (fun q h1 h2 => ro_A h1 h2) (fun q h => ro_F hS hA q h) (fun r u t H1 locs ht hvm hw9 hB9 hz1 hk1 hS => ?_)
          have hw9 : r = (iI (m_bt (x4.tmod 10))) := hw9
          subst hw9
          have hP := ro_P hP hk1
          generalize H1 = H at hP hS ⊢
          have s10 := bt_nn (x4.tmod 10)
          have s11 := bt_lt (n := (x4.tmod 10)) (by omega) (by omega)
          refine n_or hx hb (by omega) (by omega) dX4_isOrder_56 ?_
          have s12 := bo_nn x3 (m_bt (x4.tmod 10))
          refine lv_istore_n (lv' := [(3, .int (iI (m_bo x3 (m_bt (x4.tmod 10))))), (6, .int (iI (x4.tmod 10))), (5, .int (iI ((n : Nat) : Int))), (4, .int (iI x4)), (2, .int (iI (m_pcn (g 0 0 13)))), (0, .ref (a 0)), (1, .int (iI oo))]) hx hb dX4_isOrder_57 rfl hl (by decide) rfl (fun ls hl => ?_)
          refine lv_iload hx hb dX4_isOrder_58 (lv_at hl 3 rfl) ?_
          refine lv_bipush (v := iI 10) hx hb dX4_isOrder_60 (by decide) ?_
          refine n_div hx hb (by unfold RI; omega) (by unfold RI; omega) (by omega) dX4_isOrder_62 ?_
          have f13 := tdiv_10 (x := x4) (by omega)
          refine lv_istore (lv' := [(4, .int (iI (x4.tdiv 10))), (3, .int (iI (m_bo x3 (m_bt (x4.tmod 10))))), (6, .int (iI (x4.tmod 10))), (5, .int (iI ((n : Nat) : Int))), (2, .int (iI (m_pcn (g 0 0 13)))), (0, .ref (a 0)), (1, .int (iI oo))]) hx hb dX4_isOrder_63 hl (by decide) rfl (fun ls hl => ?_)
          refine n_inc (lv' := [(5, .int (iI (((n : Nat) : Int) + 1))), (4, .int (iI (x4.tdiv 10))), (3, .int (iI (m_bo x3 (m_bt (x4.tmod 10))))), (6, .int (iI (x4.tmod 10))), (2, .int (iI (m_pcn (g 0 0 13)))), (0, .ref (a 0)), (1, .int (iI oo))]) hx hb dX4_isOrder_65 hl (k := 3) rfl (by decide) rfl (fun ls hl => ?_)
          refine lv_goto (tgt := 16) hx hb dX4_isOrder_68 (by decide) ?_
          have hl : lv_has ls 7 [(5, .int (iI (((n : Nat) : Int) + 1))), (4, .int (iI (x4.tdiv 10))), (3, .int (iI (m_bo x3 (m_bt (x4.tmod 10))))), (2, .int (iI (m_pcn (g 0 0 13)))), (0, .ref (a 0)), (1, .int (iI oo))] := lv_sub hl [0, 1, 2, 4, 5, 6] rfl
          have e14 : (((n : Nat) : Int) + 1) = (((n + 1) : Nat) : Int) := by rfl
          have hl : lv_has ls 7 [(5, .int (iI (((n + 1) : Nat) : Int))), (4, .int (iI (x4.tdiv 10))), (3, .int (iI (m_bo x3 (m_bt (x4.tmod 10))))), (2, .int (iI (m_pcn (g 0 0 13)))), (0, .ref (a 0)), (1, .int (iI oo))] := lv_cast hl (by rw [e14])
          exact ih16 (n + 1) (m_bo x3 (m_bt (x4.tmod 10))) (x4.tdiv 10) H locs ls (by omega) (by rw [hq]; show (if _ then _ else _) = _; rw [if_pos ⟨by omega, by assumption⟩]) (by exact bo_17 hs (by omega)) (by omega) hP hS hl
        · skip
          refine lv_iconst (v := iI 0) hx hb dX4_isOrder_48 (by decide) ?_
          exact W.zret (v := (iI 0)) (ty := .boolean) hx hb hr (by decide +kernel) (fun t ht hW9 => ⟨⟨(iI 0), (), rfl, (show iI 0 = bi (m_isOrder g oo) from by rw [show (m_isOrder g oo) = false from by unfold m_isOrder; rw [hq]; simp [m_orderOk, h6, Int.not_le.mpr h6, h8, h9]; try omega]; rfl), trivial⟩, hS.F ht⟩) hS.2.2 dX4_isOrder_49
  have hl : lv_has ls 7 [(5, .int (iI 0)), (4, .int (iI oo)), (3, .int (iI 0)), (2, .int (iI (m_pcn (g 0 0 13)))), (0, .ref (a 0)), (1, .int (iI oo))] := lv_sub hl [0, 1, 2, 3, 4, 5] rfl
  have hl : lv_has ls 7 [(5, .int (iI ((0 : Nat) : Int))), (4, .int (iI oo)), (3, .int (iI 0)), (2, .int (iI (m_pcn (g 0 0 13)))), (0, .ref (a 0)), (1, .int (iI oo))] := hl
  exact loop16 ((m_pcn (g 0 0 13)).toNat) 0 0 oo H locs ls (by omega) rfl (by omega) hoo hP hS hl
set_option maxHeartbeats 4000000 in
set_option maxRecDepth 100000 in
theorem c_bookAtPlace (l : Launch) (D : va_G) (a : Nat → Nat) (cH cB cJ cI : ClassId) (ha : pj a) (g : m_St) (vt : Nat → Int32) (sz : Nat) (pl : Int) (hWf : Wf g) (rpl : -2147483648 ≤ pl ∧ pl ≤ 2147483647) : Met l yX4_bookAtPlace (wc yX4_bookAtPlace cX4_bookAtPlace 4 (some .int)) ({ frames := 1, cells := 0, slots := 0, locals := 21 }) (va_Pc [.ref (a 0), .int (iI pl)] (pS D a cH cB cJ cI sz g vt)) (va_Qi (fun (r : Int32) (_ : Unit) => r = iI (m_bookAt g pl (g 0 0 4).toNat 0 0)) (fun _ _ => True) (fun q => sz ≤ q)) 0 0 (fun q => sz ≤ q) := by
  refine Met.ofW (cc := cX4_bookAtPlace) (maxL := 4) (ret := (some .int)) (by decide +kernel) rfl ?_
  intro p e s m args below meth c s₁ B9 hml hv
  obtain ⟨rfl, hsz, hP, hK, hE⟩ := hv
  have hx := B9.exec
  have hb := B9.bytes
  have hr := B9.returns
  have hts := atoms_spec (ws := (wc yX4_bookAtPlace cX4_bookAtPlace 4 (some .int))) B9.pre
  have hw : ∀ w ∈ wsL_law0, w.before [.ref (a 0), .int (iI pl)].toArray s = true := fun w h => hts w (List.mem_cons_of_mem _ h)
  have hown : s.vm.findClass RX4 = some m.cls := findClass_of_methodNamed B9.named
  subst hsz
  have hS : va_S (fun q => s.heap.size ≤ q) s.heap s.heap [] := va_S.rf
  have hA : ∀ q : Nat, s.heap.size ≤ q → (fun q : Nat => s.heap.size ≤ q) q := fun _ h => h
  have hl := lv_entry ([.ref (a 0), .int (iI pl)]) (n := 4) (Nat.le_of_ble_eq_true rfl)
  rw [lg_entry_eq]
  generalize (lg_sl ([.ref (a 0), .int (iI pl)]) ++ List.replicate (4 - (lg_sl ([.ref (a 0), .int (iI pl)])).length) Slot.unset).toArray = ls at hl ⊢
  have hl : lv_has ls 4 [(0, .ref (a 0)), (1, .int (iI pl))] := hl
  suffices h9 : ∀ (H : Heap) (locs : List Loc), va_P D vwCl (pw a cH cB cJ cI g vt) H → va_S (fun q => s.heap.size ≤ q) s.heap H locs → W p l e (headSpec (wc yX4_bookAtPlace cX4_bookAtPlace 4 (some .int)) ({ frames := 1, cells := 0, slots := 0, locals := 21 })).room s m [.ref (a 0), .int (iI pl)].toArray below meth c H locs 0 0 (MQ below (va_Qi (fun (r : Int32) (_ : Unit) => r = iI (m_bookAt g pl (g 0 0 4).toNat 0 0)) (fun _ _ => True) (fun q => s.heap.size ≤ q)) [.ref (a 0), .int (iI pl)].toArray s 0 0 (fun q => s.heap.size ≤ q)) (F0 m 0 ls []) from h9 s.heap [] hP hS
  clear hP hS
  intro H locs hP hS
  have m4 := Wf.m4 hWf
  refine lv_iconst (v := iI 0) hx hb dX4_bookAtPlace_0 (by decide) ?_
  refine lv_istore_n (lv' := [(2, .int (iI 0)), (0, .ref (a 0)), (1, .int (iI pl))]) hx hb dX4_bookAtPlace_1 rfl hl (by decide) rfl (fun ls hl => ?_)
  refine lv_iconst (v := iI 0) hx hb dX4_bookAtPlace_2 (by decide) ?_
  refine lv_istore_n (lv' := [(3, .int (iI 0)), (2, .int (iI 0)), (0, .ref (a 0)), (1, .int (iI pl))]) hx hb dX4_bookAtPlace_3 rfl hl (by decide) rfl (fun ls hl => ?_)
  have loop4 : ∀ (d n : Nat) (x2 : Int) (H : Heap) (locs : List Loc) (ls : Array Slot), n + d = (g 0 0 4).toNat → (m_bookAt g pl (g 0 0 4).toNat 0 0 = m_bookAt g pl d ((n : Nat) : Int) x2) → (0 ≤ x2 ∧ x2 ≤ ((n : Nat) : Int)) → va_P D vwCl (pw a cH cB cJ cI g vt) H → va_S (fun q => s.heap.size ≤ q) s.heap H locs → lv_has ls 4 [(3, .int (iI ((n : Nat) : Int))), (2, .int (iI x2)), (0, .ref (a 0)), (1, .int (iI pl))] → W p l e (headSpec (wc yX4_bookAtPlace cX4_bookAtPlace 4 (some .int)) ({ frames := 1, cells := 0, slots := 0, locals := 21 })).room s m [.ref (a 0), .int (iI pl)].toArray below meth c H locs 0 0 (MQ below (va_Qi (fun (r : Int32) (_ : Unit) => r = iI (m_bookAt g pl (g 0 0 4).toNat 0 0)) (fun _ _ => True) (fun q => s.heap.size ≤ q)) [.ref (a 0), .int (iI pl)].toArray s 0 0 (fun q => s.heap.size ≤ q)) (F0 m 4 ls []) := by
    intro d
    induction d with
    | zero =>
      intro n x2 H locs ls hn hq hxx hP hS hl
      obtain rfl : n = (g 0 0 4).toNat := by omega
      refine lv_iload_n hx hb dX4_bookAtPlace_4 rfl (lv_at hl 0 rfl) ?_
      refine lv_aload_n hx hb dX4_bookAtPlace_5 rfl (lv_at hl 2 rfl) ?_
      have s1 := Wf.m4 hWf
      refine va_get (D := D) (ci := 4) (v := .int (iI (g 0 0 4))) (C := RX4) (T := TX4) (N := 19) hx hb hw hin_wsX40 hown hK hP 0 pw_0 rfl 4 (by decide) (hw _ kw_98) (fun _ h9 => h9) rfl dX4_bookAtPlace_6 ?_
      refine n_icmp_ge hx hb (by unfold RI; omega) (by unfold RI; omega) (tgt := 39) dX4_bookAtPlace_9 (by decide) (fun h2 => ?_) (fun h2 => absurd h2 (by intro h2; omega))
      refine lv_iconst (v := iI (-1)) hx hb dX4_bookAtPlace_39 (by decide) ?_
      exact W.iret (v := (iI (-1))) hx hb hr (fun t ht hW9 => ⟨⟨(iI (-1)), (), rfl, (congrArg iI (by rw [hq]; first | rfl | simp [m_bookAt, h2, Int.not_lt.mpr h2])), trivial⟩, hS.F ht⟩) hS.2.2 dX4_bookAtPlace_40
    | succ d ih4 =>
      intro n x2 H locs ls hn hq hxx hP hS hl
      refine lv_iload_n hx hb dX4_bookAtPlace_4 rfl (lv_at hl 0 rfl) ?_
      refine lv_aload_n hx hb dX4_bookAtPlace_5 rfl (lv_at hl 2 rfl) ?_
      have s3 := Wf.m4 hWf
      refine va_get (D := D) (ci := 4) (v := .int (iI (g 0 0 4))) (C := RX4) (T := TX4) (N := 19) hx hb hw hin_wsX40 hown hK hP 0 pw_0 rfl 4 (by decide) (hw _ kw_98) (fun _ h9 => h9) rfl dX4_bookAtPlace_6 ?_
      refine n_icmp_ge hx hb (by unfold RI; omega) (by unfold RI; omega) (tgt := 39) dX4_bookAtPlace_9 (by decide) (fun h4 => absurd h4 (by intro h4; omega)) (fun h4 => ?_)
      refine lv_aload_n hx hb dX4_bookAtPlace_12 rfl (lv_at hl 2 rfl) ?_
      have s5 := Wf.m13 hWf
      refine va_get (D := D) (ci := 4) (v := .int (iI (g 0 0 13))) (C := RX4) (T := TX4) (N := 19) hx hb hw hin_wsX40 hown hK hP 0 pw_0 rfl 13 (by decide) (hw _ kw_100) (fun _ h9 => h9) rfl dX4_bookAtPlace_13 ?_
      refine lv_iload_n hx hb dX4_bookAtPlace_16 rfl (lv_at hl 0 rfl) ?_
      refine va_calli (va_runS (As := [.int (iI (g 0 0 13)), .int (iI ((n : Nat) : Int))]) (rest := []) ⟨hx, hb, hml, hown, hw⟩ (c_has l D a cH cB cJ cI ha g vt H.size (g 0 0 13) ((n : Nat) : Int) (by omega) (by omega)) (va_cwS 2 hw (gA_S kw_229 kw_223 kw_2 kw_224) rfl rfl rfl (by decide +kernel) ⟨Nat.le_of_ble_eq_true rfl, Nat.le_of_ble_eq_true rfl⟩) (pS_s hP hK hE) rfl rfl hl.1 rfl (lv_room (Nat.le_of_ble_eq_true rfl)) dX4_bookAtPlace_17 ⟨Nat.le_of_ble_eq_true rfl, Nat.le_of_ble_eq_true rfl⟩) hS (fun q h1 h2 => ro_A h1 h2) (fun q h => ro_F hS hA q h) (fun r u t H1 locs ht hvm hw9 hB9 hz1 hk1 hS => ?_)
      have hw9 : r = (bi (m_has (g 0 0 13) ((n : Nat) : Int))) := hw9
      subst hw9
      have hP := ro_P hP hk1
      generalize H1 = H at hP hS ⊢
      refine n_b_eq hx hb (tgt := 33) dX4_bookAtPlace_20 (by decide) (fun h6 => ?_) (fun h6 => ?_)
      · skip
        refine n_inc (lv' := [(3, .int (iI (((n : Nat) : Int) + 1))), (2, .int (iI x2)), (0, .ref (a 0)), (1, .int (iI pl))]) hx hb dX4_bookAtPlace_33 hl (k := 0) rfl (by decide) rfl (fun ls hl => ?_)
        refine lv_goto (tgt := 4) hx hb dX4_bookAtPlace_36 (by decide) ?_
        have hl : lv_has ls 4 [(3, .int (iI (((n : Nat) : Int) + 1))), (2, .int (iI x2)), (0, .ref (a 0)), (1, .int (iI pl))] := lv_sub hl [0, 1, 2, 3] rfl
        have e7 : (((n : Nat) : Int) + 1) = (((n + 1) : Nat) : Int) := by rfl
        have hl : lv_has ls 4 [(3, .int (iI (((n + 1) : Nat) : Int))), (2, .int (iI x2)), (0, .ref (a 0)), (1, .int (iI pl))] := lv_cast hl (by rw [e7])
        exact ih4 (n + 1) x2 H locs ls (by omega) (by rw [hq]; simp [m_bookAt, h4, Int.not_le.mpr h4, h6]) (by omega) hP hS hl
      · skip
        refine n_inc (lv' := [(2, .int (iI (x2 + 1))), (3, .int (iI ((n : Nat) : Int))), (0, .ref (a 0)), (1, .int (iI pl))]) hx hb dX4_bookAtPlace_23 hl (k := 1) rfl (by decide) rfl (fun ls hl => ?_)
        refine lv_iload_n hx hb dX4_bookAtPlace_26 rfl (lv_at hl 0 rfl) ?_
        refine lv_iload_n hx hb dX4_bookAtPlace_27 rfl (lv_at hl 3 rfl) ?_
        refine n_icmp_ne hx hb (by unfold RI; omega) (by unfold RI; omega) (tgt := 33) dX4_bookAtPlace_28 (by decide) (fun h8 => ?_) (fun h8 => ?_)
        · skip
          refine n_inc (lv' := [(3, .int (iI (((n : Nat) : Int) + 1))), (2, .int (iI (x2 + 1))), (0, .ref (a 0)), (1, .int (iI pl))]) hx hb dX4_bookAtPlace_33 hl (k := 1) rfl (by decide) rfl (fun ls hl => ?_)
          refine lv_goto (tgt := 4) hx hb dX4_bookAtPlace_36 (by decide) ?_
          have hl : lv_has ls 4 [(3, .int (iI (((n : Nat) : Int) + 1))), (2, .int (iI (x2 + 1))), (0, .ref (a 0)), (1, .int (iI pl))] := lv_sub hl [0, 1, 2, 3] rfl
          have e9 : (((n : Nat) : Int) + 1) = (((n + 1) : Nat) : Int) := by rfl
          have hl : lv_has ls 4 [(3, .int (iI (((n + 1) : Nat) : Int))), (2, .int (iI (x2 + 1))), (0, .ref (a 0)), (1, .int (iI pl))] := lv_cast hl (by rw [e9])
          exact ih4 (n + 1) (x2 + 1) H locs ls (by omega) (by rw [hq]; simp [m_bookAt, h4, Int.not_le.mpr h4, h6, h8, beq_false_of_ne h8]) (by omega) hP hS hl
        · skip
          refine lv_iload_n hx hb dX4_bookAtPlace_31 rfl (lv_at hl 1 rfl) ?_
          exact W.iret (v := (iI ((n : Nat) : Int))) hx hb hr (fun t ht hW9 => ⟨⟨(iI ((n : Nat) : Int)), (), rfl, (congrArg iI (by rw [hq]; first | rfl | simp [m_bookAt, h4, Int.not_le.mpr h4, h6, h8])), trivial⟩, hS.F ht⟩) hS.2.2 dX4_bookAtPlace_32
  have hl : lv_has ls 4 [(3, .int (iI 0)), (2, .int (iI 0)), (0, .ref (a 0)), (1, .int (iI pl))] := lv_sub hl [0, 1, 2, 3] rfl
  have hl : lv_has ls 4 [(3, .int (iI ((0 : Nat) : Int))), (2, .int (iI 0)), (0, .ref (a 0)), (1, .int (iI pl))] := hl
  exact loop4 ((g 0 0 4).toNat) 0 0 H locs ls (by omega) rfl (by omega) hP hS hl
set_option maxHeartbeats 4000000 in
set_option maxRecDepth 100000 in
theorem c_orderCount (l : Launch) (D : va_G) (a : Nat → Nat) (cH cB cJ cI : ClassId) (ha : pj a) (g : m_St) (vt : Nat → Int32) (sz : Nat) (hWf : Wf g) : Met l yX4_orderCount (wc yX4_orderCount cX4_orderCount 3 (some .int)) ({ frames := 1, cells := 0, slots := 0, locals := 20 }) (va_Pc [.ref (a 0)] (pS D a cH cB cJ cI sz g vt)) (va_Qi (fun (r : Int32) (_ : Unit) => r = iI (m_orderCount g)) (fun _ _ => True) (fun q => sz ≤ q)) 0 0 (fun q => sz ≤ q) := by
  refine Met.ofW (cc := cX4_orderCount) (maxL := 3) (ret := (some .int)) (by decide +kernel) rfl ?_
  intro p e s m args below meth c s₁ B9 hml hv
  obtain ⟨rfl, hsz, hP, hK, hE⟩ := hv
  have hx := B9.exec
  have hb := B9.bytes
  have hr := B9.returns
  have hts := atoms_spec (ws := (wc yX4_orderCount cX4_orderCount 3 (some .int))) B9.pre
  have hw : ∀ w ∈ wsL_law0, w.before [.ref (a 0)].toArray s = true := fun w h => hts w (List.mem_cons_of_mem _ h)
  have hown : s.vm.findClass RX4 = some m.cls := findClass_of_methodNamed B9.named
  subst hsz
  have hS : va_S (fun q => s.heap.size ≤ q) s.heap s.heap [] := va_S.rf
  have hA : ∀ q : Nat, s.heap.size ≤ q → (fun q : Nat => s.heap.size ≤ q) q := fun _ h => h
  have hl := lv_entry ([.ref (a 0)]) (n := 3) (Nat.le_of_ble_eq_true rfl)
  rw [lg_entry_eq]
  generalize (lg_sl ([.ref (a 0)]) ++ List.replicate (3 - (lg_sl ([.ref (a 0)])).length) Slot.unset).toArray = ls at hl ⊢
  have hl : lv_has ls 3 [(0, .ref (a 0))] := hl
  suffices h9 : ∀ (H : Heap) (locs : List Loc), va_P D vwCl (pw a cH cB cJ cI g vt) H → va_S (fun q => s.heap.size ≤ q) s.heap H locs → W p l e (headSpec (wc yX4_orderCount cX4_orderCount 3 (some .int)) ({ frames := 1, cells := 0, slots := 0, locals := 20 })).room s m [.ref (a 0)].toArray below meth c H locs 0 0 (MQ below (va_Qi (fun (r : Int32) (_ : Unit) => r = iI (m_orderCount g)) (fun _ _ => True) (fun q => s.heap.size ≤ q)) [.ref (a 0)].toArray s 0 0 (fun q => s.heap.size ≤ q)) (F0 m 0 ls []) from h9 s.heap [] hP hS
  clear hP hS
  intro H locs hP hS
  have m5 := Wf.m5 hWf
  refine lv_iconst (v := iI 0) hx hb dX4_orderCount_0 (by decide) ?_
  refine lv_istore_n (lv' := [(1, .int (iI 0)), (0, .ref (a 0))]) hx hb dX4_orderCount_1 rfl hl (by decide) rfl (fun ls hl => ?_)
  refine lv_iconst (v := iI 0) hx hb dX4_orderCount_2 (by decide) ?_
  refine lv_istore_n (lv' := [(2, .int (iI 0)), (1, .int (iI 0)), (0, .ref (a 0))]) hx hb dX4_orderCount_3 rfl hl (by decide) rfl (fun ls hl => ?_)
  have loop4 : ∀ (d n : Nat) (H : Heap) (locs : List Loc) (ls : Array Slot), n + d = (g 0 0 5).toNat → va_P D vwCl (pw a cH cB cJ cI g vt) H → va_S (fun q => s.heap.size ≤ q) s.heap H locs → lv_has ls 3 [(2, .int (iI ((n : Nat) : Int))), (1, .int (iI (m_cnt (fun j => decide (0 < g 3 j 15)) n))), (0, .ref (a 0))] → W p l e (headSpec (wc yX4_orderCount cX4_orderCount 3 (some .int)) ({ frames := 1, cells := 0, slots := 0, locals := 20 })).room s m [.ref (a 0)].toArray below meth c H locs 0 0 (MQ below (va_Qi (fun (r : Int32) (_ : Unit) => r = iI (m_orderCount g)) (fun _ _ => True) (fun q => s.heap.size ≤ q)) [.ref (a 0)].toArray s 0 0 (fun q => s.heap.size ≤ q)) (F0 m 4 ls []) := by
    intro d
    induction d with
    | zero =>
      intro n H locs ls hn hP hS hl
      obtain rfl : n = (g 0 0 5).toNat := by omega
      refine lv_iload_n hx hb dX4_orderCount_4 rfl (lv_at hl 0 rfl) ?_
      refine lv_aload_n hx hb dX4_orderCount_5 rfl (lv_at hl 2 rfl) ?_
      have s1 := Wf.m5 hWf
      refine va_get (D := D) (ci := 4) (v := .int (iI (g 0 0 5))) (C := RX4) (T := TX4) (N := 19) hx hb hw hin_wsX40 hown hK hP 0 pw_0 rfl 5 (by decide) (hw _ kw_81) (fun _ h9 => h9) rfl dX4_orderCount_6 ?_
      refine n_icmp_ge hx hb (by unfold RI; omega) (by unfold RI; omega) (tgt := 33) dX4_orderCount_9 (by decide) (fun h2 => ?_) (fun h2 => absurd h2 (by intro h2; omega))
      refine lv_iload_n hx hb dX4_orderCount_33 rfl (lv_at hl 1 rfl) ?_
      exact W.iret (v := (iI (m_cnt (fun j => decide (0 < g 3 j 15)) ((g 0 0 5).toNat)))) hx hb hr (fun t ht hW9 => ⟨⟨(iI (m_cnt (fun j => decide (0 < g 3 j 15)) ((g 0 0 5).toNat))), (), rfl, (congrArg iI (by rfl)), trivial⟩, hS.F ht⟩) hS.2.2 dX4_orderCount_34
    | succ d ih4 =>
      intro n H locs ls hn hP hS hl
      refine lv_iload_n hx hb dX4_orderCount_4 rfl (lv_at hl 0 rfl) ?_
      refine lv_aload_n hx hb dX4_orderCount_5 rfl (lv_at hl 2 rfl) ?_
      have s3 := Wf.m5 hWf
      refine va_get (D := D) (ci := 4) (v := .int (iI (g 0 0 5))) (C := RX4) (T := TX4) (N := 19) hx hb hw hin_wsX40 hown hK hP 0 pw_0 rfl 5 (by decide) (hw _ kw_81) (fun _ h9 => h9) rfl dX4_orderCount_6 ?_
      refine n_icmp_ge hx hb (by unfold RI; omega) (by unfold RI; omega) (tgt := 33) dX4_orderCount_9 (by decide) (fun h4 => absurd h4 (by intro h4; omega)) (fun h4 => ?_)
      refine lv_aload_n hx hb dX4_orderCount_12 rfl (lv_at hl 2 rfl) ?_
      refine va_get (D := D) (ci := 4) (v := .ref (a 3)) (C := RX4) (T := TX4) (N := 19) hx hb hw hin_wsX40 hown hK hP 0 pw_0 rfl 2 (by decide) (hw _ kw_19) (fun _ h9 => h9) rfl dX4_orderCount_13 ?_
      refine lv_iload_n hx hb dX4_orderCount_16 rfl (lv_at hl 0 rfl) ?_
      refine p_aldJ hx hb hK hP (k := ((n : Nat) : Int)) (by omega) (by omega) dX4_orderCount_17 ?_
      refine va_calli (va_runV (As := []) (rest := []) ⟨hx, hb, hml, hown, hw⟩ (c_hasOrder l D a cH cB cJ cI ha g vt H.size ((n : Nat) : Int) hWf (by omega)) (cwV 0 hw (gA_V kw_188 kw_189 kw_190 kw_34 kw_191) rfl rfl rfl (by decide +kernel) ⟨Nat.le_of_ble_eq_true rfl, Nat.le_of_ble_eq_true rfl⟩) (pS_v (ci := 2) (q0 := (28 + 6 * ((n : Nat) : Int).toNat)) rfl (pw_J (j := ((n : Nat) : Int)) (by omega) (by omega)) hP hK hE) rfl rfl hl.1 rfl (lv_room (Nat.le_of_ble_eq_true rfl)) dX4_orderCount_18 ⟨Nat.le_of_ble_eq_true rfl, Nat.le_of_ble_eq_true rfl⟩) hS (fun q h1 h2 => ro_A h1 h2) (fun q h => ro_F hS hA q h) (fun r u t H1 locs ht hvm hw9 hB9 hz1 hk1 hS => ?_)
      have hw9 : r = (bi (decide (0 < g 3 ((n : Nat) : Int) 15))) := hw9
      subst hw9
      have hP := ro_P hP hk1
      generalize H1 = H at hP hS ⊢
      refine n_b_eq hx hb (tgt := 27) dX4_orderCount_21 (by decide) (fun h5 => ?_) (fun h5 => ?_)
      · skip
        have h5 := of_decide_eq_false h5
        refine n_inc (lv' := [(2, .int (iI (((n : Nat) : Int) + 1))), (1, .int (iI (m_cnt (fun j => decide (0 < g 3 j 15)) n))), (0, .ref (a 0))]) hx hb dX4_orderCount_27 hl (k := 0) rfl (by decide) rfl (fun ls hl => ?_)
        refine lv_goto (tgt := 4) hx hb dX4_orderCount_30 (by decide) ?_
        have hl : lv_has ls 3 [(2, .int (iI (((n : Nat) : Int) + 1))), (1, .int (iI (m_cnt (fun j => decide (0 < g 3 j 15)) n))), (0, .ref (a 0))] := lv_sub hl [0, 1, 2] rfl
        have e6 : (((n : Nat) : Int) + 1) = (((n + 1) : Nat) : Int) := by rfl
        have e7 : (m_cnt (fun j => decide (0 < g 3 j 15)) n) = (m_cnt (fun j => decide (0 < g 3 j 15)) (n + 1)) := by exact (cnt_f (q := (fun j => decide (0 < g 3 j 15))) (n := n) (by simp [h4, Int.not_le.mpr h4, h5]; try omega)).symm
        have hl : lv_has ls 3 [(2, .int (iI (((n + 1) : Nat) : Int))), (1, .int (iI (m_cnt (fun j => decide (0 < g 3 j 15)) (n + 1)))), (0, .ref (a 0))] := lv_cast hl (by rw [e6, e7])
        exact ih4 (n + 1) H locs ls (by omega) hP hS hl
      · skip
        have h5 := of_decide_eq_true h5
        refine n_inc (lv' := [(1, .int (iI ((m_cnt (fun j => decide (0 < g 3 j 15)) n) + 1))), (2, .int (iI ((n : Nat) : Int))), (0, .ref (a 0))]) hx hb dX4_orderCount_24 hl (k := 1) rfl (by decide) rfl (fun ls hl => ?_)
        refine n_inc (lv' := [(2, .int (iI (((n : Nat) : Int) + 1))), (1, .int (iI ((m_cnt (fun j => decide (0 < g 3 j 15)) n) + 1))), (0, .ref (a 0))]) hx hb dX4_orderCount_27 hl (k := 1) rfl (by decide) rfl (fun ls hl => ?_)
        refine lv_goto (tgt := 4) hx hb dX4_orderCount_30 (by decide) ?_
        have hl : lv_has ls 3 [(2, .int (iI (((n : Nat) : Int) + 1))), (1, .int (iI ((m_cnt (fun j => decide (0 < g 3 j 15)) n) + 1))), (0, .ref (a 0))] := lv_sub hl [0, 1, 2] rfl
        have e8 : (((n : Nat) : Int) + 1) = (((n + 1) : Nat) : Int) := by rfl
        have e9 : ((m_cnt (fun j => decide (0 < g 3 j 15)) n) + 1) = (m_cnt (fun j => decide (0 < g 3 j 15)) (n + 1)) := by exact (cnt_t (q := (fun j => decide (0 < g 3 j 15))) (n := n) (by simp [h4, Int.not_le.mpr h4, h5]; try omega)).symm
        have hl : lv_has ls 3 [(2, .int (iI (((n + 1) : Nat) : Int))), (1, .int (iI (m_cnt (fun j => decide (0 < g 3 j 15)) (n + 1)))), (0, .ref (a 0))] := lv_cast hl (by rw [e8, e9])
        exact ih4 (n + 1) H locs ls (by omega) hP hS hl
  have hl : lv_has ls 3 [(2, .int (iI 0)), (1, .int (iI 0)), (0, .ref (a 0))] := lv_sub hl [0, 1, 2] rfl
  have hl : lv_has ls 3 [(2, .int (iI ((0 : Nat) : Int))), (1, .int (iI (m_cnt (fun j => decide (0 < g 3 j 15)) 0))), (0, .ref (a 0))] := hl
  exact loop4 ((g 0 0 5).toNat) 0 H locs ls (by omega) hP hS hl
set_option maxHeartbeats 4000000 in
set_option maxRecDepth 100000 in
theorem c_openTo (l : Launch) (D : va_G) (a : Nat → Nat) (cH cB cJ cI : ClassId) (ha : pj a) (g : m_St) (vt : Nat → Int32) (sz : Nat) (jj : Int) (hWf : Wf g) (hjj : 0 ≤ jj ∧ jj < 5) : Met l yX4_openTo (wc yX4_openTo cX4_openTo 4 (some .int)) ({ frames := 1, cells := 0, slots := 0, locals := 21 }) (va_Pc [.ref (a 0), .ref (a (28 + 6 * jj.toNat))] (pS D a cH cB cJ cI sz g vt)) (va_Qi (fun (r : Int32) (_ : Unit) => r = iI (m_openTo g jj)) (fun _ _ => True) (fun q => sz ≤ q)) 0 0 (fun q => sz ≤ q) := by
  refine Met.ofW (cc := cX4_openTo) (maxL := 4) (ret := (some .int)) (by decide +kernel) rfl ?_
  intro p e s m args below meth c s₁ B9 hml hv
  obtain ⟨rfl, hsz, hP, hK, hE⟩ := hv
  have hx := B9.exec
  have hb := B9.bytes
  have hr := B9.returns
  have hts := atoms_spec (ws := (wc yX4_openTo cX4_openTo 4 (some .int))) B9.pre
  have hw : ∀ w ∈ wsL_law0, w.before [.ref (a 0), .ref (a (28 + 6 * jj.toNat))].toArray s = true := fun w h => hts w (List.mem_cons_of_mem _ h)
  have hown : s.vm.findClass RX4 = some m.cls := findClass_of_methodNamed B9.named
  subst hsz
  have hS : va_S (fun q => s.heap.size ≤ q) s.heap s.heap [] := va_S.rf
  have hA : ∀ q : Nat, s.heap.size ≤ q → (fun q : Nat => s.heap.size ≤ q) q := fun _ h => h
  have hl := lv_entry ([.ref (a 0), .ref (a (28 + 6 * jj.toNat))]) (n := 4) (Nat.le_of_ble_eq_true rfl)
  rw [lg_entry_eq]
  generalize (lg_sl ([.ref (a 0), .ref (a (28 + 6 * jj.toNat))]) ++ List.replicate (4 - (lg_sl ([.ref (a 0), .ref (a (28 + 6 * jj.toNat))])).length) Slot.unset).toArray = ls at hl ⊢
  have hl : lv_has ls 4 [(0, .ref (a 0)), (1, .ref (a (28 + 6 * jj.toNat)))] := hl
  suffices h9 : ∀ (H : Heap) (locs : List Loc), va_P D vwCl (pw a cH cB cJ cI g vt) H → va_S (fun q => s.heap.size ≤ q) s.heap H locs → W p l e (headSpec (wc yX4_openTo cX4_openTo 4 (some .int)) ({ frames := 1, cells := 0, slots := 0, locals := 21 })).room s m [.ref (a 0), .ref (a (28 + 6 * jj.toNat))].toArray below meth c H locs 0 0 (MQ below (va_Qi (fun (r : Int32) (_ : Unit) => r = iI (m_openTo g jj)) (fun _ _ => True) (fun q => s.heap.size ≤ q)) [.ref (a 0), .ref (a (28 + 6 * jj.toNat))].toArray s 0 0 (fun q => s.heap.size ≤ q)) (F0 m 0 ls []) from h9 s.heap [] hP hS
  clear hP hS
  intro H locs hP hS
  have m4 := Wf.m4 hWf
  refine lv_iconst (v := iI 0) hx hb dX4_openTo_0 (by decide) ?_
  refine lv_istore_n (lv' := [(2, .int (iI 0)), (0, .ref (a 0)), (1, .ref (a (28 + 6 * jj.toNat)))]) hx hb dX4_openTo_1 rfl hl (by decide) rfl (fun ls hl => ?_)
  refine lv_iconst (v := iI 0) hx hb dX4_openTo_2 (by decide) ?_
  refine lv_istore_n (lv' := [(3, .int (iI 0)), (2, .int (iI 0)), (0, .ref (a 0)), (1, .ref (a (28 + 6 * jj.toNat)))]) hx hb dX4_openTo_3 rfl hl (by decide) rfl (fun ls hl => ?_)
  have loop4 : ∀ (d n : Nat) (x2 : Int) (H : Heap) (locs : List Loc) (ls : Array Slot), n + d = (g 0 0 4).toNat → x2 = m_fo (fun b S => bif m_agn g jj (g 2 b 1) then S else m_bo S (m_bt b)) 0 n → (0 ≤ x2 ∧ x2 < 65536) → va_P D vwCl (pw a cH cB cJ cI g vt) H → va_S (fun q => s.heap.size ≤ q) s.heap H locs → lv_has ls 4 [(3, .int (iI ((n : Nat) : Int))), (2, .int (iI x2)), (0, .ref (a 0)), (1, .ref (a (28 + 6 * jj.toNat)))] → W p l e (headSpec (wc yX4_openTo cX4_openTo 4 (some .int)) ({ frames := 1, cells := 0, slots := 0, locals := 21 })).room s m [.ref (a 0), .ref (a (28 + 6 * jj.toNat))].toArray below meth c H locs 0 0 (MQ below (va_Qi (fun (r : Int32) (_ : Unit) => r = iI (m_openTo g jj)) (fun _ _ => True) (fun q => s.heap.size ≤ q)) [.ref (a 0), .ref (a (28 + 6 * jj.toNat))].toArray s 0 0 (fun q => s.heap.size ≤ q)) (F0 m 4 ls []) := by
    intro d
    induction d with
    | zero =>
      intro n x2 H locs ls hn hx2 hs hP hS hl
      obtain rfl : n = (g 0 0 4).toNat := by omega
      refine lv_iload_n hx hb dX4_openTo_4 rfl (lv_at hl 0 rfl) ?_
      refine lv_aload_n hx hb dX4_openTo_5 rfl (lv_at hl 2 rfl) ?_
      have s1 := Wf.m4 hWf
      refine va_get (D := D) (ci := 4) (v := .int (iI (g 0 0 4))) (C := RX4) (T := TX4) (N := 19) hx hb hw hin_wsX40 hown hK hP 0 pw_0 rfl 4 (by decide) (hw _ kw_98) (fun _ h9 => h9) rfl dX4_openTo_6 ?_
      refine n_icmp_ge hx hb (by unfold RI; omega) (by unfold RI; omega) (tgt := 41) dX4_openTo_9 (by decide) (fun h2 => ?_) (fun h2 => absurd h2 (by intro h2; omega))
      refine lv_iload_n hx hb dX4_openTo_41 rfl (lv_at hl 1 rfl) ?_
      exact W.iret (v := (iI x2)) hx hb hr (fun t ht hW9 => ⟨⟨(iI x2), (), rfl, (congrArg iI (by rw [hx2]; rfl)), trivial⟩, hS.F ht⟩) hS.2.2 dX4_openTo_42
    | succ d ih4 =>
      intro n x2 H locs ls hn hx2 hs hP hS hl
      refine lv_iload_n hx hb dX4_openTo_4 rfl (lv_at hl 0 rfl) ?_
      refine lv_aload_n hx hb dX4_openTo_5 rfl (lv_at hl 2 rfl) ?_
      have s3 := Wf.m4 hWf
      refine va_get (D := D) (ci := 4) (v := .int (iI (g 0 0 4))) (C := RX4) (T := TX4) (N := 19) hx hb hw hin_wsX40 hown hK hP 0 pw_0 rfl 4 (by decide) (hw _ kw_98) (fun _ h9 => h9) rfl dX4_openTo_6 ?_
      refine n_icmp_ge hx hb (by unfold RI; omega) (by unfold RI; omega) (tgt := 41) dX4_openTo_9 (by decide) (fun h4 => absurd h4 (by intro h4; omega)) (fun h4 => ?_)
      refine lv_aload_n hx hb dX4_openTo_12 rfl (lv_at hl 3 rfl) ?_
      refine lv_aload_n hx hb dX4_openTo_13 rfl (lv_at hl 2 rfl) ?_
      refine va_get (D := D) (ci := 4) (v := .ref (a 2)) (C := RX4) (T := TX4) (N := 19) hx hb hw hin_wsX40 hown hK hP 0 pw_0 rfl 1 (by decide) (hw _ kw_17) (fun _ h9 => h9) rfl dX4_openTo_14 ?_
      refine lv_iload_n hx hb dX4_openTo_17 rfl (lv_at hl 0 rfl) ?_
      refine p_aldB hx hb hK hP (k := ((n : Nat) : Int)) (by omega) (by omega) dX4_openTo_18 ?_
      have s5 := Wf.b1 hWf (k := ((n : Nat) : Int)) (by omega) (by omega)
      refine va_get (D := D) (ci := 0) (v := .int (iI (g 2 ((n : Nat) : Int) 1))) (C := RX0) (T := TX0) (N := 11) hx hb hw hin_wsX00 hown hK hP (12 + ((n : Nat) : Int).toNat) (pw_B (b := ((n : Nat) : Int)) (by omega) (by omega)) rfl 1 (by decide) (hw _ kw_211) (fun _ h9 => h9) rfl dX4_openTo_19 ?_
      refine va_calli (va_runV (As := [.int (iI (g 2 ((n : Nat) : Int) 1))]) (rest := []) ⟨hx, hb, hml, hown, hw⟩ (c_isAgainst l D a cH cB cJ cI ha g vt H.size jj (g 2 ((n : Nat) : Int) 1) hWf (by omega) (by omega)) (cwV 1 hw (gA_V kw_238 kw_239 kw_240 kw_34 kw_241) rfl rfl rfl (by decide +kernel) ⟨Nat.le_of_ble_eq_true rfl, Nat.le_of_ble_eq_true rfl⟩) (pS_v (ci := 2) (q0 := (28 + 6 * jj.toNat)) rfl (pw_J (j := jj) (by omega) (by omega)) hP hK hE) rfl rfl hl.1 rfl (lv_room (Nat.le_of_ble_eq_true rfl)) dX4_openTo_22 ⟨Nat.le_of_ble_eq_true rfl, Nat.le_of_ble_eq_true rfl⟩) hS (fun q h1 h2 => ro_A h1 h2) (fun q h => ro_F hS hA q h) (fun r u t H1 locs ht hvm hw9 hB9 hz1 hk1 hS => ?_)
      have hw9 : r = (bi (m_agn g jj (g 2 ((n : Nat) : Int) 1))) := hw9
      subst hw9
      have hP := ro_P hP hk1
      generalize H1 = H at hP hS ⊢
      refine n_b_ne hx hb (tgt := 35) dX4_openTo_25 (by decide) (fun h6 => ?_) (fun h6 => ?_)
      · skip
        refine n_inc (lv' := [(3, .int (iI (((n : Nat) : Int) + 1))), (2, .int (iI x2)), (0, .ref (a 0)), (1, .ref (a (28 + 6 * jj.toNat)))]) hx hb dX4_openTo_35 hl (k := 0) rfl (by decide) rfl (fun ls hl => ?_)
        refine lv_goto (tgt := 4) hx hb dX4_openTo_38 (by decide) ?_
        have hl : lv_has ls 4 [(3, .int (iI (((n : Nat) : Int) + 1))), (2, .int (iI x2)), (0, .ref (a 0)), (1, .ref (a (28 + 6 * jj.toNat)))] := lv_sub hl [0, 1, 2, 3] rfl
        have e7 : (((n : Nat) : Int) + 1) = (((n + 1) : Nat) : Int) := by rfl
        have hl : lv_has ls 4 [(3, .int (iI (((n + 1) : Nat) : Int))), (2, .int (iI x2)), (0, .ref (a 0)), (1, .ref (a (28 + 6 * jj.toNat)))] := lv_cast hl (by rw [e7])
        exact ih4 (n + 1) x2 H locs ls (by omega) (by simp only [m_fo, ← hx2]; simp [h4, Int.not_le.mpr h4, h6]) (by first | assumption | exact bo_16 hs (by omega) (by omega)) hP hS hl
      · skip
        refine lv_iload_n hx hb dX4_openTo_28 rfl (lv_at hl 1 rfl) ?_
        refine lv_iload_n hx hb dX4_openTo_29 rfl (lv_at hl 0 rfl) ?_
        refine va_calli (va_runS (As := [.int (iI ((n : Nat) : Int))]) (rest := [.int (iI x2)]) ⟨hx, hb, hml, hown, hw⟩ (c_bit l D a cH cB cJ cI ha g vt H.size ((n : Nat) : Int) (by omega)) (va_cwS 1 hw (gA_S kw_171 kw_172 kw_2 kw_173) rfl rfl rfl (by decide +kernel) ⟨Nat.le_of_ble_eq_true rfl, Nat.le_of_ble_eq_true rfl⟩) (pS_s hP hK hE) rfl rfl hl.1 rfl (lv_room (Nat.le_of_ble_eq_true rfl)) dX4_openTo_30 ⟨Nat.le_of_ble_eq_true rfl, Nat.le_of_ble_eq_true rfl⟩) hS (fun q h1 h2 => ro_A h1 h2) (fun q h => ro_F hS hA q h) (fun r u t H1 locs ht hvm hw9 hB9 hz1 hk1 hS => ?_)
        have hw9 : r = (iI (m_bt ((n : Nat) : Int))) := hw9
        subst hw9
        have hP := ro_P hP hk1
        generalize H1 = H at hP hS ⊢
        have s8 := bt_nn ((n : Nat) : Int)
        have s9 := bt_lt (n := ((n : Nat) : Int)) (by omega) (by omega)
        refine n_or hx hb (by omega) (by omega) dX4_openTo_33 ?_
        have s10 := bo_nn x2 (m_bt ((n : Nat) : Int))
        refine lv_istore_n (lv' := [(2, .int (iI (m_bo x2 (m_bt ((n : Nat) : Int))))), (3, .int (iI ((n : Nat) : Int))), (0, .ref (a 0)), (1, .ref (a (28 + 6 * jj.toNat)))]) hx hb dX4_openTo_34 rfl hl (by decide) rfl (fun ls hl => ?_)
        refine n_inc (lv' := [(3, .int (iI (((n : Nat) : Int) + 1))), (2, .int (iI (m_bo x2 (m_bt ((n : Nat) : Int))))), (0, .ref (a 0)), (1, .ref (a (28 + 6 * jj.toNat)))]) hx hb dX4_openTo_35 hl (k := 1) rfl (by decide) rfl (fun ls hl => ?_)
        refine lv_goto (tgt := 4) hx hb dX4_openTo_38 (by decide) ?_
        have hl : lv_has ls 4 [(3, .int (iI (((n : Nat) : Int) + 1))), (2, .int (iI (m_bo x2 (m_bt ((n : Nat) : Int))))), (0, .ref (a 0)), (1, .ref (a (28 + 6 * jj.toNat)))] := lv_sub hl [0, 1, 2, 3] rfl
        have e11 : (((n : Nat) : Int) + 1) = (((n + 1) : Nat) : Int) := by rfl
        have hl : lv_has ls 4 [(3, .int (iI (((n + 1) : Nat) : Int))), (2, .int (iI (m_bo x2 (m_bt ((n : Nat) : Int))))), (0, .ref (a 0)), (1, .ref (a (28 + 6 * jj.toNat)))] := lv_cast hl (by rw [e11])
        exact ih4 (n + 1) (m_bo x2 (m_bt ((n : Nat) : Int))) H locs ls (by omega) (by simp only [m_fo, ← hx2]; simp [h4, Int.not_le.mpr h4, h6]) (by first | assumption | exact bo_16 hs (by omega) (by omega)) hP hS hl
  have hl : lv_has ls 4 [(3, .int (iI 0)), (2, .int (iI 0)), (0, .ref (a 0)), (1, .ref (a (28 + 6 * jj.toNat)))] := lv_sub hl [0, 1, 2, 3] rfl
  have hl : lv_has ls 4 [(3, .int (iI ((0 : Nat) : Int))), (2, .int (iI 0)), (0, .ref (a 0)), (1, .ref (a (28 + 6 * jj.toNat)))] := hl
  exact loop4 ((g 0 0 4).toNat) 0 0 H locs ls (by omega) rfl (by omega) hP hS hl

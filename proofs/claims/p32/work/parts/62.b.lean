set_option maxHeartbeats 4000000 in
set_option maxRecDepth 100000 in
theorem c_wins (l : Launch) (D : va_G) (a : Nat → Nat) (cH cB cJ cI : ClassId) (ha : pj a) (g : m_St) (vt : Nat → Int32) (sz : Nat) (jo : Int) (hWf : Wf g) (hout : 0 ≤ jo ∧ jo ≤ 31) (hsb : ∀ b, m_has (g 0 0 13) b = true → b < g 0 0 4) : Met l yX4_wins (wc yX4_wins cX4_wins 2 (some .int)) ({ frames := 5, cells := 0, slots := 0, locals := 117 }) (va_Pc [.ref (a 0), .int (iI jo)] (pS D a cH cB cJ cI sz g vt)) (va_Qi (fun (r : Int32) (_ : Unit) => r = iI (m_winner g 0 jo)) (fun _ t => ∃ vt1 : Nat → Int32, va_P D vwCl (pw a cH cB cJ cI g vt1) t.heap) (pA a sz)) 0 0 (pA a sz) := by
  refine Met.ofW (cc := cX4_wins) (maxL := 2) (ret := (some .int)) (by decide +kernel) rfl ?_
  intro p e s m args below meth c s₁ B9 hml hv
  obtain ⟨rfl, hsz, hP, hK, hE⟩ := hv
  have hx := B9.exec
  have hb := B9.bytes
  have hr := B9.returns
  have hts := atoms_spec (ws := (wc yX4_wins cX4_wins 2 (some .int))) B9.pre
  have hw : ∀ w ∈ wsL_law0, w.before [.ref (a 0), .int (iI jo)].toArray s = true := fun w h => hts w (List.mem_cons_of_mem _ h)
  have hown : s.vm.findClass RX4 = some m.cls := findClass_of_methodNamed B9.named
  subst hsz
  have hS : va_S (pA a s.heap.size) s.heap s.heap [] := va_S.rf
  have hA : ∀ q : Nat, s.heap.size ≤ q → pA a s.heap.size q := fun _ h => pA_new h
  have hB : ∀ k, k < 58 → pA a s.heap.size (a k) := fun _ h => pA_in h
  have hl := lv_entry ([.ref (a 0), .int (iI jo)]) (n := 2) (Nat.le_of_ble_eq_true rfl)
  rw [lg_entry_eq]
  generalize (lg_sl ([.ref (a 0), .int (iI jo)]) ++ List.replicate (2 - (lg_sl ([.ref (a 0), .int (iI jo)])).length) Slot.unset).toArray = ls at hl ⊢
  have hl : lv_has ls 2 [(0, .ref (a 0)), (1, .int (iI jo))] := hl
  suffices h9 : ∀ (H : Heap) (locs : List Loc), va_P D vwCl (pw a cH cB cJ cI g vt) H → va_S (pA a s.heap.size) s.heap H locs → W p l e (headSpec (wc yX4_wins cX4_wins 2 (some .int)) ({ frames := 5, cells := 0, slots := 0, locals := 117 })).room s m [.ref (a 0), .int (iI jo)].toArray below meth c H locs 0 0 (MQ below (va_Qi (fun (r : Int32) (_ : Unit) => r = iI (m_winner g 0 jo)) (fun _ t => ∃ vt1 : Nat → Int32, va_P D vwCl (pw a cH cB cJ cI g vt1) t.heap) (pA a s.heap.size)) [.ref (a 0), .int (iI jo)].toArray s 0 0 (pA a s.heap.size)) (F0 m 0 ls []) from h9 s.heap [] hP hS
  clear hP hS
  intro H locs hP hS
  refine lv_iload_n hx hb dX4_wins_0 rfl (lv_at hl 1 rfl) ?_
  refine lv_iconst (v := iI 0) hx hb dX4_wins_1 (by decide) ?_
  refine lv_bipush (v := iI 31) hx hb dX4_wins_2 (by decide) ?_
  refine va_calli (va_runS (As := [.int (iI jo), .int (iI 0), .int (iI 31)]) (rest := []) ⟨hx, hb, hml, hown, hw⟩ (c_isWithin l D a cH cB cJ cI ha g vt H.size jo 0 31 (by omega) (by omega) (by omega)) (va_cwS 3 hw (gA_S kw_82 kw_83 kw_2 kw_84) rfl rfl rfl (by decide +kernel) ⟨Nat.le_of_ble_eq_true rfl, Nat.le_of_ble_eq_true rfl⟩) (pS_s hP hK hE) rfl rfl hl.1 rfl (lv_room (Nat.le_of_ble_eq_true rfl)) dX4_wins_4 ⟨Nat.le_of_ble_eq_true rfl, Nat.le_of_ble_eq_true rfl⟩) hS (fun q h1 h2 => ro_A h1 h2) (fun q h => ro_F hS hA q h) (fun r u t H1 locs ht hvm hw9 hB9 hz1 hk1 hS => ?_)
  have hw9 : r = (bi (decide (0 ≤ jo ∧ jo ≤ 31))) := hw9
  subst hw9
  have hP := ro_P hP hk1
  generalize H1 = H at hP hS ⊢
  refine n_b_ne hx hb (tgt := 21) dX4_wins_7 (by decide) (fun h1 => ?_) (fun h1 => absurd h1 (by intro h1; have h1 := of_decide_eq_false h1; omega))
  have h1 := of_decide_eq_true h1
  refine lv_aload_n hx hb dX4_wins_21 rfl (lv_at hl 0 rfl) ?_
  refine lv_iconst (v := iI 0) hx hb dX4_wins_22 (by decide) ?_
  refine lv_iload_n hx hb dX4_wins_23 rfl (lv_at hl 1 rfl) ?_
  refine va_calli (va_runV (As := [.int (iI 0), .int (iI jo)]) (rest := []) ⟨hx, hb, hml, hown, hw⟩ (c_winnerWithout l D a cH cB cJ cI ha g vt H.size 0 jo hWf (by omega) (by omega) (hsb)) (cwV 2 hw (gA_V kw_385 kw_386 kw_387 kw_2 kw_388) rfl rfl rfl (by decide +kernel) ⟨Nat.le_of_ble_eq_true rfl, Nat.le_of_ble_eq_true rfl⟩) (pS_v (ci := 4) (q0 := 0) rfl pw_0 hP hK hE) rfl rfl hl.1 rfl (lv_room (Nat.le_of_ble_eq_true rfl)) dX4_wins_24 ⟨Nat.le_of_ble_eq_true rfl, Nat.le_of_ble_eq_true rfl⟩) hS (fun q _ h => rw_A hS hA hB q h) (fun q h => rw_A hS hA hB q h) (fun r u t H1 locs ht hvm hw9 hB9 hz1 hk1 hS => ?_)
  have hw9 : r = (iI (m_winner g 0 jo)) := hw9
  subst hw9
  obtain ⟨v2, hP1⟩ := hB9
  rw [ht] at hP1
  have hP : va_P D vwCl (pw a cH cB cJ cI g v2) H1 := hP1
  generalize H1 = H at hP hS ⊢
  have s3 := win_b hWf 0 jo
  exact W.iret (v := (iI (m_winner g 0 jo))) hx hb hr (fun t ht hW9 => ⟨⟨(iI (m_winner g 0 jo)), (), rfl, rfl, ⟨v2, by rw [ht]; exact hP⟩⟩, hS.F ht⟩) hS.2.2 dX4_wins_27
set_option maxHeartbeats 4000000 in
set_option maxRecDepth 100000 in
theorem c_spoiled (l : Launch) (D : va_G) (a : Nat → Nat) (cH cB cJ cI : ClassId) (ha : pj a) (g : m_St) (vt : Nat → Int32) (sz : Nat) (bb : Int) (hWf : Wf g) (hbb : 0 ≤ bb ∧ bb < g 0 0 4) (hsb : ∀ b, m_has (g 0 0 13) b = true → b < g 0 0 4) : Met l yX4_spoiled (wc yX4_spoiled cX4_spoiled 2 (some .int)) ({ frames := 5, cells := 0, slots := 0, locals := 117 }) (va_Pc [.ref (a 0), .int (iI bb)] (pS D a cH cB cJ cI sz g vt)) (va_Qi (fun (r : Int32) (_ : Unit) => r = iI (m_spoiled g bb)) (fun _ t => ∃ vt1 : Nat → Int32, va_P D vwCl (pw a cH cB cJ cI g vt1) t.heap) (pA a sz)) 0 0 (pA a sz) := by
  refine Met.ofW (cc := cX4_spoiled) (maxL := 2) (ret := (some .int)) (by decide +kernel) rfl ?_
  intro p e s m args below meth c s₁ B9 hml hv
  obtain ⟨rfl, hsz, hP, hK, hE⟩ := hv
  have hx := B9.exec
  have hb := B9.bytes
  have hr := B9.returns
  have hts := atoms_spec (ws := (wc yX4_spoiled cX4_spoiled 2 (some .int))) B9.pre
  have hw : ∀ w ∈ wsL_law0, w.before [.ref (a 0), .int (iI bb)].toArray s = true := fun w h => hts w (List.mem_cons_of_mem _ h)
  have hown : s.vm.findClass RX4 = some m.cls := findClass_of_methodNamed B9.named
  subst hsz
  have hS : va_S (pA a s.heap.size) s.heap s.heap [] := va_S.rf
  have hA : ∀ q : Nat, s.heap.size ≤ q → pA a s.heap.size q := fun _ h => pA_new h
  have hB : ∀ k, k < 58 → pA a s.heap.size (a k) := fun _ h => pA_in h
  have hl := lv_entry ([.ref (a 0), .int (iI bb)]) (n := 2) (Nat.le_of_ble_eq_true rfl)
  rw [lg_entry_eq]
  generalize (lg_sl ([.ref (a 0), .int (iI bb)]) ++ List.replicate (2 - (lg_sl ([.ref (a 0), .int (iI bb)])).length) Slot.unset).toArray = ls at hl ⊢
  have hl : lv_has ls 2 [(0, .ref (a 0)), (1, .int (iI bb))] := hl
  suffices h9 : ∀ (H : Heap) (locs : List Loc), va_P D vwCl (pw a cH cB cJ cI g vt) H → va_S (pA a s.heap.size) s.heap H locs → W p l e (headSpec (wc yX4_spoiled cX4_spoiled 2 (some .int)) ({ frames := 5, cells := 0, slots := 0, locals := 117 })).room s m [.ref (a 0), .int (iI bb)].toArray below meth c H locs 0 0 (MQ below (va_Qi (fun (r : Int32) (_ : Unit) => r = iI (m_spoiled g bb)) (fun _ t => ∃ vt1 : Nat → Int32, va_P D vwCl (pw a cH cB cJ cI g vt1) t.heap) (pA a s.heap.size)) [.ref (a 0), .int (iI bb)].toArray s 0 0 (pA a s.heap.size)) (F0 m 0 ls []) from h9 s.heap [] hP hS
  clear hP hS
  intro H locs hP hS
  have m4 := Wf.m4 hWf
  have h65 := bt_65 (bb := bb) (by omega)
  refine lv_aload_n hx hb dX4_spoiled_0 rfl (lv_at hl 0 rfl) ?_
  refine lv_iload_n hx hb dX4_spoiled_1 rfl (lv_at hl 1 rfl) ?_
  refine va_calli (va_runV (As := [.int (iI bb)]) (rest := []) ⟨hx, hb, hml, hown, hw⟩ (c_isBook l D a cH cB cJ cI ha g vt H.size bb hWf (by omega)) (cwV 1 hw (gA_V kw_162 kw_163 kw_164 kw_2 kw_165) rfl rfl rfl (by decide +kernel) ⟨Nat.le_of_ble_eq_true rfl, Nat.le_of_ble_eq_true rfl⟩) (pS_v (ci := 4) (q0 := 0) rfl pw_0 hP hK hE) rfl rfl hl.1 rfl (lv_room (Nat.le_of_ble_eq_true rfl)) dX4_spoiled_2 ⟨Nat.le_of_ble_eq_true rfl, Nat.le_of_ble_eq_true rfl⟩) hS (fun q h1 h2 => ro_A h1 h2) (fun q h => ro_F hS hA q h) (fun r u t H1 locs ht hvm hw9 hB9 hz1 hk1 hS => ?_)
  have hw9 : r = (bi (decide (0 ≤ bb ∧ bb < g 0 0 4))) := hw9
  subst hw9
  have hP := ro_P hP hk1
  generalize H1 = H at hP hS ⊢
  refine n_b_ne hx hb (tgt := 18) dX4_spoiled_5 (by decide) (fun h1 => ?_) (fun h1 => absurd h1 (by intro h1; have h1 := of_decide_eq_false h1; omega))
  have h1 := of_decide_eq_true h1
  refine lv_aload_n hx hb dX4_spoiled_18 rfl (lv_at hl 0 rfl) ?_
  have s2 := Wf.m13 hWf
  refine va_get (D := D) (ci := 4) (v := .int (iI (g 0 0 13))) (C := RX4) (T := TX4) (N := 19) hx hb hw hin_wsX40 hown hK hP 0 pw_0 rfl 13 (by decide) (hw _ kw_100) (fun _ h9 => h9) rfl dX4_spoiled_19 ?_
  refine lv_iload_n hx hb dX4_spoiled_22 rfl (lv_at hl 1 rfl) ?_
  refine va_calli (va_runS (As := [.int (iI (g 0 0 13)), .int (iI bb)]) (rest := []) ⟨hx, hb, hml, hown, hw⟩ (c_has l D a cH cB cJ cI ha g vt H.size (g 0 0 13) bb (by omega) (by omega)) (va_cwS 2 hw (gA_S kw_229 kw_223 kw_2 kw_224) rfl rfl rfl (by decide +kernel) ⟨Nat.le_of_ble_eq_true rfl, Nat.le_of_ble_eq_true rfl⟩) (pS_s hP hK hE) rfl rfl hl.1 rfl (lv_room (Nat.le_of_ble_eq_true rfl)) dX4_spoiled_23 ⟨Nat.le_of_ble_eq_true rfl, Nat.le_of_ble_eq_true rfl⟩) hS (fun q h1 h2 => ro_A h1 h2) (fun q h => ro_F hS hA q h) (fun r u t H1 locs ht hvm hw9 hB9 hz1 hk1 hS => ?_)
  have hw9 : r = (bi (m_has (g 0 0 13) bb)) := hw9
  subst hw9
  have hP := ro_P hP hk1
  generalize H1 = H at hP hS ⊢
  refine n_b_eq hx hb (tgt := 41) dX4_spoiled_26 (by decide) (fun h3 => ?_) (fun h3 => ?_)
  · skip
    refine lv_iconst (v := iI (-1)) hx hb dX4_spoiled_41 (by decide) ?_
    exact W.iret (v := (iI (-1))) hx hb hr (fun t ht hW9 => ⟨⟨(iI (-1)), (), rfl, (congrArg iI (by simp [m_spoiled, h1, h3])), ⟨vt, by rw [ht]; exact hP⟩⟩, hS.F ht⟩) hS.2.2 dX4_spoiled_42
  · skip
    refine lv_aload_n hx hb dX4_spoiled_29 rfl (lv_at hl 0 rfl) ?_
    refine lv_iload_n hx hb dX4_spoiled_30 rfl (lv_at hl 1 rfl) ?_
    refine va_calli (va_runS (As := [.int (iI bb)]) (rest := [.ref (a 0)]) ⟨hx, hb, hml, hown, hw⟩ (c_bit l D a cH cB cJ cI ha g vt H.size bb (by omega)) (va_cwS 1 hw (gA_S kw_171 kw_172 kw_2 kw_173) rfl rfl rfl (by decide +kernel) ⟨Nat.le_of_ble_eq_true rfl, Nat.le_of_ble_eq_true rfl⟩) (pS_s hP hK hE) rfl rfl hl.1 rfl (lv_room (Nat.le_of_ble_eq_true rfl)) dX4_spoiled_31 ⟨Nat.le_of_ble_eq_true rfl, Nat.le_of_ble_eq_true rfl⟩) hS (fun q h1 h2 => ro_A h1 h2) (fun q h => ro_F hS hA q h) (fun r u t H1 locs ht hvm hw9 hB9 hz1 hk1 hS => ?_)
    have hw9 : r = (iI (m_bt bb)) := hw9
    subst hw9
    have hP := ro_P hP hk1
    generalize H1 = H at hP hS ⊢
    have s4 := bt_nn bb
    have s5 := bt_lt (n := bb) (by omega) (by omega)
    refine lv_iconst (v := iI 0) hx hb dX4_spoiled_34 (by decide) ?_
    refine va_calli (va_runV (As := [.int (iI (m_bt bb)), .int (iI 0)]) (rest := []) ⟨hx, hb, hml, hown, hw⟩ (c_winnerWithout l D a cH cB cJ cI ha g vt H.size (m_bt bb) 0 hWf (by omega) (by omega) (hsb)) (cwV 2 hw (gA_V kw_385 kw_386 kw_387 kw_2 kw_388) rfl rfl rfl (by decide +kernel) ⟨Nat.le_of_ble_eq_true rfl, Nat.le_of_ble_eq_true rfl⟩) (pS_v (ci := 4) (q0 := 0) rfl pw_0 hP hK hE) rfl rfl hl.1 rfl (lv_room (Nat.le_of_ble_eq_true rfl)) dX4_spoiled_35 ⟨Nat.le_of_ble_eq_true rfl, Nat.le_of_ble_eq_true rfl⟩) hS (fun q _ h => rw_A hS hA hB q h) (fun q h => rw_A hS hA hB q h) (fun r u t H1 locs ht hvm hw9 hB9 hz1 hk1 hS => ?_)
    have hw9 : r = (iI (m_winner g (m_bt bb) 0)) := hw9
    subst hw9
    obtain ⟨v6, hP1⟩ := hB9
    rw [ht] at hP1
    have hP : va_P D vwCl (pw a cH cB cJ cI g v6) H1 := hP1
    generalize H1 = H at hP hS ⊢
    have s7 := win_b hWf (m_bt bb) 0
    refine lv_goto (tgt := 42) hx hb dX4_spoiled_38 (by decide) ?_
    exact W.iret (v := (iI (m_winner g (m_bt bb) 0))) hx hb hr (fun t ht hW9 => ⟨⟨(iI (m_winner g (m_bt bb) 0)), (), rfl, (congrArg iI (by simp [m_spoiled, h1, h3])), ⟨v6, by rw [ht]; exact hP⟩⟩, hS.F ht⟩) hS.2.2 dX4_spoiled_42
set_option maxHeartbeats 4000000 in
set_option maxRecDepth 100000 in
theorem c_describeB (l : Launch) (D : va_G) (a : Nat → Nat) (cH cB cJ cI : ClassId) (ha : pj a) (g : m_St) (vt : Nat → Int32) (sz : Nat) (bb : Int) (q1 : Int) (q2 : Int) (q3 : Int) (q4 : Int) (q5 : Int) (q6 : Int) (hbb : 0 ≤ bb ∧ bb < 16) : Met l yX0_describe (wc yX0_describe cX0_describe 7 none) ({ frames := 0, cells := 0, slots := 0, locals := 0 }) (va_Pc [.ref (a (12 + bb.toNat)), .int (iI q1), .int (iI q2), .int (iI q3), .int (iI q4), .int (iI q5), .int (iI q6)] (pS D a cH cB cJ cI sz g vt)) (va_Qv (fun (_ : Unit) => True) (fun _ t => ∃ vt1 : Nat → Int32, va_P D vwCl (pw a cH cB cJ cI (m_describeB g bb q1 q2 q3 q4 q5 q6) vt1) t.heap) (pA a sz)) 0 0 (pA a sz) := by
  refine Met.ofW (cc := cX0_describe) (maxL := 7) (ret := none) (by decide +kernel) rfl ?_
  intro p e s m args below meth c s₁ B9 hml hv
  obtain ⟨rfl, hsz, hP, hK, hE⟩ := hv
  have hx := B9.exec
  have hb := B9.bytes
  have hr := B9.returns
  have hts := atoms_spec (ws := (wc yX0_describe cX0_describe 7 none)) B9.pre
  have hw : ∀ w ∈ wsL_law0, w.before [.ref (a (12 + bb.toNat)), .int (iI q1), .int (iI q2), .int (iI q3), .int (iI q4), .int (iI q5), .int (iI q6)].toArray s = true := fun w h => hts w (List.mem_cons_of_mem _ h)
  have hown : s.vm.findClass RX0 = some m.cls := findClass_of_methodNamed B9.named
  have hlocks := B9.notSynchronized
  subst hsz
  have hS : va_S (pA a s.heap.size) s.heap s.heap [] := va_S.rf
  have hA : ∀ q : Nat, s.heap.size ≤ q → pA a s.heap.size q := fun _ h => pA_new h
  have hB : ∀ k, k < 58 → pA a s.heap.size (a k) := fun _ h => pA_in h
  have hl := lv_entry ([.ref (a (12 + bb.toNat)), .int (iI q1), .int (iI q2), .int (iI q3), .int (iI q4), .int (iI q5), .int (iI q6)]) (n := 7) (Nat.le_of_ble_eq_true rfl)
  rw [lg_entry_eq]
  generalize (lg_sl ([.ref (a (12 + bb.toNat)), .int (iI q1), .int (iI q2), .int (iI q3), .int (iI q4), .int (iI q5), .int (iI q6)]) ++ List.replicate (7 - (lg_sl ([.ref (a (12 + bb.toNat)), .int (iI q1), .int (iI q2), .int (iI q3), .int (iI q4), .int (iI q5), .int (iI q6)])).length) Slot.unset).toArray = ls at hl ⊢
  have hl : lv_has ls 7 [(0, .ref (a (12 + bb.toNat))), (1, .int (iI q1)), (2, .int (iI q2)), (3, .int (iI q3)), (4, .int (iI q4)), (5, .int (iI q5)), (6, .int (iI q6))] := hl
  suffices h9 : ∀ (H : Heap) (locs : List Loc), va_P D vwCl (pw a cH cB cJ cI g vt) H → va_S (pA a s.heap.size) s.heap H locs → W p l e (headSpec (wc yX0_describe cX0_describe 7 none) ({ frames := 0, cells := 0, slots := 0, locals := 0 })).room s m [.ref (a (12 + bb.toNat)), .int (iI q1), .int (iI q2), .int (iI q3), .int (iI q4), .int (iI q5), .int (iI q6)].toArray below meth c H locs 0 0 (MQ below (va_Qv (fun (_ : Unit) => True) (fun _ t => ∃ vt1 : Nat → Int32, va_P D vwCl (pw a cH cB cJ cI (m_describeB g bb q1 q2 q3 q4 q5 q6) vt1) t.heap) (pA a s.heap.size)) [.ref (a (12 + bb.toNat)), .int (iI q1), .int (iI q2), .int (iI q3), .int (iI q4), .int (iI q5), .int (iI q6)].toArray s 0 0 (pA a s.heap.size)) (F0 m 0 ls []) from h9 s.heap [] hP hS
  clear hP hS
  intro H locs hP hS
  refine lv_aload_n hx hb dX0_describe_0 rfl (lv_at hl 0 rfl) ?_
  refine lv_iload_n hx hb dX0_describe_1 rfl (lv_at hl 1 rfl) ?_
  refine va_put (D := D) (ci := 0) (v := .int (iI q1)) (C := RX0) (T := TX0) (N := 11) (ty := .int) hx hb hw hin_wsX00 tyX0 tyX0_ok nmX0 hown hK hP (pw_D ha (fun k hk => pA_in hk)) hS (12 + bb.toNat) (pw_B (b := bb) (by omega) (by omega)) rfl 0 (by decide) (hw _ kw_147) (fun _ h9 => h9) rfl (tyX0_ok 0 (by decide)) rfl rfl (show 0 < 11 from by decide) dX0_describe_2 (fun H locs hP _ hS => ?_)
  rw [pw_setB (by omega) (by omega) (by decide)] at hP
  have hP : va_P D vwCl (pw a cH cB cJ cI (m_up g 2 bb 0 q1) vt) H := hP
  obtain ⟨g1, hg1⟩ : ∃ z, z = m_up g 2 bb 0 q1 := ⟨_, rfl⟩
  rw [← hg1] at hP
  refine lv_aload_n hx hb dX0_describe_5 rfl (lv_at hl 0 rfl) ?_
  refine lv_iload_n hx hb dX0_describe_6 rfl (lv_at hl 2 rfl) ?_
  refine va_put (D := D) (ci := 0) (v := .int (iI q2)) (C := RX0) (T := TX0) (N := 11) (ty := .int) hx hb hw hin_wsX00 tyX0 tyX0_ok nmX0 hown hK hP (pw_D ha (fun k hk => pA_in hk)) hS (12 + bb.toNat) (pw_B (b := bb) (by omega) (by omega)) rfl 1 (by decide) (hw _ kw_148) (fun _ h9 => h9) rfl (tyX0_ok 1 (by decide)) rfl rfl (show 1 < 11 from by decide) dX0_describe_7 (fun H locs hP _ hS => ?_)
  rw [pw_setB (by omega) (by omega) (by decide)] at hP
  have hP : va_P D vwCl (pw a cH cB cJ cI (m_up g1 2 bb 1 q2) vt) H := hP
  obtain ⟨g2, hg2⟩ : ∃ z, z = m_up g1 2 bb 1 q2 := ⟨_, rfl⟩
  rw [← hg2] at hP
  refine lv_aload_n hx hb dX0_describe_10 rfl (lv_at hl 0 rfl) ?_
  refine lv_iload_n hx hb dX0_describe_11 rfl (lv_at hl 3 rfl) ?_
  refine va_put (D := D) (ci := 0) (v := .int (iI q3)) (C := RX0) (T := TX0) (N := 11) (ty := .int) hx hb hw hin_wsX00 tyX0 tyX0_ok nmX0 hown hK hP (pw_D ha (fun k hk => pA_in hk)) hS (12 + bb.toNat) (pw_B (b := bb) (by omega) (by omega)) rfl 2 (by decide) (hw _ kw_149) (fun _ h9 => h9) rfl (tyX0_ok 2 (by decide)) rfl rfl (show 2 < 11 from by decide) dX0_describe_12 (fun H locs hP _ hS => ?_)
  rw [pw_setB (by omega) (by omega) (by decide)] at hP
  have hP : va_P D vwCl (pw a cH cB cJ cI (m_up g2 2 bb 2 q3) vt) H := hP
  obtain ⟨g3, hg3⟩ : ∃ z, z = m_up g2 2 bb 2 q3 := ⟨_, rfl⟩
  rw [← hg3] at hP
  refine lv_aload_n hx hb dX0_describe_15 rfl (lv_at hl 0 rfl) ?_
  refine lv_iload hx hb dX0_describe_16 (lv_at hl 4 rfl) ?_
  refine va_put (D := D) (ci := 0) (v := .int (iI q4)) (C := RX0) (T := TX0) (N := 11) (ty := .int) hx hb hw hin_wsX00 tyX0 tyX0_ok nmX0 hown hK hP (pw_D ha (fun k hk => pA_in hk)) hS (12 + bb.toNat) (pw_B (b := bb) (by omega) (by omega)) rfl 3 (by decide) (hw _ kw_150) (fun _ h9 => h9) rfl (tyX0_ok 3 (by decide)) rfl rfl (show 3 < 11 from by decide) dX0_describe_18 (fun H locs hP _ hS => ?_)
  rw [pw_setB (by omega) (by omega) (by decide)] at hP
  have hP : va_P D vwCl (pw a cH cB cJ cI (m_up g3 2 bb 3 q4) vt) H := hP
  obtain ⟨g4, hg4⟩ : ∃ z, z = m_up g3 2 bb 3 q4 := ⟨_, rfl⟩
  rw [← hg4] at hP
  refine lv_aload_n hx hb dX0_describe_21 rfl (lv_at hl 0 rfl) ?_
  refine lv_iload hx hb dX0_describe_22 (lv_at hl 5 rfl) ?_
  refine va_put (D := D) (ci := 0) (v := .int (iI q5)) (C := RX0) (T := TX0) (N := 11) (ty := .int) hx hb hw hin_wsX00 tyX0 tyX0_ok nmX0 hown hK hP (pw_D ha (fun k hk => pA_in hk)) hS (12 + bb.toNat) (pw_B (b := bb) (by omega) (by omega)) rfl 4 (by decide) (hw _ kw_151) (fun _ h9 => h9) rfl (tyX0_ok 4 (by decide)) rfl rfl (show 4 < 11 from by decide) dX0_describe_24 (fun H locs hP _ hS => ?_)
  rw [pw_setB (by omega) (by omega) (by decide)] at hP
  have hP : va_P D vwCl (pw a cH cB cJ cI (m_up g4 2 bb 4 q5) vt) H := hP
  obtain ⟨g5, hg5⟩ : ∃ z, z = m_up g4 2 bb 4 q5 := ⟨_, rfl⟩
  rw [← hg5] at hP
  refine lv_aload_n hx hb dX0_describe_27 rfl (lv_at hl 0 rfl) ?_
  refine lv_iload hx hb dX0_describe_28 (lv_at hl 6 rfl) ?_
  refine va_put (D := D) (ci := 0) (v := .int (iI q6)) (C := RX0) (T := TX0) (N := 11) (ty := .int) hx hb hw hin_wsX00 tyX0 tyX0_ok nmX0 hown hK hP (pw_D ha (fun k hk => pA_in hk)) hS (12 + bb.toNat) (pw_B (b := bb) (by omega) (by omega)) rfl 5 (by decide) (hw _ kw_152) (fun _ h9 => h9) rfl (tyX0_ok 5 (by decide)) rfl rfl (show 5 < 11 from by decide) dX0_describe_30 (fun H locs hP _ hS => ?_)
  rw [pw_setB (by omega) (by omega) (by decide)] at hP
  have hP : va_P D vwCl (pw a cH cB cJ cI (m_up g5 2 bb 5 q6) vt) H := hP
  obtain ⟨g6, hg6⟩ : ∃ z, z = m_up g5 2 bb 5 q6 := ⟨_, rfl⟩
  rw [← hg6] at hP
  have hf7 : g6 = (m_describeB g bb q1 q2 q3 q4 q5 q6) := by rw [hg6, hg5, hg4, hg3, hg2, hg1] <;> rfl
  rw [hf7] at hP
  exact W.vret hx hb hr (fun t ht hW9 => ⟨⟨(), rfl, trivial, ⟨vt, by rw [ht]; exact hP⟩⟩, hS.F ht⟩) hS.2.2 dX0_describe_33
set_option maxHeartbeats 4000000 in
set_option maxRecDepth 100000 in
theorem c_describeJ (l : Launch) (D : va_G) (a : Nat → Nat) (cH cB cJ cI : ClassId) (ha : pj a) (g : m_St) (vt : Nat → Int32) (sz : Nat) (jj : Int) (q1 : Int) (q2 : Int) (q3 : Int) (hjj : 0 ≤ jj ∧ jj < 5) : Met l yX2_describe (wc yX2_describe cX2_describe 4 none) ({ frames := 0, cells := 0, slots := 0, locals := 0 }) (va_Pc [.ref (a (28 + 6 * jj.toNat)), .int (iI q1), .int (iI q2), .int (iI q3)] (pS D a cH cB cJ cI sz g vt)) (va_Qv (fun (_ : Unit) => True) (fun _ t => ∃ vt1 : Nat → Int32, va_P D vwCl (pw a cH cB cJ cI (m_up (m_up (m_up g 3 jj 0 q1) 3 jj 1 q2) 3 jj 2 q3) vt1) t.heap) (pA a sz)) 0 0 (pA a sz) := by
  refine Met.ofW (cc := cX2_describe) (maxL := 4) (ret := none) (by decide +kernel) rfl ?_
  intro p e s m args below meth c s₁ B9 hml hv
  obtain ⟨rfl, hsz, hP, hK, hE⟩ := hv
  have hx := B9.exec
  have hb := B9.bytes
  have hr := B9.returns
  have hts := atoms_spec (ws := (wc yX2_describe cX2_describe 4 none)) B9.pre
  have hw : ∀ w ∈ wsL_law0, w.before [.ref (a (28 + 6 * jj.toNat)), .int (iI q1), .int (iI q2), .int (iI q3)].toArray s = true := fun w h => hts w (List.mem_cons_of_mem _ h)
  have hown : s.vm.findClass RX2 = some m.cls := findClass_of_methodNamed B9.named
  have hlocks := B9.notSynchronized
  subst hsz
  have hS : va_S (pA a s.heap.size) s.heap s.heap [] := va_S.rf
  have hA : ∀ q : Nat, s.heap.size ≤ q → pA a s.heap.size q := fun _ h => pA_new h
  have hB : ∀ k, k < 58 → pA a s.heap.size (a k) := fun _ h => pA_in h
  have hl := lv_entry ([.ref (a (28 + 6 * jj.toNat)), .int (iI q1), .int (iI q2), .int (iI q3)]) (n := 4) (Nat.le_of_ble_eq_true rfl)
  rw [lg_entry_eq]
  generalize (lg_sl ([.ref (a (28 + 6 * jj.toNat)), .int (iI q1), .int (iI q2), .int (iI q3)]) ++ List.replicate (4 - (lg_sl ([.ref (a (28 + 6 * jj.toNat)), .int (iI q1), .int (iI q2), .int (iI q3)])).length) Slot.unset).toArray = ls at hl ⊢
  have hl : lv_has ls 4 [(0, .ref (a (28 + 6 * jj.toNat))), (1, .int (iI q1)), (2, .int (iI q2)), (3, .int (iI q3))] := hl
  suffices h9 : ∀ (H : Heap) (locs : List Loc), va_P D vwCl (pw a cH cB cJ cI g vt) H → va_S (pA a s.heap.size) s.heap H locs → W p l e (headSpec (wc yX2_describe cX2_describe 4 none) ({ frames := 0, cells := 0, slots := 0, locals := 0 })).room s m [.ref (a (28 + 6 * jj.toNat)), .int (iI q1), .int (iI q2), .int (iI q3)].toArray below meth c H locs 0 0 (MQ below (va_Qv (fun (_ : Unit) => True) (fun _ t => ∃ vt1 : Nat → Int32, va_P D vwCl (pw a cH cB cJ cI (m_up (m_up (m_up g 3 jj 0 q1) 3 jj 1 q2) 3 jj 2 q3) vt1) t.heap) (pA a s.heap.size)) [.ref (a (28 + 6 * jj.toNat)), .int (iI q1), .int (iI q2), .int (iI q3)].toArray s 0 0 (pA a s.heap.size)) (F0 m 0 ls []) from h9 s.heap [] hP hS
  clear hP hS
  intro H locs hP hS
  refine lv_aload_n hx hb dX2_describe_0 rfl (lv_at hl 0 rfl) ?_
  refine lv_iload_n hx hb dX2_describe_1 rfl (lv_at hl 1 rfl) ?_
  refine va_put (D := D) (ci := 2) (v := .int (iI q1)) (C := RX2) (T := TX2) (N := 16) (ty := .int) hx hb hw hin_wsX20 tyX2 tyX2_ok nmX2 hown hK hP (pw_D ha (fun k hk => pA_in hk)) hS (28 + 6 * jj.toNat) (pw_J (j := jj) (by omega) (by omega)) rfl 0 (by decide) (hw _ kw_89) (fun _ h9 => h9) rfl (tyX2_ok 0 (by decide)) rfl rfl (show 0 < 16 from by decide) dX2_describe_2 (fun H locs hP _ hS => ?_)
  rw [pw_setJ (by omega) (by omega) (by decide) (by decide) (by decide) (by decide) (by decide) (by decide)] at hP
  have hP : va_P D vwCl (pw a cH cB cJ cI (m_up g 3 jj 0 q1) vt) H := hP
  obtain ⟨g1, hg1⟩ : ∃ z, z = m_up g 3 jj 0 q1 := ⟨_, rfl⟩
  rw [← hg1] at hP
  refine lv_aload_n hx hb dX2_describe_5 rfl (lv_at hl 0 rfl) ?_
  refine lv_iload_n hx hb dX2_describe_6 rfl (lv_at hl 2 rfl) ?_
  refine va_put (D := D) (ci := 2) (v := .int (iI q2)) (C := RX2) (T := TX2) (N := 16) (ty := .int) hx hb hw hin_wsX20 tyX2 tyX2_ok nmX2 hown hK hP (pw_D ha (fun k hk => pA_in hk)) hS (28 + 6 * jj.toNat) (pw_J (j := jj) (by omega) (by omega)) rfl 1 (by decide) (hw _ kw_90) (fun _ h9 => h9) rfl (tyX2_ok 1 (by decide)) rfl rfl (show 1 < 16 from by decide) dX2_describe_7 (fun H locs hP _ hS => ?_)
  rw [pw_setJ (by omega) (by omega) (by decide) (by decide) (by decide) (by decide) (by decide) (by decide)] at hP
  have hP : va_P D vwCl (pw a cH cB cJ cI (m_up g1 3 jj 1 q2) vt) H := hP
  obtain ⟨g2, hg2⟩ : ∃ z, z = m_up g1 3 jj 1 q2 := ⟨_, rfl⟩
  rw [← hg2] at hP
  refine lv_aload_n hx hb dX2_describe_10 rfl (lv_at hl 0 rfl) ?_
  refine lv_iload_n hx hb dX2_describe_11 rfl (lv_at hl 3 rfl) ?_
  refine va_put (D := D) (ci := 2) (v := .int (iI q3)) (C := RX2) (T := TX2) (N := 16) (ty := .int) hx hb hw hin_wsX20 tyX2 tyX2_ok nmX2 hown hK hP (pw_D ha (fun k hk => pA_in hk)) hS (28 + 6 * jj.toNat) (pw_J (j := jj) (by omega) (by omega)) rfl 2 (by decide) (hw _ kw_91) (fun _ h9 => h9) rfl (tyX2_ok 2 (by decide)) rfl rfl (show 2 < 16 from by decide) dX2_describe_12 (fun H locs hP _ hS => ?_)
  rw [pw_setJ (by omega) (by omega) (by decide) (by decide) (by decide) (by decide) (by decide) (by decide)] at hP
  have hP : va_P D vwCl (pw a cH cB cJ cI (m_up g2 3 jj 2 q3) vt) H := hP
  obtain ⟨g3, hg3⟩ : ∃ z, z = m_up g2 3 jj 2 q3 := ⟨_, rfl⟩
  rw [← hg3] at hP
  have hf4 : g3 = (m_up (m_up (m_up g 3 jj 0 q1) 3 jj 1 q2) 3 jj 2 q3) := by rw [hg3, hg2, hg1] <;> rfl
  rw [hf4] at hP
  exact W.vret hx hb hr (fun t ht hW9 => ⟨⟨(), rfl, trivial, ⟨vt, by rw [ht]; exact hP⟩⟩, hS.F ht⟩) hS.2.2 dX2_describe_15
set_option maxHeartbeats 4000000 in
set_option maxRecDepth 100000 in
theorem c_set0 (l : Launch) (D : va_G) (a : Nat → Nat) (cH cB cJ cI : ClassId) (ha : pj a) (g : m_St) (vt : Nat → Int32) (sz : Nat) (q1 : Int) (q2 : Int) (q3 : Int) (q4 : Int) : Met l yX3_set (wc yX3_set cX3_set 5 none) ({ frames := 0, cells := 0, slots := 0, locals := 0 }) (va_Pc [.ref (a 4), .int (iI q1), .int (iI q2), .int (iI q3), .int (iI q4)] (pS D a cH cB cJ cI sz g vt)) (va_Qv (fun (_ : Unit) => True) (fun _ t => ∃ vt1 : Nat → Int32, va_P D vwCl (pw a cH cB cJ cI (m_setRules g 0 q1 q2 q3 q4) vt1) t.heap) (pA a sz)) 0 0 (pA a sz) := by
  refine Met.ofW (cc := cX3_set) (maxL := 5) (ret := none) (by decide +kernel) rfl ?_
  intro p e s m args below meth c s₁ B9 hml hv
  obtain ⟨rfl, hsz, hP, hK, hE⟩ := hv
  have hx := B9.exec
  have hb := B9.bytes
  have hr := B9.returns
  have hts := atoms_spec (ws := (wc yX3_set cX3_set 5 none)) B9.pre
  have hw : ∀ w ∈ wsL_law0, w.before [.ref (a 4), .int (iI q1), .int (iI q2), .int (iI q3), .int (iI q4)].toArray s = true := fun w h => hts w (List.mem_cons_of_mem _ h)
  have hown : s.vm.findClass RX3 = some m.cls := findClass_of_methodNamed B9.named
  have hlocks := B9.notSynchronized
  subst hsz
  have hS : va_S (pA a s.heap.size) s.heap s.heap [] := va_S.rf
  have hA : ∀ q : Nat, s.heap.size ≤ q → pA a s.heap.size q := fun _ h => pA_new h
  have hB : ∀ k, k < 58 → pA a s.heap.size (a k) := fun _ h => pA_in h
  have hl := lv_entry ([.ref (a 4), .int (iI q1), .int (iI q2), .int (iI q3), .int (iI q4)]) (n := 5) (Nat.le_of_ble_eq_true rfl)
  rw [lg_entry_eq]
  generalize (lg_sl ([.ref (a 4), .int (iI q1), .int (iI q2), .int (iI q3), .int (iI q4)]) ++ List.replicate (5 - (lg_sl ([.ref (a 4), .int (iI q1), .int (iI q2), .int (iI q3), .int (iI q4)])).length) Slot.unset).toArray = ls at hl ⊢
  have hl : lv_has ls 5 [(0, .ref (a 4)), (1, .int (iI q1)), (2, .int (iI q2)), (3, .int (iI q3)), (4, .int (iI q4))] := hl
  suffices h9 : ∀ (H : Heap) (locs : List Loc), va_P D vwCl (pw a cH cB cJ cI g vt) H → va_S (pA a s.heap.size) s.heap H locs → W p l e (headSpec (wc yX3_set cX3_set 5 none) ({ frames := 0, cells := 0, slots := 0, locals := 0 })).room s m [.ref (a 4), .int (iI q1), .int (iI q2), .int (iI q3), .int (iI q4)].toArray below meth c H locs 0 0 (MQ below (va_Qv (fun (_ : Unit) => True) (fun _ t => ∃ vt1 : Nat → Int32, va_P D vwCl (pw a cH cB cJ cI (m_setRules g 0 q1 q2 q3 q4) vt1) t.heap) (pA a s.heap.size)) [.ref (a 4), .int (iI q1), .int (iI q2), .int (iI q3), .int (iI q4)].toArray s 0 0 (pA a s.heap.size)) (F0 m 0 ls []) from h9 s.heap [] hP hS
  clear hP hS
  intro H locs hP hS
  refine lv_aload_n hx hb dX3_set_0 rfl (lv_at hl 0 rfl) ?_
  refine lv_iload_n hx hb dX3_set_1 rfl (lv_at hl 1 rfl) ?_
  refine va_put (D := D) (ci := 3) (v := .int (iI q1)) (C := RX3) (T := TX3) (N := 4) (ty := .int) hx hb hw hin_wsX30 tyX3 tyX3_ok nmX3 hown hK hP (pw_D ha (fun k hk => pA_in hk)) hS 4 pw_4 rfl 0 (by decide) (hw _ kw_38) (fun _ h9 => h9) rfl (tyX3_ok 0 (by decide)) rfl rfl (show 0 < 4 from by decide) dX3_set_2 (fun H locs hP _ hS => ?_)
  rw [pw_setU0 (by decide)] at hP
  have hP : va_P D vwCl (pw a cH cB cJ cI (m_up g 9 0 0 q1) vt) H := hP
  obtain ⟨g1, hg1⟩ : ∃ z, z = m_up g 9 0 0 q1 := ⟨_, rfl⟩
  rw [← hg1] at hP
  refine lv_aload_n hx hb dX3_set_5 rfl (lv_at hl 0 rfl) ?_
  refine lv_iload_n hx hb dX3_set_6 rfl (lv_at hl 2 rfl) ?_
  refine va_put (D := D) (ci := 3) (v := .int (iI q2)) (C := RX3) (T := TX3) (N := 4) (ty := .int) hx hb hw hin_wsX30 tyX3 tyX3_ok nmX3 hown hK hP (pw_D ha (fun k hk => pA_in hk)) hS 4 pw_4 rfl 1 (by decide) (hw _ kw_39) (fun _ h9 => h9) rfl (tyX3_ok 1 (by decide)) rfl rfl (show 1 < 4 from by decide) dX3_set_7 (fun H locs hP _ hS => ?_)
  rw [pw_setU0 (by decide)] at hP
  have hP : va_P D vwCl (pw a cH cB cJ cI (m_up g1 9 0 1 q2) vt) H := hP
  obtain ⟨g2, hg2⟩ : ∃ z, z = m_up g1 9 0 1 q2 := ⟨_, rfl⟩
  rw [← hg2] at hP
  refine lv_aload_n hx hb dX3_set_10 rfl (lv_at hl 0 rfl) ?_
  refine lv_iload_n hx hb dX3_set_11 rfl (lv_at hl 3 rfl) ?_
  refine va_put (D := D) (ci := 3) (v := .int (iI q3)) (C := RX3) (T := TX3) (N := 4) (ty := .int) hx hb hw hin_wsX30 tyX3 tyX3_ok nmX3 hown hK hP (pw_D ha (fun k hk => pA_in hk)) hS 4 pw_4 rfl 2 (by decide) (hw _ kw_40) (fun _ h9 => h9) rfl (tyX3_ok 2 (by decide)) rfl rfl (show 2 < 4 from by decide) dX3_set_12 (fun H locs hP _ hS => ?_)
  rw [pw_setU0 (by decide)] at hP
  have hP : va_P D vwCl (pw a cH cB cJ cI (m_up g2 9 0 2 q3) vt) H := hP
  obtain ⟨g3, hg3⟩ : ∃ z, z = m_up g2 9 0 2 q3 := ⟨_, rfl⟩
  rw [← hg3] at hP
  refine lv_aload_n hx hb dX3_set_15 rfl (lv_at hl 0 rfl) ?_
  refine lv_iload hx hb dX3_set_16 (lv_at hl 4 rfl) ?_
  refine va_put (D := D) (ci := 3) (v := .int (iI q4)) (C := RX3) (T := TX3) (N := 4) (ty := .int) hx hb hw hin_wsX30 tyX3 tyX3_ok nmX3 hown hK hP (pw_D ha (fun k hk => pA_in hk)) hS 4 pw_4 rfl 3 (by decide) (hw _ kw_41) (fun _ h9 => h9) rfl (tyX3_ok 3 (by decide)) rfl rfl (show 3 < 4 from by decide) dX3_set_18 (fun H locs hP _ hS => ?_)
  rw [pw_setU0 (by decide)] at hP
  have hP : va_P D vwCl (pw a cH cB cJ cI (m_up g3 9 0 3 q4) vt) H := hP
  obtain ⟨g4, hg4⟩ : ∃ z, z = m_up g3 9 0 3 q4 := ⟨_, rfl⟩
  rw [← hg4] at hP
  have hf5 : g4 = (m_setRules g 0 q1 q2 q3 q4) := by rw [hg4, hg3, hg2, hg1] <;> rfl
  rw [hf5] at hP
  exact W.vret hx hb hr (fun t ht hW9 => ⟨⟨(), rfl, trivial, ⟨vt, by rw [ht]; exact hP⟩⟩, hS.F ht⟩) hS.2.2 dX3_set_21
set_option maxHeartbeats 4000000 in
set_option maxRecDepth 100000 in
theorem c_set1 (l : Launch) (D : va_G) (a : Nat → Nat) (cH cB cJ cI : ClassId) (ha : pj a) (g : m_St) (vt : Nat → Int32) (sz : Nat) (q1 : Int) (q2 : Int) (q3 : Int) (q4 : Int) : Met l yX3_set (wc yX3_set cX3_set 5 none) ({ frames := 0, cells := 0, slots := 0, locals := 0 }) (va_Pc [.ref (a 5), .int (iI q1), .int (iI q2), .int (iI q3), .int (iI q4)] (pS D a cH cB cJ cI sz g vt)) (va_Qv (fun (_ : Unit) => True) (fun _ t => ∃ vt1 : Nat → Int32, va_P D vwCl (pw a cH cB cJ cI (m_setRules g 1 q1 q2 q3 q4) vt1) t.heap) (pA a sz)) 0 0 (pA a sz) := by
  refine Met.ofW (cc := cX3_set) (maxL := 5) (ret := none) (by decide +kernel) rfl ?_
  intro p e s m args below meth c s₁ B9 hml hv
  obtain ⟨rfl, hsz, hP, hK, hE⟩ := hv
  have hx := B9.exec
  have hb := B9.bytes
  have hr := B9.returns
  have hts := atoms_spec (ws := (wc yX3_set cX3_set 5 none)) B9.pre
  have hw : ∀ w ∈ wsL_law0, w.before [.ref (a 5), .int (iI q1), .int (iI q2), .int (iI q3), .int (iI q4)].toArray s = true := fun w h => hts w (List.mem_cons_of_mem _ h)
  have hown : s.vm.findClass RX3 = some m.cls := findClass_of_methodNamed B9.named
  have hlocks := B9.notSynchronized
  subst hsz
  have hS : va_S (pA a s.heap.size) s.heap s.heap [] := va_S.rf
  have hA : ∀ q : Nat, s.heap.size ≤ q → pA a s.heap.size q := fun _ h => pA_new h
  have hB : ∀ k, k < 58 → pA a s.heap.size (a k) := fun _ h => pA_in h
  have hl := lv_entry ([.ref (a 5), .int (iI q1), .int (iI q2), .int (iI q3), .int (iI q4)]) (n := 5) (Nat.le_of_ble_eq_true rfl)
  rw [lg_entry_eq]
  generalize (lg_sl ([.ref (a 5), .int (iI q1), .int (iI q2), .int (iI q3), .int (iI q4)]) ++ List.replicate (5 - (lg_sl ([.ref (a 5), .int (iI q1), .int (iI q2), .int (iI q3), .int (iI q4)])).length) Slot.unset).toArray = ls at hl ⊢
  have hl : lv_has ls 5 [(0, .ref (a 5)), (1, .int (iI q1)), (2, .int (iI q2)), (3, .int (iI q3)), (4, .int (iI q4))] := hl
  suffices h9 : ∀ (H : Heap) (locs : List Loc), va_P D vwCl (pw a cH cB cJ cI g vt) H → va_S (pA a s.heap.size) s.heap H locs → W p l e (headSpec (wc yX3_set cX3_set 5 none) ({ frames := 0, cells := 0, slots := 0, locals := 0 })).room s m [.ref (a 5), .int (iI q1), .int (iI q2), .int (iI q3), .int (iI q4)].toArray below meth c H locs 0 0 (MQ below (va_Qv (fun (_ : Unit) => True) (fun _ t => ∃ vt1 : Nat → Int32, va_P D vwCl (pw a cH cB cJ cI (m_setRules g 1 q1 q2 q3 q4) vt1) t.heap) (pA a s.heap.size)) [.ref (a 5), .int (iI q1), .int (iI q2), .int (iI q3), .int (iI q4)].toArray s 0 0 (pA a s.heap.size)) (F0 m 0 ls []) from h9 s.heap [] hP hS
  clear hP hS
  intro H locs hP hS
  refine lv_aload_n hx hb dX3_set_0 rfl (lv_at hl 0 rfl) ?_
  refine lv_iload_n hx hb dX3_set_1 rfl (lv_at hl 1 rfl) ?_
  refine va_put (D := D) (ci := 3) (v := .int (iI q1)) (C := RX3) (T := TX3) (N := 4) (ty := .int) hx hb hw hin_wsX30 tyX3 tyX3_ok nmX3 hown hK hP (pw_D ha (fun k hk => pA_in hk)) hS 5 pw_5 rfl 0 (by decide) (hw _ kw_38) (fun _ h9 => h9) rfl (tyX3_ok 0 (by decide)) rfl rfl (show 0 < 4 from by decide) dX3_set_2 (fun H locs hP _ hS => ?_)
  rw [pw_setU1 (by decide)] at hP
  have hP : va_P D vwCl (pw a cH cB cJ cI (m_up g 9 1 0 q1) vt) H := hP
  obtain ⟨g1, hg1⟩ : ∃ z, z = m_up g 9 1 0 q1 := ⟨_, rfl⟩
  rw [← hg1] at hP
  refine lv_aload_n hx hb dX3_set_5 rfl (lv_at hl 0 rfl) ?_
  refine lv_iload_n hx hb dX3_set_6 rfl (lv_at hl 2 rfl) ?_
  refine va_put (D := D) (ci := 3) (v := .int (iI q2)) (C := RX3) (T := TX3) (N := 4) (ty := .int) hx hb hw hin_wsX30 tyX3 tyX3_ok nmX3 hown hK hP (pw_D ha (fun k hk => pA_in hk)) hS 5 pw_5 rfl 1 (by decide) (hw _ kw_39) (fun _ h9 => h9) rfl (tyX3_ok 1 (by decide)) rfl rfl (show 1 < 4 from by decide) dX3_set_7 (fun H locs hP _ hS => ?_)
  rw [pw_setU1 (by decide)] at hP
  have hP : va_P D vwCl (pw a cH cB cJ cI (m_up g1 9 1 1 q2) vt) H := hP
  obtain ⟨g2, hg2⟩ : ∃ z, z = m_up g1 9 1 1 q2 := ⟨_, rfl⟩
  rw [← hg2] at hP
  refine lv_aload_n hx hb dX3_set_10 rfl (lv_at hl 0 rfl) ?_
  refine lv_iload_n hx hb dX3_set_11 rfl (lv_at hl 3 rfl) ?_
  refine va_put (D := D) (ci := 3) (v := .int (iI q3)) (C := RX3) (T := TX3) (N := 4) (ty := .int) hx hb hw hin_wsX30 tyX3 tyX3_ok nmX3 hown hK hP (pw_D ha (fun k hk => pA_in hk)) hS 5 pw_5 rfl 2 (by decide) (hw _ kw_40) (fun _ h9 => h9) rfl (tyX3_ok 2 (by decide)) rfl rfl (show 2 < 4 from by decide) dX3_set_12 (fun H locs hP _ hS => ?_)
  rw [pw_setU1 (by decide)] at hP
  have hP : va_P D vwCl (pw a cH cB cJ cI (m_up g2 9 1 2 q3) vt) H := hP
  obtain ⟨g3, hg3⟩ : ∃ z, z = m_up g2 9 1 2 q3 := ⟨_, rfl⟩
  rw [← hg3] at hP
  refine lv_aload_n hx hb dX3_set_15 rfl (lv_at hl 0 rfl) ?_
  refine lv_iload hx hb dX3_set_16 (lv_at hl 4 rfl) ?_
  refine va_put (D := D) (ci := 3) (v := .int (iI q4)) (C := RX3) (T := TX3) (N := 4) (ty := .int) hx hb hw hin_wsX30 tyX3 tyX3_ok nmX3 hown hK hP (pw_D ha (fun k hk => pA_in hk)) hS 5 pw_5 rfl 3 (by decide) (hw _ kw_41) (fun _ h9 => h9) rfl (tyX3_ok 3 (by decide)) rfl rfl (show 3 < 4 from by decide) dX3_set_18 (fun H locs hP _ hS => ?_)
  rw [pw_setU1 (by decide)] at hP
  have hP : va_P D vwCl (pw a cH cB cJ cI (m_up g3 9 1 3 q4) vt) H := hP
  obtain ⟨g4, hg4⟩ : ∃ z, z = m_up g3 9 1 3 q4 := ⟨_, rfl⟩
  rw [← hg4] at hP
  have hf5 : g4 = (m_setRules g 1 q1 q2 q3 q4) := by rw [hg4, hg3, hg2, hg1] <;> rfl
  rw [hf5] at hP
  exact W.vret hx hb hr (fun t ht hW9 => ⟨⟨(), rfl, trivial, ⟨vt, by rw [ht]; exact hP⟩⟩, hS.F ht⟩) hS.2.2 dX3_set_21
set_option maxHeartbeats 4000000 in
set_option maxRecDepth 100000 in
theorem c_sell (l : Launch) (D : va_G) (a : Nat → Nat) (cH cB cJ cI : ClassId) (ha : pj a) (g : m_St) (vt : Nat → Int32) (sz : Nat) (bb : Int) (q1 : Int) (hWf : Wf g) (hbb : 0 ≤ bb ∧ bb < 16) (hq1 : 0 ≤ q1 ∧ q1 ≤ 100000) : Met l yX0_sell (wc yX0_sell cX0_sell 3 (some .int)) ({ frames := 1, cells := 0, slots := 0, locals := 13 }) (va_Pc [.ref (a (12 + bb.toNat)), .int (iI q1)] (pS D a cH cB cJ cI sz g vt)) (va_Qi (fun (r : Int32) (_ : Unit) => r = iI (min q1 (g 2 bb 8))) (fun _ t => ∃ vt1 : Nat → Int32, va_P D vwCl (pw a cH cB cJ cI (m_sellB g bb q1) vt1) t.heap) (pA a sz)) 0 0 (pA a sz) := by
  refine Met.ofW (cc := cX0_sell) (maxL := 3) (ret := (some .int)) (by decide +kernel) rfl ?_
  intro p e s m args below meth c s₁ B9 hml hv
  obtain ⟨rfl, hsz, hP, hK, hE⟩ := hv
  have hx := B9.exec
  have hb := B9.bytes
  have hr := B9.returns
  have hts := atoms_spec (ws := (wc yX0_sell cX0_sell 3 (some .int))) B9.pre
  have hw : ∀ w ∈ wsL_law0, w.before [.ref (a (12 + bb.toNat)), .int (iI q1)].toArray s = true := fun w h => hts w (List.mem_cons_of_mem _ h)
  have hown : s.vm.findClass RX0 = some m.cls := findClass_of_methodNamed B9.named
  subst hsz
  have hS : va_S (pA a s.heap.size) s.heap s.heap [] := va_S.rf
  have hA : ∀ q : Nat, s.heap.size ≤ q → pA a s.heap.size q := fun _ h => pA_new h
  have hB : ∀ k, k < 58 → pA a s.heap.size (a k) := fun _ h => pA_in h
  have hl := lv_entry ([.ref (a (12 + bb.toNat)), .int (iI q1)]) (n := 3) (Nat.le_of_ble_eq_true rfl)
  rw [lg_entry_eq]
  generalize (lg_sl ([.ref (a (12 + bb.toNat)), .int (iI q1)]) ++ List.replicate (3 - (lg_sl ([.ref (a (12 + bb.toNat)), .int (iI q1)])).length) Slot.unset).toArray = ls at hl ⊢
  have hl : lv_has ls 3 [(0, .ref (a (12 + bb.toNat))), (1, .int (iI q1))] := hl
  suffices h9 : ∀ (H : Heap) (locs : List Loc), va_P D vwCl (pw a cH cB cJ cI g vt) H → va_S (pA a s.heap.size) s.heap H locs → W p l e (headSpec (wc yX0_sell cX0_sell 3 (some .int)) ({ frames := 1, cells := 0, slots := 0, locals := 13 })).room s m [.ref (a (12 + bb.toNat)), .int (iI q1)].toArray below meth c H locs 0 0 (MQ below (va_Qi (fun (r : Int32) (_ : Unit) => r = iI (min q1 (g 2 bb 8))) (fun _ t => ∃ vt1 : Nat → Int32, va_P D vwCl (pw a cH cB cJ cI (m_sellB g bb q1) vt1) t.heap) (pA a s.heap.size)) [.ref (a (12 + bb.toNat)), .int (iI q1)].toArray s 0 0 (pA a s.heap.size)) (F0 m 0 ls []) from h9 s.heap [] hP hS
  clear hP hS
  intro H locs hP hS
  refine lv_iload_n hx hb dX0_sell_0 rfl (lv_at hl 1 rfl) ?_
  refine lv_aload_n hx hb dX0_sell_1 rfl (lv_at hl 0 rfl) ?_
  have s1 := Wf.b8 hWf (k := bb) (by omega) (by omega)
  refine va_get (D := D) (ci := 0) (v := .int (iI (g 2 bb 8))) (C := RX0) (T := TX0) (N := 11) hx hb hw hin_wsX00 hown hK hP (12 + bb.toNat) (pw_B (b := bb) (by omega) (by omega)) rfl 8 (by decide) (hw _ kw_502) (fun _ h9 => h9) rfl dX0_sell_2 ?_
  refine va_mmin hx hb (hml.trans hl.1.symm) hown (hw _ kw_503) (hw _ kw_275) (hw _ kw_6) (hw _ kw_276) (Nat.le_of_ble_eq_true rfl) (Nat.le_of_ble_eq_true rfl) (Nat.le_of_ble_eq_true rfl) (Nat.le_of_ble_eq_true rfl) dX0_sell_5 ?_
  rw [n_min (by unfold RI; omega) (by unfold RI; omega)]
  refine lv_istore_n (lv' := [(2, .int (iI (min q1 (g 2 bb 8)))), (0, .ref (a (12 + bb.toNat))), (1, .int (iI q1))]) hx hb dX0_sell_8 rfl hl (by decide) rfl (fun ls hl => ?_)
  refine lv_aload_n hx hb dX0_sell_9 rfl (lv_at hl 1 rfl) ?_
  refine lv_dup hx hb dX0_sell_10 rfl ?_
  refine va_get (D := D) (ci := 0) (v := .int (iI (g 2 bb 8))) (C := RX0) (T := TX0) (N := 11) hx hb hw hin_wsX00 hown hK hP (12 + bb.toNat) (pw_B (b := bb) (by omega) (by omega)) rfl 8 (by decide) (hw _ kw_502) (fun _ h9 => h9) rfl dX0_sell_11 ?_
  refine lv_iload_n hx hb dX0_sell_14 rfl (lv_at hl 0 rfl) ?_
  refine n_sub hx hb dX0_sell_15 ?_
  refine va_put (D := D) (ci := 0) (v := .int (iI (g 2 bb 8 - (min q1 (g 2 bb 8))))) (C := RX0) (T := TX0) (N := 11) (ty := .int) hx hb hw hin_wsX00 tyX0 tyX0_ok nmX0 hown hK hP (pw_D ha (fun k hk => pA_in hk)) hS (12 + bb.toNat) (pw_B (b := bb) (by omega) (by omega)) rfl 8 (by decide) (hw _ kw_502) (fun _ h9 => h9) rfl (tyX0_ok 8 (by decide)) rfl rfl (show 8 < 11 from by decide) dX0_sell_16 (fun H locs hP _ hS => ?_)
  rw [pw_setB (by omega) (by omega) (by decide)] at hP
  have hP : va_P D vwCl (pw a cH cB cJ cI (m_up g 2 bb 8 (g 2 bb 8 - (min q1 (g 2 bb 8)))) vt) H := hP
  obtain ⟨g2, hg2⟩ : ∃ z, z = m_up g 2 bb 8 (g 2 bb 8 - (min q1 (g 2 bb 8))) := ⟨_, rfl⟩
  rw [← hg2] at hP
  refine lv_aload_n hx hb dX0_sell_19 rfl (lv_at hl 1 rfl) ?_
  refine lv_dup hx hb dX0_sell_20 rfl ?_
  have e3 : g2 2 bb 9 = g 2 bb 9 := by simp [hg2, m_up]
  refine va_get (D := D) (ci := 0) (v := .int (iI (g 2 bb 9))) (C := RX0) (T := TX0) (N := 11) hx hb hw hin_wsX00 hown hK hP (12 + bb.toNat) (pw_B (b := bb) (by omega) (by omega)) rfl 9 (by decide) (hw _ kw_504) (fun _ h9 => h9) (by rw [← e3]; rfl) dX0_sell_21 ?_
  refine lv_iload_n hx hb dX0_sell_24 rfl (lv_at hl 0 rfl) ?_
  refine n_add hx hb dX0_sell_25 ?_
  refine va_put (D := D) (ci := 0) (v := .int (iI (g 2 bb 9 + (min q1 (g 2 bb 8))))) (C := RX0) (T := TX0) (N := 11) (ty := .int) hx hb hw hin_wsX00 tyX0 tyX0_ok nmX0 hown hK hP (pw_D ha (fun k hk => pA_in hk)) hS (12 + bb.toNat) (pw_B (b := bb) (by omega) (by omega)) rfl 9 (by decide) (hw _ kw_504) (fun _ h9 => h9) rfl (tyX0_ok 9 (by decide)) rfl rfl (show 9 < 11 from by decide) dX0_sell_26 (fun H locs hP _ hS => ?_)
  rw [pw_setB (by omega) (by omega) (by decide)] at hP
  have hP : va_P D vwCl (pw a cH cB cJ cI (m_up g2 2 bb 9 (g 2 bb 9 + (min q1 (g 2 bb 8)))) vt) H := hP
  obtain ⟨g4, hg4⟩ : ∃ z, z = m_up g2 2 bb 9 (g 2 bb 9 + (min q1 (g 2 bb 8))) := ⟨_, rfl⟩
  rw [← hg4] at hP
  refine lv_aload_n hx hb dX0_sell_29 rfl (lv_at hl 1 rfl) ?_
  refine lv_dup hx hb dX0_sell_30 rfl ?_
  have e5 : g4 2 bb 10 = g 2 bb 10 := by simp [hg4, hg2, m_up]
  refine va_get (D := D) (ci := 0) (v := .int (iI (g 2 bb 10))) (C := RX0) (T := TX0) (N := 11) hx hb hw hin_wsX00 hown hK hP (12 + bb.toNat) (pw_B (b := bb) (by omega) (by omega)) rfl 10 (by decide) (hw _ kw_505) (fun _ h9 => h9) (by rw [← e5]; rfl) dX0_sell_31 ?_
  refine lv_iload_n hx hb dX0_sell_34 rfl (lv_at hl 2 rfl) ?_
  refine lv_iload_n hx hb dX0_sell_35 rfl (lv_at hl 0 rfl) ?_
  refine n_sub hx hb dX0_sell_36 ?_
  refine n_add hx hb dX0_sell_37 ?_
  refine va_put (D := D) (ci := 0) (v := .int (iI (g 2 bb 10 + (q1 - (min q1 (g 2 bb 8)))))) (C := RX0) (T := TX0) (N := 11) (ty := .int) hx hb hw hin_wsX00 tyX0 tyX0_ok nmX0 hown hK hP (pw_D ha (fun k hk => pA_in hk)) hS (12 + bb.toNat) (pw_B (b := bb) (by omega) (by omega)) rfl 10 (by decide) (hw _ kw_505) (fun _ h9 => h9) rfl (tyX0_ok 10 (by decide)) rfl rfl (show 10 < 11 from by decide) dX0_sell_38 (fun H locs hP _ hS => ?_)
  rw [pw_setB (by omega) (by omega) (by decide)] at hP
  have hP : va_P D vwCl (pw a cH cB cJ cI (m_up g4 2 bb 10 (g 2 bb 10 + (q1 - (min q1 (g 2 bb 8))))) vt) H := hP
  obtain ⟨g6, hg6⟩ : ∃ z, z = m_up g4 2 bb 10 (g 2 bb 10 + (q1 - (min q1 (g 2 bb 8)))) := ⟨_, rfl⟩
  rw [← hg6] at hP
  refine lv_iload_n hx hb dX0_sell_41 rfl (lv_at hl 0 rfl) ?_
  have hf7 : g6 = (m_sellB g bb q1) := by rw [hg6, hg4, hg2] <;> rfl
  rw [hf7] at hP
  exact W.iret (v := (iI (min q1 (g 2 bb 8)))) hx hb hr (fun t ht hW9 => ⟨⟨(iI (min q1 (g 2 bb 8))), (), rfl, rfl, ⟨vt, by rw [ht]; exact hP⟩⟩, hS.F ht⟩) hS.2.2 dX0_sell_42
set_option maxHeartbeats 4000000 in
set_option maxRecDepth 100000 in
theorem c_takeIn (l : Launch) (D : va_G) (a : Nat → Nat) (cH cB cJ cI : ClassId) (ha : pj a) (g : m_St) (vt : Nat → Int32) (sz : Nat) (jj : Int) (bb : Int) (pg : Int) (hWf : Wf g) (hjj : 0 ≤ jj ∧ jj < 5) (hc7 : g 3 jj 7 < 16) : Met l yX2_takeIn (wc yX2_takeIn cX2_takeIn 3 none) ({ frames := 0, cells := 0, slots := 0, locals := 0 }) (va_Pc [.ref (a (28 + 6 * jj.toNat)), .int (iI bb), .int (iI pg)] (pS D a cH cB cJ cI sz g vt)) (va_Qv (fun (_ : Unit) => True) (fun _ t => ∃ vt1 : Nat → Int32, va_P D vwCl (pw a cH cB cJ cI (m_takeIn g jj bb pg) vt1) t.heap) (pA a sz)) 0 0 (pA a sz) := by
  refine Met.ofW (cc := cX2_takeIn) (maxL := 3) (ret := none) (by decide +kernel) rfl ?_
  intro p e s m args below meth c s₁ B9 hml hv
  obtain ⟨rfl, hsz, hP, hK, hE⟩ := hv
  have hx := B9.exec
  have hb := B9.bytes
  have hr := B9.returns
  have hts := atoms_spec (ws := (wc yX2_takeIn cX2_takeIn 3 none)) B9.pre
  have hw : ∀ w ∈ wsL_law0, w.before [.ref (a (28 + 6 * jj.toNat)), .int (iI bb), .int (iI pg)].toArray s = true := fun w h => hts w (List.mem_cons_of_mem _ h)
  have hown : s.vm.findClass RX2 = some m.cls := findClass_of_methodNamed B9.named
  have hlocks := B9.notSynchronized
  subst hsz
  have hS : va_S (pA a s.heap.size) s.heap s.heap [] := va_S.rf
  have hA : ∀ q : Nat, s.heap.size ≤ q → pA a s.heap.size q := fun _ h => pA_new h
  have hB : ∀ k, k < 58 → pA a s.heap.size (a k) := fun _ h => pA_in h
  have hl := lv_entry ([.ref (a (28 + 6 * jj.toNat)), .int (iI bb), .int (iI pg)]) (n := 3) (Nat.le_of_ble_eq_true rfl)
  rw [lg_entry_eq]
  generalize (lg_sl ([.ref (a (28 + 6 * jj.toNat)), .int (iI bb), .int (iI pg)]) ++ List.replicate (3 - (lg_sl ([.ref (a (28 + 6 * jj.toNat)), .int (iI bb), .int (iI pg)])).length) Slot.unset).toArray = ls at hl ⊢
  have hl : lv_has ls 3 [(0, .ref (a (28 + 6 * jj.toNat))), (1, .int (iI bb)), (2, .int (iI pg))] := hl
  suffices h9 : ∀ (H : Heap) (locs : List Loc), va_P D vwCl (pw a cH cB cJ cI g vt) H → va_S (pA a s.heap.size) s.heap H locs → W p l e (headSpec (wc yX2_takeIn cX2_takeIn 3 none) ({ frames := 0, cells := 0, slots := 0, locals := 0 })).room s m [.ref (a (28 + 6 * jj.toNat)), .int (iI bb), .int (iI pg)].toArray below meth c H locs 0 0 (MQ below (va_Qv (fun (_ : Unit) => True) (fun _ t => ∃ vt1 : Nat → Int32, va_P D vwCl (pw a cH cB cJ cI (m_takeIn g jj bb pg) vt1) t.heap) (pA a s.heap.size)) [.ref (a (28 + 6 * jj.toNat)), .int (iI bb), .int (iI pg)].toArray s 0 0 (pA a s.heap.size)) (F0 m 0 ls []) from h9 s.heap [] hP hS
  clear hP hS
  intro H locs hP hS
  refine lv_aload_n hx hb dX2_takeIn_0 rfl (lv_at hl 0 rfl) ?_
  have s1 := Wf.j7 hWf (k := jj) (by omega) (by omega)
  refine va_get (D := D) (ci := 2) (v := .int (iI (g 3 jj 7))) (C := RX2) (T := TX2) (N := 16) hx hb hw hin_wsX20 hown hK hP (28 + 6 * jj.toNat) (pw_J (j := jj) (by omega) (by omega)) rfl 7 (by decide) (hw _ kw_333) (fun _ h9 => h9) rfl dX2_takeIn_1 ?_
  refine lv_bipush (v := iI 16) hx hb dX2_takeIn_4 (by decide) ?_
  refine n_icmp_ge hx hb (by unfold RI; omega) (by unfold RI; omega) (tgt := 52) dX2_takeIn_6 (by decide) (fun h2 => absurd h2 (by intro h2; omega)) (fun h2 => ?_)
  refine lv_aload_n hx hb dX2_takeIn_9 rfl (lv_at hl 0 rfl) ?_
  refine lv_dup hx hb dX2_takeIn_10 rfl ?_
  have s3 := Wf.j8 hWf (k := jj) (by omega) (by omega)
  refine va_get (D := D) (ci := 2) (v := .int (iI (g 3 jj 8))) (C := RX2) (T := TX2) (N := 16) hx hb hw hin_wsX20 hown hK hP (28 + 6 * jj.toNat) (pw_J (j := jj) (by omega) (by omega)) rfl 8 (by decide) (hw _ kw_186) (fun _ h9 => h9) rfl dX2_takeIn_11 ?_
  refine lv_iload_n hx hb dX2_takeIn_14 rfl (lv_at hl 2 rfl) ?_
  refine n_add hx hb dX2_takeIn_15 ?_
  refine va_put (D := D) (ci := 2) (v := .int (iI (g 3 jj 8 + pg))) (C := RX2) (T := TX2) (N := 16) (ty := .int) hx hb hw hin_wsX20 tyX2 tyX2_ok nmX2 hown hK hP (pw_D ha (fun k hk => pA_in hk)) hS (28 + 6 * jj.toNat) (pw_J (j := jj) (by omega) (by omega)) rfl 8 (by decide) (hw _ kw_186) (fun _ h9 => h9) rfl (tyX2_ok 8 (by decide)) rfl rfl (show 8 < 16 from by decide) dX2_takeIn_16 (fun H locs hP _ hS => ?_)
  rw [pw_setJ (by omega) (by omega) (by decide) (by decide) (by decide) (by decide) (by decide) (by decide)] at hP
  have hP : va_P D vwCl (pw a cH cB cJ cI (m_up g 3 jj 8 (g 3 jj 8 + pg)) vt) H := hP
  obtain ⟨g4, hg4⟩ : ∃ z, z = m_up g 3 jj 8 (g 3 jj 8 + pg) := ⟨_, rfl⟩
  rw [← hg4] at hP
  refine lv_aload_n hx hb dX2_takeIn_19 rfl (lv_at hl 0 rfl) ?_
  refine va_get (D := D) (ci := 2) (v := .ref (a (28 + 1 + 6 * jj.toNat))) (C := RX2) (T := TX2) (N := 16) hx hb hw hin_wsX20 hown hK hP (28 + 6 * jj.toNat) (pw_J (j := jj) (by omega) (by omega)) rfl 5 (by decide) (hw _ kw_54) (fun _ h9 => h9) rfl dX2_takeIn_20 ?_
  refine lv_aload_n hx hb dX2_takeIn_23 rfl (lv_at hl 0 rfl) ?_
  have e5 : g4 3 jj 7 = g 3 jj 7 := by simp [hg4, m_up]
  refine va_get (D := D) (ci := 2) (v := .int (iI (g 3 jj 7))) (C := RX2) (T := TX2) (N := 16) hx hb hw hin_wsX20 hown hK hP (28 + 6 * jj.toNat) (pw_J (j := jj) (by omega) (by omega)) rfl 7 (by decide) (hw _ kw_333) (fun _ h9 => h9) (by rw [← e5]; rfl) dX2_takeIn_24 ?_
  refine lv_iload_n hx hb dX2_takeIn_27 rfl (lv_at hl 1 rfl) ?_
  refine p_wr hx hb hK hP (pw_D ha (fun k hk => pA_in hk)) hS (j := jj) (k := g 3 jj 7) (x := bb) (r := 1) (by omega) (by omega) (by decide) (by omega) (by rw [if_neg (by decide)]; omega) dX2_takeIn_28 (fun H locs hP hS => ?_)
  have hP : va_P D vwCl (pw a cH cB cJ cI (m_up g4 4 jj (g 3 jj 7) bb) vt) H := hP
  obtain ⟨g6, hg6⟩ : ∃ z, z = m_up g4 4 jj (g 3 jj 7) bb := ⟨_, rfl⟩
  rw [← hg6] at hP
  refine lv_aload_n hx hb dX2_takeIn_29 rfl (lv_at hl 0 rfl) ?_
  refine va_get (D := D) (ci := 2) (v := .ref (a (28 + 2 + 6 * jj.toNat))) (C := RX2) (T := TX2) (N := 16) hx hb hw hin_wsX20 hown hK hP (28 + 6 * jj.toNat) (pw_J (j := jj) (by omega) (by omega)) rfl 6 (by decide) (hw _ kw_55) (fun _ h9 => h9) rfl dX2_takeIn_30 ?_
  refine lv_aload_n hx hb dX2_takeIn_33 rfl (lv_at hl 0 rfl) ?_
  have e7 : g6 3 jj 7 = g 3 jj 7 := by simp [hg6, hg4, m_up]
  refine va_get (D := D) (ci := 2) (v := .int (iI (g 3 jj 7))) (C := RX2) (T := TX2) (N := 16) hx hb hw hin_wsX20 hown hK hP (28 + 6 * jj.toNat) (pw_J (j := jj) (by omega) (by omega)) rfl 7 (by decide) (hw _ kw_333) (fun _ h9 => h9) (by rw [← e7]; rfl) dX2_takeIn_34 ?_
  refine lv_aload_n hx hb dX2_takeIn_37 rfl (lv_at hl 0 rfl) ?_
  have e8 : g6 3 jj 8 = (g 3 jj 8 + pg) := by simp [hg6, hg4, m_up]
  refine va_get (D := D) (ci := 2) (v := .int (iI (g 3 jj 8 + pg))) (C := RX2) (T := TX2) (N := 16) hx hb hw hin_wsX20 hown hK hP (28 + 6 * jj.toNat) (pw_J (j := jj) (by omega) (by omega)) rfl 8 (by decide) (hw _ kw_186) (fun _ h9 => h9) (by rw [← e8]; rfl) dX2_takeIn_38 ?_
  refine p_wr hx hb hK hP (pw_D ha (fun k hk => pA_in hk)) hS (j := jj) (k := g 3 jj 7) (x := (g 3 jj 8 + pg)) (r := 2) (by omega) (by omega) (by decide) (by omega) (by rw [if_neg (by decide)]; omega) dX2_takeIn_41 (fun H locs hP hS => ?_)
  have hP : va_P D vwCl (pw a cH cB cJ cI (m_up g6 5 jj (g 3 jj 7) (g 3 jj 8 + pg)) vt) H := hP
  obtain ⟨g9, hg9⟩ : ∃ z, z = m_up g6 5 jj (g 3 jj 7) (g 3 jj 8 + pg) := ⟨_, rfl⟩
  rw [← hg9] at hP
  refine lv_aload_n hx hb dX2_takeIn_42 rfl (lv_at hl 0 rfl) ?_
  refine lv_dup hx hb dX2_takeIn_43 rfl ?_
  have e10 : g9 3 jj 7 = g 3 jj 7 := by simp [hg9, hg6, hg4, m_up]
  refine va_get (D := D) (ci := 2) (v := .int (iI (g 3 jj 7))) (C := RX2) (T := TX2) (N := 16) hx hb hw hin_wsX20 hown hK hP (28 + 6 * jj.toNat) (pw_J (j := jj) (by omega) (by omega)) rfl 7 (by decide) (hw _ kw_333) (fun _ h9 => h9) (by rw [← e10]; rfl) dX2_takeIn_44 ?_
  refine lv_iconst (v := iI 1) hx hb dX2_takeIn_47 (by decide) ?_
  refine n_add hx hb dX2_takeIn_48 ?_
  refine va_put (D := D) (ci := 2) (v := .int (iI (g 3 jj 7 + 1))) (C := RX2) (T := TX2) (N := 16) (ty := .int) hx hb hw hin_wsX20 tyX2 tyX2_ok nmX2 hown hK hP (pw_D ha (fun k hk => pA_in hk)) hS (28 + 6 * jj.toNat) (pw_J (j := jj) (by omega) (by omega)) rfl 7 (by decide) (hw _ kw_333) (fun _ h9 => h9) rfl (tyX2_ok 7 (by decide)) rfl rfl (show 7 < 16 from by decide) dX2_takeIn_49 (fun H locs hP _ hS => ?_)
  rw [pw_setJ (by omega) (by omega) (by decide) (by decide) (by decide) (by decide) (by decide) (by decide)] at hP
  have hP : va_P D vwCl (pw a cH cB cJ cI (m_up g9 3 jj 7 (g 3 jj 7 + 1)) vt) H := hP
  obtain ⟨g11, hg11⟩ : ∃ z, z = m_up g9 3 jj 7 (g 3 jj 7 + 1) := ⟨_, rfl⟩
  rw [← hg11] at hP
  have hf12 : g11 = (m_takeIn g jj bb pg) := by rw [hg11, hg9, hg6, hg4] <;> rfl
  rw [hf12] at hP
  exact W.vret hx hb hr (fun t ht hW9 => ⟨⟨(), rfl, trivial, ⟨vt, by rw [ht]; exact hP⟩⟩, hS.F ht⟩) hS.2.2 dX2_takeIn_52
set_option maxHeartbeats 4000000 in
set_option maxRecDepth 100000 in
theorem c_clearYear (l : Launch) (D : va_G) (a : Nat → Nat) (cH cB cJ cI : ClassId) (ha : pj a) (g : m_St) (vt : Nat → Int32) (sz : Nat) (jj : Int) (hjj : 0 ≤ jj ∧ jj < 5) : Met l yX2_clearYear (wc yX2_clearYear cX2_clearYear 2 none) ({ frames := 0, cells := 0, slots := 0, locals := 0 }) (va_Pc [.ref (a (28 + 6 * jj.toNat))] (pS D a cH cB cJ cI sz g vt)) (va_Qv (fun (_ : Unit) => True) (fun _ t => ∃ vt1 : Nat → Int32, va_P D vwCl (pw a cH cB cJ cI (m_clearYear jj g) vt1) t.heap) (pA a sz)) 0 0 (pA a sz) := by
  refine Met.ofW (cc := cX2_clearYear) (maxL := 2) (ret := none) (by decide +kernel) rfl ?_
  intro p e s m args below meth c s₁ B9 hml hv
  obtain ⟨rfl, hsz, hP, hK, hE⟩ := hv
  have hx := B9.exec
  have hb := B9.bytes
  have hr := B9.returns
  have hts := atoms_spec (ws := (wc yX2_clearYear cX2_clearYear 2 none)) B9.pre
  have hw : ∀ w ∈ wsL_law0, w.before [.ref (a (28 + 6 * jj.toNat))].toArray s = true := fun w h => hts w (List.mem_cons_of_mem _ h)
  have hown : s.vm.findClass RX2 = some m.cls := findClass_of_methodNamed B9.named
  have hlocks := B9.notSynchronized
  subst hsz
  have hS : va_S (pA a s.heap.size) s.heap s.heap [] := va_S.rf
  have hA : ∀ q : Nat, s.heap.size ≤ q → pA a s.heap.size q := fun _ h => pA_new h
  have hB : ∀ k, k < 58 → pA a s.heap.size (a k) := fun _ h => pA_in h
  have hl := lv_entry ([.ref (a (28 + 6 * jj.toNat))]) (n := 2) (Nat.le_of_ble_eq_true rfl)
  rw [lg_entry_eq]
  generalize (lg_sl ([.ref (a (28 + 6 * jj.toNat))]) ++ List.replicate (2 - (lg_sl ([.ref (a (28 + 6 * jj.toNat))])).length) Slot.unset).toArray = ls at hl ⊢
  have hl : lv_has ls 2 [(0, .ref (a (28 + 6 * jj.toNat)))] := hl
  suffices h9 : ∀ (H : Heap) (locs : List Loc), va_P D vwCl (pw a cH cB cJ cI g vt) H → va_S (pA a s.heap.size) s.heap H locs → W p l e (headSpec (wc yX2_clearYear cX2_clearYear 2 none) ({ frames := 0, cells := 0, slots := 0, locals := 0 })).room s m [.ref (a (28 + 6 * jj.toNat))].toArray below meth c H locs 0 0 (MQ below (va_Qv (fun (_ : Unit) => True) (fun _ t => ∃ vt1 : Nat → Int32, va_P D vwCl (pw a cH cB cJ cI (m_clearYear jj g) vt1) t.heap) (pA a s.heap.size)) [.ref (a (28 + 6 * jj.toNat))].toArray s 0 0 (pA a s.heap.size)) (F0 m 0 ls []) from h9 s.heap [] hP hS
  clear hP hS
  intro H locs hP hS
  refine lv_aload_n hx hb dX2_clearYear_0 rfl (lv_at hl 0 rfl) ?_
  refine lv_iconst (v := iI 0) hx hb dX2_clearYear_1 (by decide) ?_
  refine va_put (D := D) (ci := 2) (v := .int (iI 0)) (C := RX2) (T := TX2) (N := 16) (ty := .boolean) hx hb hw hin_wsX20 tyX2 tyX2_ok nmX2 hown hK hP (pw_D ha (fun k hk => pA_in hk)) hS (28 + 6 * jj.toNat) (pw_J (j := jj) (by omega) (by omega)) rfl 4 (by decide) (hw _ kw_424) (fun _ h9 => h9) rfl (tyX2_ok 4 (by decide)) (by first | rfl | decide) rfl (show 4 < 16 from by decide) dX2_clearYear_2 (fun H locs hP _ hS => ?_)
  rw [pw_setJ (by omega) (by omega) (by decide) (by decide) (by decide) (by decide) (by decide) (by decide)] at hP
  have hP : va_P D vwCl (pw a cH cB cJ cI (m_up g 3 jj 4 0) vt) H := hP
  obtain ⟨g1, hg1⟩ : ∃ z, z = m_up g 3 jj 4 0 := ⟨_, rfl⟩
  rw [← hg1] at hP
  refine lv_aload_n hx hb dX2_clearYear_5 rfl (lv_at hl 0 rfl) ?_
  refine lv_iconst (v := iI 0) hx hb dX2_clearYear_6 (by decide) ?_
  refine va_put (D := D) (ci := 2) (v := .int (iI 0)) (C := RX2) (T := TX2) (N := 16) (ty := .int) hx hb hw hin_wsX20 tyX2 tyX2_ok nmX2 hown hK hP (pw_D ha (fun k hk => pA_in hk)) hS (28 + 6 * jj.toNat) (pw_J (j := jj) (by omega) (by omega)) rfl 7 (by decide) (hw _ kw_333) (fun _ h9 => h9) rfl (tyX2_ok 7 (by decide)) rfl rfl (show 7 < 16 from by decide) dX2_clearYear_7 (fun H locs hP _ hS => ?_)
  rw [pw_setJ (by omega) (by omega) (by decide) (by decide) (by decide) (by decide) (by decide) (by decide)] at hP
  have hP : va_P D vwCl (pw a cH cB cJ cI (m_up g1 3 jj 7 0) vt) H := hP
  obtain ⟨g2, hg2⟩ : ∃ z, z = m_up g1 3 jj 7 0 := ⟨_, rfl⟩
  rw [← hg2] at hP
  refine lv_aload_n hx hb dX2_clearYear_10 rfl (lv_at hl 0 rfl) ?_
  refine lv_iconst (v := iI 0) hx hb dX2_clearYear_11 (by decide) ?_
  refine va_put (D := D) (ci := 2) (v := .int (iI 0)) (C := RX2) (T := TX2) (N := 16) (ty := .int) hx hb hw hin_wsX20 tyX2 tyX2_ok nmX2 hown hK hP (pw_D ha (fun k hk => pA_in hk)) hS (28 + 6 * jj.toNat) (pw_J (j := jj) (by omega) (by omega)) rfl 8 (by decide) (hw _ kw_186) (fun _ h9 => h9) rfl (tyX2_ok 8 (by decide)) rfl rfl (show 8 < 16 from by decide) dX2_clearYear_12 (fun H locs hP _ hS => ?_)
  rw [pw_setJ (by omega) (by omega) (by decide) (by decide) (by decide) (by decide) (by decide) (by decide)] at hP
  have hP : va_P D vwCl (pw a cH cB cJ cI (m_up g2 3 jj 8 0) vt) H := hP
  obtain ⟨g3, hg3⟩ : ∃ z, z = m_up g2 3 jj 8 0 := ⟨_, rfl⟩
  rw [← hg3] at hP
  refine lv_aload_n hx hb dX2_clearYear_15 rfl (lv_at hl 0 rfl) ?_
  refine lv_iconst (v := iI 0) hx hb dX2_clearYear_16 (by decide) ?_
  refine va_put (D := D) (ci := 2) (v := .int (iI 0)) (C := RX2) (T := TX2) (N := 16) (ty := .int) hx hb hw hin_wsX20 tyX2 tyX2_ok nmX2 hown hK hP (pw_D ha (fun k hk => pA_in hk)) hS (28 + 6 * jj.toNat) (pw_J (j := jj) (by omega) (by omega)) rfl 9 (by decide) (hw _ kw_247) (fun _ h9 => h9) rfl (tyX2_ok 9 (by decide)) rfl rfl (show 9 < 16 from by decide) dX2_clearYear_17 (fun H locs hP _ hS => ?_)
  rw [pw_setJ (by omega) (by omega) (by decide) (by decide) (by decide) (by decide) (by decide) (by decide)] at hP
  have hP : va_P D vwCl (pw a cH cB cJ cI (m_up g3 3 jj 9 0) vt) H := hP
  obtain ⟨g4, hg4⟩ : ∃ z, z = m_up g3 3 jj 9 0 := ⟨_, rfl⟩
  rw [← hg4] at hP
  refine lv_aload_n hx hb dX2_clearYear_20 rfl (lv_at hl 0 rfl) ?_
  refine lv_iconst (v := iI 0) hx hb dX2_clearYear_21 (by decide) ?_
  refine va_put (D := D) (ci := 2) (v := .int (iI 0)) (C := RX2) (T := TX2) (N := 16) (ty := .int) hx hb hw hin_wsX20 tyX2 tyX2_ok nmX2 hown hK hP (pw_D ha (fun k hk => pA_in hk)) hS (28 + 6 * jj.toNat) (pw_J (j := jj) (by omega) (by omega)) rfl 10 (by decide) (hw _ kw_187) (fun _ h9 => h9) rfl (tyX2_ok 10 (by decide)) rfl rfl (show 10 < 16 from by decide) dX2_clearYear_22 (fun H locs hP _ hS => ?_)
  rw [pw_setJ (by omega) (by omega) (by decide) (by decide) (by decide) (by decide) (by decide) (by decide)] at hP
  have hP : va_P D vwCl (pw a cH cB cJ cI (m_up g4 3 jj 10 0) vt) H := hP
  obtain ⟨g5, hg5⟩ : ∃ z, z = m_up g4 3 jj 10 0 := ⟨_, rfl⟩
  rw [← hg5] at hP
  refine lv_aload_n hx hb dX2_clearYear_25 rfl (lv_at hl 0 rfl) ?_
  refine lv_iconst (v := iI 0) hx hb dX2_clearYear_26 (by decide) ?_
  refine va_put (D := D) (ci := 2) (v := .int (iI 0)) (C := RX2) (T := TX2) (N := 16) (ty := .int) hx hb hw hin_wsX20 tyX2 tyX2_ok nmX2 hown hK hP (pw_D ha (fun k hk => pA_in hk)) hS (28 + 6 * jj.toNat) (pw_J (j := jj) (by omega) (by omega)) rfl 12 (by decide) (hw _ kw_248) (fun _ h9 => h9) rfl (tyX2_ok 12 (by decide)) rfl rfl (show 12 < 16 from by decide) dX2_clearYear_27 (fun H locs hP _ hS => ?_)
  rw [pw_setJ (by omega) (by omega) (by decide) (by decide) (by decide) (by decide) (by decide) (by decide)] at hP
  have hP : va_P D vwCl (pw a cH cB cJ cI (m_up g5 3 jj 12 0) vt) H := hP
  obtain ⟨g6, hg6⟩ : ∃ z, z = m_up g5 3 jj 12 0 := ⟨_, rfl⟩
  rw [← hg6] at hP
  refine lv_aload_n hx hb dX2_clearYear_30 rfl (lv_at hl 0 rfl) ?_
  refine lv_iconst (v := iI 0) hx hb dX2_clearYear_31 (by decide) ?_
  refine va_put (D := D) (ci := 2) (v := .int (iI 0)) (C := RX2) (T := TX2) (N := 16) (ty := .int) hx hb hw hin_wsX20 tyX2 tyX2_ok nmX2 hown hK hP (pw_D ha (fun k hk => pA_in hk)) hS (28 + 6 * jj.toNat) (pw_J (j := jj) (by omega) (by omega)) rfl 15 (by decide) (hw _ kw_192) (fun _ h9 => h9) rfl (tyX2_ok 15 (by decide)) rfl rfl (show 15 < 16 from by decide) dX2_clearYear_32 (fun H locs hP _ hS => ?_)
  rw [pw_setJ (by omega) (by omega) (by decide) (by decide) (by decide) (by decide) (by decide) (by decide)] at hP
  have hP : va_P D vwCl (pw a cH cB cJ cI (m_up g6 3 jj 15 0) vt) H := hP
  obtain ⟨g7, hg7⟩ : ∃ z, z = m_up g6 3 jj 15 0 := ⟨_, rfl⟩
  rw [← hg7] at hP
  refine lv_iconst (v := iI 0) hx hb dX2_clearYear_35 (by decide) ?_
  refine lv_istore_n (lv' := [(1, .int (iI 0)), (0, .ref (a (28 + 6 * jj.toNat)))]) hx hb dX2_clearYear_36 rfl hl (by decide) rfl (fun ls hl => ?_)
  have loop37 : ∀ (d n : Nat) (gq : m_St) (H : Heap) (locs : List Loc) (ls : Array Slot), n + d = 16 → gq = m_fo (fun b u => m_up (m_up u 6 jj b (-1)) 7 jj b 0) g7 n → va_P D vwCl (pw a cH cB cJ cI gq vt) H → va_S (pA a s.heap.size) s.heap H locs → lv_has ls 2 [(1, .int (iI ((n : Nat) : Int))), (0, .ref (a (28 + 6 * jj.toNat)))] → W p l e (headSpec (wc yX2_clearYear cX2_clearYear 2 none) ({ frames := 0, cells := 0, slots := 0, locals := 0 })).room s m [.ref (a (28 + 6 * jj.toNat))].toArray below meth c H locs 0 0 (MQ below (va_Qv (fun (_ : Unit) => True) (fun _ t => ∃ vt1 : Nat → Int32, va_P D vwCl (pw a cH cB cJ cI (m_clearYear jj g) vt1) t.heap) (pA a s.heap.size)) [.ref (a (28 + 6 * jj.toNat))].toArray s 0 0 (pA a s.heap.size)) (F0 m 37 ls []) := by
    intro d
    induction d with
    | zero =>
      intro n gq H locs ls hn hgq hP hS hl
      obtain rfl : n = 16 := by omega
      refine lv_iload_n hx hb dX2_clearYear_37 rfl (lv_at hl 0 rfl) ?_
      refine lv_bipush (v := iI 16) hx hb dX2_clearYear_38 (by decide) ?_
      refine n_icmp_ge hx hb (by unfold RI; omega) (by unfold RI; omega) (tgt := 63) dX2_clearYear_40 (by decide) (fun h8 => ?_) (fun h8 => absurd h8 (by intro h8; omega))
      have hf9 : gq = (m_clearYear jj g) := by rw [hgq, hg7, hg6, hg5, hg4, hg3, hg2, hg1] <;> rfl
      rw [hf9] at hP
      exact W.vret hx hb hr (fun t ht hW9 => ⟨⟨(), rfl, trivial, ⟨vt, by rw [ht]; exact hP⟩⟩, hS.F ht⟩) hS.2.2 dX2_clearYear_63
    | succ d ih37 =>
      intro n gq H locs ls hn hgq hP hS hl
      refine lv_iload_n hx hb dX2_clearYear_37 rfl (lv_at hl 0 rfl) ?_
      refine lv_bipush (v := iI 16) hx hb dX2_clearYear_38 (by decide) ?_
      refine n_icmp_ge hx hb (by unfold RI; omega) (by unfold RI; omega) (tgt := 63) dX2_clearYear_40 (by decide) (fun h10 => absurd h10 (by intro h10; omega)) (fun h10 => ?_)
      refine lv_aload_n hx hb dX2_clearYear_43 rfl (lv_at hl 1 rfl) ?_
      refine va_get (D := D) (ci := 2) (v := .ref (a (28 + 3 + 6 * jj.toNat))) (C := RX2) (T := TX2) (N := 16) hx hb hw hin_wsX20 hown hK hP (28 + 6 * jj.toNat) (pw_J (j := jj) (by omega) (by omega)) rfl 11 (by decide) (hw _ kw_56) (fun _ h9 => h9) rfl dX2_clearYear_44 ?_
      refine lv_iload_n hx hb dX2_clearYear_47 rfl (lv_at hl 0 rfl) ?_
      refine lv_iconst (v := iI (-1)) hx hb dX2_clearYear_48 (by decide) ?_
      refine p_wr hx hb hK hP (pw_D ha (fun k hk => pA_in hk)) hS (j := jj) (k := ((n : Nat) : Int)) (x := (-1)) (r := 3) (by omega) (by omega) (by decide) (by omega) (by rw [if_neg (by decide)]; omega) dX2_clearYear_49 (fun H locs hP hS => ?_)
      have hP : va_P D vwCl (pw a cH cB cJ cI (m_up gq 6 jj ((n : Nat) : Int) (-1)) vt) H := hP
      obtain ⟨g11, hg11⟩ : ∃ z, z = m_up gq 6 jj ((n : Nat) : Int) (-1) := ⟨_, rfl⟩
      rw [← hg11] at hP
      refine lv_aload_n hx hb dX2_clearYear_50 rfl (lv_at hl 1 rfl) ?_
      refine va_get (D := D) (ci := 2) (v := .ref (a (28 + 4 + 6 * jj.toNat))) (C := RX2) (T := TX2) (N := 16) hx hb hw hin_wsX20 hown hK hP (28 + 6 * jj.toNat) (pw_J (j := jj) (by omega) (by omega)) rfl 13 (by decide) (hw _ kw_57) (fun _ h9 => h9) rfl dX2_clearYear_51 ?_
      refine lv_iload_n hx hb dX2_clearYear_54 rfl (lv_at hl 0 rfl) ?_
      refine lv_iconst (v := iI 0) hx hb dX2_clearYear_55 (by decide) ?_
      refine p_wr hx hb hK hP (pw_D ha (fun k hk => pA_in hk)) hS (j := jj) (k := ((n : Nat) : Int)) (x := 0) (r := 4) (by omega) (by omega) (by decide) (by omega) (by rw [if_neg (by decide)]; omega) dX2_clearYear_56 (fun H locs hP hS => ?_)
      have hP : va_P D vwCl (pw a cH cB cJ cI (m_up g11 7 jj ((n : Nat) : Int) 0) vt) H := hP
      obtain ⟨g12, hg12⟩ : ∃ z, z = m_up g11 7 jj ((n : Nat) : Int) 0 := ⟨_, rfl⟩
      rw [← hg12] at hP
      refine n_inc (lv' := [(1, .int (iI (((n : Nat) : Int) + 1))), (0, .ref (a (28 + 6 * jj.toNat)))]) hx hb dX2_clearYear_57 hl (k := 0) rfl (by decide) rfl (fun ls hl => ?_)
      refine lv_goto (tgt := 37) hx hb dX2_clearYear_60 (by decide) ?_
      have hl : lv_has ls 2 [(1, .int (iI (((n : Nat) : Int) + 1))), (0, .ref (a (28 + 6 * jj.toNat)))] := lv_sub hl [0, 1] rfl
      have e13 : (((n : Nat) : Int) + 1) = (((n + 1) : Nat) : Int) := by rfl
      have hl : lv_has ls 2 [(1, .int (iI (((n + 1) : Nat) : Int))), (0, .ref (a (28 + 6 * jj.toNat)))] := lv_cast hl (by rw [e13])
      exact ih37 (n + 1) g12 H locs ls (by omega) (by rw [hg12, hg11, hgq] <;> rfl) hP hS hl
  have hl : lv_has ls 2 [(1, .int (iI 0)), (0, .ref (a (28 + 6 * jj.toNat)))] := lv_sub hl [0, 1] rfl
  have hl : lv_has ls 2 [(1, .int (iI ((0 : Nat) : Int))), (0, .ref (a (28 + 6 * jj.toNat)))] := hl
  exact loop37 16 0 g7 H locs ls (by omega) rfl hP hS hl

set_option maxHeartbeats 4000000 in
set_option maxRecDepth 100000 in
theorem c_mark (l : Launch) (D : va_G) (a : Nat → Nat) (cH cB cJ cI : ClassId) (ha : pj a) (g : m_St) (vt : Nat → Int32) (sz : Nat) (jj : Int) (bb : Int) (hWf : Wf g) (hjj : 0 ≤ jj ∧ jj < g 0 0 5) (hbb : 0 ≤ bb ∧ bb < g 0 0 4) : Met l yX4_mark (wc yX4_mark cX4_mark 3 (some .int)) ({ frames := 1, cells := 0, slots := 0, locals := 21 }) (va_Pc [.ref (a 0), .int (iI jj), .int (iI bb)] (pS D a cH cB cJ cI sz g vt)) (va_Qi (fun (r : Int32) (_ : Unit) => r = iI (g 6 jj bb)) (fun _ _ => True) (fun q => sz ≤ q)) 0 0 (fun q => sz ≤ q) := by
  refine Met.ofW (cc := cX4_mark) (maxL := 3) (ret := (some .int)) (by decide +kernel) rfl ?_
  intro p e s m args below meth c s₁ B9 hml hv
  obtain ⟨rfl, hsz, hP, hK, hE⟩ := hv
  have hx := B9.exec
  have hb := B9.bytes
  have hr := B9.returns
  have hts := atoms_spec (ws := (wc yX4_mark cX4_mark 3 (some .int))) B9.pre
  have hw : ∀ w ∈ wsL_law0, w.before [.ref (a 0), .int (iI jj), .int (iI bb)].toArray s = true := fun w h => hts w (List.mem_cons_of_mem _ h)
  have hown : s.vm.findClass RX4 = some m.cls := findClass_of_methodNamed B9.named
  subst hsz
  have hS : va_S (fun q => s.heap.size ≤ q) s.heap s.heap [] := va_S.rf
  have hA : ∀ q : Nat, s.heap.size ≤ q → (fun q : Nat => s.heap.size ≤ q) q := fun _ h => h
  have hl := lv_entry ([.ref (a 0), .int (iI jj), .int (iI bb)]) (n := 3) (Nat.le_of_ble_eq_true rfl)
  rw [lg_entry_eq]
  generalize (lg_sl ([.ref (a 0), .int (iI jj), .int (iI bb)]) ++ List.replicate (3 - (lg_sl ([.ref (a 0), .int (iI jj), .int (iI bb)])).length) Slot.unset).toArray = ls at hl ⊢
  have hl : lv_has ls 3 [(0, .ref (a 0)), (1, .int (iI jj)), (2, .int (iI bb))] := hl
  suffices h9 : ∀ (H : Heap) (locs : List Loc), va_P D vwCl (pw a cH cB cJ cI g vt) H → va_S (fun q => s.heap.size ≤ q) s.heap H locs → W p l e (headSpec (wc yX4_mark cX4_mark 3 (some .int)) ({ frames := 1, cells := 0, slots := 0, locals := 21 })).room s m [.ref (a 0), .int (iI jj), .int (iI bb)].toArray below meth c H locs 0 0 (MQ below (va_Qi (fun (r : Int32) (_ : Unit) => r = iI (g 6 jj bb)) (fun _ _ => True) (fun q => s.heap.size ≤ q)) [.ref (a 0), .int (iI jj), .int (iI bb)].toArray s 0 0 (fun q => s.heap.size ≤ q)) (F0 m 0 ls []) from h9 s.heap [] hP hS
  clear hP hS
  intro H locs hP hS
  have m4 := Wf.m4 hWf
  have m5 := Wf.m5 hWf
  refine lv_aload_n hx hb dX4_mark_0 rfl (lv_at hl 0 rfl) ?_
  refine lv_iload_n hx hb dX4_mark_1 rfl (lv_at hl 1 rfl) ?_
  refine va_calli (va_runV (As := [.int (iI jj)]) (rest := []) ⟨hx, hb, hml, hown, hw⟩ (c_isJudge l D a cH cB cJ cI ha g vt H.size jj hWf (by omega)) (cwV 1 hw (gA_V kw_158 kw_159 kw_160 kw_2 kw_161) rfl rfl rfl (by decide +kernel) ⟨Nat.le_of_ble_eq_true rfl, Nat.le_of_ble_eq_true rfl⟩) (pS_v (ci := 4) (q0 := 0) rfl pw_0 hP hK hE) rfl rfl hl.1 rfl (lv_room (Nat.le_of_ble_eq_true rfl)) dX4_mark_2 ⟨Nat.le_of_ble_eq_true rfl, Nat.le_of_ble_eq_true rfl⟩) hS (fun q h1 h2 => ro_A h1 h2) (fun q h => ro_F hS hA q h) (fun r u t H1 locs ht hvm hw9 hB9 hz1 hk1 hS => ?_)
  have hw9 : r = (bi (decide (0 ≤ jj ∧ jj < g 0 0 5))) := hw9
  subst hw9
  have hP := ro_P hP hk1
  generalize H1 = H at hP hS ⊢
  refine n_b_eq hx hb (tgt := 16) dX4_mark_5 (by decide) (fun h1 => absurd h1 (by intro h1; have h1 := of_decide_eq_false h1; omega)) (fun h1 => ?_)
  have h1 := of_decide_eq_true h1
  refine lv_aload_n hx hb dX4_mark_8 rfl (lv_at hl 0 rfl) ?_
  refine lv_iload_n hx hb dX4_mark_9 rfl (lv_at hl 2 rfl) ?_
  refine va_calli (va_runV (As := [.int (iI bb)]) (rest := []) ⟨hx, hb, hml, hown, hw⟩ (c_isBook l D a cH cB cJ cI ha g vt H.size bb hWf (by omega)) (cwV 1 hw (gA_V kw_162 kw_163 kw_164 kw_2 kw_165) rfl rfl rfl (by decide +kernel) ⟨Nat.le_of_ble_eq_true rfl, Nat.le_of_ble_eq_true rfl⟩) (pS_v (ci := 4) (q0 := 0) rfl pw_0 hP hK hE) rfl rfl hl.1 rfl (lv_room (Nat.le_of_ble_eq_true rfl)) dX4_mark_10 ⟨Nat.le_of_ble_eq_true rfl, Nat.le_of_ble_eq_true rfl⟩) hS (fun q h1 h2 => ro_A h1 h2) (fun q h => ro_F hS hA q h) (fun r u t H1 locs ht hvm hw9 hB9 hz1 hk1 hS => ?_)
  have hw9 : r = (bi (decide (0 ≤ bb ∧ bb < g 0 0 4))) := hw9
  subst hw9
  have hP := ro_P hP hk1
  generalize H1 = H at hP hS ⊢
  refine n_b_ne hx hb (tgt := 26) dX4_mark_13 (by decide) (fun h2 => ?_) (fun h2 => absurd h2 (by intro h2; have h2 := of_decide_eq_false h2; omega))
  have h2 := of_decide_eq_true h2
  refine lv_aload_n hx hb dX4_mark_26 rfl (lv_at hl 0 rfl) ?_
  refine va_get (D := D) (ci := 4) (v := .ref (a 3)) (C := RX4) (T := TX4) (N := 19) hx hb hw hin_wsX40 hown hK hP 0 pw_0 rfl 2 (by decide) (hw _ kw_19) (fun _ h9 => h9) rfl dX4_mark_27 ?_
  refine lv_iload_n hx hb dX4_mark_30 rfl (lv_at hl 1 rfl) ?_
  refine p_aldJ hx hb hK hP (k := jj) (by omega) (by omega) dX4_mark_31 ?_
  refine va_get (D := D) (ci := 2) (v := .ref (a (28 + 3 + 6 * jj.toNat))) (C := RX2) (T := TX2) (N := 16) hx hb hw hin_wsX20 hown hK hP (28 + 6 * jj.toNat) (pw_J (j := jj) (by omega) (by omega)) rfl 11 (by decide) (hw _ kw_157) (fun _ h9 => h9) rfl dX4_mark_32 ?_
  refine lv_iload_n hx hb dX4_mark_35 rfl (lv_at hl 2 rfl) ?_
  refine p_rd hx hb hK hP (j := jj) (k := bb) (r := 3) (by omega) (by omega) (by decide) (by omega) (by rw [if_neg (by decide)]; omega) dX4_mark_36 ?_
  have s3 := Wf.r6 hWf (j := jj) (k := bb) (by omega) (by omega) (by omega) (by omega)
  rw [show g (3 + 3) jj bb = g 6 jj bb from rfl]
  exact W.iret (v := (iI (g 6 jj bb))) hx hb hr (fun t ht hW9 => ⟨⟨(iI (g 6 jj bb)), (), rfl, (congrArg iI (by rfl)), trivial⟩, hS.F ht⟩) hS.2.2 dX4_mark_37
set_option maxHeartbeats 4000000 in
set_option maxRecDepth 100000 in
theorem c_many (l : Launch) (D : va_G) (a : Nat → Nat) (cH cB cJ cI : ClassId) (ha : pj a) (g : m_St) (vt : Nat → Int32) (sz : Nat) (ww : Int) (hWf : Wf g) (hww : 0 ≤ ww ∧ ww ≤ 14) : Met l yX4_many (wc yX4_many cX4_many 2 (some .int)) ({ frames := 2, cells := 0, slots := 0, locals := 43 }) (va_Pc [.ref (a 0), .int (iI ww)] (pS D a cH cB cJ cI sz g vt)) (va_Qi (fun (r : Int32) (_ : Unit) => r = iI (m_many g ww)) (fun _ _ => True) (fun q => sz ≤ q)) 0 0 (fun q => sz ≤ q) := by
  refine Met.ofW (cc := cX4_many) (maxL := 2) (ret := (some .int)) (by decide +kernel) rfl ?_
  intro p e s m args below meth c s₁ B9 hml hv
  obtain ⟨rfl, hsz, hP, hK, hE⟩ := hv
  have hx := B9.exec
  have hb := B9.bytes
  have hr := B9.returns
  have hts := atoms_spec (ws := (wc yX4_many cX4_many 2 (some .int))) B9.pre
  have hw : ∀ w ∈ wsL_law0, w.before [.ref (a 0), .int (iI ww)].toArray s = true := fun w h => hts w (List.mem_cons_of_mem _ h)
  have hown : s.vm.findClass RX4 = some m.cls := findClass_of_methodNamed B9.named
  subst hsz
  have hS : va_S (fun q => s.heap.size ≤ q) s.heap s.heap [] := va_S.rf
  have hA : ∀ q : Nat, s.heap.size ≤ q → (fun q : Nat => s.heap.size ≤ q) q := fun _ h => h
  have hl := lv_entry ([.ref (a 0), .int (iI ww)]) (n := 2) (Nat.le_of_ble_eq_true rfl)
  rw [lg_entry_eq]
  generalize (lg_sl ([.ref (a 0), .int (iI ww)]) ++ List.replicate (2 - (lg_sl ([.ref (a 0), .int (iI ww)])).length) Slot.unset).toArray = ls at hl ⊢
  have hl : lv_has ls 2 [(0, .ref (a 0)), (1, .int (iI ww))] := hl
  suffices h9 : ∀ (H : Heap) (locs : List Loc), va_P D vwCl (pw a cH cB cJ cI g vt) H → va_S (fun q => s.heap.size ≤ q) s.heap H locs → W p l e (headSpec (wc yX4_many cX4_many 2 (some .int)) ({ frames := 2, cells := 0, slots := 0, locals := 43 })).room s m [.ref (a 0), .int (iI ww)].toArray below meth c H locs 0 0 (MQ below (va_Qi (fun (r : Int32) (_ : Unit) => r = iI (m_many g ww)) (fun _ _ => True) (fun q => s.heap.size ≤ q)) [.ref (a 0), .int (iI ww)].toArray s 0 0 (fun q => s.heap.size ≤ q)) (F0 m 0 ls []) from h9 s.heap [] hP hS
  clear hP hS
  intro H locs hP hS
  have m4 := Wf.m4 hWf
  have m17 := Wf.m17 hWf
  refine lv_iload_n hx hb dX4_many_0 rfl (lv_at hl 1 rfl) ?_
  rcases (show ww = 0 ∨ ww = 1 ∨ ww = 2 ∨ ww = 3 ∨ ww = 4 ∨ ww = 5 ∨ ww = 6 ∨ ww = 7 ∨ ww = 8 ∨ ww = 9 ∨ ww = 10 ∨ ww = 11 ∨ ww = 12 ∨ ww = 13 ∨ ww = 14 from by omega) with hs | hs | hs | hs | hs | hs | hs | hs | hs | hs | hs | hs | hs | hs | hs
  · skip
    refine lv_tableIn (off := 75) (tgt := 76) hx hb dX4_many_1 (by rw [hs]; decide) (by rw [hs]; decide) (by rw [hs]; decide +kernel) (by decide) ?_
    refine lv_aload_n hx hb dX4_many_76 rfl (lv_at hl 0 rfl) ?_
    have s1 := Wf.m8 hWf
    refine va_get (D := D) (ci := 4) (v := .int (iI (g 0 0 8))) (C := RX4) (T := TX4) (N := 19) hx hb hw hin_wsX40 hown hK hP 0 pw_0 rfl 8 (by decide) (hw _ kw_96) (fun _ h9 => h9) rfl dX4_many_77 ?_
    exact W.iret (v := (iI (g 0 0 8))) hx hb hr (fun t ht hW9 => ⟨⟨(iI (g 0 0 8)), (), rfl, (congrArg iI (by rw [hs]; rfl)), trivial⟩, hS.F ht⟩) hS.2.2 dX4_many_80
  · skip
    refine lv_tableIn (off := 80) (tgt := 81) hx hb dX4_many_1 (by rw [hs]; decide) (by rw [hs]; decide) (by rw [hs]; decide +kernel) (by decide) ?_
    refine lv_aload_n hx hb dX4_many_81 rfl (lv_at hl 0 rfl) ?_
    have s2 := Wf.m9 hWf
    refine va_get (D := D) (ci := 4) (v := .int (iI (g 0 0 9))) (C := RX4) (T := TX4) (N := 19) hx hb hw hin_wsX40 hown hK hP 0 pw_0 rfl 9 (by decide) (hw _ kw_25) (fun _ h9 => h9) rfl dX4_many_82 ?_
    exact W.iret (v := (iI (g 0 0 9))) hx hb hr (fun t ht hW9 => ⟨⟨(iI (g 0 0 9)), (), rfl, (congrArg iI (by rw [hs]; rfl)), trivial⟩, hS.F ht⟩) hS.2.2 dX4_many_85
  · skip
    refine lv_tableIn (off := 85) (tgt := 86) hx hb dX4_many_1 (by rw [hs]; decide) (by rw [hs]; decide) (by rw [hs]; decide +kernel) (by decide) ?_
    refine lv_aload_n hx hb dX4_many_86 rfl (lv_at hl 0 rfl) ?_
    have s3 := Wf.m10 hWf
    refine va_get (D := D) (ci := 4) (v := .int (iI (g 0 0 10))) (C := RX4) (T := TX4) (N := 19) hx hb hw hin_wsX40 hown hK hP 0 pw_0 rfl 10 (by decide) (hw _ kw_97) (fun _ h9 => h9) rfl dX4_many_87 ?_
    exact W.iret (v := (iI (g 0 0 10))) hx hb hr (fun t ht hW9 => ⟨⟨(iI (g 0 0 10)), (), rfl, (congrArg iI (by rw [hs]; rfl)), trivial⟩, hS.F ht⟩) hS.2.2 dX4_many_90
  · skip
    refine lv_tableIn (off := 90) (tgt := 91) hx hb dX4_many_1 (by rw [hs]; decide) (by rw [hs]; decide) (by rw [hs]; decide +kernel) (by decide) ?_
    refine lv_aload_n hx hb dX4_many_91 rfl (lv_at hl 0 rfl) ?_
    have s4 := Wf.m3 hWf
    refine va_get (D := D) (ci := 4) (v := .int (iI (g 0 0 3))) (C := RX4) (T := TX4) (N := 19) hx hb hw hin_wsX40 hown hK hP 0 pw_0 rfl 3 (by decide) (hw _ kw_74) (fun _ h9 => h9) rfl dX4_many_92 ?_
    exact W.iret (v := (iI (g 0 0 3))) hx hb hr (fun t ht hW9 => ⟨⟨(iI (g 0 0 3)), (), rfl, (congrArg iI (by rw [hs]; rfl)), trivial⟩, hS.F ht⟩) hS.2.2 dX4_many_95
  · skip
    refine lv_tableIn (off := 95) (tgt := 96) hx hb dX4_many_1 (by rw [hs]; decide) (by rw [hs]; decide) (by rw [hs]; decide +kernel) (by decide) ?_
    refine lv_aload_n hx hb dX4_many_96 rfl (lv_at hl 0 rfl) ?_
    have s5 := Wf.m4 hWf
    refine va_get (D := D) (ci := 4) (v := .int (iI (g 0 0 4))) (C := RX4) (T := TX4) (N := 19) hx hb hw hin_wsX40 hown hK hP 0 pw_0 rfl 4 (by decide) (hw _ kw_98) (fun _ h9 => h9) rfl dX4_many_97 ?_
    exact W.iret (v := (iI (g 0 0 4))) hx hb hr (fun t ht hW9 => ⟨⟨(iI (g 0 0 4)), (), rfl, (congrArg iI (by rw [hs]; rfl)), trivial⟩, hS.F ht⟩) hS.2.2 dX4_many_100
  · skip
    refine lv_tableIn (off := 100) (tgt := 101) hx hb dX4_many_1 (by rw [hs]; decide) (by rw [hs]; decide) (by rw [hs]; decide +kernel) (by decide) ?_
    refine lv_aload_n hx hb dX4_many_101 rfl (lv_at hl 0 rfl) ?_
    have s6 := Wf.m5 hWf
    refine va_get (D := D) (ci := 4) (v := .int (iI (g 0 0 5))) (C := RX4) (T := TX4) (N := 19) hx hb hw hin_wsX40 hown hK hP 0 pw_0 rfl 5 (by decide) (hw _ kw_81) (fun _ h9 => h9) rfl dX4_many_102 ?_
    exact W.iret (v := (iI (g 0 0 5))) hx hb hr (fun t ht hW9 => ⟨⟨(iI (g 0 0 5)), (), rfl, (congrArg iI (by rw [hs]; rfl)), trivial⟩, hS.F ht⟩) hS.2.2 dX4_many_105
  · skip
    refine lv_tableIn (off := 105) (tgt := 106) hx hb dX4_many_1 (by rw [hs]; decide) (by rw [hs]; decide) (by rw [hs]; decide +kernel) (by decide) ?_
    refine lv_aload_n hx hb dX4_many_106 rfl (lv_at hl 0 rfl) ?_
    refine va_calli (va_runV (As := []) (rest := []) ⟨hx, hb, hml, hown, hw⟩ (c_enteredCount l D a cH cB cJ cI ha g vt H.size  hWf) (cwV 0 hw (gA_V kw_103 kw_104 kw_105 kw_2 kw_106) rfl rfl rfl (by decide +kernel) ⟨Nat.le_of_ble_eq_true rfl, Nat.le_of_ble_eq_true rfl⟩) (pS_v (ci := 4) (q0 := 0) rfl pw_0 hP hK hE) rfl rfl hl.1 rfl (lv_room (Nat.le_of_ble_eq_true rfl)) dX4_many_107 ⟨Nat.le_of_ble_eq_true rfl, Nat.le_of_ble_eq_true rfl⟩) hS (fun q h1 h2 => ro_A h1 h2) (fun q h => ro_F hS hA q h) (fun r u t H1 locs ht hvm hw9 hB9 hz1 hk1 hS => ?_)
    have hw9 : r = (iI (m_entCount g)) := hw9
    subst hw9
    have hP := ro_P hP hk1
    generalize H1 = H at hP hS ⊢
    have s7 := ent_b hWf
    exact W.iret (v := (iI (m_entCount g))) hx hb hr (fun t ht hW9 => ⟨⟨(iI (m_entCount g)), (), rfl, (congrArg iI (by rw [hs]; rfl)), trivial⟩, hS.F ht⟩) hS.2.2 dX4_many_110
  · skip
    refine lv_tableIn (off := 110) (tgt := 111) hx hb dX4_many_1 (by rw [hs]; decide) (by rw [hs]; decide) (by rw [hs]; decide +kernel) (by decide) ?_
    refine lv_aload_n hx hb dX4_many_111 rfl (lv_at hl 0 rfl) ?_
    have s8 := Wf.m11 hWf
    refine va_get (D := D) (ci := 4) (v := .int (iI (g 0 0 11))) (C := RX4) (T := TX4) (N := 19) hx hb hw hin_wsX40 hown hK hP 0 pw_0 rfl 11 (by decide) (hw _ kw_99) (fun _ h9 => h9) rfl dX4_many_112 ?_
    exact W.iret (v := (iI (g 0 0 11))) hx hb hr (fun t ht hW9 => ⟨⟨(iI (g 0 0 11)), (), rfl, (congrArg iI (by rw [hs]; rfl)), trivial⟩, hS.F ht⟩) hS.2.2 dX4_many_115
  · skip
    refine lv_tableIn (off := 115) (tgt := 116) hx hb dX4_many_1 (by rw [hs]; decide) (by rw [hs]; decide) (by rw [hs]; decide +kernel) (by decide) ?_
    refine lv_aload_n hx hb dX4_many_116 rfl (lv_at hl 0 rfl) ?_
    have s9 := Wf.m13 hWf
    refine va_get (D := D) (ci := 4) (v := .int (iI (g 0 0 13))) (C := RX4) (T := TX4) (N := 19) hx hb hw hin_wsX40 hown hK hP 0 pw_0 rfl 13 (by decide) (hw _ kw_100) (fun _ h9 => h9) rfl dX4_many_117 ?_
    exact W.iret (v := (iI (g 0 0 13))) hx hb hr (fun t ht hW9 => ⟨⟨(iI (g 0 0 13)), (), rfl, (congrArg iI (by rw [hs]; rfl)), trivial⟩, hS.F ht⟩) hS.2.2 dX4_many_120
  · skip
    refine lv_tableIn (off := 120) (tgt := 121) hx hb dX4_many_1 (by rw [hs]; decide) (by rw [hs]; decide) (by rw [hs]; decide +kernel) (by decide) ?_
    refine lv_aload_n hx hb dX4_many_121 rfl (lv_at hl 0 rfl) ?_
    have s10 := Wf.m14 hWf
    refine va_get (D := D) (ci := 4) (v := .int (iI (g 0 0 14))) (C := RX4) (T := TX4) (N := 19) hx hb hw hin_wsX40 hown hK hP 0 pw_0 rfl 14 (by decide) (hw _ kw_26) (fun _ h9 => h9) rfl dX4_many_122 ?_
    exact W.iret (v := (iI (g 0 0 14))) hx hb hr (fun t ht hW9 => ⟨⟨(iI (g 0 0 14)), (), rfl, (congrArg iI (by rw [hs]; rfl)), trivial⟩, hS.F ht⟩) hS.2.2 dX4_many_125
  · skip
    refine lv_tableIn (off := 125) (tgt := 126) hx hb dX4_many_1 (by rw [hs]; decide) (by rw [hs]; decide) (by rw [hs]; decide +kernel) (by decide) ?_
    refine lv_aload_n hx hb dX4_many_126 rfl (lv_at hl 0 rfl) ?_
    have s11 := Wf.m15 hWf
    refine va_get (D := D) (ci := 4) (v := .int (iI (g 0 0 15))) (C := RX4) (T := TX4) (N := 19) hx hb hw hin_wsX40 hown hK hP 0 pw_0 rfl 15 (by decide) (hw _ kw_27) (fun _ h9 => h9) rfl dX4_many_127 ?_
    exact W.iret (v := (iI (g 0 0 15))) hx hb hr (fun t ht hW9 => ⟨⟨(iI (g 0 0 15)), (), rfl, (congrArg iI (by rw [hs]; rfl)), trivial⟩, hS.F ht⟩) hS.2.2 dX4_many_130
  · skip
    refine lv_tableIn (off := 130) (tgt := 131) hx hb dX4_many_1 (by rw [hs]; decide) (by rw [hs]; decide) (by rw [hs]; decide +kernel) (by decide) ?_
    refine lv_aload_n hx hb dX4_many_131 rfl (lv_at hl 0 rfl) ?_
    have s12 := Wf.m17 hWf
    refine va_get (D := D) (ci := 4) (v := .int (iI (g 0 0 17))) (C := RX4) (T := TX4) (N := 19) hx hb hw hin_wsX40 hown hK hP 0 pw_0 rfl 17 (by decide) (hw _ kw_101) (fun _ h9 => h9) rfl dX4_many_132 ?_
    refine va_calli (va_runS (As := [.int (iI (g 0 0 17))]) (rest := []) ⟨hx, hb, hml, hown, hw⟩ (c_bitCount l D a cH cB cJ cI ha g vt H.size (g 0 0 17) (by omega)) (va_cwS 1 hw (gA_S kw_112 kw_113 kw_114 kw_115) rfl rfl rfl (by decide +kernel) ⟨Nat.le_of_ble_eq_true rfl, Nat.le_of_ble_eq_true rfl⟩) (pS_s hP hK hE) rfl rfl hl.1 rfl (lv_room (Nat.le_of_ble_eq_true rfl)) dX4_many_135 ⟨Nat.le_of_ble_eq_true rfl, Nat.le_of_ble_eq_true rfl⟩) hS (fun q h1 h2 => ro_A h1 h2) (fun q h => ro_F hS hA q h) (fun r u t H1 locs ht hvm hw9 hB9 hz1 hk1 hS => ?_)
    have hw9 : r = (iI (m_pcn (g 0 0 17))) := hw9
    subst hw9
    have hP := ro_P hP hk1
    generalize H1 = H at hP hS ⊢
    have s13 := pcn_b (g 0 0 17)
    exact W.iret (v := (iI (m_pcn (g 0 0 17)))) hx hb hr (fun t ht hW9 => ⟨⟨(iI (m_pcn (g 0 0 17))), (), rfl, (congrArg iI (by rw [hs]; rfl)), trivial⟩, hS.F ht⟩) hS.2.2 dX4_many_138
  · skip
    refine lv_tableIn (off := 138) (tgt := 139) hx hb dX4_many_1 (by rw [hs]; decide) (by rw [hs]; decide) (by rw [hs]; decide +kernel) (by decide) ?_
    refine lv_aload_n hx hb dX4_many_139 rfl (lv_at hl 0 rfl) ?_
    refine va_calli (va_runV (As := []) (rest := []) ⟨hx, hb, hml, hown, hw⟩ (c_soldEver l D a cH cB cJ cI ha g vt H.size  hWf) (cwV 0 hw (gA_V kw_119 kw_120 kw_121 kw_2 kw_122) rfl rfl rfl (by decide +kernel) ⟨Nat.le_of_ble_eq_true rfl, Nat.le_of_ble_eq_true rfl⟩) (pS_v (ci := 4) (q0 := 0) rfl pw_0 hP hK hE) rfl rfl hl.1 rfl (lv_room (Nat.le_of_ble_eq_true rfl)) dX4_many_140 ⟨Nat.le_of_ble_eq_true rfl, Nat.le_of_ble_eq_true rfl⟩) hS (fun q h1 h2 => ro_A h1 h2) (fun q h => ro_F hS hA q h) (fun r u t H1 locs ht hvm hw9 hB9 hz1 hk1 hS => ?_)
    have hw9 : r = (iI (m_soldEver g)) := hw9
    subst hw9
    have hP := ro_P hP hk1
    generalize H1 = H at hP hS ⊢
    exact W.iret (v := (iI (m_soldEver g))) hx hb hr (fun t ht hW9 => ⟨⟨(iI (m_soldEver g)), (), rfl, (congrArg iI (by rw [hs]; rfl)), trivial⟩, hS.F ht⟩) hS.2.2 dX4_many_143
  · skip
    refine lv_tableIn (off := 143) (tgt := 144) hx hb dX4_many_1 (by rw [hs]; decide) (by rw [hs]; decide) (by rw [hs]; decide +kernel) (by decide) ?_
    refine lv_aload_n hx hb dX4_many_144 rfl (lv_at hl 0 rfl) ?_
    refine va_calli (va_runV (As := []) (rest := []) ⟨hx, hb, hml, hown, hw⟩ (c_missedEver l D a cH cB cJ cI ha g vt H.size  hWf) (cwV 0 hw (gA_V kw_124 kw_125 kw_126 kw_2 kw_127) rfl rfl rfl (by decide +kernel) ⟨Nat.le_of_ble_eq_true rfl, Nat.le_of_ble_eq_true rfl⟩) (pS_v (ci := 4) (q0 := 0) rfl pw_0 hP hK hE) rfl rfl hl.1 rfl (lv_room (Nat.le_of_ble_eq_true rfl)) dX4_many_145 ⟨Nat.le_of_ble_eq_true rfl, Nat.le_of_ble_eq_true rfl⟩) hS (fun q h1 h2 => ro_A h1 h2) (fun q h => ro_F hS hA q h) (fun r u t H1 locs ht hvm hw9 hB9 hz1 hk1 hS => ?_)
    have hw9 : r = (iI (m_missedEver g)) := hw9
    subst hw9
    have hP := ro_P hP hk1
    generalize H1 = H at hP hS ⊢
    exact W.iret (v := (iI (m_missedEver g))) hx hb hr (fun t ht hW9 => ⟨⟨(iI (m_missedEver g)), (), rfl, (congrArg iI (by rw [hs]; rfl)), trivial⟩, hS.F ht⟩) hS.2.2 dX4_many_148
  · skip
    refine lv_tableIn (off := 148) (tgt := 149) hx hb dX4_many_1 (by rw [hs]; decide) (by rw [hs]; decide) (by rw [hs]; decide +kernel) (by decide) ?_
    refine lv_aload_n hx hb dX4_many_149 rfl (lv_at hl 0 rfl) ?_
    refine va_get (D := D) (ci := 4) (v := .ref (a 4)) (C := RX4) (T := TX4) (N := 19) hx hb hw hin_wsX40 hown hK hP 0 pw_0 rfl 6 (by decide) (hw _ kw_23) (fun _ h9 => h9) rfl dX4_many_150 ?_
    have s14 := Wf.u3 hWf (k := 0) (by omega) (by omega)
    refine va_get (D := D) (ci := 3) (v := .int (iI (g 9 0 3))) (C := RX3) (T := TX3) (N := 4) hx hb hw hin_wsX30 hown hK hP 4 pw_4 rfl 3 (by decide) (hw _ kw_102) (fun _ h9 => h9) rfl dX4_many_153 ?_
    exact W.iret (v := (iI (g 9 0 3))) hx hb hr (fun t ht hW9 => ⟨⟨(iI (g 9 0 3)), (), rfl, (congrArg iI (by rw [hs]; rfl)), trivial⟩, hS.F ht⟩) hS.2.2 dX4_many_156
set_option maxHeartbeats 4000000 in
set_option maxRecDepth 100000 in
theorem c_ofHouse (l : Launch) (D : va_G) (a : Nat → Nat) (cH cB cJ cI : ClassId) (ha : pj a) (g : m_St) (vt : Nat → Int32) (sz : Nat) (hh : Int) (ww : Int) (hWf : Wf g) (hhh : 0 ≤ hh ∧ hh < g 0 0 3) (hww : 0 ≤ ww ∧ ww ≤ 4) : Met l yX4_ofHouse (wc yX4_ofHouse cX4_ofHouse 3 (some .int)) ({ frames := 3, cells := 0, slots := 0, locals := 66 }) (va_Pc [.ref (a 0), .int (iI hh), .int (iI ww)] (pS D a cH cB cJ cI sz g vt)) (va_Qi (fun (r : Int32) (_ : Unit) => r = iI (m_ofHouse g hh ww)) (fun _ _ => True) (fun q => sz ≤ q)) 0 0 (fun q => sz ≤ q) := by
  refine Met.ofW (cc := cX4_ofHouse) (maxL := 3) (ret := (some .int)) (by decide +kernel) rfl ?_
  intro p e s m args below meth c s₁ B9 hml hv
  obtain ⟨rfl, hsz, hP, hK, hE⟩ := hv
  have hx := B9.exec
  have hb := B9.bytes
  have hr := B9.returns
  have hts := atoms_spec (ws := (wc yX4_ofHouse cX4_ofHouse 3 (some .int))) B9.pre
  have hw : ∀ w ∈ wsL_law0, w.before [.ref (a 0), .int (iI hh), .int (iI ww)].toArray s = true := fun w h => hts w (List.mem_cons_of_mem _ h)
  have hown : s.vm.findClass RX4 = some m.cls := findClass_of_methodNamed B9.named
  subst hsz
  have hS : va_S (fun q => s.heap.size ≤ q) s.heap s.heap [] := va_S.rf
  have hA : ∀ q : Nat, s.heap.size ≤ q → (fun q : Nat => s.heap.size ≤ q) q := fun _ h => h
  have hl := lv_entry ([.ref (a 0), .int (iI hh), .int (iI ww)]) (n := 3) (Nat.le_of_ble_eq_true rfl)
  rw [lg_entry_eq]
  generalize (lg_sl ([.ref (a 0), .int (iI hh), .int (iI ww)]) ++ List.replicate (3 - (lg_sl ([.ref (a 0), .int (iI hh), .int (iI ww)])).length) Slot.unset).toArray = ls at hl ⊢
  have hl : lv_has ls 3 [(0, .ref (a 0)), (1, .int (iI hh)), (2, .int (iI ww))] := hl
  suffices h9 : ∀ (H : Heap) (locs : List Loc), va_P D vwCl (pw a cH cB cJ cI g vt) H → va_S (fun q => s.heap.size ≤ q) s.heap H locs → W p l e (headSpec (wc yX4_ofHouse cX4_ofHouse 3 (some .int)) ({ frames := 3, cells := 0, slots := 0, locals := 66 })).room s m [.ref (a 0), .int (iI hh), .int (iI ww)].toArray below meth c H locs 0 0 (MQ below (va_Qi (fun (r : Int32) (_ : Unit) => r = iI (m_ofHouse g hh ww)) (fun _ _ => True) (fun q => s.heap.size ≤ q)) [.ref (a 0), .int (iI hh), .int (iI ww)].toArray s 0 0 (fun q => s.heap.size ≤ q)) (F0 m 0 ls []) from h9 s.heap [] hP hS
  clear hP hS
  intro H locs hP hS
  have m4 := Wf.m4 hWf
  have m3 := Wf.m3 hWf
  have m16 := Wf.m16 hWf
  have m17 := Wf.m17 hWf
  refine lv_aload_n hx hb dX4_ofHouse_0 rfl (lv_at hl 0 rfl) ?_
  refine lv_iload_n hx hb dX4_ofHouse_1 rfl (lv_at hl 1 rfl) ?_
  refine va_calli (va_runV (As := [.int (iI hh)]) (rest := []) ⟨hx, hb, hml, hown, hw⟩ (c_isHouse l D a cH cB cJ cI ha g vt H.size hh hWf (by omega)) (cwV 1 hw (gA_V kw_136 kw_137 kw_138 kw_2 kw_139) rfl rfl rfl (by decide +kernel) ⟨Nat.le_of_ble_eq_true rfl, Nat.le_of_ble_eq_true rfl⟩) (pS_v (ci := 4) (q0 := 0) rfl pw_0 hP hK hE) rfl rfl hl.1 rfl (lv_room (Nat.le_of_ble_eq_true rfl)) dX4_ofHouse_2 ⟨Nat.le_of_ble_eq_true rfl, Nat.le_of_ble_eq_true rfl⟩) hS (fun q h1 h2 => ro_A h1 h2) (fun q h => ro_F hS hA q h) (fun r u t H1 locs ht hvm hw9 hB9 hz1 hk1 hS => ?_)
  have hw9 : r = (bi (decide (0 ≤ hh ∧ hh < g 0 0 3))) := hw9
  subst hw9
  have hP := ro_P hP hk1
  generalize H1 = H at hP hS ⊢
  refine n_b_ne hx hb (tgt := 18) dX4_ofHouse_5 (by decide) (fun h1 => ?_) (fun h1 => absurd h1 (by intro h1; have h1 := of_decide_eq_false h1; omega))
  have h1 := of_decide_eq_true h1
  refine lv_iload_n hx hb dX4_ofHouse_18 rfl (lv_at hl 2 rfl) ?_
  rcases (show ww = 0 ∨ ww = 1 ∨ ww = 2 ∨ ww = 3 ∨ ww = 4 from by omega) with hs | hs | hs | hs | hs
  · skip
    refine lv_tableIn (off := 33) (tgt := 52) hx hb dX4_ofHouse_19 (by rw [hs]; decide) (by rw [hs]; decide) (by rw [hs]; decide +kernel) (by decide) ?_
    refine lv_aload_n hx hb dX4_ofHouse_52 rfl (lv_at hl 0 rfl) ?_
    refine va_get (D := D) (ci := 4) (v := .ref (a 1)) (C := RX4) (T := TX4) (N := 19) hx hb hw hin_wsX40 hown hK hP 0 pw_0 rfl 0 (by decide) (hw _ kw_15) (fun _ h9 => h9) rfl dX4_ofHouse_53 ?_
    refine lv_iload_n hx hb dX4_ofHouse_56 rfl (lv_at hl 1 rfl) ?_
    refine p_aldH hx hb hK hP (k := hh) (by omega) (by omega) dX4_ofHouse_57 ?_
    refine va_get (D := D) (ci := 1) (v := .int (iI (g 1 hh 0))) (C := RX1) (T := TX1) (N := 2) hx hb hw hin_wsX10 hown hK hP (7 + hh.toNat) (pw_H (h := hh) (by omega) (by omega)) rfl 0 (by decide) (hw _ kw_266) (fun _ h9 => h9) rfl dX4_ofHouse_58 ?_
    exact W.iret (v := (iI (g 1 hh 0))) hx hb hr (fun t ht hW9 => ⟨⟨(iI (g 1 hh 0)), (), rfl, (congrArg iI (by rw [hs]; rfl)), trivial⟩, hS.F ht⟩) hS.2.2 dX4_ofHouse_61
  · skip
    refine lv_tableIn (off := 43) (tgt := 62) hx hb dX4_ofHouse_19 (by rw [hs]; decide) (by rw [hs]; decide) (by rw [hs]; decide +kernel) (by decide) ?_
    refine lv_aload_n hx hb dX4_ofHouse_62 rfl (lv_at hl 0 rfl) ?_
    refine lv_iload_n hx hb dX4_ofHouse_63 rfl (lv_at hl 1 rfl) ?_
    refine va_calli (va_runV (As := [.int (iI hh)]) (rest := []) ⟨hx, hb, hml, hown, hw⟩ (c_quotaOf l D a cH cB cJ cI ha g vt H.size hh hWf (by omega)) (cwV 1 hw (gA_V kw_269 kw_270 kw_271 kw_2 kw_272) rfl rfl rfl (by decide +kernel) ⟨Nat.le_of_ble_eq_true rfl, Nat.le_of_ble_eq_true rfl⟩) (pS_v (ci := 4) (q0 := 0) rfl pw_0 hP hK hE) rfl rfl hl.1 rfl (lv_room (Nat.le_of_ble_eq_true rfl)) dX4_ofHouse_64 ⟨Nat.le_of_ble_eq_true rfl, Nat.le_of_ble_eq_true rfl⟩) hS (fun q h1 h2 => ro_A h1 h2) (fun q h => ro_F hS hA q h) (fun r u t H1 locs ht hvm hw9 hB9 hz1 hk1 hS => ?_)
    have hw9 : r = (iI (m_quota g hh)) := hw9
    subst hw9
    have hP := ro_P hP hk1
    generalize H1 = H at hP hS ⊢
    have s2 := quota_b g hh (by have := Wf.m4 hWf; omega)
    exact W.iret (v := (iI (m_quota g hh))) hx hb hr (fun t ht hW9 => ⟨⟨(iI (m_quota g hh)), (), rfl, (congrArg iI (by rw [hs]; rfl)), trivial⟩, hS.F ht⟩) hS.2.2 dX4_ofHouse_67
  · skip
    refine lv_tableIn (off := 49) (tgt := 68) hx hb dX4_ofHouse_19 (by rw [hs]; decide) (by rw [hs]; decide) (by rw [hs]; decide +kernel) (by decide) ?_
    refine lv_aload_n hx hb dX4_ofHouse_68 rfl (lv_at hl 0 rfl) ?_
    refine va_get (D := D) (ci := 4) (v := .ref (a 1)) (C := RX4) (T := TX4) (N := 19) hx hb hw hin_wsX40 hown hK hP 0 pw_0 rfl 0 (by decide) (hw _ kw_15) (fun _ h9 => h9) rfl dX4_ofHouse_69 ?_
    refine lv_iload_n hx hb dX4_ofHouse_72 rfl (lv_at hl 1 rfl) ?_
    refine p_aldH hx hb hK hP (k := hh) (by omega) (by omega) dX4_ofHouse_73 ?_
    have s3 := Wf.h1 hWf (k := hh) (by omega) (by omega)
    refine va_get (D := D) (ci := 1) (v := .int (iI (g 1 hh 1))) (C := RX1) (T := TX1) (N := 2) hx hb hw hin_wsX10 hown hK hP (7 + hh.toNat) (pw_H (h := hh) (by omega) (by omega)) rfl 1 (by decide) (hw _ kw_267) (fun _ h9 => h9) rfl dX4_ofHouse_74 ?_
    exact W.iret (v := (iI (g 1 hh 1))) hx hb hr (fun t ht hW9 => ⟨⟨(iI (g 1 hh 1)), (), rfl, (congrArg iI (by rw [hs]; rfl)), trivial⟩, hS.F ht⟩) hS.2.2 dX4_ofHouse_77
  · skip
    refine lv_tableIn (off := 59) (tgt := 78) hx hb dX4_ofHouse_19 (by rw [hs]; decide) (by rw [hs]; decide) (by rw [hs]; decide +kernel) (by decide) ?_
    refine lv_aload_n hx hb dX4_ofHouse_78 rfl (lv_at hl 0 rfl) ?_
    refine lv_iload_n hx hb dX4_ofHouse_79 rfl (lv_at hl 1 rfl) ?_
    refine lv_aload_n hx hb dX4_ofHouse_80 rfl (lv_at hl 0 rfl) ?_
    refine va_calli (va_runV (As := []) (rest := [.int (iI hh), .ref (a 0)]) ⟨hx, hb, hml, hown, hw⟩ (c_allBooks l D a cH cB cJ cI ha g vt H.size  hWf) (cwV 0 hw (gA_V kw_281 kw_282 kw_283 kw_2 kw_284) rfl rfl rfl (by decide +kernel) ⟨Nat.le_of_ble_eq_true rfl, Nat.le_of_ble_eq_true rfl⟩) (pS_v (ci := 4) (q0 := 0) rfl pw_0 hP hK hE) rfl rfl hl.1 rfl (lv_room (Nat.le_of_ble_eq_true rfl)) dX4_ofHouse_81 ⟨Nat.le_of_ble_eq_true rfl, Nat.le_of_ble_eq_true rfl⟩) hS (fun q h1 h2 => ro_A h1 h2) (fun q h => ro_F hS hA q h) (fun r u t H1 locs ht hvm hw9 hB9 hz1 hk1 hS => ?_)
    have hw9 : r = (iI (m_bt (g 0 0 4) - 1)) := hw9
    subst hw9
    have hP := ro_P hP hk1
    generalize H1 = H at hP hS ⊢
    have s4 := bt_16 (n := g 0 0 4) (by have := Wf.m4 hWf; omega)
    refine va_calli (va_runV (As := [.int (iI hh), .int (iI (m_bt (g 0 0 4) - 1))]) (rest := []) ⟨hx, hb, hml, hown, hw⟩ (c_countOfHouse l D a cH cB cJ cI ha g vt H.size hh (m_bt (g 0 0 4) - 1) hWf (by omega) (by omega)) (cwV 2 hw (gA_V kw_277 kw_278 kw_279 kw_2 kw_280) rfl rfl rfl (by decide +kernel) ⟨Nat.le_of_ble_eq_true rfl, Nat.le_of_ble_eq_true rfl⟩) (pS_v (ci := 4) (q0 := 0) rfl pw_0 hP hK hE) rfl rfl hl.1 rfl (lv_room (Nat.le_of_ble_eq_true rfl)) dX4_ofHouse_84 ⟨Nat.le_of_ble_eq_true rfl, Nat.le_of_ble_eq_true rfl⟩) hS (fun q h1 h2 => ro_A h1 h2) (fun q h => ro_F hS hA q h) (fun r u t H1 locs ht hvm hw9 hB9 hz1 hk1 hS => ?_)
    have hw9 : r = (iI (m_coh g hh (m_bt (g 0 0 4) - 1))) := hw9
    subst hw9
    have hP := ro_P hP hk1
    generalize H1 = H at hP hS ⊢
    have s5 := coh_16 hWf hh (m_bt (g 0 0 4) - 1)
    exact W.iret (v := (iI (m_coh g hh (m_bt (g 0 0 4) - 1)))) hx hb hr (fun t ht hW9 => ⟨⟨(iI (m_coh g hh (m_bt (g 0 0 4) - 1))), (), rfl, (congrArg iI (by rw [hs]; rfl)), trivial⟩, hS.F ht⟩) hS.2.2 dX4_ofHouse_87
  · skip
    refine lv_tableIn (off := 69) (tgt := 88) hx hb dX4_ofHouse_19 (by rw [hs]; decide) (by rw [hs]; decide) (by rw [hs]; decide +kernel) (by decide) ?_
    refine lv_aload_n hx hb dX4_ofHouse_88 rfl (lv_at hl 0 rfl) ?_
    refine lv_iload_n hx hb dX4_ofHouse_89 rfl (lv_at hl 1 rfl) ?_
    refine lv_aload_n hx hb dX4_ofHouse_90 rfl (lv_at hl 0 rfl) ?_
    have s6 := Wf.m16 hWf
    refine va_get (D := D) (ci := 4) (v := .int (iI (g 0 0 16))) (C := RX4) (T := TX4) (N := 19) hx hb hw hin_wsX40 hown hK hP 0 pw_0 rfl 16 (by decide) (hw _ kw_268) (fun _ h9 => h9) rfl dX4_ofHouse_91 ?_
    refine lv_aload_n hx hb dX4_ofHouse_94 rfl (lv_at hl 0 rfl) ?_
    have s7 := Wf.m17 hWf
    refine va_get (D := D) (ci := 4) (v := .int (iI (g 0 0 17))) (C := RX4) (T := TX4) (N := 19) hx hb hw hin_wsX40 hown hK hP 0 pw_0 rfl 17 (by decide) (hw _ kw_101) (fun _ h9 => h9) rfl dX4_ofHouse_95 ?_
    refine lv_iconst (v := iI (-1)) hx hb dX4_ofHouse_98 (by decide) ?_
    refine lv_ixor hx hb dX4_ofHouse_99 ?_
    refine n_andn hx hb (by omega) (by omega) dX4_ofHouse_100 ?_
    have s8 := bd_span (S := g 0 0 16) (T := g 0 0 17) (by omega)
    refine va_calli (va_runV (As := [.int (iI hh), .int (iI (m_bd (g 0 0 16) (g 0 0 17)))]) (rest := []) ⟨hx, hb, hml, hown, hw⟩ (c_countOfHouse l D a cH cB cJ cI ha g vt H.size hh (m_bd (g 0 0 16) (g 0 0 17)) hWf (by omega) (by omega)) (cwV 2 hw (gA_V kw_277 kw_278 kw_279 kw_2 kw_280) rfl rfl rfl (by decide +kernel) ⟨Nat.le_of_ble_eq_true rfl, Nat.le_of_ble_eq_true rfl⟩) (pS_v (ci := 4) (q0 := 0) rfl pw_0 hP hK hE) rfl rfl hl.1 rfl (lv_room (Nat.le_of_ble_eq_true rfl)) dX4_ofHouse_101 ⟨Nat.le_of_ble_eq_true rfl, Nat.le_of_ble_eq_true rfl⟩) hS (fun q h1 h2 => ro_A h1 h2) (fun q h => ro_F hS hA q h) (fun r u t H1 locs ht hvm hw9 hB9 hz1 hk1 hS => ?_)
    have hw9 : r = (iI (m_coh g hh (m_bd (g 0 0 16) (g 0 0 17)))) := hw9
    subst hw9
    have hP := ro_P hP hk1
    generalize H1 = H at hP hS ⊢
    have s9 := coh_16 hWf hh (m_bd (g 0 0 16) (g 0 0 17))
    exact W.iret (v := (iI (m_coh g hh (m_bd (g 0 0 16) (g 0 0 17))))) hx hb hr (fun t ht hW9 => ⟨⟨(iI (m_coh g hh (m_bd (g 0 0 16) (g 0 0 17)))), (), rfl, (congrArg iI (by rw [hs]; rfl)), trivial⟩, hS.F ht⟩) hS.2.2 dX4_ofHouse_104
set_option maxHeartbeats 4000000 in
set_option maxRecDepth 100000 in
theorem c_ofBook (l : Launch) (D : va_G) (a : Nat → Nat) (cH cB cJ cI : ClassId) (ha : pj a) (g : m_St) (vt : Nat → Int32) (sz : Nat) (bb : Int) (ww : Int) (hWf : Wf g) (hbb : 0 ≤ bb ∧ bb < g 0 0 4) (hww : 0 ≤ ww ∧ ww ≤ 10) : Met l yX4_ofBook (wc yX4_ofBook cX4_ofBook 3 (some .int)) ({ frames := 3, cells := 0, slots := 0, locals := 67 }) (va_Pc [.ref (a 0), .int (iI bb), .int (iI ww)] (pS D a cH cB cJ cI sz g vt)) (va_Qi (fun (r : Int32) (_ : Unit) => r = iI (m_ofBook g bb ww)) (fun _ _ => True) (fun q => sz ≤ q)) 0 0 (fun q => sz ≤ q) := by
  refine Met.ofW (cc := cX4_ofBook) (maxL := 3) (ret := (some .int)) (by decide +kernel) rfl ?_
  intro p e s m args below meth c s₁ B9 hml hv
  obtain ⟨rfl, hsz, hP, hK, hE⟩ := hv
  have hx := B9.exec
  have hb := B9.bytes
  have hr := B9.returns
  have hts := atoms_spec (ws := (wc yX4_ofBook cX4_ofBook 3 (some .int))) B9.pre
  have hw : ∀ w ∈ wsL_law0, w.before [.ref (a 0), .int (iI bb), .int (iI ww)].toArray s = true := fun w h => hts w (List.mem_cons_of_mem _ h)
  have hown : s.vm.findClass RX4 = some m.cls := findClass_of_methodNamed B9.named
  subst hsz
  have hS : va_S (fun q => s.heap.size ≤ q) s.heap s.heap [] := va_S.rf
  have hA : ∀ q : Nat, s.heap.size ≤ q → (fun q : Nat => s.heap.size ≤ q) q := fun _ h => h
  have hl := lv_entry ([.ref (a 0), .int (iI bb), .int (iI ww)]) (n := 3) (Nat.le_of_ble_eq_true rfl)
  rw [lg_entry_eq]
  generalize (lg_sl ([.ref (a 0), .int (iI bb), .int (iI ww)]) ++ List.replicate (3 - (lg_sl ([.ref (a 0), .int (iI bb), .int (iI ww)])).length) Slot.unset).toArray = ls at hl ⊢
  have hl : lv_has ls 3 [(0, .ref (a 0)), (1, .int (iI bb)), (2, .int (iI ww))] := hl
  suffices h9 : ∀ (H : Heap) (locs : List Loc), va_P D vwCl (pw a cH cB cJ cI g vt) H → va_S (fun q => s.heap.size ≤ q) s.heap H locs → W p l e (headSpec (wc yX4_ofBook cX4_ofBook 3 (some .int)) ({ frames := 3, cells := 0, slots := 0, locals := 67 })).room s m [.ref (a 0), .int (iI bb), .int (iI ww)].toArray below meth c H locs 0 0 (MQ below (va_Qi (fun (r : Int32) (_ : Unit) => r = iI (m_ofBook g bb ww)) (fun _ _ => True) (fun q => s.heap.size ≤ q)) [.ref (a 0), .int (iI bb), .int (iI ww)].toArray s 0 0 (fun q => s.heap.size ≤ q)) (F0 m 0 ls []) from h9 s.heap [] hP hS
  clear hP hS
  intro H locs hP hS
  have m4 := Wf.m4 hWf
  refine lv_aload_n hx hb dX4_ofBook_0 rfl (lv_at hl 0 rfl) ?_
  refine lv_iload_n hx hb dX4_ofBook_1 rfl (lv_at hl 1 rfl) ?_
  refine va_calli (va_runV (As := [.int (iI bb)]) (rest := []) ⟨hx, hb, hml, hown, hw⟩ (c_isBook l D a cH cB cJ cI ha g vt H.size bb hWf (by omega)) (cwV 1 hw (gA_V kw_162 kw_163 kw_164 kw_2 kw_165) rfl rfl rfl (by decide +kernel) ⟨Nat.le_of_ble_eq_true rfl, Nat.le_of_ble_eq_true rfl⟩) (pS_v (ci := 4) (q0 := 0) rfl pw_0 hP hK hE) rfl rfl hl.1 rfl (lv_room (Nat.le_of_ble_eq_true rfl)) dX4_ofBook_2 ⟨Nat.le_of_ble_eq_true rfl, Nat.le_of_ble_eq_true rfl⟩) hS (fun q h1 h2 => ro_A h1 h2) (fun q h => ro_F hS hA q h) (fun r u t H1 locs ht hvm hw9 hB9 hz1 hk1 hS => ?_)
  have hw9 : r = (bi (decide (0 ≤ bb ∧ bb < g 0 0 4))) := hw9
  subst hw9
  have hP := ro_P hP hk1
  generalize H1 = H at hP hS ⊢
  refine n_b_ne hx hb (tgt := 18) dX4_ofBook_5 (by decide) (fun h1 => ?_) (fun h1 => absurd h1 (by intro h1; have h1 := of_decide_eq_false h1; omega))
  have h1 := of_decide_eq_true h1
  refine lv_iload_n hx hb dX4_ofBook_18 rfl (lv_at hl 2 rfl) ?_
  rcases (show ww = 0 ∨ ww = 1 ∨ ww = 2 ∨ ww = 3 ∨ ww = 4 ∨ ww = 5 ∨ ww = 6 ∨ ww = 7 ∨ ww = 8 ∨ ww = 9 ∨ ww = 10 from by omega) with hs | hs | hs | hs | hs | hs | hs | hs | hs | hs | hs
  · skip
    refine lv_tableIn (off := 57) (tgt := 76) hx hb dX4_ofBook_19 (by rw [hs]; decide) (by rw [hs]; decide) (by rw [hs]; decide +kernel) (by decide) ?_
    refine lv_aload_n hx hb dX4_ofBook_76 rfl (lv_at hl 0 rfl) ?_
    refine va_get (D := D) (ci := 4) (v := .ref (a 2)) (C := RX4) (T := TX4) (N := 19) hx hb hw hin_wsX40 hown hK hP 0 pw_0 rfl 1 (by decide) (hw _ kw_17) (fun _ h9 => h9) rfl dX4_ofBook_77 ?_
    refine lv_iload_n hx hb dX4_ofBook_80 rfl (lv_at hl 1 rfl) ?_
    refine p_aldB hx hb hK hP (k := bb) (by omega) (by omega) dX4_ofBook_81 ?_
    have s2 := Wf.b0 hWf (k := bb) (by omega) (by omega)
    refine va_get (D := D) (ci := 0) (v := .int (iI (g 2 bb 0))) (C := RX0) (T := TX0) (N := 11) hx hb hw hin_wsX00 hown hK hP (12 + bb.toNat) (pw_B (b := bb) (by omega) (by omega)) rfl 0 (by decide) (hw _ kw_210) (fun _ h9 => h9) rfl dX4_ofBook_82 ?_
    exact W.iret (v := (iI (g 2 bb 0))) hx hb hr (fun t ht hW9 => ⟨⟨(iI (g 2 bb 0)), (), rfl, (congrArg iI (by rw [hs]; first | rfl | simp [m_ofBook, m_ib, h1, hs])), trivial⟩, hS.F ht⟩) hS.2.2 dX4_ofBook_85
  · skip
    refine lv_tableIn (off := 67) (tgt := 86) hx hb dX4_ofBook_19 (by rw [hs]; decide) (by rw [hs]; decide) (by rw [hs]; decide +kernel) (by decide) ?_
    refine lv_aload_n hx hb dX4_ofBook_86 rfl (lv_at hl 0 rfl) ?_
    refine va_get (D := D) (ci := 4) (v := .ref (a 2)) (C := RX4) (T := TX4) (N := 19) hx hb hw hin_wsX40 hown hK hP 0 pw_0 rfl 1 (by decide) (hw _ kw_17) (fun _ h9 => h9) rfl dX4_ofBook_87 ?_
    refine lv_iload_n hx hb dX4_ofBook_90 rfl (lv_at hl 1 rfl) ?_
    refine p_aldB hx hb hK hP (k := bb) (by omega) (by omega) dX4_ofBook_91 ?_
    have s3 := Wf.b1 hWf (k := bb) (by omega) (by omega)
    refine va_get (D := D) (ci := 0) (v := .int (iI (g 2 bb 1))) (C := RX0) (T := TX0) (N := 11) hx hb hw hin_wsX00 hown hK hP (12 + bb.toNat) (pw_B (b := bb) (by omega) (by omega)) rfl 1 (by decide) (hw _ kw_211) (fun _ h9 => h9) rfl dX4_ofBook_92 ?_
    exact W.iret (v := (iI (g 2 bb 1))) hx hb hr (fun t ht hW9 => ⟨⟨(iI (g 2 bb 1)), (), rfl, (congrArg iI (by rw [hs]; first | rfl | simp [m_ofBook, m_ib, h1, hs])), trivial⟩, hS.F ht⟩) hS.2.2 dX4_ofBook_95
  · skip
    refine lv_tableIn (off := 77) (tgt := 96) hx hb dX4_ofBook_19 (by rw [hs]; decide) (by rw [hs]; decide) (by rw [hs]; decide +kernel) (by decide) ?_
    refine lv_aload_n hx hb dX4_ofBook_96 rfl (lv_at hl 0 rfl) ?_
    refine va_get (D := D) (ci := 4) (v := .ref (a 2)) (C := RX4) (T := TX4) (N := 19) hx hb hw hin_wsX40 hown hK hP 0 pw_0 rfl 1 (by decide) (hw _ kw_17) (fun _ h9 => h9) rfl dX4_ofBook_97 ?_
    refine lv_iload_n hx hb dX4_ofBook_100 rfl (lv_at hl 1 rfl) ?_
    refine p_aldB hx hb hK hP (k := bb) (by omega) (by omega) dX4_ofBook_101 ?_
    have s4 := Wf.b8 hWf (k := bb) (by omega) (by omega)
    refine va_get (D := D) (ci := 0) (v := .int (iI (g 2 bb 8))) (C := RX0) (T := TX0) (N := 11) hx hb hw hin_wsX00 hown hK hP (12 + bb.toNat) (pw_B (b := bb) (by omega) (by omega)) rfl 8 (by decide) (hw _ kw_212) (fun _ h9 => h9) rfl dX4_ofBook_102 ?_
    exact W.iret (v := (iI (g 2 bb 8))) hx hb hr (fun t ht hW9 => ⟨⟨(iI (g 2 bb 8)), (), rfl, (congrArg iI (by rw [hs]; first | rfl | simp [m_ofBook, m_ib, h1, hs])), trivial⟩, hS.F ht⟩) hS.2.2 dX4_ofBook_105
  · skip
    refine lv_tableIn (off := 87) (tgt := 106) hx hb dX4_ofBook_19 (by rw [hs]; decide) (by rw [hs]; decide) (by rw [hs]; decide +kernel) (by decide) ?_
    refine lv_aload_n hx hb dX4_ofBook_106 rfl (lv_at hl 0 rfl) ?_
    refine va_get (D := D) (ci := 4) (v := .ref (a 2)) (C := RX4) (T := TX4) (N := 19) hx hb hw hin_wsX40 hown hK hP 0 pw_0 rfl 1 (by decide) (hw _ kw_17) (fun _ h9 => h9) rfl dX4_ofBook_107 ?_
    refine lv_iload_n hx hb dX4_ofBook_110 rfl (lv_at hl 1 rfl) ?_
    refine p_aldB hx hb hK hP (k := bb) (by omega) (by omega) dX4_ofBook_111 ?_
    refine va_get (D := D) (ci := 0) (v := .int (iI (g 2 bb 9))) (C := RX0) (T := TX0) (N := 11) hx hb hw hin_wsX00 hown hK hP (12 + bb.toNat) (pw_B (b := bb) (by omega) (by omega)) rfl 9 (by decide) (hw _ kw_123) (fun _ h9 => h9) rfl dX4_ofBook_112 ?_
    exact W.iret (v := (iI (g 2 bb 9))) hx hb hr (fun t ht hW9 => ⟨⟨(iI (g 2 bb 9)), (), rfl, (congrArg iI (by rw [hs]; first | rfl | simp [m_ofBook, m_ib, h1, hs])), trivial⟩, hS.F ht⟩) hS.2.2 dX4_ofBook_115
  · skip
    refine lv_tableIn (off := 97) (tgt := 116) hx hb dX4_ofBook_19 (by rw [hs]; decide) (by rw [hs]; decide) (by rw [hs]; decide +kernel) (by decide) ?_
    refine lv_aload_n hx hb dX4_ofBook_116 rfl (lv_at hl 0 rfl) ?_
    refine va_get (D := D) (ci := 4) (v := .ref (a 2)) (C := RX4) (T := TX4) (N := 19) hx hb hw hin_wsX40 hown hK hP 0 pw_0 rfl 1 (by decide) (hw _ kw_17) (fun _ h9 => h9) rfl dX4_ofBook_117 ?_
    refine lv_iload_n hx hb dX4_ofBook_120 rfl (lv_at hl 1 rfl) ?_
    refine p_aldB hx hb hK hP (k := bb) (by omega) (by omega) dX4_ofBook_121 ?_
    refine va_get (D := D) (ci := 0) (v := .int (iI (g 2 bb 10))) (C := RX0) (T := TX0) (N := 11) hx hb hw hin_wsX00 hown hK hP (12 + bb.toNat) (pw_B (b := bb) (by omega) (by omega)) rfl 10 (by decide) (hw _ kw_128) (fun _ h9 => h9) rfl dX4_ofBook_122 ?_
    exact W.iret (v := (iI (g 2 bb 10))) hx hb hr (fun t ht hW9 => ⟨⟨(iI (g 2 bb 10)), (), rfl, (congrArg iI (by rw [hs]; first | rfl | simp [m_ofBook, m_ib, h1, hs])), trivial⟩, hS.F ht⟩) hS.2.2 dX4_ofBook_125
  · skip
    refine lv_tableIn (off := 107) (tgt := 126) hx hb dX4_ofBook_19 (by rw [hs]; decide) (by rw [hs]; decide) (by rw [hs]; decide +kernel) (by decide) ?_
    refine lv_aload_n hx hb dX4_ofBook_126 rfl (lv_at hl 0 rfl) ?_
    refine lv_iload_n hx hb dX4_ofBook_127 rfl (lv_at hl 1 rfl) ?_
    refine va_calli (va_runV (As := [.int (iI bb)]) (rest := []) ⟨hx, hb, hml, hown, hw⟩ (c_isEligible l D a cH cB cJ cI ha g vt H.size bb hWf (by omega)) (cwV 1 hw (gA_V kw_213 kw_214 kw_215 kw_2 kw_216) rfl rfl rfl (by decide +kernel) ⟨Nat.le_of_ble_eq_true rfl, Nat.le_of_ble_eq_true rfl⟩) (pS_v (ci := 4) (q0 := 0) rfl pw_0 hP hK hE) rfl rfl hl.1 rfl (lv_room (Nat.le_of_ble_eq_true rfl)) dX4_ofBook_128 ⟨Nat.le_of_ble_eq_true rfl, Nat.le_of_ble_eq_true rfl⟩) hS (fun q h1 h2 => ro_A h1 h2) (fun q h => ro_F hS hA q h) (fun r u t H1 locs ht hvm hw9 hB9 hz1 hk1 hS => ?_)
    have hw9 : r = (bi (m_elig g bb)) := hw9
    subst hw9
    have hP := ro_P hP hk1
    generalize H1 = H at hP hS ⊢
    refine n_b_eq hx hb (tgt := 138) dX4_ofBook_131 (by decide) (fun h5 => ?_) (fun h5 => ?_)
    · skip
      refine lv_iconst (v := iI 0) hx hb dX4_ofBook_138 (by decide) ?_
      exact W.iret (v := (iI 0)) hx hb hr (fun t ht hW9 => ⟨⟨(iI 0), (), rfl, (congrArg iI (by rw [hs]; first | rfl | simp [m_ofBook, m_ib, h1, hs, h5])), trivial⟩, hS.F ht⟩) hS.2.2 dX4_ofBook_139
    · skip
      refine lv_iconst (v := iI 1) hx hb dX4_ofBook_134 (by decide) ?_
      refine lv_goto (tgt := 139) hx hb dX4_ofBook_135 (by decide) ?_
      exact W.iret (v := (iI 1)) hx hb hr (fun t ht hW9 => ⟨⟨(iI 1), (), rfl, (congrArg iI (by rw [hs]; first | rfl | simp [m_ofBook, m_ib, h1, hs, h5])), trivial⟩, hS.F ht⟩) hS.2.2 dX4_ofBook_139
  · skip
    refine lv_tableIn (off := 121) (tgt := 140) hx hb dX4_ofBook_19 (by rw [hs]; decide) (by rw [hs]; decide) (by rw [hs]; decide +kernel) (by decide) ?_
    refine lv_aload_n hx hb dX4_ofBook_140 rfl (lv_at hl 0 rfl) ?_
    refine lv_iload_n hx hb dX4_ofBook_141 rfl (lv_at hl 1 rfl) ?_
    refine va_calli (va_runV (As := [.int (iI bb)]) (rest := []) ⟨hx, hb, hml, hown, hw⟩ (c_isEntered l D a cH cB cJ cI ha g vt H.size bb hWf (by omega)) (cwV 1 hw (gA_V kw_107 kw_108 kw_109 kw_2 kw_110) rfl rfl rfl (by decide +kernel) ⟨Nat.le_of_ble_eq_true rfl, Nat.le_of_ble_eq_true rfl⟩) (pS_v (ci := 4) (q0 := 0) rfl pw_0 hP hK hE) rfl rfl hl.1 rfl (lv_room (Nat.le_of_ble_eq_true rfl)) dX4_ofBook_142 ⟨Nat.le_of_ble_eq_true rfl, Nat.le_of_ble_eq_true rfl⟩) hS (fun q h1 h2 => ro_A h1 h2) (fun q h => ro_F hS hA q h) (fun r u t H1 locs ht hvm hw9 hB9 hz1 hk1 hS => ?_)
    have hw9 : r = (bi (m_ent g bb)) := hw9
    subst hw9
    have hP := ro_P hP hk1
    generalize H1 = H at hP hS ⊢
    refine n_b_eq hx hb (tgt := 152) dX4_ofBook_145 (by decide) (fun h6 => ?_) (fun h6 => ?_)
    · skip
      refine lv_iconst (v := iI 0) hx hb dX4_ofBook_152 (by decide) ?_
      exact W.iret (v := (iI 0)) hx hb hr (fun t ht hW9 => ⟨⟨(iI 0), (), rfl, (congrArg iI (by rw [hs]; first | rfl | simp [m_ofBook, m_ib, h1, hs, h6])), trivial⟩, hS.F ht⟩) hS.2.2 dX4_ofBook_153
    · skip
      refine lv_iconst (v := iI 1) hx hb dX4_ofBook_148 (by decide) ?_
      refine lv_goto (tgt := 153) hx hb dX4_ofBook_149 (by decide) ?_
      exact W.iret (v := (iI 1)) hx hb hr (fun t ht hW9 => ⟨⟨(iI 1), (), rfl, (congrArg iI (by rw [hs]; first | rfl | simp [m_ofBook, m_ib, h1, hs, h6])), trivial⟩, hS.F ht⟩) hS.2.2 dX4_ofBook_153
  · skip
    refine lv_tableIn (off := 135) (tgt := 154) hx hb dX4_ofBook_19 (by rw [hs]; decide) (by rw [hs]; decide) (by rw [hs]; decide +kernel) (by decide) ?_
    refine lv_aload_n hx hb dX4_ofBook_154 rfl (lv_at hl 0 rfl) ?_
    refine lv_iload_n hx hb dX4_ofBook_155 rfl (lv_at hl 1 rfl) ?_
    refine va_calli (va_runV (As := [.int (iI bb)]) (rest := []) ⟨hx, hb, hml, hown, hw⟩ (c_standingOf l D a cH cB cJ cI ha g vt H.size bb hWf (by omega)) (cwV 1 hw (gA_V kw_225 kw_226 kw_227 kw_2 kw_228) rfl rfl rfl (by decide +kernel) ⟨Nat.le_of_ble_eq_true rfl, Nat.le_of_ble_eq_true rfl⟩) (pS_v (ci := 4) (q0 := 0) rfl pw_0 hP hK hE) rfl rfl hl.1 rfl (lv_room (Nat.le_of_ble_eq_true rfl)) dX4_ofBook_156 ⟨Nat.le_of_ble_eq_true rfl, Nat.le_of_ble_eq_true rfl⟩) hS (fun q h1 h2 => ro_A h1 h2) (fun q h => ro_F hS hA q h) (fun r u t H1 locs ht hvm hw9 hB9 hz1 hk1 hS => ?_)
    have hw9 : r = (iI (m_standing g bb)) := hw9
    subst hw9
    have hP := ro_P hP hk1
    generalize H1 = H at hP hS ⊢
    have s7 := stand_b g bb
    exact W.iret (v := (iI (m_standing g bb))) hx hb hr (fun t ht hW9 => ⟨⟨(iI (m_standing g bb)), (), rfl, (congrArg iI (by rw [hs]; first | rfl | simp [m_ofBook, m_ib, h1, hs])), trivial⟩, hS.F ht⟩) hS.2.2 dX4_ofBook_159
  · skip
    refine lv_tableIn (off := 141) (tgt := 160) hx hb dX4_ofBook_19 (by rw [hs]; decide) (by rw [hs]; decide) (by rw [hs]; decide +kernel) (by decide) ?_
    refine lv_aload_n hx hb dX4_ofBook_160 rfl (lv_at hl 0 rfl) ?_
    refine lv_iload_n hx hb dX4_ofBook_161 rfl (lv_at hl 1 rfl) ?_
    refine va_calli (va_runV (As := [.int (iI bb)]) (rest := []) ⟨hx, hb, hml, hown, hw⟩ (c_scoreOf l D a cH cB cJ cI ha g vt H.size bb hWf (by omega)) (cwV 1 hw (gA_V kw_230 kw_231 kw_232 kw_2 kw_233) rfl rfl rfl (by decide +kernel) ⟨Nat.le_of_ble_eq_true rfl, Nat.le_of_ble_eq_true rfl⟩) (pS_v (ci := 4) (q0 := 0) rfl pw_0 hP hK hE) rfl rfl hl.1 rfl (lv_room (Nat.le_of_ble_eq_true rfl)) dX4_ofBook_162 ⟨Nat.le_of_ble_eq_true rfl, Nat.le_of_ble_eq_true rfl⟩) hS (fun q h1 h2 => ro_A h1 h2) (fun q h => ro_F hS hA q h) (fun r u t H1 locs ht hvm hw9 hB9 hz1 hk1 hS => ?_)
    have hw9 : r = (iI (m_score g bb)) := hw9
    subst hw9
    have hP := ro_P hP hk1
    generalize H1 = H at hP hS ⊢
    have s8 := score_b hWf (bb := bb) (by omega)
    exact W.iret (v := (iI (m_score g bb))) hx hb hr (fun t ht hW9 => ⟨⟨(iI (m_score g bb)), (), rfl, (congrArg iI (by rw [hs]; first | rfl | simp [m_ofBook, m_ib, h1, hs])), trivial⟩, hS.F ht⟩) hS.2.2 dX4_ofBook_165
  · skip
    refine lv_tableIn (off := 147) (tgt := 166) hx hb dX4_ofBook_19 (by rw [hs]; decide) (by rw [hs]; decide) (by rw [hs]; decide +kernel) (by decide) ?_
    refine lv_aload_n hx hb dX4_ofBook_166 rfl (lv_at hl 0 rfl) ?_
    refine lv_iload_n hx hb dX4_ofBook_167 rfl (lv_at hl 1 rfl) ?_
    refine va_calli (va_runV (As := [.int (iI bb)]) (rest := []) ⟨hx, hb, hml, hown, hw⟩ (c_fairMarksOf l D a cH cB cJ cI ha g vt H.size bb hWf (by omega)) (cwV 1 hw (gA_V kw_253 kw_254 kw_255 kw_2 kw_256) rfl rfl rfl (by decide +kernel) ⟨Nat.le_of_ble_eq_true rfl, Nat.le_of_ble_eq_true rfl⟩) (pS_v (ci := 4) (q0 := 0) rfl pw_0 hP hK hE) rfl rfl hl.1 rfl (lv_room (Nat.le_of_ble_eq_true rfl)) dX4_ofBook_168 ⟨Nat.le_of_ble_eq_true rfl, Nat.le_of_ble_eq_true rfl⟩) hS (fun q h1 h2 => ro_A h1 h2) (fun q h => ro_F hS hA q h) (fun r u t H1 locs ht hvm hw9 hB9 hz1 hk1 hS => ?_)
    have hw9 : r = (iI (m_fairCount g bb)) := hw9
    subst hw9
    have hP := ro_P hP hk1
    generalize H1 = H at hP hS ⊢
    have s9 := cnt5 hWf (fun j => m_fair g j bb)
    have s10 := (show 0 ≤ m_fairCount g bb ∧ m_fairCount g bb ≤ 5 from cnt5 hWf (fun j => m_fair g j bb))
    exact W.iret (v := (iI (m_fairCount g bb))) hx hb hr (fun t ht hW9 => ⟨⟨(iI (m_fairCount g bb)), (), rfl, (congrArg iI (by rw [hs]; first | rfl | simp [m_ofBook, m_ib, h1, hs])), trivial⟩, hS.F ht⟩) hS.2.2 dX4_ofBook_171
  · skip
    refine lv_tableIn (off := 153) (tgt := 172) hx hb dX4_ofBook_19 (by rw [hs]; decide) (by rw [hs]; decide) (by rw [hs]; decide +kernel) (by decide) ?_
    refine lv_aload_n hx hb dX4_ofBook_172 rfl (lv_at hl 0 rfl) ?_
    refine lv_iload_n hx hb dX4_ofBook_173 rfl (lv_at hl 1 rfl) ?_
    refine va_calli (va_runV (As := [.int (iI bb)]) (rest := []) ⟨hx, hb, hml, hown, hw⟩ (c_pointsOf l D a cH cB cJ cI ha g vt H.size bb hWf (by omega)) (cwV 1 hw (gA_V kw_257 kw_258 kw_259 kw_2 kw_260) rfl rfl rfl (by decide +kernel) ⟨Nat.le_of_ble_eq_true rfl, Nat.le_of_ble_eq_true rfl⟩) (pS_v (ci := 4) (q0 := 0) rfl pw_0 hP hK hE) rfl rfl hl.1 rfl (lv_room (Nat.le_of_ble_eq_true rfl)) dX4_ofBook_174 ⟨Nat.le_of_ble_eq_true rfl, Nat.le_of_ble_eq_true rfl⟩) hS (fun q h1 h2 => ro_A h1 h2) (fun q h => ro_F hS hA q h) (fun r u t H1 locs ht hvm hw9 hB9 hz1 hk1 hS => ?_)
    have hw9 : r = (iI (m_pts g bb)) := hw9
    subst hw9
    have hP := ro_P hP hk1
    generalize H1 = H at hP hS ⊢
    have s11 := pts_b hWf (bb := bb) (by omega)
    exact W.iret (v := (iI (m_pts g bb))) hx hb hr (fun t ht hW9 => ⟨⟨(iI (m_pts g bb)), (), rfl, (congrArg iI (by rw [hs]; first | rfl | simp [m_ofBook, m_ib, h1, hs])), trivial⟩, hS.F ht⟩) hS.2.2 dX4_ofBook_177
set_option maxHeartbeats 4000000 in
set_option maxRecDepth 100000 in
theorem c_ofJudge (l : Launch) (D : va_G) (a : Nat → Nat) (cH cB cJ cI : ClassId) (ha : pj a) (g : m_St) (vt : Nat → Int32) (sz : Nat) (jj : Int) (ww : Int) (hWf : Wf g) (hjj : 0 ≤ jj ∧ jj < g 0 0 5) (hww : 0 ≤ ww ∧ ww ≤ 7) : Met l yX4_ofJudge (wc yX4_ofJudge cX4_ofJudge 3 (some .int)) ({ frames := 1, cells := 0, slots := 0, locals := 22 }) (va_Pc [.ref (a 0), .int (iI jj), .int (iI ww)] (pS D a cH cB cJ cI sz g vt)) (va_Qi (fun (r : Int32) (_ : Unit) => r = iI (m_ofJudge g jj ww)) (fun _ _ => True) (fun q => sz ≤ q)) 0 0 (fun q => sz ≤ q) := by
  refine Met.ofW (cc := cX4_ofJudge) (maxL := 3) (ret := (some .int)) (by decide +kernel) rfl ?_
  intro p e s m args below meth c s₁ B9 hml hv
  obtain ⟨rfl, hsz, hP, hK, hE⟩ := hv
  have hx := B9.exec
  have hb := B9.bytes
  have hr := B9.returns
  have hts := atoms_spec (ws := (wc yX4_ofJudge cX4_ofJudge 3 (some .int))) B9.pre
  have hw : ∀ w ∈ wsL_law0, w.before [.ref (a 0), .int (iI jj), .int (iI ww)].toArray s = true := fun w h => hts w (List.mem_cons_of_mem _ h)
  have hown : s.vm.findClass RX4 = some m.cls := findClass_of_methodNamed B9.named
  subst hsz
  have hS : va_S (fun q => s.heap.size ≤ q) s.heap s.heap [] := va_S.rf
  have hA : ∀ q : Nat, s.heap.size ≤ q → (fun q : Nat => s.heap.size ≤ q) q := fun _ h => h
  have hl := lv_entry ([.ref (a 0), .int (iI jj), .int (iI ww)]) (n := 3) (Nat.le_of_ble_eq_true rfl)
  rw [lg_entry_eq]
  generalize (lg_sl ([.ref (a 0), .int (iI jj), .int (iI ww)]) ++ List.replicate (3 - (lg_sl ([.ref (a 0), .int (iI jj), .int (iI ww)])).length) Slot.unset).toArray = ls at hl ⊢
  have hl : lv_has ls 3 [(0, .ref (a 0)), (1, .int (iI jj)), (2, .int (iI ww))] := hl
  suffices h9 : ∀ (H : Heap) (locs : List Loc), va_P D vwCl (pw a cH cB cJ cI g vt) H → va_S (fun q => s.heap.size ≤ q) s.heap H locs → W p l e (headSpec (wc yX4_ofJudge cX4_ofJudge 3 (some .int)) ({ frames := 1, cells := 0, slots := 0, locals := 22 })).room s m [.ref (a 0), .int (iI jj), .int (iI ww)].toArray below meth c H locs 0 0 (MQ below (va_Qi (fun (r : Int32) (_ : Unit) => r = iI (m_ofJudge g jj ww)) (fun _ _ => True) (fun q => s.heap.size ≤ q)) [.ref (a 0), .int (iI jj), .int (iI ww)].toArray s 0 0 (fun q => s.heap.size ≤ q)) (F0 m 0 ls []) from h9 s.heap [] hP hS
  clear hP hS
  intro H locs hP hS
  have m5 := Wf.m5 hWf
  refine lv_aload_n hx hb dX4_ofJudge_0 rfl (lv_at hl 0 rfl) ?_
  refine lv_iload_n hx hb dX4_ofJudge_1 rfl (lv_at hl 1 rfl) ?_
  refine va_calli (va_runV (As := [.int (iI jj)]) (rest := []) ⟨hx, hb, hml, hown, hw⟩ (c_isJudge l D a cH cB cJ cI ha g vt H.size jj hWf (by omega)) (cwV 1 hw (gA_V kw_158 kw_159 kw_160 kw_2 kw_161) rfl rfl rfl (by decide +kernel) ⟨Nat.le_of_ble_eq_true rfl, Nat.le_of_ble_eq_true rfl⟩) (pS_v (ci := 4) (q0 := 0) rfl pw_0 hP hK hE) rfl rfl hl.1 rfl (lv_room (Nat.le_of_ble_eq_true rfl)) dX4_ofJudge_2 ⟨Nat.le_of_ble_eq_true rfl, Nat.le_of_ble_eq_true rfl⟩) hS (fun q h1 h2 => ro_A h1 h2) (fun q h => ro_F hS hA q h) (fun r u t H1 locs ht hvm hw9 hB9 hz1 hk1 hS => ?_)
  have hw9 : r = (bi (decide (0 ≤ jj ∧ jj < g 0 0 5))) := hw9
  subst hw9
  have hP := ro_P hP hk1
  generalize H1 = H at hP hS ⊢
  refine n_b_ne hx hb (tgt := 18) dX4_ofJudge_5 (by decide) (fun h1 => ?_) (fun h1 => absurd h1 (by intro h1; have h1 := of_decide_eq_false h1; omega))
  have h1 := of_decide_eq_true h1
  refine lv_iload_n hx hb dX4_ofJudge_18 rfl (lv_at hl 2 rfl) ?_
  rcases (show ww = 0 ∨ ww = 1 ∨ ww = 2 ∨ ww = 3 ∨ ww = 4 ∨ ww = 5 ∨ ww = 6 ∨ ww = 7 from by omega) with hs | hs | hs | hs | hs | hs | hs | hs
  · skip
    refine lv_tableIn (off := 45) (tgt := 64) hx hb dX4_ofJudge_19 (by rw [hs]; decide) (by rw [hs]; decide) (by rw [hs]; decide +kernel) (by decide) ?_
    refine lv_aload_n hx hb dX4_ofJudge_64 rfl (lv_at hl 0 rfl) ?_
    refine va_get (D := D) (ci := 4) (v := .ref (a 3)) (C := RX4) (T := TX4) (N := 19) hx hb hw hin_wsX40 hown hK hP 0 pw_0 rfl 2 (by decide) (hw _ kw_19) (fun _ h9 => h9) rfl dX4_ofJudge_65 ?_
    refine lv_iload_n hx hb dX4_ofJudge_68 rfl (lv_at hl 1 rfl) ?_
    refine p_aldJ hx hb hK hP (k := jj) (by omega) (by omega) dX4_ofJudge_69 ?_
    have s2 := Wf.j0 hWf (k := jj) (by omega) (by omega)
    refine va_get (D := D) (ci := 2) (v := .int (iI (g 3 jj 0))) (C := RX2) (T := TX2) (N := 16) hx hb hw hin_wsX20 hown hK hP (28 + 6 * jj.toNat) (pw_J (j := jj) (by omega) (by omega)) rfl 0 (by decide) (hw _ kw_178) (fun _ h9 => h9) rfl dX4_ofJudge_70 ?_
    exact W.iret (v := (iI (g 3 jj 0))) hx hb hr (fun t ht hW9 => ⟨⟨(iI (g 3 jj 0)), (), rfl, (congrArg iI (by rw [hs]; first | rfl | simp [m_ofJudge, m_ib, h1, hs])), trivial⟩, hS.F ht⟩) hS.2.2 dX4_ofJudge_73
  · skip
    refine lv_tableIn (off := 55) (tgt := 74) hx hb dX4_ofJudge_19 (by rw [hs]; decide) (by rw [hs]; decide) (by rw [hs]; decide +kernel) (by decide) ?_
    refine lv_aload_n hx hb dX4_ofJudge_74 rfl (lv_at hl 0 rfl) ?_
    refine va_get (D := D) (ci := 4) (v := .ref (a 3)) (C := RX4) (T := TX4) (N := 19) hx hb hw hin_wsX40 hown hK hP 0 pw_0 rfl 2 (by decide) (hw _ kw_19) (fun _ h9 => h9) rfl dX4_ofJudge_75 ?_
    refine lv_iload_n hx hb dX4_ofJudge_78 rfl (lv_at hl 1 rfl) ?_
    refine p_aldJ hx hb hK hP (k := jj) (by omega) (by omega) dX4_ofJudge_79 ?_
    have s3 := Wf.j3 hWf (k := jj) (by omega) (by omega)
    refine va_get (D := D) (ci := 2) (v := .int (iI (g 3 jj 3))) (C := RX2) (T := TX2) (N := 16) hx hb hw hin_wsX20 hown hK hP (28 + 6 * jj.toNat) (pw_J (j := jj) (by omega) (by omega)) rfl 3 (by decide) (hw _ kw_170) (fun _ h9 => h9) rfl dX4_ofJudge_80 ?_
    exact W.iret (v := (iI (g 3 jj 3))) hx hb hr (fun t ht hW9 => ⟨⟨(iI (g 3 jj 3)), (), rfl, (congrArg iI (by rw [hs]; first | rfl | simp [m_ofJudge, m_ib, h1, hs])), trivial⟩, hS.F ht⟩) hS.2.2 dX4_ofJudge_83
  · skip
    refine lv_tableIn (off := 65) (tgt := 84) hx hb dX4_ofJudge_19 (by rw [hs]; decide) (by rw [hs]; decide) (by rw [hs]; decide +kernel) (by decide) ?_
    refine lv_aload_n hx hb dX4_ofJudge_84 rfl (lv_at hl 0 rfl) ?_
    refine va_get (D := D) (ci := 4) (v := .ref (a 3)) (C := RX4) (T := TX4) (N := 19) hx hb hw hin_wsX40 hown hK hP 0 pw_0 rfl 2 (by decide) (hw _ kw_19) (fun _ h9 => h9) rfl dX4_ofJudge_85 ?_
    refine lv_iload_n hx hb dX4_ofJudge_88 rfl (lv_at hl 1 rfl) ?_
    refine p_aldJ hx hb hK hP (k := jj) (by omega) (by omega) dX4_ofJudge_89 ?_
    have s4 := Wf.j7 hWf (k := jj) (by omega) (by omega)
    refine va_get (D := D) (ci := 2) (v := .int (iI (g 3 jj 7))) (C := RX2) (T := TX2) (N := 16) hx hb hw hin_wsX20 hown hK hP (28 + 6 * jj.toNat) (pw_J (j := jj) (by omega) (by omega)) rfl 7 (by decide) (hw _ kw_179) (fun _ h9 => h9) rfl dX4_ofJudge_90 ?_
    exact W.iret (v := (iI (g 3 jj 7))) hx hb hr (fun t ht hW9 => ⟨⟨(iI (g 3 jj 7)), (), rfl, (congrArg iI (by rw [hs]; first | rfl | simp [m_ofJudge, m_ib, h1, hs])), trivial⟩, hS.F ht⟩) hS.2.2 dX4_ofJudge_93
  · skip
    refine lv_tableIn (off := 75) (tgt := 94) hx hb dX4_ofJudge_19 (by rw [hs]; decide) (by rw [hs]; decide) (by rw [hs]; decide +kernel) (by decide) ?_
    refine lv_aload_n hx hb dX4_ofJudge_94 rfl (lv_at hl 0 rfl) ?_
    refine va_get (D := D) (ci := 4) (v := .ref (a 3)) (C := RX4) (T := TX4) (N := 19) hx hb hw hin_wsX40 hown hK hP 0 pw_0 rfl 2 (by decide) (hw _ kw_19) (fun _ h9 => h9) rfl dX4_ofJudge_95 ?_
    refine lv_iload_n hx hb dX4_ofJudge_98 rfl (lv_at hl 1 rfl) ?_
    refine p_aldJ hx hb hK hP (k := jj) (by omega) (by omega) dX4_ofJudge_99 ?_
    refine va_calli (va_runV (As := []) (rest := []) ⟨hx, hb, hml, hown, hw⟩ (c_pagesLeft l D a cH cB cJ cI ha g vt H.size jj hWf (by omega)) (cwV 0 hw (gA_V kw_182 kw_183 kw_184 kw_34 kw_185) rfl rfl rfl (by decide +kernel) ⟨Nat.le_of_ble_eq_true rfl, Nat.le_of_ble_eq_true rfl⟩) (pS_v (ci := 2) (q0 := (28 + 6 * jj.toNat)) rfl (pw_J (j := jj) (by omega) (by omega)) hP hK hE) rfl rfl hl.1 rfl (lv_room (Nat.le_of_ble_eq_true rfl)) dX4_ofJudge_100 ⟨Nat.le_of_ble_eq_true rfl, Nat.le_of_ble_eq_true rfl⟩) hS (fun q h1 h2 => ro_A h1 h2) (fun q h => ro_F hS hA q h) (fun r u t H1 locs ht hvm hw9 hB9 hz1 hk1 hS => ?_)
    have hw9 : r = (iI (m_pagesLeft g jj)) := hw9
    subst hw9
    have hP := ro_P hP hk1
    generalize H1 = H at hP hS ⊢
    have s5 := left_b hWf (jj := jj) (by omega)
    exact W.iret (v := (iI (m_pagesLeft g jj))) hx hb hr (fun t ht hW9 => ⟨⟨(iI (m_pagesLeft g jj)), (), rfl, (congrArg iI (by rw [hs]; first | rfl | simp [m_ofJudge, m_ib, h1, hs])), trivial⟩, hS.F ht⟩) hS.2.2 dX4_ofJudge_103
  · skip
    refine lv_tableIn (off := 85) (tgt := 104) hx hb dX4_ofJudge_19 (by rw [hs]; decide) (by rw [hs]; decide) (by rw [hs]; decide +kernel) (by decide) ?_
    refine lv_aload_n hx hb dX4_ofJudge_104 rfl (lv_at hl 0 rfl) ?_
    refine va_get (D := D) (ci := 4) (v := .ref (a 3)) (C := RX4) (T := TX4) (N := 19) hx hb hw hin_wsX40 hown hK hP 0 pw_0 rfl 2 (by decide) (hw _ kw_19) (fun _ h9 => h9) rfl dX4_ofJudge_105 ?_
    refine lv_iload_n hx hb dX4_ofJudge_108 rfl (lv_at hl 1 rfl) ?_
    refine p_aldJ hx hb hK hP (k := jj) (by omega) (by omega) dX4_ofJudge_109 ?_
    have s6 := Wf.j9 hWf (k := jj) (by omega) (by omega)
    refine va_get (D := D) (ci := 2) (v := .int (iI (g 3 jj 9))) (C := RX2) (T := TX2) (N := 16) hx hb hw hin_wsX20 hown hK hP (28 + 6 * jj.toNat) (pw_J (j := jj) (by omega) (by omega)) rfl 9 (by decide) (hw _ kw_180) (fun _ h9 => h9) rfl dX4_ofJudge_110 ?_
    exact W.iret (v := (iI (g 3 jj 9))) hx hb hr (fun t ht hW9 => ⟨⟨(iI (g 3 jj 9)), (), rfl, (congrArg iI (by rw [hs]; first | rfl | simp [m_ofJudge, m_ib, h1, hs])), trivial⟩, hS.F ht⟩) hS.2.2 dX4_ofJudge_113
  · skip
    refine lv_tableIn (off := 95) (tgt := 114) hx hb dX4_ofJudge_19 (by rw [hs]; decide) (by rw [hs]; decide) (by rw [hs]; decide +kernel) (by decide) ?_
    refine lv_aload_n hx hb dX4_ofJudge_114 rfl (lv_at hl 0 rfl) ?_
    refine va_get (D := D) (ci := 4) (v := .ref (a 3)) (C := RX4) (T := TX4) (N := 19) hx hb hw hin_wsX40 hown hK hP 0 pw_0 rfl 2 (by decide) (hw _ kw_19) (fun _ h9 => h9) rfl dX4_ofJudge_115 ?_
    refine lv_iload_n hx hb dX4_ofJudge_118 rfl (lv_at hl 1 rfl) ?_
    refine p_aldJ hx hb hK hP (k := jj) (by omega) (by omega) dX4_ofJudge_119 ?_
    have s7 := Wf.j10 hWf (k := jj) (by omega) (by omega)
    refine va_get (D := D) (ci := 2) (v := .int (iI (g 3 jj 10))) (C := RX2) (T := TX2) (N := 16) hx hb hw hin_wsX20 hown hK hP (28 + 6 * jj.toNat) (pw_J (j := jj) (by omega) (by omega)) rfl 10 (by decide) (hw _ kw_181) (fun _ h9 => h9) rfl dX4_ofJudge_120 ?_
    exact W.iret (v := (iI (g 3 jj 10))) hx hb hr (fun t ht hW9 => ⟨⟨(iI (g 3 jj 10)), (), rfl, (congrArg iI (by rw [hs]; first | rfl | simp [m_ofJudge, m_ib, h1, hs])), trivial⟩, hS.F ht⟩) hS.2.2 dX4_ofJudge_123
  · skip
    refine lv_tableIn (off := 105) (tgt := 124) hx hb dX4_ofJudge_19 (by rw [hs]; decide) (by rw [hs]; decide) (by rw [hs]; decide +kernel) (by decide) ?_
    refine lv_aload_n hx hb dX4_ofJudge_124 rfl (lv_at hl 0 rfl) ?_
    refine va_get (D := D) (ci := 4) (v := .ref (a 3)) (C := RX4) (T := TX4) (N := 19) hx hb hw hin_wsX40 hown hK hP 0 pw_0 rfl 2 (by decide) (hw _ kw_19) (fun _ h9 => h9) rfl dX4_ofJudge_125 ?_
    refine lv_iload_n hx hb dX4_ofJudge_128 rfl (lv_at hl 1 rfl) ?_
    refine p_aldJ hx hb hK hP (k := jj) (by omega) (by omega) dX4_ofJudge_129 ?_
    refine va_calli (va_runV (As := []) (rest := []) ⟨hx, hb, hml, hown, hw⟩ (c_hasOrder l D a cH cB cJ cI ha g vt H.size jj hWf (by omega)) (cwV 0 hw (gA_V kw_188 kw_189 kw_190 kw_34 kw_191) rfl rfl rfl (by decide +kernel) ⟨Nat.le_of_ble_eq_true rfl, Nat.le_of_ble_eq_true rfl⟩) (pS_v (ci := 2) (q0 := (28 + 6 * jj.toNat)) rfl (pw_J (j := jj) (by omega) (by omega)) hP hK hE) rfl rfl hl.1 rfl (lv_room (Nat.le_of_ble_eq_true rfl)) dX4_ofJudge_130 ⟨Nat.le_of_ble_eq_true rfl, Nat.le_of_ble_eq_true rfl⟩) hS (fun q h1 h2 => ro_A h1 h2) (fun q h => ro_F hS hA q h) (fun r u t H1 locs ht hvm hw9 hB9 hz1 hk1 hS => ?_)
    have hw9 : r = (bi (decide (0 < g 3 jj 15))) := hw9
    subst hw9
    have hP := ro_P hP hk1
    generalize H1 = H at hP hS ⊢
    refine n_b_eq hx hb (tgt := 140) dX4_ofJudge_133 (by decide) (fun h8 => ?_) (fun h8 => ?_)
    · skip
      have h8 := of_decide_eq_false h8
      refine lv_iconst (v := iI 0) hx hb dX4_ofJudge_140 (by decide) ?_
      exact W.iret (v := (iI 0)) hx hb hr (fun t ht hW9 => ⟨⟨(iI 0), (), rfl, (congrArg iI (by rw [hs]; first | rfl | simp [m_ofJudge, m_ib, h1, hs, h8])), trivial⟩, hS.F ht⟩) hS.2.2 dX4_ofJudge_141
    · skip
      have h8 := of_decide_eq_true h8
      refine lv_iconst (v := iI 1) hx hb dX4_ofJudge_136 (by decide) ?_
      refine lv_goto (tgt := 141) hx hb dX4_ofJudge_137 (by decide) ?_
      exact W.iret (v := (iI 1)) hx hb hr (fun t ht hW9 => ⟨⟨(iI 1), (), rfl, (congrArg iI (by rw [hs]; first | rfl | simp [m_ofJudge, m_ib, h1, hs, h8])), trivial⟩, hS.F ht⟩) hS.2.2 dX4_ofJudge_141
  · skip
    refine lv_tableIn (off := 123) (tgt := 142) hx hb dX4_ofJudge_19 (by rw [hs]; decide) (by rw [hs]; decide) (by rw [hs]; decide +kernel) (by decide) ?_
    refine lv_aload_n hx hb dX4_ofJudge_142 rfl (lv_at hl 0 rfl) ?_
    refine va_get (D := D) (ci := 4) (v := .ref (a 3)) (C := RX4) (T := TX4) (N := 19) hx hb hw hin_wsX40 hown hK hP 0 pw_0 rfl 2 (by decide) (hw _ kw_19) (fun _ h9 => h9) rfl dX4_ofJudge_143 ?_
    refine lv_iload_n hx hb dX4_ofJudge_146 rfl (lv_at hl 1 rfl) ?_
    refine p_aldJ hx hb hK hP (k := jj) (by omega) (by omega) dX4_ofJudge_147 ?_
    refine va_calli (va_runV (As := []) (rest := []) ⟨hx, hb, hml, hown, hw⟩ (c_pointsLeft l D a cH cB cJ cI ha g vt H.size jj hWf (by omega)) (cwV 0 hw (gA_V kw_193 kw_194 kw_195 kw_34 kw_196) rfl rfl rfl (by decide +kernel) ⟨Nat.le_of_ble_eq_true rfl, Nat.le_of_ble_eq_true rfl⟩) (pS_v (ci := 2) (q0 := (28 + 6 * jj.toNat)) rfl (pw_J (j := jj) (by omega) (by omega)) hP hK hE) rfl rfl hl.1 rfl (lv_room (Nat.le_of_ble_eq_true rfl)) dX4_ofJudge_148 ⟨Nat.le_of_ble_eq_true rfl, Nat.le_of_ble_eq_true rfl⟩) hS (fun q h1 h2 => ro_A h1 h2) (fun q h => ro_F hS hA q h) (fun r u t H1 locs ht hvm hw9 hB9 hz1 hk1 hS => ?_)
    have hw9 : r = (iI (m_ptsLeft g jj)) := hw9
    subst hw9
    have hP := ro_P hP hk1
    generalize H1 = H at hP hS ⊢
    have s9 := ptsl_b hWf (jj := jj) (by omega)
    exact W.iret (v := (iI (m_ptsLeft g jj))) hx hb hr (fun t ht hW9 => ⟨⟨(iI (m_ptsLeft g jj)), (), rfl, (congrArg iI (by rw [hs]; first | rfl | simp [m_ofJudge, m_ib, h1, hs])), trivial⟩, hS.F ht⟩) hS.2.2 dX4_ofJudge_151
set_option maxHeartbeats 4000000 in
set_option maxRecDepth 100000 in
theorem c_meanMark (l : Launch) (D : va_G) (a : Nat → Nat) (cH cB cJ cI : ClassId) (ha : pj a) (g : m_St) (vt : Nat → Int32) (sz : Nat) (hWf : Wf g) (hnan : m_sm (fun j => g 3 j 9) (g 0 0 5).toNat ≠ 0 → vf_n64 (FP.ddiv (FP.i2d (iI (m_sm (fun j => g 3 j 12) (g 0 0 5).toNat))) (FP.i2d (iI (m_sm (fun j => g 3 j 9) (g 0 0 5).toNat))))) : Met l yX4_meanMark (wc yX4_meanMark cX4_meanMark 4 (some .double)) ({ frames := 0, cells := 0, slots := 0, locals := 0 }) (va_Pc [.ref (a 0)] (pS D a cH cB cJ cI sz g vt)) (va_Qd (fun (r : UInt64) (_ : Unit) => r = (m_mean g)) (fun _ _ => True) (fun q => sz ≤ q)) 0 0 (fun q => sz ≤ q) := by
  refine Met.ofW (cc := cX4_meanMark) (maxL := 4) (ret := (some .double)) (by decide +kernel) rfl ?_
  intro p e s m args below meth c s₁ B9 hml hv
  obtain ⟨rfl, hsz, hP, hK, hE⟩ := hv
  have hx := B9.exec
  have hb := B9.bytes
  have hr := B9.returns
  have hts := atoms_spec (ws := (wc yX4_meanMark cX4_meanMark 4 (some .double))) B9.pre
  have hw : ∀ w ∈ wsL_law0, w.before [.ref (a 0)].toArray s = true := fun w h => hts w (List.mem_cons_of_mem _ h)
  have hown : s.vm.findClass RX4 = some m.cls := findClass_of_methodNamed B9.named
  have hlocks := B9.notSynchronized
  subst hsz
  have hS : va_S (fun q => s.heap.size ≤ q) s.heap s.heap [] := va_S.rf
  have hA : ∀ q : Nat, s.heap.size ≤ q → (fun q : Nat => s.heap.size ≤ q) q := fun _ h => h
  have hl := lv_entry ([.ref (a 0)]) (n := 4) (Nat.le_of_ble_eq_true rfl)
  rw [lg_entry_eq]
  generalize (lg_sl ([.ref (a 0)]) ++ List.replicate (4 - (lg_sl ([.ref (a 0)])).length) Slot.unset).toArray = ls at hl ⊢
  have hl : lv_has ls 4 [(0, .ref (a 0))] := hl
  suffices h9 : ∀ (H : Heap) (locs : List Loc), va_P D vwCl (pw a cH cB cJ cI g vt) H → va_S (fun q => s.heap.size ≤ q) s.heap H locs → W p l e (headSpec (wc yX4_meanMark cX4_meanMark 4 (some .double)) ({ frames := 0, cells := 0, slots := 0, locals := 0 })).room s m [.ref (a 0)].toArray below meth c H locs 0 0 (MQ below (va_Qd (fun (r : UInt64) (_ : Unit) => r = (m_mean g)) (fun _ _ => True) (fun q => s.heap.size ≤ q)) [.ref (a 0)].toArray s 0 0 (fun q => s.heap.size ≤ q)) (F0 m 0 ls []) from h9 s.heap [] hP hS
  clear hP hS
  intro H locs hP hS
  have m5 := Wf.m5 hWf
  refine lv_iconst (v := iI 0) hx hb dX4_meanMark_0 (by decide) ?_
  refine lv_istore_n (lv' := [(1, .int (iI 0)), (0, .ref (a 0))]) hx hb dX4_meanMark_1 rfl hl (by decide) rfl (fun ls hl => ?_)
  refine lv_iconst (v := iI 0) hx hb dX4_meanMark_2 (by decide) ?_
  refine lv_istore_n (lv' := [(2, .int (iI 0)), (1, .int (iI 0)), (0, .ref (a 0))]) hx hb dX4_meanMark_3 rfl hl (by decide) rfl (fun ls hl => ?_)
  refine lv_iconst (v := iI 0) hx hb dX4_meanMark_4 (by decide) ?_
  refine lv_istore_n (lv' := [(3, .int (iI 0)), (2, .int (iI 0)), (1, .int (iI 0)), (0, .ref (a 0))]) hx hb dX4_meanMark_5 rfl hl (by decide) rfl (fun ls hl => ?_)
  have loop6 : ∀ (d n : Nat) (H : Heap) (locs : List Loc) (ls : Array Slot), n + d = (g 0 0 5).toNat → va_P D vwCl (pw a cH cB cJ cI g vt) H → va_S (fun q => s.heap.size ≤ q) s.heap H locs → lv_has ls 4 [(3, .int (iI ((n : Nat) : Int))), (2, .int (iI (m_sm (fun j => g 3 j 9) n))), (1, .int (iI (m_sm (fun j => g 3 j 12) n))), (0, .ref (a 0))] → W p l e (headSpec (wc yX4_meanMark cX4_meanMark 4 (some .double)) ({ frames := 0, cells := 0, slots := 0, locals := 0 })).room s m [.ref (a 0)].toArray below meth c H locs 0 0 (MQ below (va_Qd (fun (r : UInt64) (_ : Unit) => r = (m_mean g)) (fun _ _ => True) (fun q => s.heap.size ≤ q)) [.ref (a 0)].toArray s 0 0 (fun q => s.heap.size ≤ q)) (F0 m 6 ls []) := by
    intro d
    induction d with
    | zero =>
      intro n H locs ls hn hP hS hl
      obtain rfl : n = (g 0 0 5).toNat := by omega
      have hs9 := sm_5 hWf (f := fun j => g 3 j 9) (B := 16) (fun i a b => (Wf.j9 hWf a b).1) (fun i a b => (Wf.j9 hWf a b).2.2) (by omega)
      refine lv_iload_n hx hb dX4_meanMark_6 rfl (lv_at hl 0 rfl) ?_
      refine lv_aload_n hx hb dX4_meanMark_7 rfl (lv_at hl 3 rfl) ?_
      have s1 := Wf.m5 hWf
      refine va_get (D := D) (ci := 4) (v := .int (iI (g 0 0 5))) (C := RX4) (T := TX4) (N := 19) hx hb hw hin_wsX40 hown hK hP 0 pw_0 rfl 5 (by decide) (hw _ kw_81) (fun _ h9 => h9) rfl dX4_meanMark_8 ?_
      refine n_icmp_ge hx hb (by unfold RI; omega) (by unfold RI; omega) (tgt := 44) dX4_meanMark_11 (by decide) (fun h2 => ?_) (fun h2 => absurd h2 (by intro h2; omega))
      refine lv_iload_n hx hb dX4_meanMark_44 rfl (lv_at hl 1 rfl) ?_
      refine n_if_ne hx hb (by unfold RI; omega) (tgt := 52) dX4_meanMark_45 (by decide) (fun h3 => ?_) (fun h3 => ?_)
      · skip
        refine lv_iload_n hx hb dX4_meanMark_52 rfl (lv_at hl 2 rfl) ?_
        refine lv_i2d hx hb dX4_meanMark_53 ?_
        refine lv_iload_n hx hb dX4_meanMark_54 rfl (lv_at hl 1 rfl) ?_
        refine lv_i2d hx hb dX4_meanMark_55 ?_
        refine lv_ddiv hx hb dX4_meanMark_56 (hnan (by assumption)) ?_
        exact W.dret (v := (FP.ddiv (FP.i2d (iI (m_sm (fun j => g 3 j 12) ((g 0 0 5).toNat)))) (FP.i2d (iI (m_sm (fun j => g 3 j 9) ((g 0 0 5).toNat)))))) hx hb hr (fun t ht hW9 => ⟨⟨(FP.ddiv (FP.i2d (iI (m_sm (fun j => g 3 j 12) ((g 0 0 5).toNat)))) (FP.i2d (iI (m_sm (fun j => g 3 j 9) ((g 0 0 5).toNat))))), (), rfl, (by unfold m_mean; first | rw [if_pos h3] | rw [if_neg h3]), trivial⟩, hS.F ht⟩) hS.2.2 dX4_meanMark_57
      · skip
        refine lv_dconst0 hx hb dX4_meanMark_48 ?_
        refine lv_goto (tgt := 57) hx hb dX4_meanMark_49 (by decide) ?_
        exact W.dret (v := FP.dconst0) hx hb hr (fun t ht hW9 => ⟨⟨FP.dconst0, (), rfl, (by unfold m_mean; first | rw [if_pos h3] | rw [if_neg h3]), trivial⟩, hS.F ht⟩) hS.2.2 dX4_meanMark_57
    | succ d ih6 =>
      intro n H locs ls hn hP hS hl
      refine lv_iload_n hx hb dX4_meanMark_6 rfl (lv_at hl 0 rfl) ?_
      refine lv_aload_n hx hb dX4_meanMark_7 rfl (lv_at hl 3 rfl) ?_
      have s4 := Wf.m5 hWf
      refine va_get (D := D) (ci := 4) (v := .int (iI (g 0 0 5))) (C := RX4) (T := TX4) (N := 19) hx hb hw hin_wsX40 hown hK hP 0 pw_0 rfl 5 (by decide) (hw _ kw_81) (fun _ h9 => h9) rfl dX4_meanMark_8 ?_
      refine n_icmp_ge hx hb (by unfold RI; omega) (by unfold RI; omega) (tgt := 44) dX4_meanMark_11 (by decide) (fun h5 => absurd h5 (by intro h5; omega)) (fun h5 => ?_)
      refine lv_iload_n hx hb dX4_meanMark_14 rfl (lv_at hl 2 rfl) ?_
      refine lv_aload_n hx hb dX4_meanMark_15 rfl (lv_at hl 3 rfl) ?_
      refine va_get (D := D) (ci := 4) (v := .ref (a 3)) (C := RX4) (T := TX4) (N := 19) hx hb hw hin_wsX40 hown hK hP 0 pw_0 rfl 2 (by decide) (hw _ kw_19) (fun _ h9 => h9) rfl dX4_meanMark_16 ?_
      refine lv_iload_n hx hb dX4_meanMark_19 rfl (lv_at hl 0 rfl) ?_
      refine p_aldJ hx hb hK hP (k := ((n : Nat) : Int)) (by omega) (by omega) dX4_meanMark_20 ?_
      have s6 := Wf.j12 hWf (k := ((n : Nat) : Int)) (by omega) (by omega)
      refine va_get (D := D) (ci := 2) (v := .int (iI (g 3 ((n : Nat) : Int) 12))) (C := RX2) (T := TX2) (N := 16) hx hb hw hin_wsX20 hown hK hP (28 + 6 * ((n : Nat) : Int).toNat) (pw_J (j := ((n : Nat) : Int)) (by omega) (by omega)) rfl 12 (by decide) (hw _ kw_514) (fun _ h9 => h9) rfl dX4_meanMark_21 ?_
      refine n_add hx hb dX4_meanMark_24 ?_
      refine lv_istore_n (lv' := [(1, .int (iI ((m_sm (fun j => g 3 j 12) n) + g 3 ((n : Nat) : Int) 12))), (3, .int (iI ((n : Nat) : Int))), (2, .int (iI (m_sm (fun j => g 3 j 9) n))), (0, .ref (a 0))]) hx hb dX4_meanMark_25 rfl hl (by decide) rfl (fun ls hl => ?_)
      refine lv_iload_n hx hb dX4_meanMark_26 rfl (lv_at hl 2 rfl) ?_
      refine lv_aload_n hx hb dX4_meanMark_27 rfl (lv_at hl 3 rfl) ?_
      refine va_get (D := D) (ci := 4) (v := .ref (a 3)) (C := RX4) (T := TX4) (N := 19) hx hb hw hin_wsX40 hown hK hP 0 pw_0 rfl 2 (by decide) (hw _ kw_19) (fun _ h9 => h9) rfl dX4_meanMark_28 ?_
      refine lv_iload_n hx hb dX4_meanMark_31 rfl (lv_at hl 1 rfl) ?_
      refine p_aldJ hx hb hK hP (k := ((n : Nat) : Int)) (by omega) (by omega) dX4_meanMark_32 ?_
      have s7 := Wf.j9 hWf (k := ((n : Nat) : Int)) (by omega) (by omega)
      refine va_get (D := D) (ci := 2) (v := .int (iI (g 3 ((n : Nat) : Int) 9))) (C := RX2) (T := TX2) (N := 16) hx hb hw hin_wsX20 hown hK hP (28 + 6 * ((n : Nat) : Int).toNat) (pw_J (j := ((n : Nat) : Int)) (by omega) (by omega)) rfl 9 (by decide) (hw _ kw_180) (fun _ h9 => h9) rfl dX4_meanMark_33 ?_
      refine n_add hx hb dX4_meanMark_36 ?_
      refine lv_istore_n (lv' := [(2, .int (iI ((m_sm (fun j => g 3 j 9) n) + g 3 ((n : Nat) : Int) 9))), (1, .int (iI ((m_sm (fun j => g 3 j 12) n) + g 3 ((n : Nat) : Int) 12))), (3, .int (iI ((n : Nat) : Int))), (0, .ref (a 0))]) hx hb dX4_meanMark_37 rfl hl (by decide) rfl (fun ls hl => ?_)
      refine n_inc (lv' := [(3, .int (iI (((n : Nat) : Int) + 1))), (2, .int (iI ((m_sm (fun j => g 3 j 9) n) + g 3 ((n : Nat) : Int) 9))), (1, .int (iI ((m_sm (fun j => g 3 j 12) n) + g 3 ((n : Nat) : Int) 12))), (0, .ref (a 0))]) hx hb dX4_meanMark_38 hl (k := 2) rfl (by decide) rfl (fun ls hl => ?_)
      refine lv_goto (tgt := 6) hx hb dX4_meanMark_41 (by decide) ?_
      have hl : lv_has ls 4 [(3, .int (iI (((n : Nat) : Int) + 1))), (2, .int (iI ((m_sm (fun j => g 3 j 9) n) + g 3 ((n : Nat) : Int) 9))), (1, .int (iI ((m_sm (fun j => g 3 j 12) n) + g 3 ((n : Nat) : Int) 12))), (0, .ref (a 0))] := lv_sub hl [0, 1, 2, 3] rfl
      have e8 : (((n : Nat) : Int) + 1) = (((n + 1) : Nat) : Int) := by rfl
      have e9 : ((m_sm (fun j => g 3 j 9) n) + g 3 ((n : Nat) : Int) 9) = (m_sm (fun j => g 3 j 9) (n + 1)) := by rfl
      have e10 : ((m_sm (fun j => g 3 j 12) n) + g 3 ((n : Nat) : Int) 12) = (m_sm (fun j => g 3 j 12) (n + 1)) := by rfl
      have hl : lv_has ls 4 [(3, .int (iI (((n + 1) : Nat) : Int))), (2, .int (iI (m_sm (fun j => g 3 j 9) (n + 1)))), (1, .int (iI (m_sm (fun j => g 3 j 12) (n + 1)))), (0, .ref (a 0))] := lv_cast hl (by rw [e8, e9, e10])
      exact ih6 (n + 1) H locs ls (by omega) hP hS hl
  have hl : lv_has ls 4 [(3, .int (iI 0)), (2, .int (iI 0)), (1, .int (iI 0)), (0, .ref (a 0))] := lv_sub hl [0, 1, 2, 3] rfl
  have hl : lv_has ls 4 [(3, .int (iI ((0 : Nat) : Int))), (2, .int (iI (m_sm (fun j => g 3 j 9) 0))), (1, .int (iI (m_sm (fun j => g 3 j 12) 0))), (0, .ref (a 0))] := hl
  exact loop6 ((g 0 0 5).toNat) 0 H locs ls (by omega) hP hS hl
set_option maxHeartbeats 4000000 in
set_option maxRecDepth 100000 in
theorem c_readIn (l : Launch) (D : va_G) (a : Nat → Nat) (cH cB cJ cI : ClassId) (ha : pj a) (g : m_St) (vt : Nat → Int32) (sz : Nat) (hWf : Wf g) : Met l yX4_readIn (wc yX4_readIn cX4_readIn 3 (some .int)) ({ frames := 3, cells := 0, slots := 0, locals := 56 }) (va_Pc [.ref (a 0)] (pS D a cH cB cJ cI sz g vt)) (va_Qi (fun (r : Int32) (_ : Unit) => r = iI (m_readIn g)) (fun _ _ => True) (fun q => sz ≤ q)) 0 0 (fun q => sz ≤ q) := by
  refine Met.ofW (cc := cX4_readIn) (maxL := 3) (ret := (some .int)) (by decide +kernel) rfl ?_
  intro p e s m args below meth c s₁ B9 hml hv
  obtain ⟨rfl, hsz, hP, hK, hE⟩ := hv
  have hx := B9.exec
  have hb := B9.bytes
  have hr := B9.returns
  have hts := atoms_spec (ws := (wc yX4_readIn cX4_readIn 3 (some .int))) B9.pre
  have hw : ∀ w ∈ wsL_law0, w.before [.ref (a 0)].toArray s = true := fun w h => hts w (List.mem_cons_of_mem _ h)
  have hown : s.vm.findClass RX4 = some m.cls := findClass_of_methodNamed B9.named
  subst hsz
  have hS : va_S (fun q => s.heap.size ≤ q) s.heap s.heap [] := va_S.rf
  have hA : ∀ q : Nat, s.heap.size ≤ q → (fun q : Nat => s.heap.size ≤ q) q := fun _ h => h
  have hl := lv_entry ([.ref (a 0)]) (n := 3) (Nat.le_of_ble_eq_true rfl)
  rw [lg_entry_eq]
  generalize (lg_sl ([.ref (a 0)]) ++ List.replicate (3 - (lg_sl ([.ref (a 0)])).length) Slot.unset).toArray = ls at hl ⊢
  have hl : lv_has ls 3 [(0, .ref (a 0))] := hl
  suffices h9 : ∀ (H : Heap) (locs : List Loc), va_P D vwCl (pw a cH cB cJ cI g vt) H → va_S (fun q => s.heap.size ≤ q) s.heap H locs → W p l e (headSpec (wc yX4_readIn cX4_readIn 3 (some .int)) ({ frames := 3, cells := 0, slots := 0, locals := 56 })).room s m [.ref (a 0)].toArray below meth c H locs 0 0 (MQ below (va_Qi (fun (r : Int32) (_ : Unit) => r = iI (m_readIn g)) (fun _ _ => True) (fun q => s.heap.size ≤ q)) [.ref (a 0)].toArray s 0 0 (fun q => s.heap.size ≤ q)) (F0 m 0 ls []) from h9 s.heap [] hP hS
  clear hP hS
  intro H locs hP hS
  have m5 := Wf.m5 hWf
  refine lv_aload_n hx hb dX4_readIn_0 rfl (lv_at hl 0 rfl) ?_
  have s1 := Wf.m9 hWf
  refine va_get (D := D) (ci := 4) (v := .int (iI (g 0 0 9))) (C := RX4) (T := TX4) (N := 19) hx hb hw hin_wsX40 hown hK hP 0 pw_0 rfl 9 (by decide) (hw _ kw_25) (fun _ h9 => h9) rfl dX4_readIn_1 ?_
  refine lv_iconst (v := iI 1) hx hb dX4_readIn_4 (by decide) ?_
  refine n_icmp_eq hx hb (by unfold RI; omega) (by unfold RI; omega) (tgt := 10) dX4_readIn_5 (by decide) (fun h2 => ?_) (fun h2 => ?_)
  · skip
    refine lv_iconst (v := iI 0) hx hb dX4_readIn_10 (by decide) ?_
    refine lv_istore_n (lv' := [(1, .int (iI 0)), (0, .ref (a 0))]) hx hb dX4_readIn_11 rfl hl (by decide) rfl (fun ls hl => ?_)
    refine lv_iconst (v := iI 0) hx hb dX4_readIn_12 (by decide) ?_
    refine lv_istore_n (lv' := [(2, .int (iI 0)), (1, .int (iI 0)), (0, .ref (a 0))]) hx hb dX4_readIn_13 rfl hl (by decide) rfl (fun ls hl => ?_)
    have loop14 : ∀ (d n : Nat) (x1 : Int) (H : Heap) (locs : List Loc) (ls : Array Slot), n + d = (g 0 0 5).toNat → x1 = m_fo (fun j d => max d (m_daysLeft g j)) 0 n → (0 ≤ x1 ∧ x1 ≤ 10000) → va_P D vwCl (pw a cH cB cJ cI g vt) H → va_S (fun q => s.heap.size ≤ q) s.heap H locs → lv_has ls 3 [(2, .int (iI ((n : Nat) : Int))), (1, .int (iI x1)), (0, .ref (a 0))] → W p l e (headSpec (wc yX4_readIn cX4_readIn 3 (some .int)) ({ frames := 3, cells := 0, slots := 0, locals := 56 })).room s m [.ref (a 0)].toArray below meth c H locs 0 0 (MQ below (va_Qi (fun (r : Int32) (_ : Unit) => r = iI (m_readIn g)) (fun _ _ => True) (fun q => s.heap.size ≤ q)) [.ref (a 0)].toArray s 0 0 (fun q => s.heap.size ≤ q)) (F0 m 14 ls []) := by
      intro d
      induction d with
      | zero =>
        intro n x1 H locs ls hn hx1 hxb hP hS hl
        obtain rfl : n = (g 0 0 5).toNat := by omega
        refine lv_iload_n hx hb dX4_readIn_14 rfl (lv_at hl 0 rfl) ?_
        refine lv_aload_n hx hb dX4_readIn_15 rfl (lv_at hl 2 rfl) ?_
        have s3 := Wf.m5 hWf
        refine va_get (D := D) (ci := 4) (v := .int (iI (g 0 0 5))) (C := RX4) (T := TX4) (N := 19) hx hb hw hin_wsX40 hown hK hP 0 pw_0 rfl 5 (by decide) (hw _ kw_81) (fun _ h9 => h9) rfl dX4_readIn_16 ?_
        refine n_icmp_ge hx hb (by unfold RI; omega) (by unfold RI; omega) (tgt := 42) dX4_readIn_19 (by decide) (fun h4 => ?_) (fun h4 => absurd h4 (by intro h4; omega))
        refine lv_iload_n hx hb dX4_readIn_42 rfl (lv_at hl 1 rfl) ?_
        exact W.iret (v := (iI x1)) hx hb hr (fun t ht hW9 => ⟨⟨(iI x1), (), rfl, (congrArg iI (by unfold m_readIn; first | rw [if_neg (by assumption)] | (rw [if_pos (by assumption), hx1]))), trivial⟩, hS.F ht⟩) hS.2.2 dX4_readIn_43
      | succ d ih14 =>
        intro n x1 H locs ls hn hx1 hxb hP hS hl
        refine lv_iload_n hx hb dX4_readIn_14 rfl (lv_at hl 0 rfl) ?_
        refine lv_aload_n hx hb dX4_readIn_15 rfl (lv_at hl 2 rfl) ?_
        have s5 := Wf.m5 hWf
        refine va_get (D := D) (ci := 4) (v := .int (iI (g 0 0 5))) (C := RX4) (T := TX4) (N := 19) hx hb hw hin_wsX40 hown hK hP 0 pw_0 rfl 5 (by decide) (hw _ kw_81) (fun _ h9 => h9) rfl dX4_readIn_16 ?_
        refine n_icmp_ge hx hb (by unfold RI; omega) (by unfold RI; omega) (tgt := 42) dX4_readIn_19 (by decide) (fun h6 => absurd h6 (by intro h6; omega)) (fun h6 => ?_)
        refine lv_iload_n hx hb dX4_readIn_22 rfl (lv_at hl 1 rfl) ?_
        refine lv_aload_n hx hb dX4_readIn_23 rfl (lv_at hl 2 rfl) ?_
        refine va_get (D := D) (ci := 4) (v := .ref (a 3)) (C := RX4) (T := TX4) (N := 19) hx hb hw hin_wsX40 hown hK hP 0 pw_0 rfl 2 (by decide) (hw _ kw_19) (fun _ h9 => h9) rfl dX4_readIn_24 ?_
        refine lv_iload_n hx hb dX4_readIn_27 rfl (lv_at hl 0 rfl) ?_
        refine p_aldJ hx hb hK hP (k := ((n : Nat) : Int)) (by omega) (by omega) dX4_readIn_28 ?_
        refine va_calli (va_runV (As := []) (rest := [.int (iI x1)]) ⟨hx, hb, hml, hown, hw⟩ (c_daysLeft l D a cH cB cJ cI ha g vt H.size ((n : Nat) : Int) hWf (by omega)) (cwV 0 hw (gA_V kw_307 kw_308 kw_309 kw_34 kw_310) rfl rfl rfl (by decide +kernel) ⟨Nat.le_of_ble_eq_true rfl, Nat.le_of_ble_eq_true rfl⟩) (pS_v (ci := 2) (q0 := (28 + 6 * ((n : Nat) : Int).toNat)) rfl (pw_J (j := ((n : Nat) : Int)) (by omega) (by omega)) hP hK hE) rfl rfl hl.1 rfl (lv_room (Nat.le_of_ble_eq_true rfl)) dX4_readIn_29 ⟨Nat.le_of_ble_eq_true rfl, Nat.le_of_ble_eq_true rfl⟩) hS (fun q h1 h2 => ro_A h1 h2) (fun q h => ro_F hS hA q h) (fun r u t H1 locs ht hvm hw9 hB9 hz1 hk1 hS => ?_)
        have hw9 : r = (iI (m_daysLeft g ((n : Nat) : Int))) := hw9
        subst hw9
        have hP := ro_P hP hk1
        generalize H1 = H at hP hS ⊢
        have s7 := days_b g ((n : Nat) : Int)
        refine va_mmax hx hb (hml.trans hl.1.symm) hown (hw _ kw_306) (hw _ kw_5) (hw _ kw_6) (hw _ kw_7) (Nat.le_of_ble_eq_true rfl) (Nat.le_of_ble_eq_true rfl) (Nat.le_of_ble_eq_true rfl) (Nat.le_of_ble_eq_true rfl) dX4_readIn_32 ?_
        rw [n_max (by unfold RI; omega) (by unfold RI; omega)]
        refine lv_istore_n (lv' := [(1, .int (iI (max x1 (m_daysLeft g ((n : Nat) : Int))))), (2, .int (iI ((n : Nat) : Int))), (0, .ref (a 0))]) hx hb dX4_readIn_35 rfl hl (by decide) rfl (fun ls hl => ?_)
        refine n_inc (lv' := [(2, .int (iI (((n : Nat) : Int) + 1))), (1, .int (iI (max x1 (m_daysLeft g ((n : Nat) : Int))))), (0, .ref (a 0))]) hx hb dX4_readIn_36 hl (k := 1) rfl (by decide) rfl (fun ls hl => ?_)
        refine lv_goto (tgt := 14) hx hb dX4_readIn_39 (by decide) ?_
        have hl : lv_has ls 3 [(2, .int (iI (((n : Nat) : Int) + 1))), (1, .int (iI (max x1 (m_daysLeft g ((n : Nat) : Int))))), (0, .ref (a 0))] := lv_sub hl [0, 1, 2] rfl
        have e8 : (((n : Nat) : Int) + 1) = (((n + 1) : Nat) : Int) := by rfl
        have hl : lv_has ls 3 [(2, .int (iI (((n + 1) : Nat) : Int))), (1, .int (iI (max x1 (m_daysLeft g ((n : Nat) : Int))))), (0, .ref (a 0))] := lv_cast hl (by rw [e8])
        exact ih14 (n + 1) (max x1 (m_daysLeft g ((n : Nat) : Int))) H locs ls (by omega) (by rw [hx1]; rfl) (by omega) hP hS hl
    have hl : lv_has ls 3 [(2, .int (iI 0)), (1, .int (iI 0)), (0, .ref (a 0))] := lv_sub hl [0, 1, 2] rfl
    have hl : lv_has ls 3 [(2, .int (iI ((0 : Nat) : Int))), (1, .int (iI 0)), (0, .ref (a 0))] := hl
    exact loop14 ((g 0 0 5).toNat) 0 0 H locs ls (by omega) rfl (by omega) hP hS hl
  · skip
    refine lv_iconst (v := iI (-1)) hx hb dX4_readIn_8 (by decide) ?_
    exact W.iret (v := (iI (-1))) hx hb hr (fun t ht hW9 => ⟨⟨(iI (-1)), (), rfl, (congrArg iI (by unfold m_readIn; first | rw [if_neg (by assumption)] | (rw [if_pos (by assumption), hx1]))), trivial⟩, hS.F ht⟩) hS.2.2 dX4_readIn_9
set_option maxHeartbeats 4000000 in
set_option maxRecDepth 100000 in
theorem c_wouldMiss (l : Launch) (D : va_G) (a : Nat → Nat) (cH cB cJ cI : ClassId) (ha : pj a) (g : m_St) (vt : Nat → Int32) (sz : Nat) (dd : Int) (hWf : Wf g) (hdd : 1 ≤ dd ∧ dd ≤ 60) : Met l yX4_wouldMiss (wc yX4_wouldMiss cX4_wouldMiss 4 (some .int)) ({ frames := 2, cells := 0, slots := 0, locals := 42 }) (va_Pc [.ref (a 0), .int (iI dd)] (pS D a cH cB cJ cI sz g vt)) (va_Qi (fun (r : Int32) (_ : Unit) => r = iI (m_wouldMiss g dd)) (fun _ _ => True) (fun q => sz ≤ q)) 0 0 (fun q => sz ≤ q) := by
  refine Met.ofW (cc := cX4_wouldMiss) (maxL := 4) (ret := (some .int)) (by decide +kernel) rfl ?_
  intro p e s m args below meth c s₁ B9 hml hv
  obtain ⟨rfl, hsz, hP, hK, hE⟩ := hv
  have hx := B9.exec
  have hb := B9.bytes
  have hr := B9.returns
  have hts := atoms_spec (ws := (wc yX4_wouldMiss cX4_wouldMiss 4 (some .int))) B9.pre
  have hw : ∀ w ∈ wsL_law0, w.before [.ref (a 0), .int (iI dd)].toArray s = true := fun w h => hts w (List.mem_cons_of_mem _ h)
  have hown : s.vm.findClass RX4 = some m.cls := findClass_of_methodNamed B9.named
  subst hsz
  have hS : va_S (fun q => s.heap.size ≤ q) s.heap s.heap [] := va_S.rf
  have hA : ∀ q : Nat, s.heap.size ≤ q → (fun q : Nat => s.heap.size ≤ q) q := fun _ h => h
  have hl := lv_entry ([.ref (a 0), .int (iI dd)]) (n := 4) (Nat.le_of_ble_eq_true rfl)
  rw [lg_entry_eq]
  generalize (lg_sl ([.ref (a 0), .int (iI dd)]) ++ List.replicate (4 - (lg_sl ([.ref (a 0), .int (iI dd)])).length) Slot.unset).toArray = ls at hl ⊢
  have hl : lv_has ls 4 [(0, .ref (a 0)), (1, .int (iI dd))] := hl
  suffices h9 : ∀ (H : Heap) (locs : List Loc), va_P D vwCl (pw a cH cB cJ cI g vt) H → va_S (fun q => s.heap.size ≤ q) s.heap H locs → W p l e (headSpec (wc yX4_wouldMiss cX4_wouldMiss 4 (some .int)) ({ frames := 2, cells := 0, slots := 0, locals := 42 })).room s m [.ref (a 0), .int (iI dd)].toArray below meth c H locs 0 0 (MQ below (va_Qi (fun (r : Int32) (_ : Unit) => r = iI (m_wouldMiss g dd)) (fun _ _ => True) (fun q => s.heap.size ≤ q)) [.ref (a 0), .int (iI dd)].toArray s 0 0 (fun q => s.heap.size ≤ q)) (F0 m 0 ls []) from h9 s.heap [] hP hS
  clear hP hS
  intro H locs hP hS
  have m4 := Wf.m4 hWf
  refine lv_iload_n hx hb dX4_wouldMiss_0 rfl (lv_at hl 1 rfl) ?_
  refine lv_iconst (v := iI 1) hx hb dX4_wouldMiss_1 (by decide) ?_
  refine lv_bipush (v := iI 60) hx hb dX4_wouldMiss_2 (by decide) ?_
  refine va_calli (va_runS (As := [.int (iI dd), .int (iI 1), .int (iI 60)]) (rest := []) ⟨hx, hb, hml, hown, hw⟩ (c_isWithin l D a cH cB cJ cI ha g vt H.size dd 1 60 (by omega) (by omega) (by omega)) (va_cwS 3 hw (gA_S kw_82 kw_83 kw_2 kw_84) rfl rfl rfl (by decide +kernel) ⟨Nat.le_of_ble_eq_true rfl, Nat.le_of_ble_eq_true rfl⟩) (pS_s hP hK hE) rfl rfl hl.1 rfl (lv_room (Nat.le_of_ble_eq_true rfl)) dX4_wouldMiss_4 ⟨Nat.le_of_ble_eq_true rfl, Nat.le_of_ble_eq_true rfl⟩) hS (fun q h1 h2 => ro_A h1 h2) (fun q h => ro_F hS hA q h) (fun r u t H1 locs ht hvm hw9 hB9 hz1 hk1 hS => ?_)
  have hw9 : r = (bi (decide (1 ≤ dd ∧ dd ≤ 60))) := hw9
  subst hw9
  have hP := ro_P hP hk1
  generalize H1 = H at hP hS ⊢
  refine n_b_ne hx hb (tgt := 20) dX4_wouldMiss_7 (by decide) (fun h1 => ?_) (fun h1 => absurd h1 (by intro h1; have h1 := of_decide_eq_false h1; omega))
  have h1 := of_decide_eq_true h1
  refine lv_iconst (v := iI 0) hx hb dX4_wouldMiss_20 (by decide) ?_
  refine lv_istore_n (lv' := [(2, .int (iI 0)), (0, .ref (a 0)), (1, .int (iI dd))]) hx hb dX4_wouldMiss_21 rfl hl (by decide) rfl (fun ls hl => ?_)
  refine lv_iconst (v := iI 0) hx hb dX4_wouldMiss_22 (by decide) ?_
  refine lv_istore_n (lv' := [(3, .int (iI 0)), (2, .int (iI 0)), (0, .ref (a 0)), (1, .int (iI dd))]) hx hb dX4_wouldMiss_23 rfl hl (by decide) rfl (fun ls hl => ?_)
  have loop24 : ∀ (d n : Nat) (H : Heap) (locs : List Loc) (ls : Array Slot), n + d = (g 0 0 4).toNat → va_P D vwCl (pw a cH cB cJ cI g vt) H → va_S (fun q => s.heap.size ≤ q) s.heap H locs → lv_has ls 4 [(3, .int (iI ((n : Nat) : Int))), (2, .int (iI (m_sm (fun b => max 0 (m_asked g b * dd - g 2 b 8)) n))), (0, .ref (a 0)), (1, .int (iI dd))] → W p l e (headSpec (wc yX4_wouldMiss cX4_wouldMiss 4 (some .int)) ({ frames := 2, cells := 0, slots := 0, locals := 42 })).room s m [.ref (a 0), .int (iI dd)].toArray below meth c H locs 0 0 (MQ below (va_Qi (fun (r : Int32) (_ : Unit) => r = iI (m_wouldMiss g dd)) (fun _ _ => True) (fun q => s.heap.size ≤ q)) [.ref (a 0), .int (iI dd)].toArray s 0 0 (fun q => s.heap.size ≤ q)) (F0 m 24 ls []) := by
    intro d
    induction d with
    | zero =>
      intro n H locs ls hn hP hS hl
      obtain rfl : n = (g 0 0 4).toNat := by omega
      refine lv_iload_n hx hb dX4_wouldMiss_24 rfl (lv_at hl 0 rfl) ?_
      refine lv_aload_n hx hb dX4_wouldMiss_25 rfl (lv_at hl 2 rfl) ?_
      have s2 := Wf.m4 hWf
      refine va_get (D := D) (ci := 4) (v := .int (iI (g 0 0 4))) (C := RX4) (T := TX4) (N := 19) hx hb hw hin_wsX40 hown hK hP 0 pw_0 rfl 4 (by decide) (hw _ kw_98) (fun _ h9 => h9) rfl dX4_wouldMiss_26 ?_
      refine n_icmp_ge hx hb (by unfold RI; omega) (by unfold RI; omega) (tgt := 62) dX4_wouldMiss_29 (by decide) (fun h3 => ?_) (fun h3 => absurd h3 (by intro h3; omega))
      refine lv_iload_n hx hb dX4_wouldMiss_62 rfl (lv_at hl 1 rfl) ?_
      exact W.iret (v := (iI (m_sm (fun b => max 0 (m_asked g b * dd - g 2 b 8)) ((g 0 0 4).toNat)))) hx hb hr (fun t ht hW9 => ⟨⟨(iI (m_sm (fun b => max 0 (m_asked g b * dd - g 2 b 8)) ((g 0 0 4).toNat))), (), rfl, (congrArg iI (by rfl)), trivial⟩, hS.F ht⟩) hS.2.2 dX4_wouldMiss_63
    | succ d ih24 =>
      intro n H locs ls hn hP hS hl
      refine lv_iload_n hx hb dX4_wouldMiss_24 rfl (lv_at hl 0 rfl) ?_
      refine lv_aload_n hx hb dX4_wouldMiss_25 rfl (lv_at hl 2 rfl) ?_
      have s4 := Wf.m4 hWf
      refine va_get (D := D) (ci := 4) (v := .int (iI (g 0 0 4))) (C := RX4) (T := TX4) (N := 19) hx hb hw hin_wsX40 hown hK hP 0 pw_0 rfl 4 (by decide) (hw _ kw_98) (fun _ h9 => h9) rfl dX4_wouldMiss_26 ?_
      refine n_icmp_ge hx hb (by unfold RI; omega) (by unfold RI; omega) (tgt := 62) dX4_wouldMiss_29 (by decide) (fun h5 => absurd h5 (by intro h5; omega)) (fun h5 => ?_)
      refine lv_iload_n hx hb dX4_wouldMiss_32 rfl (lv_at hl 1 rfl) ?_
      refine lv_iconst (v := iI 0) hx hb dX4_wouldMiss_33 (by decide) ?_
      refine lv_aload_n hx hb dX4_wouldMiss_34 rfl (lv_at hl 2 rfl) ?_
      refine lv_iload_n hx hb dX4_wouldMiss_35 rfl (lv_at hl 0 rfl) ?_
      refine va_calli (va_runV (As := [.int (iI ((n : Nat) : Int))]) (rest := [.int (iI 0), .int (iI (m_sm (fun b => max 0 (m_asked g b * dd - g 2 b 8)) n))]) ⟨hx, hb, hml, hown, hw⟩ (c_askedInDay l D a cH cB cJ cI ha g vt H.size ((n : Nat) : Int) hWf (by omega)) (cwV 1 hw (gA_V kw_467 kw_468 kw_469 kw_2 kw_470) rfl rfl rfl (by decide +kernel) ⟨Nat.le_of_ble_eq_true rfl, Nat.le_of_ble_eq_true rfl⟩) (pS_v (ci := 4) (q0 := 0) rfl pw_0 hP hK hE) rfl rfl hl.1 rfl (lv_room (Nat.le_of_ble_eq_true rfl)) dX4_wouldMiss_36 ⟨Nat.le_of_ble_eq_true rfl, Nat.le_of_ble_eq_true rfl⟩) hS (fun q h1 h2 => ro_A h1 h2) (fun q h => ro_F hS hA q h) (fun r u t H1 locs ht hvm hw9 hB9 hz1 hk1 hS => ?_)
      have hw9 : r = (iI (m_asked g ((n : Nat) : Int))) := hw9
      subst hw9
      have hP := ro_P hP hk1
      generalize H1 = H at hP hS ⊢
      have s6 := asked_b g ((n : Nat) : Int)
      have hmul := mul_b (asked_b g ↑n) hdd
      refine lv_iload_n hx hb dX4_wouldMiss_39 rfl (lv_at hl 3 rfl) ?_
      refine n_mul hx hb dX4_wouldMiss_40 ?_
      refine lv_aload_n hx hb dX4_wouldMiss_41 rfl (lv_at hl 2 rfl) ?_
      refine va_get (D := D) (ci := 4) (v := .ref (a 2)) (C := RX4) (T := TX4) (N := 19) hx hb hw hin_wsX40 hown hK hP 0 pw_0 rfl 1 (by decide) (hw _ kw_17) (fun _ h9 => h9) rfl dX4_wouldMiss_42 ?_
      refine lv_iload_n hx hb dX4_wouldMiss_45 rfl (lv_at hl 0 rfl) ?_
      refine p_aldB hx hb hK hP (k := ((n : Nat) : Int)) (by omega) (by omega) dX4_wouldMiss_46 ?_
      have s7 := Wf.b8 hWf (k := ((n : Nat) : Int)) (by omega) (by omega)
      refine va_get (D := D) (ci := 0) (v := .int (iI (g 2 ((n : Nat) : Int) 8))) (C := RX0) (T := TX0) (N := 11) hx hb hw hin_wsX00 hown hK hP (12 + ((n : Nat) : Int).toNat) (pw_B (b := ((n : Nat) : Int)) (by omega) (by omega)) rfl 8 (by decide) (hw _ kw_212) (fun _ h9 => h9) rfl dX4_wouldMiss_47 ?_
      refine n_sub hx hb dX4_wouldMiss_50 ?_
      refine va_mmax hx hb (hml.trans hl.1.symm) hown (hw _ kw_306) (hw _ kw_5) (hw _ kw_6) (hw _ kw_7) (Nat.le_of_ble_eq_true rfl) (Nat.le_of_ble_eq_true rfl) (Nat.le_of_ble_eq_true rfl) (Nat.le_of_ble_eq_true rfl) dX4_wouldMiss_51 ?_
      rw [n_max (by unfold RI; omega) (by unfold RI; omega)]
      refine n_add hx hb dX4_wouldMiss_54 ?_
      refine lv_istore_n (lv' := [(2, .int (iI ((m_sm (fun b => max 0 (m_asked g b * dd - g 2 b 8)) n) + (max 0 (((m_asked g ((n : Nat) : Int)) * dd) - g 2 ((n : Nat) : Int) 8))))), (3, .int (iI ((n : Nat) : Int))), (0, .ref (a 0)), (1, .int (iI dd))]) hx hb dX4_wouldMiss_55 rfl hl (by decide) rfl (fun ls hl => ?_)
      refine n_inc (lv' := [(3, .int (iI (((n : Nat) : Int) + 1))), (2, .int (iI ((m_sm (fun b => max 0 (m_asked g b * dd - g 2 b 8)) n) + (max 0 (((m_asked g ((n : Nat) : Int)) * dd) - g 2 ((n : Nat) : Int) 8))))), (0, .ref (a 0)), (1, .int (iI dd))]) hx hb dX4_wouldMiss_56 hl (k := 1) rfl (by decide) rfl (fun ls hl => ?_)
      refine lv_goto (tgt := 24) hx hb dX4_wouldMiss_59 (by decide) ?_
      have hl : lv_has ls 4 [(3, .int (iI (((n : Nat) : Int) + 1))), (2, .int (iI ((m_sm (fun b => max 0 (m_asked g b * dd - g 2 b 8)) n) + (max 0 (((m_asked g ((n : Nat) : Int)) * dd) - g 2 ((n : Nat) : Int) 8))))), (0, .ref (a 0)), (1, .int (iI dd))] := lv_sub hl [0, 1, 2, 3] rfl
      have e8 : (((n : Nat) : Int) + 1) = (((n + 1) : Nat) : Int) := by rfl
      have e9 : ((m_sm (fun b => max 0 (m_asked g b * dd - g 2 b 8)) n) + (max 0 (((m_asked g ((n : Nat) : Int)) * dd) - g 2 ((n : Nat) : Int) 8))) = (m_sm (fun b => max 0 (m_asked g b * dd - g 2 b 8)) (n + 1)) := by rfl
      have hl : lv_has ls 4 [(3, .int (iI (((n + 1) : Nat) : Int))), (2, .int (iI (m_sm (fun b => max 0 (m_asked g b * dd - g 2 b 8)) (n + 1)))), (0, .ref (a 0)), (1, .int (iI dd))] := lv_cast hl (by rw [e8, e9])
      exact ih24 (n + 1) H locs ls (by omega) hP hS hl
  have hl : lv_has ls 4 [(3, .int (iI 0)), (2, .int (iI 0)), (0, .ref (a 0)), (1, .int (iI dd))] := lv_sub hl [0, 1, 2, 3] rfl
  have hl : lv_has ls 4 [(3, .int (iI ((0 : Nat) : Int))), (2, .int (iI (m_sm (fun b => max 0 (m_asked g b * dd - g 2 b 8)) 0))), (0, .ref (a 0)), (1, .int (iI dd))] := hl
  exact loop24 ((g 0 0 4).toNat) 0 H locs ls (by omega) hP hS hl

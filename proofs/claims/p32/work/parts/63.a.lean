set_option maxHeartbeats 4000000 in
set_option maxRecDepth 100000 in
theorem c_readJ (l : Launch) (D : va_G) (a : Nat → Nat) (cH cB cJ cI : ClassId) (ha : pj a) (g : m_St) (vt : Nat → Int32) (sz : Nat) (jj : Int) (hWf : Wf g) (hjj : 0 ≤ jj ∧ jj < 5) : Met l yX2_readForDay (wc yX2_readForDay cX2_readForDay 4 (some .int)) ({ frames := 2, cells := 0, slots := 0, locals := 37 }) (va_Pc [.ref (a (28 + 6 * jj.toNat)), .ref (a 2)] (pS D a cH cB cJ cI sz g vt)) (va_Qi (fun (r : Int32) (_ : Unit) => r = iI (m_readJ g jj 3 jj 9 - g 3 jj 9)) (fun _ t => ∃ vt1 : Nat → Int32, va_P D vwCl (pw a cH cB cJ cI (m_readJ g jj) vt1) t.heap) (pA a sz)) 0 0 (pA a sz) := by
  refine Met.ofW (cc := cX2_readForDay) (maxL := 4) (ret := (some .int)) (by decide +kernel) rfl ?_
  intro p e s m args below meth c s₁ B9 hml hv
  obtain ⟨rfl, hsz, hP, hK, hE⟩ := hv
  have hx := B9.exec
  have hb := B9.bytes
  have hr := B9.returns
  have hts := atoms_spec (ws := (wc yX2_readForDay cX2_readForDay 4 (some .int))) B9.pre
  have hw : ∀ w ∈ wsL_law0, w.before [.ref (a (28 + 6 * jj.toNat)), .ref (a 2)].toArray s = true := fun w h => hts w (List.mem_cons_of_mem _ h)
  have hown : s.vm.findClass RX2 = some m.cls := findClass_of_methodNamed B9.named
  subst hsz
  have hS : va_S (pA a s.heap.size) s.heap s.heap [] := va_S.rf
  have hA : ∀ q : Nat, s.heap.size ≤ q → pA a s.heap.size q := fun _ h => pA_new h
  have hB : ∀ k, k < 58 → pA a s.heap.size (a k) := fun _ h => pA_in h
  have hl := lv_entry ([.ref (a (28 + 6 * jj.toNat)), .ref (a 2)]) (n := 4) (Nat.le_of_ble_eq_true rfl)
  rw [lg_entry_eq]
  generalize (lg_sl ([.ref (a (28 + 6 * jj.toNat)), .ref (a 2)]) ++ List.replicate (4 - (lg_sl ([.ref (a (28 + 6 * jj.toNat)), .ref (a 2)])).length) Slot.unset).toArray = ls at hl ⊢
  have hl : lv_has ls 4 [(0, .ref (a (28 + 6 * jj.toNat))), (1, .ref (a 2))] := hl
  suffices h9 : ∀ (H : Heap) (locs : List Loc), va_P D vwCl (pw a cH cB cJ cI g vt) H → va_S (pA a s.heap.size) s.heap H locs → W p l e (headSpec (wc yX2_readForDay cX2_readForDay 4 (some .int)) ({ frames := 2, cells := 0, slots := 0, locals := 37 })).room s m [.ref (a (28 + 6 * jj.toNat)), .ref (a 2)].toArray below meth c H locs 0 0 (MQ below (va_Qi (fun (r : Int32) (_ : Unit) => r = iI (m_readJ g jj 3 jj 9 - g 3 jj 9)) (fun _ t => ∃ vt1 : Nat → Int32, va_P D vwCl (pw a cH cB cJ cI (m_readJ g jj) vt1) t.heap) (pA a s.heap.size)) [.ref (a (28 + 6 * jj.toNat)), .ref (a 2)].toArray s 0 0 (pA a s.heap.size)) (F0 m 0 ls []) from h9 s.heap [] hP hS
  clear hP hS
  intro H locs hP hS
  have j0 := Wf.j0 hWf (k := jj) (by omega) (by omega)
  have j10 := Wf.j10 hWf (k := jj) (by omega) (by omega)
  have j8 := Wf.j8 hWf (k := jj) (by omega) (by omega)
  refine lv_aload_n hx hb dX2_readForDay_0 rfl (lv_at hl 0 rfl) ?_
  refine lv_dup hx hb dX2_readForDay_1 rfl ?_
  have s1 := Wf.j10 hWf (k := jj) (by omega) (by omega)
  refine va_get (D := D) (ci := 2) (v := .int (iI (g 3 jj 10))) (C := RX2) (T := TX2) (N := 16) hx hb hw hin_wsX20 hown hK hP (28 + 6 * jj.toNat) (pw_J (j := jj) (by omega) (by omega)) rfl 10 (by decide) (hw _ kw_187) (fun _ h9 => h9) rfl dX2_readForDay_2 ?_
  refine lv_aload_n hx hb dX2_readForDay_5 rfl (lv_at hl 0 rfl) ?_
  refine lv_aload_n hx hb dX2_readForDay_6 rfl (lv_at hl 0 rfl) ?_
  refine va_get (D := D) (ci := 2) (v := .int (iI (g 3 jj 10))) (C := RX2) (T := TX2) (N := 16) hx hb hw hin_wsX20 hown hK hP (28 + 6 * jj.toNat) (pw_J (j := jj) (by omega) (by omega)) rfl 10 (by decide) (hw _ kw_187) (fun _ h9 => h9) rfl dX2_readForDay_7 ?_
  refine va_calli (va_runV (As := [.int (iI (g 3 jj 10))]) (rest := [.int (iI (g 3 jj 10)), .ref (a (28 + 6 * jj.toNat))]) ⟨hx, hb, hml, hown, hw⟩ (c_paceAfter l D a cH cB cJ cI ha g vt H.size jj (g 3 jj 10) hWf (by omega) (by omega)) (cwV 1 hw (gA_V kw_311 kw_312 kw_313 kw_34 kw_314) rfl rfl rfl (by decide +kernel) ⟨Nat.le_of_ble_eq_true rfl, Nat.le_of_ble_eq_true rfl⟩) (pS_v (ci := 2) (q0 := (28 + 6 * jj.toNat)) rfl (pw_J (j := jj) (by omega) (by omega)) hP hK hE) rfl rfl hl.1 rfl (lv_room (Nat.le_of_ble_eq_true rfl)) dX2_readForDay_10 ⟨Nat.le_of_ble_eq_true rfl, Nat.le_of_ble_eq_true rfl⟩) hS (fun q h1 h2 => ro_A h1 h2) (fun q h => ro_F hS hA q h) (fun r u t H1 locs ht hvm hw9 hB9 hz1 hk1 hS => ?_)
  have hw9 : r = (iI (m_pace (g 3 jj 0) (g 3 jj 10))) := hw9
  subst hw9
  have hP := ro_P hP hk1
  generalize H1 = H at hP hS ⊢
  have s2 := pace_b (sp := g 3 jj 0) (p := (g 3 jj 10)) (Wf.j0 hWf (k := jj) (by omega) (by omega)).2 (by omega)
  refine lv_aload_n hx hb dX2_readForDay_13 rfl (lv_at hl 0 rfl) ?_
  refine va_calli (va_runV (As := []) (rest := [.int (iI (m_pace (g 3 jj 0) (g 3 jj 10))), .int (iI (g 3 jj 10)), .ref (a (28 + 6 * jj.toNat))]) ⟨hx, hb, hml, hown, hw⟩ (c_pagesLeft l D a cH cB cJ cI ha g vt H.size jj hWf (by omega)) (cwV 0 hw (gA_V kw_484 kw_183 kw_184 kw_34 kw_185) rfl rfl rfl (by decide +kernel) ⟨Nat.le_of_ble_eq_true rfl, Nat.le_of_ble_eq_true rfl⟩) (pS_v (ci := 2) (q0 := (28 + 6 * jj.toNat)) rfl (pw_J (j := jj) (by omega) (by omega)) hP hK hE) rfl rfl hl.1 rfl (lv_room (Nat.le_of_ble_eq_true rfl)) dX2_readForDay_14 ⟨Nat.le_of_ble_eq_true rfl, Nat.le_of_ble_eq_true rfl⟩) hS (fun q h1 h2 => ro_A h1 h2) (fun q h => ro_F hS hA q h) (fun r u t H1 locs ht hvm hw9 hB9 hz1 hk1 hS => ?_)
  have hw9 : r = (iI (m_pagesLeft g jj)) := hw9
  subst hw9
  have hP := ro_P hP hk1
  generalize H1 = H at hP hS ⊢
  have s3 := left_b hWf (jj := jj) (by omega)
  refine va_mmin hx hb (hml.trans hl.1.symm) hown (hw _ kw_483) (hw _ kw_275) (hw _ kw_6) (hw _ kw_276) (Nat.le_of_ble_eq_true rfl) (Nat.le_of_ble_eq_true rfl) (Nat.le_of_ble_eq_true rfl) (Nat.le_of_ble_eq_true rfl) dX2_readForDay_17 ?_
  rw [n_min (by unfold RI; omega) (by unfold RI; omega)]
  refine n_add hx hb dX2_readForDay_20 ?_
  refine va_put (D := D) (ci := 2) (v := .int (iI (g 3 jj 10 + (min (m_pace (g 3 jj 0) (g 3 jj 10)) (m_pagesLeft g jj))))) (C := RX2) (T := TX2) (N := 16) (ty := .int) hx hb hw hin_wsX20 tyX2 tyX2_ok nmX2 hown hK hP (pw_D ha (fun k hk => pA_in hk)) hS (28 + 6 * jj.toNat) (pw_J (j := jj) (by omega) (by omega)) rfl 10 (by decide) (hw _ kw_187) (fun _ h9 => h9) rfl (tyX2_ok 10 (by decide)) rfl rfl (show 10 < 16 from by decide) dX2_readForDay_21 (fun H locs hP _ hS => ?_)
  rw [pw_setJ (by omega) (by omega) (by decide) (by decide) (by decide) (by decide) (by decide) (by decide)] at hP
  have hP : va_P D vwCl (pw a cH cB cJ cI (m_up g 3 jj 10 (g 3 jj 10 + (min (m_pace (g 3 jj 0) (g 3 jj 10)) (m_pagesLeft g jj)))) vt) H := hP
  obtain ⟨g4, hg4⟩ : ∃ z, z = m_up g 3 jj 10 (g 3 jj 10 + (min (m_pace (g 3 jj 0) (g 3 jj 10)) (m_pagesLeft g jj))) := ⟨_, rfl⟩
  rw [← hg4] at hP
  refine lv_aload_n hx hb dX2_readForDay_24 rfl (lv_at hl 0 rfl) ?_
  have e5 : g4 3 jj 9 = g 3 jj 9 := by simp [hg4, m_up]
  have s6 := Wf.j9 hWf (k := jj) (by omega) (by omega)
  refine va_get (D := D) (ci := 2) (v := .int (iI (g 3 jj 9))) (C := RX2) (T := TX2) (N := 16) hx hb hw hin_wsX20 hown hK hP (28 + 6 * jj.toNat) (pw_J (j := jj) (by omega) (by omega)) rfl 9 (by decide) (hw _ kw_247) (fun _ h9 => h9) (by rw [← e5]; rfl) dX2_readForDay_25 ?_
  refine lv_istore_n (lv' := [(2, .int (iI (g 3 jj 9))), (0, .ref (a (28 + 6 * jj.toNat))), (1, .ref (a 2))]) hx hb dX2_readForDay_28 rfl hl (by decide) rfl (fun ls hl => ?_)
  have loop29 : ∀ (d n : Nat) (gq : m_St) (H : Heap) (locs : List Loc) (ls : Array Slot), n + d = 16 → (m_markLoop jj 16 (m_up g 3 jj 10 (g 3 jj 10 + min (m_pace (g 3 jj 0) (g 3 jj 10)) (m_pagesLeft g jj))) = m_markLoop jj d gq) → (Wf gq) → (((n : Nat) : Int) ≤ gq 3 jj 9) → va_P D vwCl (pw a cH cB cJ cI gq vt) H → va_S (pA a s.heap.size) s.heap H locs → lv_has ls 4 [(2, .int (iI (g 3 jj 9))), (0, .ref (a (28 + 6 * jj.toNat))), (1, .ref (a 2))] → W p l e (headSpec (wc yX2_readForDay cX2_readForDay 4 (some .int)) ({ frames := 2, cells := 0, slots := 0, locals := 37 })).room s m [.ref (a (28 + 6 * jj.toNat)), .ref (a 2)].toArray below meth c H locs 0 0 (MQ below (va_Qi (fun (r : Int32) (_ : Unit) => r = iI (m_readJ g jj 3 jj 9 - g 3 jj 9)) (fun _ t => ∃ vt1 : Nat → Int32, va_P D vwCl (pw a cH cB cJ cI (m_readJ g jj) vt1) t.heap) (pA a s.heap.size)) [.ref (a (28 + 6 * jj.toNat)), .ref (a 2)].toArray s 0 0 (pA a s.heap.size)) (F0 m 29 ls []) := by
    intro d
    induction d with
    | zero =>
      intro n gq H locs ls hn hq hWq hk9 hP hS hl
      obtain rfl : n = 16 := by omega
      have q9 := Wf.j9 hWq (k := jj) (by omega) (by omega)
      have q7 := Wf.j7 hWq (k := jj) (by omega) (by omega)
      refine lv_aload_n hx hb dX2_readForDay_29 rfl (lv_at hl 1 rfl) ?_
      have s7 := Wf.j9 hWq (k := jj) (by omega) (by omega)
      refine va_get (D := D) (ci := 2) (v := .int (iI (gq 3 jj 9))) (C := RX2) (T := TX2) (N := 16) hx hb hw hin_wsX20 hown hK hP (28 + 6 * jj.toNat) (pw_J (j := jj) (by omega) (by omega)) rfl 9 (by decide) (hw _ kw_247) (fun _ h9 => h9) rfl dX2_readForDay_30 ?_
      refine lv_aload_n hx hb dX2_readForDay_33 rfl (lv_at hl 1 rfl) ?_
      have s8 := Wf.j7 hWq (k := jj) (by omega) (by omega)
      refine va_get (D := D) (ci := 2) (v := .int (iI (gq 3 jj 7))) (C := RX2) (T := TX2) (N := 16) hx hb hw hin_wsX20 hown hK hP (28 + 6 * jj.toNat) (pw_J (j := jj) (by omega) (by omega)) rfl 7 (by decide) (hw _ kw_333) (fun _ h9 => h9) rfl dX2_readForDay_34 ?_
      refine n_icmp_ge hx hb (by unfold RI; omega) (by unfold RI; omega) (tgt := 107) dX2_readForDay_37 (by decide) (fun h9 => ?_) (fun h9 => absurd h9 (by intro h9; omega))
      refine lv_aload_n hx hb dX2_readForDay_107 rfl (lv_at hl 1 rfl) ?_
      refine va_get (D := D) (ci := 2) (v := .int (iI (gq 3 jj 9))) (C := RX2) (T := TX2) (N := 16) hx hb hw hin_wsX20 hown hK hP (28 + 6 * jj.toNat) (pw_J (j := jj) (by omega) (by omega)) rfl 9 (by decide) (hw _ kw_247) (fun _ h9 => h9) rfl dX2_readForDay_108 ?_
      refine lv_iload_n hx hb dX2_readForDay_111 rfl (lv_at hl 0 rfl) ?_
      refine n_sub hx hb dX2_readForDay_112 ?_
      have hf10 : gq = (m_readJ g jj) := by rw [show m_readJ g jj = m_markLoop jj 16 (m_up g 3 jj 10 (g 3 jj 10 + min (m_pace (g 3 jj 0) (g 3 jj 10)) (m_pagesLeft g jj))) from rfl, hq]; first | rfl | (unfold m_markLoop; rw [if_neg (by omega)])
      rw [hf10] at hP
      exact W.iret (v := (iI (gq 3 jj 9 - g 3 jj 9))) hx hb hr (fun t ht hW9 => ⟨⟨(iI (gq 3 jj 9 - g 3 jj 9)), (), rfl, (congrArg iI (by rw [hf10])), ⟨vt, by rw [ht]; exact hP⟩⟩, hS.F ht⟩) hS.2.2 dX2_readForDay_113
    | succ d ih29 =>
      intro n gq H locs ls hn hq hWq hk9 hP hS hl
      have q9 := Wf.j9 hWq (k := jj) (by omega) (by omega)
      have q7 := Wf.j7 hWq (k := jj) (by omega) (by omega)
      refine lv_aload_n hx hb dX2_readForDay_29 rfl (lv_at hl 1 rfl) ?_
      have s11 := Wf.j9 hWq (k := jj) (by omega) (by omega)
      refine va_get (D := D) (ci := 2) (v := .int (iI (gq 3 jj 9))) (C := RX2) (T := TX2) (N := 16) hx hb hw hin_wsX20 hown hK hP (28 + 6 * jj.toNat) (pw_J (j := jj) (by omega) (by omega)) rfl 9 (by decide) (hw _ kw_247) (fun _ h9 => h9) rfl dX2_readForDay_30 ?_
      refine lv_aload_n hx hb dX2_readForDay_33 rfl (lv_at hl 1 rfl) ?_
      have s12 := Wf.j7 hWq (k := jj) (by omega) (by omega)
      refine va_get (D := D) (ci := 2) (v := .int (iI (gq 3 jj 7))) (C := RX2) (T := TX2) (N := 16) hx hb hw hin_wsX20 hown hK hP (28 + 6 * jj.toNat) (pw_J (j := jj) (by omega) (by omega)) rfl 7 (by decide) (hw _ kw_333) (fun _ h9 => h9) rfl dX2_readForDay_34 ?_
      refine n_icmp_ge hx hb (by unfold RI; omega) (by unfold RI; omega) (tgt := 107) dX2_readForDay_37 (by decide) (fun h13 => ?_) (fun h13 => ?_)
      · skip
        refine lv_aload_n hx hb dX2_readForDay_107 rfl (lv_at hl 1 rfl) ?_
        refine va_get (D := D) (ci := 2) (v := .int (iI (gq 3 jj 9))) (C := RX2) (T := TX2) (N := 16) hx hb hw hin_wsX20 hown hK hP (28 + 6 * jj.toNat) (pw_J (j := jj) (by omega) (by omega)) rfl 9 (by decide) (hw _ kw_247) (fun _ h9 => h9) rfl dX2_readForDay_108 ?_
        refine lv_iload_n hx hb dX2_readForDay_111 rfl (lv_at hl 0 rfl) ?_
        refine n_sub hx hb dX2_readForDay_112 ?_
        have hf14 : gq = (m_readJ g jj) := by rw [show m_readJ g jj = m_markLoop jj 16 (m_up g 3 jj 10 (g 3 jj 10 + min (m_pace (g 3 jj 0) (g 3 jj 10)) (m_pagesLeft g jj))) from rfl, hq]; first | rfl | (unfold m_markLoop; rw [if_neg (by omega)])
        rw [hf14] at hP
        exact W.iret (v := (iI (gq 3 jj 9 - g 3 jj 9))) hx hb hr (fun t ht hW9 => ⟨⟨(iI (gq 3 jj 9 - g 3 jj 9)), (), rfl, (congrArg iI (by rw [hf14])), ⟨vt, by rw [ht]; exact hP⟩⟩, hS.F ht⟩) hS.2.2 dX2_readForDay_113
      · skip
        refine lv_aload_n hx hb dX2_readForDay_40 rfl (lv_at hl 1 rfl) ?_
        refine va_get (D := D) (ci := 2) (v := .ref (a (28 + 2 + 6 * jj.toNat))) (C := RX2) (T := TX2) (N := 16) hx hb hw hin_wsX20 hown hK hP (28 + 6 * jj.toNat) (pw_J (j := jj) (by omega) (by omega)) rfl 6 (by decide) (hw _ kw_55) (fun _ h9 => h9) rfl dX2_readForDay_41 ?_
        refine lv_aload_n hx hb dX2_readForDay_44 rfl (lv_at hl 1 rfl) ?_
        refine va_get (D := D) (ci := 2) (v := .int (iI (gq 3 jj 9))) (C := RX2) (T := TX2) (N := 16) hx hb hw hin_wsX20 hown hK hP (28 + 6 * jj.toNat) (pw_J (j := jj) (by omega) (by omega)) rfl 9 (by decide) (hw _ kw_247) (fun _ h9 => h9) rfl dX2_readForDay_45 ?_
        refine p_rd hx hb hK hP (j := jj) (k := gq 3 jj 9) (r := 2) (by omega) (by omega) (by decide) (by omega) (by rw [if_neg (by decide)]; omega) dX2_readForDay_48 ?_
        have s15 := Wf.r5 hWq (j := jj) (k := gq 3 jj 9) (by omega) (by omega) (by omega) (by omega)
        rw [show gq (3 + 2) jj (gq 3 jj 9) = gq 5 jj (gq 3 jj 9) from rfl]
        refine lv_aload_n hx hb dX2_readForDay_49 rfl (lv_at hl 1 rfl) ?_
        have s16 := Wf.j10 hWq (k := jj) (by omega) (by omega)
        refine va_get (D := D) (ci := 2) (v := .int (iI (gq 3 jj 10))) (C := RX2) (T := TX2) (N := 16) hx hb hw hin_wsX20 hown hK hP (28 + 6 * jj.toNat) (pw_J (j := jj) (by omega) (by omega)) rfl 10 (by decide) (hw _ kw_187) (fun _ h9 => h9) rfl dX2_readForDay_50 ?_
        refine n_icmp_gt hx hb (by unfold RI; omega) (by unfold RI; omega) (tgt := 107) dX2_readForDay_53 (by decide) (fun h17 => ?_) (fun h17 => ?_)
        · skip
          refine lv_aload_n hx hb dX2_readForDay_107 rfl (lv_at hl 1 rfl) ?_
          refine va_get (D := D) (ci := 2) (v := .int (iI (gq 3 jj 9))) (C := RX2) (T := TX2) (N := 16) hx hb hw hin_wsX20 hown hK hP (28 + 6 * jj.toNat) (pw_J (j := jj) (by omega) (by omega)) rfl 9 (by decide) (hw _ kw_247) (fun _ h9 => h9) rfl dX2_readForDay_108 ?_
          refine lv_iload_n hx hb dX2_readForDay_111 rfl (lv_at hl 0 rfl) ?_
          refine n_sub hx hb dX2_readForDay_112 ?_
          have hf18 : gq = (m_readJ g jj) := by rw [show m_readJ g jj = m_markLoop jj 16 (m_up g 3 jj 10 (g 3 jj 10 + min (m_pace (g 3 jj 0) (g 3 jj 10)) (m_pagesLeft g jj))) from rfl, hq]; first | rfl | (unfold m_markLoop; rw [if_neg (by omega)])
          rw [hf18] at hP
          exact W.iret (v := (iI (gq 3 jj 9 - g 3 jj 9))) hx hb hr (fun t ht hW9 => ⟨⟨(iI (gq 3 jj 9 - g 3 jj 9)), (), rfl, (congrArg iI (by rw [hf18])), ⟨vt, by rw [ht]; exact hP⟩⟩, hS.F ht⟩) hS.2.2 dX2_readForDay_113
        · skip
          refine lv_aload_n hx hb dX2_readForDay_56 rfl (lv_at hl 1 rfl) ?_
          refine va_get (D := D) (ci := 2) (v := .ref (a (28 + 1 + 6 * jj.toNat))) (C := RX2) (T := TX2) (N := 16) hx hb hw hin_wsX20 hown hK hP (28 + 6 * jj.toNat) (pw_J (j := jj) (by omega) (by omega)) rfl 5 (by decide) (hw _ kw_54) (fun _ h9 => h9) rfl dX2_readForDay_57 ?_
          refine lv_aload_n hx hb dX2_readForDay_60 rfl (lv_at hl 1 rfl) ?_
          refine va_get (D := D) (ci := 2) (v := .int (iI (gq 3 jj 9))) (C := RX2) (T := TX2) (N := 16) hx hb hw hin_wsX20 hown hK hP (28 + 6 * jj.toNat) (pw_J (j := jj) (by omega) (by omega)) rfl 9 (by decide) (hw _ kw_247) (fun _ h9 => h9) rfl dX2_readForDay_61 ?_
          refine p_rd hx hb hK hP (j := jj) (k := gq 3 jj 9) (r := 1) (by omega) (by omega) (by decide) (by omega) (by rw [if_neg (by decide)]; omega) dX2_readForDay_64 ?_
          have s19 := Wf.r4 hWq (j := jj) (k := gq 3 jj 9) (by omega) (by omega) (by omega) (by omega)
          rw [show gq (3 + 1) jj (gq 3 jj 9) = gq 4 jj (gq 3 jj 9) from rfl]
          refine lv_istore_n (lv' := [(3, .int (iI (gq 4 jj (gq 3 jj 9)))), (2, .int (iI (g 3 jj 9))), (0, .ref (a (28 + 6 * jj.toNat))), (1, .ref (a 2))]) hx hb dX2_readForDay_65 rfl hl (by decide) rfl (fun ls hl => ?_)
          refine lv_aload_n hx hb dX2_readForDay_66 rfl (lv_at hl 2 rfl) ?_
          refine va_get (D := D) (ci := 2) (v := .ref (a (28 + 3 + 6 * jj.toNat))) (C := RX2) (T := TX2) (N := 16) hx hb hw hin_wsX20 hown hK hP (28 + 6 * jj.toNat) (pw_J (j := jj) (by omega) (by omega)) rfl 11 (by decide) (hw _ kw_56) (fun _ h9 => h9) rfl dX2_readForDay_67 ?_
          refine lv_iload_n hx hb dX2_readForDay_70 rfl (lv_at hl 0 rfl) ?_
          refine lv_aload_n hx hb dX2_readForDay_71 rfl (lv_at hl 2 rfl) ?_
          refine lv_aload_n hx hb dX2_readForDay_72 rfl (lv_at hl 3 rfl) ?_
          refine lv_iload_n hx hb dX2_readForDay_73 rfl (lv_at hl 0 rfl) ?_
          refine p_aldB hx hb hK hP (k := gq 4 jj (gq 3 jj 9)) (by omega) (by omega) dX2_readForDay_74 ?_
          refine va_calli (va_runV (As := [.ref (a (12 + (gq 4 jj (gq 3 jj 9)).toNat))]) (rest := [.int (iI (gq 4 jj (gq 3 jj 9))), .ref (a (28 + 3 + 6 * jj.toNat))]) ⟨hx, hb, hml, hown, hw⟩ (c_markFor l D a cH cB cJ cI ha gq vt H.size jj (gq 4 jj (gq 3 jj 9)) hWq (by omega) (by omega)) (cwV 1 hw (gA_V kw_485 kw_486 kw_487 kw_34 kw_488) rfl rfl rfl (by decide +kernel) ⟨Nat.le_of_ble_eq_true rfl, Nat.le_of_ble_eq_true rfl⟩) (pS_v (ci := 2) (q0 := (28 + 6 * jj.toNat)) rfl (pw_J (j := jj) (by omega) (by omega)) hP hK hE) rfl rfl hl.1 rfl (lv_room (Nat.le_of_ble_eq_true rfl)) dX2_readForDay_75 ⟨Nat.le_of_ble_eq_true rfl, Nat.le_of_ble_eq_true rfl⟩) hS (fun q h1 h2 => ro_A h1 h2) (fun q h => ro_F hS hA q h) (fun r u t H1 locs ht hvm hw9 hB9 hz1 hk1 hS => ?_)
          have hw9 : r = (iI (m_markFor gq jj (gq 4 jj (gq 3 jj 9)))) := hw9
          subst hw9
          have hP := ro_P hP hk1
          generalize H1 = H at hP hS ⊢
          have s20 := mark_b gq jj (gq 4 jj (gq 3 jj 9))
          refine p_wr hx hb hK hP (pw_D ha (fun k hk => pA_in hk)) hS (j := jj) (k := gq 4 jj (gq 3 jj 9)) (x := (m_markFor gq jj (gq 4 jj (gq 3 jj 9)))) (r := 3) (by omega) (by omega) (by decide) (by omega) (by rw [if_neg (by decide)]; omega) dX2_readForDay_78 (fun H locs hP hS => ?_)
          have hP : va_P D vwCl (pw a cH cB cJ cI (m_up gq 6 jj (gq 4 jj (gq 3 jj 9)) (m_markFor gq jj (gq 4 jj (gq 3 jj 9)))) vt) H := hP
          obtain ⟨g21, hg21⟩ : ∃ z, z = m_up gq 6 jj (gq 4 jj (gq 3 jj 9)) (m_markFor gq jj (gq 4 jj (gq 3 jj 9))) := ⟨_, rfl⟩
          rw [← hg21] at hP
          refine lv_aload_n hx hb dX2_readForDay_79 rfl (lv_at hl 2 rfl) ?_
          refine lv_dup hx hb dX2_readForDay_80 rfl ?_
          have e22 : g21 3 jj 12 = gq 3 jj 12 := by simp [hg21, m_up]
          have s23 := Wf.j12 hWq (k := jj) (by omega) (by omega)
          refine va_get (D := D) (ci := 2) (v := .int (iI (gq 3 jj 12))) (C := RX2) (T := TX2) (N := 16) hx hb hw hin_wsX20 hown hK hP (28 + 6 * jj.toNat) (pw_J (j := jj) (by omega) (by omega)) rfl 12 (by decide) (hw _ kw_248) (fun _ h9 => h9) (by rw [← e22]; rfl) dX2_readForDay_81 ?_
          refine lv_aload_n hx hb dX2_readForDay_84 rfl (lv_at hl 2 rfl) ?_
          refine va_get (D := D) (ci := 2) (v := .ref (a (28 + 3 + 6 * jj.toNat))) (C := RX2) (T := TX2) (N := 16) hx hb hw hin_wsX20 hown hK hP (28 + 6 * jj.toNat) (pw_J (j := jj) (by omega) (by omega)) rfl 11 (by decide) (hw _ kw_56) (fun _ h9 => h9) rfl dX2_readForDay_85 ?_
          refine lv_iload_n hx hb dX2_readForDay_88 rfl (lv_at hl 0 rfl) ?_
          refine p_rd hx hb hK hP (j := jj) (k := gq 4 jj (gq 3 jj 9)) (r := 3) (by omega) (by omega) (by decide) (by omega) (by rw [if_neg (by decide)]; omega) dX2_readForDay_89 ?_
          have e24 : g21 6 jj (gq 4 jj (gq 3 jj 9)) = (m_markFor gq jj (gq 4 jj (gq 3 jj 9))) := by simp [hg21, m_up]
          rw [show g21 (3 + 3) jj (gq 4 jj (gq 3 jj 9)) = (m_markFor gq jj (gq 4 jj (gq 3 jj 9))) from e24]
          refine n_add hx hb dX2_readForDay_90 ?_
          refine va_put (D := D) (ci := 2) (v := .int (iI (gq 3 jj 12 + (m_markFor gq jj (gq 4 jj (gq 3 jj 9)))))) (C := RX2) (T := TX2) (N := 16) (ty := .int) hx hb hw hin_wsX20 tyX2 tyX2_ok nmX2 hown hK hP (pw_D ha (fun k hk => pA_in hk)) hS (28 + 6 * jj.toNat) (pw_J (j := jj) (by omega) (by omega)) rfl 12 (by decide) (hw _ kw_248) (fun _ h9 => h9) rfl (tyX2_ok 12 (by decide)) rfl rfl (show 12 < 16 from by decide) dX2_readForDay_91 (fun H locs hP _ hS => ?_)
          rw [pw_setJ (by omega) (by omega) (by decide) (by decide) (by decide) (by decide) (by decide) (by decide)] at hP
          have hP : va_P D vwCl (pw a cH cB cJ cI (m_up g21 3 jj 12 (gq 3 jj 12 + (m_markFor gq jj (gq 4 jj (gq 3 jj 9))))) vt) H := hP
          obtain ⟨g25, hg25⟩ : ∃ z, z = m_up g21 3 jj 12 (gq 3 jj 12 + (m_markFor gq jj (gq 4 jj (gq 3 jj 9)))) := ⟨_, rfl⟩
          rw [← hg25] at hP
          refine lv_aload_n hx hb dX2_readForDay_94 rfl (lv_at hl 2 rfl) ?_
          refine lv_dup hx hb dX2_readForDay_95 rfl ?_
          have e26 : g25 3 jj 9 = gq 3 jj 9 := by simp [hg25, hg21, m_up]
          refine va_get (D := D) (ci := 2) (v := .int (iI (gq 3 jj 9))) (C := RX2) (T := TX2) (N := 16) hx hb hw hin_wsX20 hown hK hP (28 + 6 * jj.toNat) (pw_J (j := jj) (by omega) (by omega)) rfl 9 (by decide) (hw _ kw_247) (fun _ h9 => h9) (by rw [← e26]; rfl) dX2_readForDay_96 ?_
          refine lv_iconst (v := iI 1) hx hb dX2_readForDay_99 (by decide) ?_
          refine n_add hx hb dX2_readForDay_100 ?_
          refine va_put (D := D) (ci := 2) (v := .int (iI (gq 3 jj 9 + 1))) (C := RX2) (T := TX2) (N := 16) (ty := .int) hx hb hw hin_wsX20 tyX2 tyX2_ok nmX2 hown hK hP (pw_D ha (fun k hk => pA_in hk)) hS (28 + 6 * jj.toNat) (pw_J (j := jj) (by omega) (by omega)) rfl 9 (by decide) (hw _ kw_247) (fun _ h9 => h9) rfl (tyX2_ok 9 (by decide)) rfl rfl (show 9 < 16 from by decide) dX2_readForDay_101 (fun H locs hP _ hS => ?_)
          rw [pw_setJ (by omega) (by omega) (by decide) (by decide) (by decide) (by decide) (by decide) (by decide)] at hP
          have hP : va_P D vwCl (pw a cH cB cJ cI (m_up g25 3 jj 9 (gq 3 jj 9 + 1)) vt) H := hP
          obtain ⟨g27, hg27⟩ : ∃ z, z = m_up g25 3 jj 9 (gq 3 jj 9 + 1) := ⟨_, rfl⟩
          rw [← hg27] at hP
          refine lv_goto (tgt := 29) hx hb dX2_readForDay_104 (by decide) ?_
          have hl : lv_has ls 4 [(2, .int (iI (g 3 jj 9))), (0, .ref (a (28 + 6 * jj.toNat))), (1, .ref (a 2))] := lv_sub hl [1, 2, 3] rfl
          exact ih29 (n + 1) g27 H locs ls (by omega) (by rw [hq]; show (if _ then _ else _) = _; rw [if_pos ⟨by omega, by omega⟩, hg27, hg25, hg21]; rfl) (by rw [show g27 = m_markStep jj gq from by rw [hg27, hg25, hg21]; rfl]; exact Wf.mark hWq hjj (by omega)) (by rw [show g27 = m_markStep jj gq from by rw [hg27, hg25, hg21]; rfl]; simp [m_markStep, m_up]; omega) hP hS hl
  have hl : lv_has ls 4 [(2, .int (iI (g 3 jj 9))), (0, .ref (a (28 + 6 * jj.toNat))), (1, .ref (a 2))] := lv_sub hl [0, 1, 2] rfl
  exact loop29 16 0 g4 H locs ls (by omega) (by rw [hg4]) (by rw [hg4]; exact Wf.pages hWf hjj) (by rw [hg4, up_i _ _ _ _ _ _ _ (by decide)]; exact (Wf.j9 hWf (k := jj) (by omega) (by omega)).1) hP hS hl
set_option maxHeartbeats 4000000 in
set_option maxRecDepth 100000 in
theorem c_sellFor (l : Launch) (D : va_G) (a : Nat → Nat) (cH cB cJ cI : ClassId) (ha : pj a) (g : m_St) (vt : Nat → Int32) (sz : Nat) (dd : Int) (hWf : Wf g) (hdd : 1 ≤ dd ∧ dd ≤ 60) : Met l yX4_sellFor (wc yX4_sellFor cX4_sellFor 4 none) ({ frames := 2, cells := 0, slots := 0, locals := 42 }) (va_Pc [.ref (a 0), .int (iI dd)] (pS D a cH cB cJ cI sz g vt)) (va_Qv (fun (_ : Unit) => True) (fun _ t => ∃ vt1 : Nat → Int32, va_P D vwCl (pw a cH cB cJ cI (m_sellFor g dd) vt1) t.heap) (pA a sz)) 0 0 (pA a sz) := by
  refine Met.ofW (cc := cX4_sellFor) (maxL := 4) (ret := none) (by decide +kernel) rfl ?_
  intro p e s m args below meth c s₁ B9 hml hv
  obtain ⟨rfl, hsz, hP, hK, hE⟩ := hv
  have hx := B9.exec
  have hb := B9.bytes
  have hr := B9.returns
  have hts := atoms_spec (ws := (wc yX4_sellFor cX4_sellFor 4 none)) B9.pre
  have hw : ∀ w ∈ wsL_law0, w.before [.ref (a 0), .int (iI dd)].toArray s = true := fun w h => hts w (List.mem_cons_of_mem _ h)
  have hown : s.vm.findClass RX4 = some m.cls := findClass_of_methodNamed B9.named
  have hlocks := B9.notSynchronized
  subst hsz
  have hS : va_S (pA a s.heap.size) s.heap s.heap [] := va_S.rf
  have hA : ∀ q : Nat, s.heap.size ≤ q → pA a s.heap.size q := fun _ h => pA_new h
  have hB : ∀ k, k < 58 → pA a s.heap.size (a k) := fun _ h => pA_in h
  have hl := lv_entry ([.ref (a 0), .int (iI dd)]) (n := 4) (Nat.le_of_ble_eq_true rfl)
  rw [lg_entry_eq]
  generalize (lg_sl ([.ref (a 0), .int (iI dd)]) ++ List.replicate (4 - (lg_sl ([.ref (a 0), .int (iI dd)])).length) Slot.unset).toArray = ls at hl ⊢
  have hl : lv_has ls 4 [(0, .ref (a 0)), (1, .int (iI dd))] := hl
  suffices h9 : ∀ (H : Heap) (locs : List Loc), va_P D vwCl (pw a cH cB cJ cI g vt) H → va_S (pA a s.heap.size) s.heap H locs → W p l e (headSpec (wc yX4_sellFor cX4_sellFor 4 none) ({ frames := 2, cells := 0, slots := 0, locals := 42 })).room s m [.ref (a 0), .int (iI dd)].toArray below meth c H locs 0 0 (MQ below (va_Qv (fun (_ : Unit) => True) (fun _ t => ∃ vt1 : Nat → Int32, va_P D vwCl (pw a cH cB cJ cI (m_sellFor g dd) vt1) t.heap) (pA a s.heap.size)) [.ref (a 0), .int (iI dd)].toArray s 0 0 (pA a s.heap.size)) (F0 m 0 ls []) from h9 s.heap [] hP hS
  clear hP hS
  intro H locs hP hS
  have m4 := Wf.m4 hWf
  refine lv_iconst (v := iI 0) hx hb dX4_sellFor_0 (by decide) ?_
  refine lv_istore_n (lv' := [(2, .int (iI 0)), (0, .ref (a 0)), (1, .int (iI dd))]) hx hb dX4_sellFor_1 rfl hl (by decide) rfl (fun ls hl => ?_)
  have loop2 : ∀ (d n : Nat) (gq : m_St) (vq : Nat → Int32) (H : Heap) (locs : List Loc) (ls : Array Slot), n + d = (g 0 0 4).toNat → gq = m_fo (m_sellStep dd) g n → va_P D vwCl (pw a cH cB cJ cI gq vq) H → va_S (pA a s.heap.size) s.heap H locs → lv_has ls 4 [(2, .int (iI ((n : Nat) : Int))), (0, .ref (a 0)), (1, .int (iI dd))] → W p l e (headSpec (wc yX4_sellFor cX4_sellFor 4 none) ({ frames := 2, cells := 0, slots := 0, locals := 42 })).room s m [.ref (a 0), .int (iI dd)].toArray below meth c H locs 0 0 (MQ below (va_Qv (fun (_ : Unit) => True) (fun _ t => ∃ vt1 : Nat → Int32, va_P D vwCl (pw a cH cB cJ cI (m_sellFor g dd) vt1) t.heap) (pA a s.heap.size)) [.ref (a 0), .int (iI dd)].toArray s 0 0 (pA a s.heap.size)) (F0 m 2 ls []) := by
    intro d
    induction d with
    | zero =>
      intro n gq vq H locs ls hn hgq hP hS hl
      obtain rfl : n = (g 0 0 4).toNat := by omega
      have hWq : Wf gq := by rw [hgq]; exact (Wf.sells hWf (by omega) ((g 0 0 4).toNat) (by omega)).1
      have q4 : gq 0 0 4 = g 0 0 4 := by rw [hgq]; exact (Wf.sells hWf (by omega) ((g 0 0 4).toNat) (by omega)).2.1 0 0 4 (by decide) (by decide)
      refine lv_iload_n hx hb dX4_sellFor_2 rfl (lv_at hl 0 rfl) ?_
      refine lv_aload_n hx hb dX4_sellFor_3 rfl (lv_at hl 1 rfl) ?_
      have s1 := Wf.m4 hWq
      refine va_get (D := D) (ci := 4) (v := .int (iI (gq 0 0 4))) (C := RX4) (T := TX4) (N := 19) hx hb hw hin_wsX40 hown hK hP 0 pw_0 rfl 4 (by decide) (hw _ kw_98) (fun _ h9 => h9) rfl dX4_sellFor_4 ?_
      refine n_icmp_ge hx hb (by unfold RI; omega) (by unfold RI; omega) (tgt := 56) dX4_sellFor_7 (by decide) (fun h2 => ?_) (fun h2 => absurd h2 (by intro h2; omega))
      have hf3 : gq = (m_sellFor g dd) := by rw [hgq] <;> rfl
      rw [hf3] at hP
      exact W.vret hx hb hr (fun t ht hW9 => ⟨⟨(), rfl, trivial, ⟨vq, by rw [ht]; exact hP⟩⟩, hS.F ht⟩) hS.2.2 dX4_sellFor_56
    | succ d ih2 =>
      intro n gq vq H locs ls hn hgq hP hS hl
      have hWq : Wf gq := by rw [hgq]; exact (Wf.sells hWf (by omega) n (by omega)).1
      have q4 : gq 0 0 4 = g 0 0 4 := by rw [hgq]; exact (Wf.sells hWf (by omega) n (by omega)).2.1 0 0 4 (by decide) (by decide)
      refine lv_iload_n hx hb dX4_sellFor_2 rfl (lv_at hl 0 rfl) ?_
      refine lv_aload_n hx hb dX4_sellFor_3 rfl (lv_at hl 1 rfl) ?_
      have s4 := Wf.m4 hWq
      refine va_get (D := D) (ci := 4) (v := .int (iI (gq 0 0 4))) (C := RX4) (T := TX4) (N := 19) hx hb hw hin_wsX40 hown hK hP 0 pw_0 rfl 4 (by decide) (hw _ kw_98) (fun _ h9 => h9) rfl dX4_sellFor_4 ?_
      refine n_icmp_ge hx hb (by unfold RI; omega) (by unfold RI; omega) (tgt := 56) dX4_sellFor_7 (by decide) (fun h5 => absurd h5 (by intro h5; omega)) (fun h5 => ?_)
      refine lv_aload_n hx hb dX4_sellFor_10 rfl (lv_at hl 1 rfl) ?_
      refine va_get (D := D) (ci := 4) (v := .ref (a 2)) (C := RX4) (T := TX4) (N := 19) hx hb hw hin_wsX40 hown hK hP 0 pw_0 rfl 1 (by decide) (hw _ kw_17) (fun _ h9 => h9) rfl dX4_sellFor_11 ?_
      refine lv_iload_n hx hb dX4_sellFor_14 rfl (lv_at hl 0 rfl) ?_
      refine p_aldB hx hb hK hP (k := ((n : Nat) : Int)) (by omega) (by omega) dX4_sellFor_15 ?_
      refine lv_aload_n hx hb dX4_sellFor_16 rfl (lv_at hl 1 rfl) ?_
      refine lv_iload_n hx hb dX4_sellFor_17 rfl (lv_at hl 0 rfl) ?_
      refine va_calli (va_runV (As := [.int (iI ((n : Nat) : Int))]) (rest := [.ref (a (12 + ((n : Nat) : Int).toNat))]) ⟨hx, hb, hml, hown, hw⟩ (c_askedInDay l D a cH cB cJ cI ha gq vq H.size ((n : Nat) : Int) hWq (by omega)) (cwV 1 hw (gA_V kw_467 kw_468 kw_469 kw_2 kw_470) rfl rfl rfl (by decide +kernel) ⟨Nat.le_of_ble_eq_true rfl, Nat.le_of_ble_eq_true rfl⟩) (pS_v (ci := 4) (q0 := 0) rfl pw_0 hP hK hE) rfl rfl hl.1 rfl (lv_room (Nat.le_of_ble_eq_true rfl)) dX4_sellFor_18 ⟨Nat.le_of_ble_eq_true rfl, Nat.le_of_ble_eq_true rfl⟩) hS (fun q h1 h2 => ro_A h1 h2) (fun q h => ro_F hS hA q h) (fun r u t H1 locs ht hvm hw9 hB9 hz1 hk1 hS => ?_)
      have hw9 : r = (iI (m_asked gq ((n : Nat) : Int))) := hw9
      subst hw9
      have hP := ro_P hP hk1
      generalize H1 = H at hP hS ⊢
      have s6 := asked_b gq ((n : Nat) : Int)
      have hmul := mul_b (asked_b gq ↑n) hdd
      refine lv_iload_n hx hb dX4_sellFor_21 rfl (lv_at hl 2 rfl) ?_
      refine n_mul hx hb dX4_sellFor_22 ?_
      refine va_calli (va_runV (As := [.int (iI ((m_asked gq ((n : Nat) : Int)) * dd))]) (rest := []) ⟨hx, hb, hml, hown, hw⟩ (c_sell l D a cH cB cJ cI ha gq vq H.size ((n : Nat) : Int) ((m_asked gq ((n : Nat) : Int)) * dd) hWq (by omega) (by omega)) (cwV 1 hw (gA_V kw_498 kw_499 kw_500 kw_32 kw_501) rfl rfl rfl (by decide +kernel) ⟨Nat.le_of_ble_eq_true rfl, Nat.le_of_ble_eq_true rfl⟩) (pS_v (ci := 0) (q0 := (12 + ((n : Nat) : Int).toNat)) rfl (pw_B (b := ((n : Nat) : Int)) (by omega) (by omega)) hP hK hE) rfl rfl hl.1 rfl (lv_room (Nat.le_of_ble_eq_true rfl)) dX4_sellFor_23 ⟨Nat.le_of_ble_eq_true rfl, Nat.le_of_ble_eq_true rfl⟩) hS (fun q _ h => rw_A hS hA hB q h) (fun q h => rw_A hS hA hB q h) (fun r u t H1 locs ht hvm hw9 hB9 hz1 hk1 hS => ?_)
      have hw9 : r = (iI (min ((m_asked gq ((n : Nat) : Int)) * dd) (gq 2 ((n : Nat) : Int) 8))) := hw9
      subst hw9
      obtain ⟨v7, hP1⟩ := hB9
      rw [ht] at hP1
      obtain ⟨g8, hg8⟩ : ∃ z, z = (m_sellB gq ((n : Nat) : Int) ((m_asked gq ((n : Nat) : Int)) * dd)) := ⟨_, rfl⟩
      rw [← hg8] at hP1
      have hP : va_P D vwCl (pw a cH cB cJ cI g8 v7) H1 := hP1
      generalize H1 = H at hP hS ⊢
      refine lv_istore_n (lv' := [(3, .int (iI (min ((m_asked gq ((n : Nat) : Int)) * dd) (gq 2 ((n : Nat) : Int) 8)))), (2, .int (iI ((n : Nat) : Int))), (0, .ref (a 0)), (1, .int (iI dd))]) hx hb dX4_sellFor_26 rfl hl (by decide) rfl (fun ls hl => ?_)
      refine lv_aload_n hx hb dX4_sellFor_27 rfl (lv_at hl 2 rfl) ?_
      refine va_get (D := D) (ci := 4) (v := .ref (a 1)) (C := RX4) (T := TX4) (N := 19) hx hb hw hin_wsX40 hown hK hP 0 pw_0 rfl 0 (by decide) (hw _ kw_15) (fun _ h9 => h9) rfl dX4_sellFor_28 ?_
      refine lv_aload_n hx hb dX4_sellFor_31 rfl (lv_at hl 2 rfl) ?_
      refine va_get (D := D) (ci := 4) (v := .ref (a 2)) (C := RX4) (T := TX4) (N := 19) hx hb hw hin_wsX40 hown hK hP 0 pw_0 rfl 1 (by decide) (hw _ kw_17) (fun _ h9 => h9) rfl dX4_sellFor_32 ?_
      refine lv_iload_n hx hb dX4_sellFor_35 rfl (lv_at hl 1 rfl) ?_
      refine p_aldB hx hb hK hP (k := ((n : Nat) : Int)) (by omega) (by omega) dX4_sellFor_36 ?_
      have e9 : g8 2 ((n : Nat) : Int) 0 = gq 2 ((n : Nat) : Int) 0 := by simp [hg8, m_sellB, m_up]
      have s10 := Wf.b0 hWq (k := ((n : Nat) : Int)) (by omega) (by omega)
      refine va_get (D := D) (ci := 0) (v := .int (iI (gq 2 ((n : Nat) : Int) 0))) (C := RX0) (T := TX0) (N := 11) hx hb hw hin_wsX00 hown hK hP (12 + ((n : Nat) : Int).toNat) (pw_B (b := ((n : Nat) : Int)) (by omega) (by omega)) rfl 0 (by decide) (hw _ kw_210) (fun _ h9 => h9) (by rw [← e9]; rfl) dX4_sellFor_37 ?_
      refine p_aldH hx hb hK hP (k := gq 2 ((n : Nat) : Int) 0) (by omega) (by omega) dX4_sellFor_40 ?_
      refine lv_dup hx hb dX4_sellFor_41 rfl ?_
      have e11 : g8 1 (gq 2 ((n : Nat) : Int) 0) 0 = gq 1 (gq 2 ((n : Nat) : Int) 0) 0 := by simp [hg8, m_sellB, m_up]
      refine va_get (D := D) (ci := 1) (v := .int (iI (gq 1 (gq 2 ((n : Nat) : Int) 0) 0))) (C := RX1) (T := TX1) (N := 2) hx hb hw hin_wsX10 hown hK hP (7 + (gq 2 ((n : Nat) : Int) 0).toNat) (pw_H (h := gq 2 ((n : Nat) : Int) 0) (by omega) (by omega)) rfl 0 (by decide) (hw _ kw_266) (fun _ h9 => h9) (by rw [← e11]; rfl) dX4_sellFor_42 ?_
      refine lv_iload_n hx hb dX4_sellFor_45 rfl (lv_at hl 0 rfl) ?_
      refine n_add hx hb dX4_sellFor_46 ?_
      refine va_put (D := D) (ci := 1) (v := .int (iI (gq 1 (gq 2 ((n : Nat) : Int) 0) 0 + (min ((m_asked gq ((n : Nat) : Int)) * dd) (gq 2 ((n : Nat) : Int) 8))))) (C := RX1) (T := TX1) (N := 2) (ty := .int) hx hb hw hin_wsX10 tyX1 tyX1_ok nmX1 hown hK hP (pw_D ha (fun k hk => pA_in hk)) hS (7 + (gq 2 ((n : Nat) : Int) 0).toNat) (pw_H (h := gq 2 ((n : Nat) : Int) 0) (by omega) (by omega)) rfl 0 (by decide) (hw _ kw_266) (fun _ h9 => h9) rfl (tyX1_ok 0 (by decide)) rfl rfl (show 0 < 2 from by decide) dX4_sellFor_47 (fun H locs hP _ hS => ?_)
      rw [pw_setH (by omega) (by omega) (by decide)] at hP
      have hP : va_P D vwCl (pw a cH cB cJ cI (m_up g8 1 (gq 2 ((n : Nat) : Int) 0) 0 (gq 1 (gq 2 ((n : Nat) : Int) 0) 0 + (min ((m_asked gq ((n : Nat) : Int)) * dd) (gq 2 ((n : Nat) : Int) 8)))) v7) H := hP
      obtain ⟨g12, hg12⟩ : ∃ z, z = m_up g8 1 (gq 2 ((n : Nat) : Int) 0) 0 (gq 1 (gq 2 ((n : Nat) : Int) 0) 0 + (min ((m_asked gq ((n : Nat) : Int)) * dd) (gq 2 ((n : Nat) : Int) 8))) := ⟨_, rfl⟩
      rw [← hg12] at hP
      refine n_inc (lv' := [(2, .int (iI (((n : Nat) : Int) + 1))), (3, .int (iI (min ((m_asked gq ((n : Nat) : Int)) * dd) (gq 2 ((n : Nat) : Int) 8)))), (0, .ref (a 0)), (1, .int (iI dd))]) hx hb dX4_sellFor_50 hl (k := 1) rfl (by decide) rfl (fun ls hl => ?_)
      refine lv_goto (tgt := 2) hx hb dX4_sellFor_53 (by decide) ?_
      have hl : lv_has ls 4 [(2, .int (iI (((n : Nat) : Int) + 1))), (0, .ref (a 0)), (1, .int (iI dd))] := lv_sub hl [0, 2, 3] rfl
      have e13 : (((n : Nat) : Int) + 1) = (((n + 1) : Nat) : Int) := by rfl
      have hl : lv_has ls 4 [(2, .int (iI (((n + 1) : Nat) : Int))), (0, .ref (a 0)), (1, .int (iI dd))] := lv_cast hl (by rw [e13])
      exact ih2 (n + 1) g12 v7 H locs ls (by omega) (by rw [hg12, hg8, hgq] <;> rfl) hP hS hl
  have hl : lv_has ls 4 [(2, .int (iI 0)), (0, .ref (a 0)), (1, .int (iI dd))] := lv_sub hl [0, 1, 2] rfl
  have hl : lv_has ls 4 [(2, .int (iI ((0 : Nat) : Int))), (0, .ref (a 0)), (1, .int (iI dd))] := hl
  exact loop2 ((g 0 0 4).toNat) 0 g vt H locs ls (by omega) rfl hP hS hl
set_option maxHeartbeats 4000000 in
set_option maxRecDepth 100000 in
theorem c_readDay (l : Launch) (D : va_G) (a : Nat → Nat) (cH cB cJ cI : ClassId) (ha : pj a) (g : m_St) (vt : Nat → Int32) (sz : Nat) (hWf : Wf g) : Met l yX4_readForDay (wc yX4_readForDay cX4_readForDay 3 (some .int)) ({ frames := 3, cells := 0, slots := 0, locals := 60 }) (va_Pc [.ref (a 0)] (pS D a cH cB cJ cI sz g vt)) (va_Qi (fun (r : Int32) (_ : Unit) => r = iI (m_dayFin g)) (fun _ t => ∃ vt1 : Nat → Int32, va_P D vwCl (pw a cH cB cJ cI (m_readDay g) vt1) t.heap) (pA a sz)) 0 0 (pA a sz) := by
  refine Met.ofW (cc := cX4_readForDay) (maxL := 3) (ret := (some .int)) (by decide +kernel) rfl ?_
  intro p e s m args below meth c s₁ B9 hml hv
  obtain ⟨rfl, hsz, hP, hK, hE⟩ := hv
  have hx := B9.exec
  have hb := B9.bytes
  have hr := B9.returns
  have hts := atoms_spec (ws := (wc yX4_readForDay cX4_readForDay 3 (some .int))) B9.pre
  have hw : ∀ w ∈ wsL_law0, w.before [.ref (a 0)].toArray s = true := fun w h => hts w (List.mem_cons_of_mem _ h)
  have hown : s.vm.findClass RX4 = some m.cls := findClass_of_methodNamed B9.named
  subst hsz
  have hS : va_S (pA a s.heap.size) s.heap s.heap [] := va_S.rf
  have hA : ∀ q : Nat, s.heap.size ≤ q → pA a s.heap.size q := fun _ h => pA_new h
  have hB : ∀ k, k < 58 → pA a s.heap.size (a k) := fun _ h => pA_in h
  have hl := lv_entry ([.ref (a 0)]) (n := 3) (Nat.le_of_ble_eq_true rfl)
  rw [lg_entry_eq]
  generalize (lg_sl ([.ref (a 0)]) ++ List.replicate (3 - (lg_sl ([.ref (a 0)])).length) Slot.unset).toArray = ls at hl ⊢
  have hl : lv_has ls 3 [(0, .ref (a 0))] := hl
  suffices h9 : ∀ (H : Heap) (locs : List Loc), va_P D vwCl (pw a cH cB cJ cI g vt) H → va_S (pA a s.heap.size) s.heap H locs → W p l e (headSpec (wc yX4_readForDay cX4_readForDay 3 (some .int)) ({ frames := 3, cells := 0, slots := 0, locals := 60 })).room s m [.ref (a 0)].toArray below meth c H locs 0 0 (MQ below (va_Qi (fun (r : Int32) (_ : Unit) => r = iI (m_dayFin g)) (fun _ t => ∃ vt1 : Nat → Int32, va_P D vwCl (pw a cH cB cJ cI (m_readDay g) vt1) t.heap) (pA a s.heap.size)) [.ref (a 0)].toArray s 0 0 (pA a s.heap.size)) (F0 m 0 ls []) from h9 s.heap [] hP hS
  clear hP hS
  intro H locs hP hS
  have m5 := Wf.m5 hWf
  refine lv_iconst (v := iI 0) hx hb dX4_readForDay_0 (by decide) ?_
  refine lv_istore_n (lv' := [(1, .int (iI 0)), (0, .ref (a 0))]) hx hb dX4_readForDay_1 rfl hl (by decide) rfl (fun ls hl => ?_)
  refine lv_aload_n hx hb dX4_readForDay_2 rfl (lv_at hl 1 rfl) ?_
  have s1 := Wf.m9 hWf
  refine va_get (D := D) (ci := 4) (v := .int (iI (g 0 0 9))) (C := RX4) (T := TX4) (N := 19) hx hb hw hin_wsX40 hown hK hP 0 pw_0 rfl 9 (by decide) (hw _ kw_25) (fun _ h9 => h9) rfl dX4_readForDay_3 ?_
  refine lv_iconst (v := iI 1) hx hb dX4_readForDay_6 (by decide) ?_
  refine n_icmp_ne hx hb (by unfold RI; omega) (by unfold RI; omega) (tgt := 42) dX4_readForDay_7 (by decide) (fun h2 => ?_) (fun h2 => ?_)
  · skip
    refine lv_iload_n hx hb dX4_readForDay_42 rfl (lv_at hl 0 rfl) ?_
    have hf3 : g = (m_readDay g) := by unfold m_readDay; first | rw [if_neg (by assumption)] | rw [if_pos (by assumption), hgq]
    rw [hf3] at hP
    exact W.iret (v := (iI 0)) hx hb hr (fun t ht hW9 => ⟨⟨(iI 0), (), rfl, (congrArg iI (by unfold m_dayFin; first | rw [if_pos (by assumption)] | rw [if_neg (by assumption)])), ⟨vt, by rw [ht]; exact hP⟩⟩, hS.F ht⟩) hS.2.2 dX4_readForDay_43
  · skip
    refine lv_iconst (v := iI 0) hx hb dX4_readForDay_10 (by decide) ?_
    refine lv_istore_n (lv' := [(2, .int (iI 0)), (1, .int (iI 0)), (0, .ref (a 0))]) hx hb dX4_readForDay_11 rfl hl (by decide) rfl (fun ls hl => ?_)
    have loop12 : ∀ (d n : Nat) (gq : m_St) (vq : Nat → Int32) (H : Heap) (locs : List Loc) (ls : Array Slot), n + d = (g 0 0 5).toNat → gq = m_fo (fun j u => m_readJ u j) g n → va_P D vwCl (pw a cH cB cJ cI gq vq) H → va_S (pA a s.heap.size) s.heap H locs → lv_has ls 3 [(2, .int (iI ((n : Nat) : Int))), (1, .int (iI (m_sm (dayf g) n))), (0, .ref (a 0))] → W p l e (headSpec (wc yX4_readForDay cX4_readForDay 3 (some .int)) ({ frames := 3, cells := 0, slots := 0, locals := 60 })).room s m [.ref (a 0)].toArray below meth c H locs 0 0 (MQ below (va_Qi (fun (r : Int32) (_ : Unit) => r = iI (m_dayFin g)) (fun _ t => ∃ vt1 : Nat → Int32, va_P D vwCl (pw a cH cB cJ cI (m_readDay g) vt1) t.heap) (pA a s.heap.size)) [.ref (a 0)].toArray s 0 0 (pA a s.heap.size)) (F0 m 12 ls []) := by
      intro d
      induction d with
      | zero =>
        intro n gq vq H locs ls hn hgq hP hS hl
        obtain rfl : n = (g 0 0 5).toNat := by omega
        have hWq : Wf gq := by rw [hgq]; exact (Wf.readDays hWf ((g 0 0 5).toNat) (by omega)).1
        have q5 : gq 0 0 5 = g 0 0 5 := by rw [hgq]; exact (Wf.readDays hWf ((g 0 0 5).toNat) (by omega)).2 0 0 5 (by decide) (by decide)
        refine lv_iload_n hx hb dX4_readForDay_12 rfl (lv_at hl 0 rfl) ?_
        refine lv_aload_n hx hb dX4_readForDay_13 rfl (lv_at hl 2 rfl) ?_
        have s4 := Wf.m5 hWq
        refine va_get (D := D) (ci := 4) (v := .int (iI (gq 0 0 5))) (C := RX4) (T := TX4) (N := 19) hx hb hw hin_wsX40 hown hK hP 0 pw_0 rfl 5 (by decide) (hw _ kw_81) (fun _ h9 => h9) rfl dX4_readForDay_14 ?_
        refine n_icmp_ge hx hb (by unfold RI; omega) (by unfold RI; omega) (tgt := 42) dX4_readForDay_17 (by decide) (fun h5 => ?_) (fun h5 => absurd h5 (by intro h5; omega))
        refine lv_iload_n hx hb dX4_readForDay_42 rfl (lv_at hl 1 rfl) ?_
        have hf6 : gq = (m_readDay g) := by unfold m_readDay; first | rw [if_neg (by assumption)] | rw [if_pos (by assumption), hgq]
        rw [hf6] at hP
        exact W.iret (v := (iI (m_sm (dayf g) ((g 0 0 5).toNat)))) hx hb hr (fun t ht hW9 => ⟨⟨(iI (m_sm (dayf g) ((g 0 0 5).toNat))), (), rfl, (congrArg iI (by unfold m_dayFin; first | rw [if_pos (by assumption)] | rw [if_neg (by assumption)])), ⟨vq, by rw [ht]; exact hP⟩⟩, hS.F ht⟩) hS.2.2 dX4_readForDay_43
      | succ d ih12 =>
        intro n gq vq H locs ls hn hgq hP hS hl
        have hWq : Wf gq := by rw [hgq]; exact (Wf.readDays hWf n (by omega)).1
        have q5 : gq 0 0 5 = g 0 0 5 := by rw [hgq]; exact (Wf.readDays hWf n (by omega)).2 0 0 5 (by decide) (by decide)
        refine lv_iload_n hx hb dX4_readForDay_12 rfl (lv_at hl 0 rfl) ?_
        refine lv_aload_n hx hb dX4_readForDay_13 rfl (lv_at hl 2 rfl) ?_
        have s7 := Wf.m5 hWq
        refine va_get (D := D) (ci := 4) (v := .int (iI (gq 0 0 5))) (C := RX4) (T := TX4) (N := 19) hx hb hw hin_wsX40 hown hK hP 0 pw_0 rfl 5 (by decide) (hw _ kw_81) (fun _ h9 => h9) rfl dX4_readForDay_14 ?_
        refine n_icmp_ge hx hb (by unfold RI; omega) (by unfold RI; omega) (tgt := 42) dX4_readForDay_17 (by decide) (fun h8 => absurd h8 (by intro h8; omega)) (fun h8 => ?_)
        refine lv_iload_n hx hb dX4_readForDay_20 rfl (lv_at hl 1 rfl) ?_
        refine lv_aload_n hx hb dX4_readForDay_21 rfl (lv_at hl 2 rfl) ?_
        refine va_get (D := D) (ci := 4) (v := .ref (a 3)) (C := RX4) (T := TX4) (N := 19) hx hb hw hin_wsX40 hown hK hP 0 pw_0 rfl 2 (by decide) (hw _ kw_19) (fun _ h9 => h9) rfl dX4_readForDay_22 ?_
        refine lv_iload_n hx hb dX4_readForDay_25 rfl (lv_at hl 0 rfl) ?_
        refine p_aldJ hx hb hK hP (k := ((n : Nat) : Int)) (by omega) (by omega) dX4_readForDay_26 ?_
        refine lv_aload_n hx hb dX4_readForDay_27 rfl (lv_at hl 2 rfl) ?_
        refine va_get (D := D) (ci := 4) (v := .ref (a 2)) (C := RX4) (T := TX4) (N := 19) hx hb hw hin_wsX40 hown hK hP 0 pw_0 rfl 1 (by decide) (hw _ kw_17) (fun _ h9 => h9) rfl dX4_readForDay_28 ?_
        refine va_calli (va_runV (As := [.ref (a 2)]) (rest := [.int (iI (m_sm (dayf g) n))]) ⟨hx, hb, hml, hown, hw⟩ (c_readJ l D a cH cB cJ cI ha gq vq H.size ((n : Nat) : Int) hWq (by omega)) (cwV 1 hw (gA_V kw_479 kw_480 kw_481 kw_34 kw_482) rfl rfl rfl (by decide +kernel) ⟨Nat.le_of_ble_eq_true rfl, Nat.le_of_ble_eq_true rfl⟩) (pS_v (ci := 2) (q0 := (28 + 6 * ((n : Nat) : Int).toNat)) rfl (pw_J (j := ((n : Nat) : Int)) (by omega) (by omega)) hP hK hE) rfl rfl hl.1 rfl (lv_room (Nat.le_of_ble_eq_true rfl)) dX4_readForDay_31 ⟨Nat.le_of_ble_eq_true rfl, Nat.le_of_ble_eq_true rfl⟩) hS (fun q _ h => rw_A hS hA hB q h) (fun q h => rw_A hS hA hB q h) (fun r u t H1 locs ht hvm hw9 hB9 hz1 hk1 hS => ?_)
        have hw9 : r = (iI (m_readJ gq ((n : Nat) : Int) 3 ((n : Nat) : Int) 9 - gq 3 ((n : Nat) : Int) 9)) := hw9
        subst hw9
        obtain ⟨v9, hP1⟩ := hB9
        rw [ht] at hP1
        obtain ⟨g10, hg10⟩ : ∃ z, z = (m_readJ gq ((n : Nat) : Int)) := ⟨_, rfl⟩
        rw [← hg10] at hP1
        have hP : va_P D vwCl (pw a cH cB cJ cI g10 v9) H1 := hP1
        generalize H1 = H at hP hS ⊢
        refine n_add hx hb dX4_readForDay_34 ?_
        refine lv_istore_n (lv' := [(1, .int (iI ((m_sm (dayf g) n) + (m_readJ gq ((n : Nat) : Int) 3 ((n : Nat) : Int) 9 - gq 3 ((n : Nat) : Int) 9)))), (2, .int (iI ((n : Nat) : Int))), (0, .ref (a 0))]) hx hb dX4_readForDay_35 rfl hl (by decide) rfl (fun ls hl => ?_)
        refine n_inc (lv' := [(2, .int (iI (((n : Nat) : Int) + 1))), (1, .int (iI ((m_sm (dayf g) n) + (m_readJ gq ((n : Nat) : Int) 3 ((n : Nat) : Int) 9 - gq 3 ((n : Nat) : Int) 9)))), (0, .ref (a 0))]) hx hb dX4_readForDay_36 hl (k := 1) rfl (by decide) rfl (fun ls hl => ?_)
        refine lv_goto (tgt := 12) hx hb dX4_readForDay_39 (by decide) ?_
        have hl : lv_has ls 3 [(2, .int (iI (((n : Nat) : Int) + 1))), (1, .int (iI ((m_sm (dayf g) n) + (m_readJ gq ((n : Nat) : Int) 3 ((n : Nat) : Int) 9 - gq 3 ((n : Nat) : Int) 9)))), (0, .ref (a 0))] := lv_sub hl [0, 1, 2] rfl
        have e11 : (((n : Nat) : Int) + 1) = (((n + 1) : Nat) : Int) := by rfl
        have e12 : ((m_sm (dayf g) n) + (m_readJ gq ((n : Nat) : Int) 3 ((n : Nat) : Int) 9 - gq 3 ((n : Nat) : Int) 9)) = (m_sm (dayf g) (n + 1)) := by rw [sm_s, hgq]; rfl
        have hl : lv_has ls 3 [(2, .int (iI (((n + 1) : Nat) : Int))), (1, .int (iI (m_sm (dayf g) (n + 1)))), (0, .ref (a 0))] := lv_cast hl (by rw [e11, e12])
        exact ih12 (n + 1) g10 v9 H locs ls (by omega) (by rw [hg10, hgq] <;> rfl) hP hS hl
    have hl : lv_has ls 3 [(2, .int (iI 0)), (1, .int (iI 0)), (0, .ref (a 0))] := lv_sub hl [0, 1, 2] rfl
    have hl : lv_has ls 3 [(2, .int (iI ((0 : Nat) : Int))), (1, .int (iI (m_sm (dayf g) 0))), (0, .ref (a 0))] := hl
    exact loop12 ((g 0 0 5).toNat) 0 g vt H locs ls (by omega) rfl hP hS hl
set_option maxHeartbeats 4000000 in
set_option maxRecDepth 100000 in
theorem c_pass (l : Launch) (D : va_G) (a : Nat → Nat) (cH cB cJ cI : ClassId) (ha : pj a) (g : m_St) (vt : Nat → Int32) (sz : Nat) (dd : Int) (hWf : Wf g) (hdd : 1 ≤ dd ∧ dd ≤ 60) (hday : g 0 0 10 + dd ≤ 9999) : Met l yX4_pass (wc yX4_pass cX4_pass 4 (some .int)) ({ frames := 4, cells := 0, slots := 0, locals := 82 }) (va_Pc [.ref (a 0), .int (iI dd)] (pS D a cH cB cJ cI sz g vt)) (va_Qi (fun (r : Int32) (_ : Unit) => r = iI (m_sm (passf g) dd.toNat)) (fun _ t => ∃ vt1 : Nat → Int32, va_P D vwCl (pw a cH cB cJ cI (m_pass g dd) vt1) t.heap) (pA a sz)) 0 0 (pA a sz) := by
  refine Met.ofW (cc := cX4_pass) (maxL := 4) (ret := (some .int)) (by decide +kernel) rfl ?_
  intro p e s m args below meth c s₁ B9 hml hv
  obtain ⟨rfl, hsz, hP, hK, hE⟩ := hv
  have hx := B9.exec
  have hb := B9.bytes
  have hr := B9.returns
  have hts := atoms_spec (ws := (wc yX4_pass cX4_pass 4 (some .int))) B9.pre
  have hw : ∀ w ∈ wsL_law0, w.before [.ref (a 0), .int (iI dd)].toArray s = true := fun w h => hts w (List.mem_cons_of_mem _ h)
  have hown : s.vm.findClass RX4 = some m.cls := findClass_of_methodNamed B9.named
  subst hsz
  have hS : va_S (pA a s.heap.size) s.heap s.heap [] := va_S.rf
  have hA : ∀ q : Nat, s.heap.size ≤ q → pA a s.heap.size q := fun _ h => pA_new h
  have hB : ∀ k, k < 58 → pA a s.heap.size (a k) := fun _ h => pA_in h
  have hl := lv_entry ([.ref (a 0), .int (iI dd)]) (n := 4) (Nat.le_of_ble_eq_true rfl)
  rw [lg_entry_eq]
  generalize (lg_sl ([.ref (a 0), .int (iI dd)]) ++ List.replicate (4 - (lg_sl ([.ref (a 0), .int (iI dd)])).length) Slot.unset).toArray = ls at hl ⊢
  have hl : lv_has ls 4 [(0, .ref (a 0)), (1, .int (iI dd))] := hl
  suffices h9 : ∀ (H : Heap) (locs : List Loc), va_P D vwCl (pw a cH cB cJ cI g vt) H → va_S (pA a s.heap.size) s.heap H locs → W p l e (headSpec (wc yX4_pass cX4_pass 4 (some .int)) ({ frames := 4, cells := 0, slots := 0, locals := 82 })).room s m [.ref (a 0), .int (iI dd)].toArray below meth c H locs 0 0 (MQ below (va_Qi (fun (r : Int32) (_ : Unit) => r = iI (m_sm (passf g) dd.toNat)) (fun _ t => ∃ vt1 : Nat → Int32, va_P D vwCl (pw a cH cB cJ cI (m_pass g dd) vt1) t.heap) (pA a s.heap.size)) [.ref (a 0), .int (iI dd)].toArray s 0 0 (pA a s.heap.size)) (F0 m 0 ls []) from h9 s.heap [] hP hS
  clear hP hS
  intro H locs hP hS
  have m10 := Wf.m10 hWf
  refine lv_iload_n hx hb dX4_pass_0 rfl (lv_at hl 1 rfl) ?_
  refine lv_iconst (v := iI 1) hx hb dX4_pass_1 (by decide) ?_
  refine lv_bipush (v := iI 60) hx hb dX4_pass_2 (by decide) ?_
  refine va_calli (va_runS (As := [.int (iI dd), .int (iI 1), .int (iI 60)]) (rest := []) ⟨hx, hb, hml, hown, hw⟩ (c_isWithin l D a cH cB cJ cI ha g vt H.size dd 1 60 (by omega) (by omega) (by omega)) (va_cwS 3 hw (gA_S kw_82 kw_83 kw_2 kw_84) rfl rfl rfl (by decide +kernel) ⟨Nat.le_of_ble_eq_true rfl, Nat.le_of_ble_eq_true rfl⟩) (pS_s hP hK hE) rfl rfl hl.1 rfl (lv_room (Nat.le_of_ble_eq_true rfl)) dX4_pass_4 ⟨Nat.le_of_ble_eq_true rfl, Nat.le_of_ble_eq_true rfl⟩) hS (fun q h1 h2 => ro_A h1 h2) (fun q h => ro_F hS hA q h) (fun r u t H1 locs ht hvm hw9 hB9 hz1 hk1 hS => ?_)
  have hw9 : r = (bi (decide (1 ≤ dd ∧ dd ≤ 60))) := hw9
  subst hw9
  have hP := ro_P hP hk1
  generalize H1 = H at hP hS ⊢
  refine n_b_ne hx hb (tgt := 20) dX4_pass_7 (by decide) (fun h1 => ?_) (fun h1 => absurd h1 (by intro h1; have h1 := of_decide_eq_false h1; omega))
  have h1 := of_decide_eq_true h1
  refine lv_aload_n hx hb dX4_pass_20 rfl (lv_at hl 0 rfl) ?_
  have s2 := Wf.m10 hWf
  refine va_get (D := D) (ci := 4) (v := .int (iI (g 0 0 10))) (C := RX4) (T := TX4) (N := 19) hx hb hw hin_wsX40 hown hK hP 0 pw_0 rfl 10 (by decide) (hw _ kw_97) (fun _ h9 => h9) rfl dX4_pass_21 ?_
  refine lv_iload_n hx hb dX4_pass_24 rfl (lv_at hl 1 rfl) ?_
  refine n_add hx hb dX4_pass_25 ?_
  refine lv_sipush (v := iI 9999) hx hb dX4_pass_26 (by decide) ?_
  refine n_icmp_le hx hb (by unfold RI; omega) (by unfold RI; omega) (tgt := 42) dX4_pass_29 (by decide) (fun h3 => ?_) (fun h3 => absurd h3 (by intro h3; omega))
  refine lv_iconst (v := iI 0) hx hb dX4_pass_42 (by decide) ?_
  refine lv_istore_n (lv' := [(2, .int (iI 0)), (0, .ref (a 0)), (1, .int (iI dd))]) hx hb dX4_pass_43 rfl hl (by decide) rfl (fun ls hl => ?_)
  refine lv_iconst (v := iI 0) hx hb dX4_pass_44 (by decide) ?_
  refine lv_istore_n (lv' := [(3, .int (iI 0)), (2, .int (iI 0)), (0, .ref (a 0)), (1, .int (iI dd))]) hx hb dX4_pass_45 rfl hl (by decide) rfl (fun ls hl => ?_)
  have loop46 : ∀ (d n : Nat) (gq : m_St) (vq : Nat → Int32) (H : Heap) (locs : List Loc) (ls : Array Slot), n + d = dd.toNat → gq = m_fo (fun _ u => m_readDay u) g n → va_P D vwCl (pw a cH cB cJ cI gq vq) H → va_S (pA a s.heap.size) s.heap H locs → lv_has ls 4 [(3, .int (iI ((n : Nat) : Int))), (2, .int (iI (m_sm (passf g) n))), (0, .ref (a 0)), (1, .int (iI dd))] → W p l e (headSpec (wc yX4_pass cX4_pass 4 (some .int)) ({ frames := 4, cells := 0, slots := 0, locals := 82 })).room s m [.ref (a 0), .int (iI dd)].toArray below meth c H locs 0 0 (MQ below (va_Qi (fun (r : Int32) (_ : Unit) => r = iI (m_sm (passf g) dd.toNat)) (fun _ t => ∃ vt1 : Nat → Int32, va_P D vwCl (pw a cH cB cJ cI (m_pass g dd) vt1) t.heap) (pA a s.heap.size)) [.ref (a 0), .int (iI dd)].toArray s 0 0 (pA a s.heap.size)) (F0 m 46 ls []) := by
    intro d
    induction d with
    | zero =>
      intro n gq vq H locs ls hn hgq hP hS hl
      obtain rfl : n = dd.toNat := by omega
      have hWq : Wf gq := by rw [hgq]; exact (Wf.passDays hWf dd.toNat).1
      refine lv_iload_n hx hb dX4_pass_46 rfl (lv_at hl 0 rfl) ?_
      refine lv_iload_n hx hb dX4_pass_47 rfl (lv_at hl 3 rfl) ?_
      refine n_icmp_ge hx hb (by unfold RI; omega) (by unfold RI; omega) (tgt := 64) dX4_pass_48 (by decide) (fun h4 => ?_) (fun h4 => absurd h4 (by intro h4; omega))
      refine lv_aload_n hx hb dX4_pass_64 rfl (lv_at hl 2 rfl) ?_
      refine lv_iload_n hx hb dX4_pass_65 rfl (lv_at hl 3 rfl) ?_
      refine va_callv (va_runV (As := [.int (iI dd)]) (rest := []) ⟨hx, hb, hml, hown, hw⟩ (c_sellFor l D a cH cB cJ cI ha gq vq H.size dd hWq (by omega)) (cwV 1 hw (gA_V kw_494 kw_495 kw_496 kw_2 kw_497) rfl rfl rfl (by decide +kernel) ⟨Nat.le_of_ble_eq_true rfl, Nat.le_of_ble_eq_true rfl⟩) (pS_v (ci := 4) (q0 := 0) rfl pw_0 hP hK hE) rfl rfl hl.1 rfl (lv_room (Nat.le_of_ble_eq_true rfl)) dX4_pass_66 ⟨Nat.le_of_ble_eq_true rfl, Nat.le_of_ble_eq_true rfl⟩) hS (fun q _ h => rw_A hS hA hB q h) (fun q h => rw_A hS hA hB q h) (fun u t H1 locs ht hvm hw9 hB9 hz1 hk1 hS => ?_)
      obtain ⟨v5, hP1⟩ := hB9
      rw [ht] at hP1
      obtain ⟨g6, hg6⟩ : ∃ z, z = (m_sellFor gq dd) := ⟨_, rfl⟩
      rw [← hg6] at hP1
      have hP : va_P D vwCl (pw a cH cB cJ cI g6 v5) H1 := hP1
      generalize H1 = H at hP hS ⊢
      refine lv_aload_n hx hb dX4_pass_69 rfl (lv_at hl 2 rfl) ?_
      refine lv_dup hx hb dX4_pass_70 rfl ?_
      refine va_get (D := D) (ci := 4) (v := .int (iI (g6 0 0 10))) (C := RX4) (T := TX4) (N := 19) hx hb hw hin_wsX40 hown hK hP 0 pw_0 rfl 10 (by decide) (hw _ kw_97) (fun _ h9 => h9) rfl dX4_pass_71 ?_
      refine lv_iload_n hx hb dX4_pass_74 rfl (lv_at hl 3 rfl) ?_
      refine n_add hx hb dX4_pass_75 ?_
      refine va_put (D := D) (ci := 4) (v := .int (iI (g6 0 0 10 + dd))) (C := RX4) (T := TX4) (N := 19) (ty := .int) hx hb hw hin_wsX40 tyX4 tyX4_ok nmX4 hown hK hP (pw_D ha (fun k hk => pA_in hk)) hS 0 pw_0 rfl 10 (by decide) (hw _ kw_97) (fun _ h9 => h9) rfl (tyX4_ok 10 (by decide)) rfl rfl (show 10 < 19 from by decide) dX4_pass_76 (fun H locs hP _ hS => ?_)
      rw [pw_setM (by decide) (by decide) (by decide) (by decide)] at hP
      have hP : va_P D vwCl (pw a cH cB cJ cI (m_up g6 0 0 10 (g6 0 0 10 + dd)) v5) H := hP
      obtain ⟨g7, hg7⟩ : ∃ z, z = m_up g6 0 0 10 (g6 0 0 10 + dd) := ⟨_, rfl⟩
      rw [← hg7] at hP
      refine lv_iload_n hx hb dX4_pass_79 rfl (lv_at hl 1 rfl) ?_
      have hf8 : g7 = (m_pass g dd) := by rw [hg7, hg6]; show _ = m_up (m_sellFor (m_passDays g dd) dd) 0 0 10 (g 0 0 10 + dd); rw [show (m_sellFor gq dd) 0 0 10 = g 0 0 10 from ((Wf.sells hWq (by omega) (gq 0 0 4).toNat (by have := Wf.m4 hWq; omega)).2.1 0 0 10 (by decide) (by decide)).trans (by rw [hgq]; exact (Wf.passDays hWf _).2 0 0 10 (by decide) (by decide)), hgq] <;> rfl
      rw [hf8] at hP
      exact W.iret (v := (iI (m_sm (passf g) dd.toNat))) hx hb hr (fun t ht hW9 => ⟨⟨(iI (m_sm (passf g) dd.toNat)), (), rfl, rfl, ⟨v5, by rw [ht]; exact hP⟩⟩, hS.F ht⟩) hS.2.2 dX4_pass_80
    | succ d ih46 =>
      intro n gq vq H locs ls hn hgq hP hS hl
      have hWq : Wf gq := by rw [hgq]; exact (Wf.passDays hWf n).1
      refine lv_iload_n hx hb dX4_pass_46 rfl (lv_at hl 0 rfl) ?_
      refine lv_iload_n hx hb dX4_pass_47 rfl (lv_at hl 3 rfl) ?_
      refine n_icmp_ge hx hb (by unfold RI; omega) (by unfold RI; omega) (tgt := 64) dX4_pass_48 (by decide) (fun h9 => absurd h9 (by intro h9; omega)) (fun h9 => ?_)
      refine lv_iload_n hx hb dX4_pass_51 rfl (lv_at hl 1 rfl) ?_
      refine lv_aload_n hx hb dX4_pass_52 rfl (lv_at hl 2 rfl) ?_
      refine va_calli (va_runV (As := []) (rest := [.int (iI (m_sm (passf g) n))]) ⟨hx, hb, hml, hown, hw⟩ (c_readDay l D a cH cB cJ cI ha gq vq H.size  hWq) (cwV 0 hw (gA_V kw_475 kw_476 kw_477 kw_2 kw_478) rfl rfl rfl (by decide +kernel) ⟨Nat.le_of_ble_eq_true rfl, Nat.le_of_ble_eq_true rfl⟩) (pS_v (ci := 4) (q0 := 0) rfl pw_0 hP hK hE) rfl rfl hl.1 rfl (lv_room (Nat.le_of_ble_eq_true rfl)) dX4_pass_53 ⟨Nat.le_of_ble_eq_true rfl, Nat.le_of_ble_eq_true rfl⟩) hS (fun q _ h => rw_A hS hA hB q h) (fun q h => rw_A hS hA hB q h) (fun r u t H1 locs ht hvm hw9 hB9 hz1 hk1 hS => ?_)
      have hw9 : r = (iI (m_dayFin gq)) := hw9
      subst hw9
      obtain ⟨v10, hP1⟩ := hB9
      rw [ht] at hP1
      obtain ⟨g11, hg11⟩ : ∃ z, z = (m_readDay gq) := ⟨_, rfl⟩
      rw [← hg11] at hP1
      have hP : va_P D vwCl (pw a cH cB cJ cI g11 v10) H1 := hP1
      generalize H1 = H at hP hS ⊢
      refine n_add hx hb dX4_pass_56 ?_
      refine lv_istore_n (lv' := [(2, .int (iI ((m_sm (passf g) n) + (m_dayFin gq)))), (3, .int (iI ((n : Nat) : Int))), (0, .ref (a 0)), (1, .int (iI dd))]) hx hb dX4_pass_57 rfl hl (by decide) rfl (fun ls hl => ?_)
      refine n_inc (lv' := [(3, .int (iI (((n : Nat) : Int) + 1))), (2, .int (iI ((m_sm (passf g) n) + (m_dayFin gq)))), (0, .ref (a 0)), (1, .int (iI dd))]) hx hb dX4_pass_58 hl (k := 1) rfl (by decide) rfl (fun ls hl => ?_)
      refine lv_goto (tgt := 46) hx hb dX4_pass_61 (by decide) ?_
      have hl : lv_has ls 4 [(3, .int (iI (((n : Nat) : Int) + 1))), (2, .int (iI ((m_sm (passf g) n) + (m_dayFin gq)))), (0, .ref (a 0)), (1, .int (iI dd))] := lv_sub hl [0, 1, 2, 3] rfl
      have e12 : (((n : Nat) : Int) + 1) = (((n + 1) : Nat) : Int) := by rfl
      have e13 : ((m_sm (passf g) n) + (m_dayFin gq)) = (m_sm (passf g) (n + 1)) := by rw [sm_s, hgq]; rfl
      have hl : lv_has ls 4 [(3, .int (iI (((n + 1) : Nat) : Int))), (2, .int (iI (m_sm (passf g) (n + 1)))), (0, .ref (a 0)), (1, .int (iI dd))] := lv_cast hl (by rw [e12, e13])
      exact ih46 (n + 1) g11 v10 H locs ls (by omega) (by rw [hg11, hgq] <;> rfl) hP hS hl
  have hl : lv_has ls 4 [(3, .int (iI 0)), (2, .int (iI 0)), (0, .ref (a 0)), (1, .int (iI dd))] := lv_sub hl [0, 1, 2, 3] rfl
  have hl : lv_has ls 4 [(3, .int (iI ((0 : Nat) : Int))), (2, .int (iI (m_sm (passf g) 0))), (0, .ref (a 0)), (1, .int (iI dd))] := hl
  exact loop46 dd.toNat 0 g vt H locs ls (by omega) rfl hP hS hl

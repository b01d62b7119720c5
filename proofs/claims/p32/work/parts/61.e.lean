set_option maxHeartbeats 4000000 in
set_option maxRecDepth 100000 in
theorem c_countVotes (l : Launch) (D : va_G) (a : Nat → Nat) (cH cB cJ cI : ClassId) (ha : pj a) (g : m_St) (vt : Nat → Int32) (sz : Nat) (left : Int) (out : Int) (hWf : Wf g) (hleft : 0 ≤ left ∧ left < 65536) (hout : 0 ≤ out ∧ out < 2147483648) : Met l yX4_countVotes (wc yX4_countVotes cX4_countVotes 6 (some .int)) ({ frames := 2, cells := 0, slots := 0, locals := 44 }) (va_Pc [.ref (a 0), .int (iI left), .int (iI out)] (pS D a cH cB cJ cI sz g vt)) (va_Qi (fun (r : Int32) (_ : Unit) => r = iI (m_counted g left out)) (fun _ t => ∃ vt1 : Nat → Int32, va_P D vwCl (pw a cH cB cJ cI g vt1) t.heap ∧ (∀ b : Int, 0 ≤ b → b < 16 → vt1 b.toNat = iI (m_votesFor g left out b))) (pA a sz)) 0 0 (pA a sz) := by
  refine Met.ofW (cc := cX4_countVotes) (maxL := 6) (ret := (some .int)) (by decide +kernel) rfl ?_
  intro p e s m args below meth c s₁ B9 hml hv
  obtain ⟨rfl, hsz, hP, hK, hE⟩ := hv
  have hx := B9.exec
  have hb := B9.bytes
  have hr := B9.returns
  have hts := atoms_spec (ws := (wc yX4_countVotes cX4_countVotes 6 (some .int))) B9.pre
  have hw : ∀ w ∈ wsL_law0, w.before [.ref (a 0), .int (iI left), .int (iI out)].toArray s = true := fun w h => hts w (List.mem_cons_of_mem _ h)
  have hown : s.vm.findClass RX4 = some m.cls := findClass_of_methodNamed B9.named
  subst hsz
  have hS : va_S (pA a s.heap.size) s.heap s.heap [] := va_S.rf
  have hA : ∀ q : Nat, s.heap.size ≤ q → pA a s.heap.size q := fun _ h => pA_new h
  have hB : ∀ k, k < 58 → pA a s.heap.size (a k) := fun _ h => pA_in h
  have hl := lv_entry ([.ref (a 0), .int (iI left), .int (iI out)]) (n := 6) (Nat.le_of_ble_eq_true rfl)
  rw [lg_entry_eq]
  generalize (lg_sl ([.ref (a 0), .int (iI left), .int (iI out)]) ++ List.replicate (6 - (lg_sl ([.ref (a 0), .int (iI left), .int (iI out)])).length) Slot.unset).toArray = ls at hl ⊢
  have hl : lv_has ls 6 [(0, .ref (a 0)), (1, .int (iI left)), (2, .int (iI out))] := hl
  suffices h9 : ∀ (H : Heap) (locs : List Loc), va_P D vwCl (pw a cH cB cJ cI g vt) H → va_S (pA a s.heap.size) s.heap H locs → W p l e (headSpec (wc yX4_countVotes cX4_countVotes 6 (some .int)) ({ frames := 2, cells := 0, slots := 0, locals := 44 })).room s m [.ref (a 0), .int (iI left), .int (iI out)].toArray below meth c H locs 0 0 (MQ below (va_Qi (fun (r : Int32) (_ : Unit) => r = iI (m_counted g left out)) (fun _ t => ∃ vt1 : Nat → Int32, va_P D vwCl (pw a cH cB cJ cI g vt1) t.heap ∧ (∀ b : Int, 0 ≤ b → b < 16 → vt1 b.toNat = iI (m_votesFor g left out b))) (pA a s.heap.size)) [.ref (a 0), .int (iI left), .int (iI out)].toArray s 0 0 (pA a s.heap.size)) (F0 m 0 ls []) from h9 s.heap [] hP hS
  clear hP hS
  intro H locs hP hS
  have m5 := Wf.m5 hWf
  refine lv_iconst (v := iI 0) hx hb dX4_countVotes_0 (by decide) ?_
  refine lv_istore_n (lv' := [(3, .int (iI 0)), (0, .ref (a 0)), (1, .int (iI left)), (2, .int (iI out))]) hx hb dX4_countVotes_1 rfl hl (by decide) rfl (fun ls hl => ?_)
  have loop2 : ∀ (d n : Nat) (vq : Nat → Int32) (H : Heap) (locs : List Loc) (ls : Array Slot), n + d = 16 → (∀ b : Int, 0 ≤ b → b < ((n : Nat) : Int) → vq b.toNat = iI 0) → va_P D vwCl (pw a cH cB cJ cI g vq) H → va_S (pA a s.heap.size) s.heap H locs → lv_has ls 6 [(3, .int (iI ((n : Nat) : Int))), (0, .ref (a 0)), (1, .int (iI left)), (2, .int (iI out))] → W p l e (headSpec (wc yX4_countVotes cX4_countVotes 6 (some .int)) ({ frames := 2, cells := 0, slots := 0, locals := 44 })).room s m [.ref (a 0), .int (iI left), .int (iI out)].toArray below meth c H locs 0 0 (MQ below (va_Qi (fun (r : Int32) (_ : Unit) => r = iI (m_counted g left out)) (fun _ t => ∃ vt1 : Nat → Int32, va_P D vwCl (pw a cH cB cJ cI g vt1) t.heap ∧ (∀ b : Int, 0 ≤ b → b < 16 → vt1 b.toNat = iI (m_votesFor g left out b))) (pA a s.heap.size)) [.ref (a 0), .int (iI left), .int (iI out)].toArray s 0 0 (pA a s.heap.size)) (F0 m 2 ls []) := by
    intro d
    induction d with
    | zero =>
      intro n vq H locs ls hn hv0 hP hS hl
      obtain rfl : n = 16 := by omega
      refine lv_iload_n hx hb dX4_countVotes_2 rfl (lv_at hl 0 rfl) ?_
      refine lv_bipush (v := iI 16) hx hb dX4_countVotes_3 (by decide) ?_
      refine n_icmp_ge hx hb (by unfold RI; omega) (by unfold RI; omega) (tgt := 21) dX4_countVotes_5 (by decide) (fun h1 => ?_) (fun h1 => absurd h1 (by intro h1; omega))
      refine lv_iconst (v := iI 0) hx hb dX4_countVotes_21 (by decide) ?_
      refine lv_istore_n (lv' := [(3, .int (iI 0)), (0, .ref (a 0)), (1, .int (iI left)), (2, .int (iI out))]) hx hb dX4_countVotes_22 rfl hl (by decide) rfl (fun ls hl => ?_)
      refine lv_iconst (v := iI 0) hx hb dX4_countVotes_23 (by decide) ?_
      refine lv_istore (lv' := [(4, .int (iI 0)), (3, .int (iI 0)), (0, .ref (a 0)), (1, .int (iI left)), (2, .int (iI out))]) hx hb dX4_countVotes_24 hl (by decide) rfl (fun ls hl => ?_)
      have loop26 : ∀ (d1 n1 : Nat) (vq1 : Nat → Int32) (H : Heap) (locs : List Loc) (ls : Array Slot), n1 + d1 = (g 0 0 5).toNat → (∀ b : Int, 0 ≤ b → b < 16 → vq1 b.toNat = iI (m_cnt (fun j => m_chosen g left out j == b) n1)) → va_P D vwCl (pw a cH cB cJ cI g vq1) H → va_S (pA a s.heap.size) s.heap H locs → lv_has ls 6 [(4, .int (iI ((n1 : Nat) : Int))), (3, .int (iI (m_cnt (fun j => m_chosen g left out j != -1) n1))), (0, .ref (a 0)), (1, .int (iI left)), (2, .int (iI out))] → W p l e (headSpec (wc yX4_countVotes cX4_countVotes 6 (some .int)) ({ frames := 2, cells := 0, slots := 0, locals := 44 })).room s m [.ref (a 0), .int (iI left), .int (iI out)].toArray below meth c H locs 0 0 (MQ below (va_Qi (fun (r : Int32) (_ : Unit) => r = iI (m_counted g left out)) (fun _ t => ∃ vt1 : Nat → Int32, va_P D vwCl (pw a cH cB cJ cI g vt1) t.heap ∧ (∀ b : Int, 0 ≤ b → b < 16 → vt1 b.toNat = iI (m_votesFor g left out b))) (pA a s.heap.size)) [.ref (a 0), .int (iI left), .int (iI out)].toArray s 0 0 (pA a s.heap.size)) (F0 m 26 ls []) := by
        intro d1
        induction d1 with
        | zero =>
          intro n1 vq1 H locs ls hn1 hvs hP hS hl
          obtain rfl : n1 = (g 0 0 5).toNat := by omega
          refine lv_iload hx hb dX4_countVotes_26 (lv_at hl 0 rfl) ?_
          refine lv_aload_n hx hb dX4_countVotes_28 rfl (lv_at hl 2 rfl) ?_
          have s2 := Wf.m5 hWf
          refine va_get (D := D) (ci := 4) (v := .int (iI (g 0 0 5))) (C := RX4) (T := TX4) (N := 19) hx hb hw hin_wsX40 hown hK hP 0 pw_0 rfl 5 (by decide) (hw _ kw_81) (fun _ h9 => h9) rfl dX4_countVotes_29 ?_
          refine n_icmp_ge hx hb (by unfold RI; omega) (by unfold RI; omega) (tgt := 99) dX4_countVotes_32 (by decide) (fun h3 => ?_) (fun h3 => absurd h3 (by intro h3; omega))
          refine lv_iload_n hx hb dX4_countVotes_99 rfl (lv_at hl 1 rfl) ?_
          exact W.iret (v := (iI (m_cnt (fun j => m_chosen g left out j != -1) ((g 0 0 5).toNat)))) hx hb hr (fun t ht hW9 => ⟨⟨(iI (m_cnt (fun j => m_chosen g left out j != -1) ((g 0 0 5).toNat))), (), rfl, (congrArg iI (by rfl)), ⟨vq1, by rw [ht]; exact hP, hvs⟩⟩, hS.F ht⟩) hS.2.2 dX4_countVotes_100
        | succ d1 ih26 =>
          intro n1 vq1 H locs ls hn1 hvs hP hS hl
          refine lv_iload hx hb dX4_countVotes_26 (lv_at hl 0 rfl) ?_
          refine lv_aload_n hx hb dX4_countVotes_28 rfl (lv_at hl 2 rfl) ?_
          have s4 := Wf.m5 hWf
          refine va_get (D := D) (ci := 4) (v := .int (iI (g 0 0 5))) (C := RX4) (T := TX4) (N := 19) hx hb hw hin_wsX40 hown hK hP 0 pw_0 rfl 5 (by decide) (hw _ kw_81) (fun _ h9 => h9) rfl dX4_countVotes_29 ?_
          refine n_icmp_ge hx hb (by unfold RI; omega) (by unfold RI; omega) (tgt := 99) dX4_countVotes_32 (by decide) (fun h5 => absurd h5 (by intro h5; omega)) (fun h5 => ?_)
          refine lv_iload_n hx hb dX4_countVotes_35 rfl (lv_at hl 4 rfl) ?_
          refine lv_iload hx hb dX4_countVotes_36 (lv_at hl 0 rfl) ?_
          refine va_calli (va_runS (As := [.int (iI out), .int (iI ((n1 : Nat) : Int))]) (rest := []) ⟨hx, hb, hml, hown, hw⟩ (c_has l D a cH cB cJ cI ha g vq1 H.size out ((n1 : Nat) : Int) (by omega) (by omega)) (va_cwS 2 hw (gA_S kw_229 kw_223 kw_2 kw_224) rfl rfl rfl (by decide +kernel) ⟨Nat.le_of_ble_eq_true rfl, Nat.le_of_ble_eq_true rfl⟩) (pS_s hP hK hE) rfl rfl hl.1 rfl (lv_room (Nat.le_of_ble_eq_true rfl)) dX4_countVotes_38 ⟨Nat.le_of_ble_eq_true rfl, Nat.le_of_ble_eq_true rfl⟩) hS (fun q h1 h2 => ro_A h1 h2) (fun q h => ro_F hS hA q h) (fun r u t H1 locs ht hvm hw9 hB9 hz1 hk1 hS => ?_)
          have hw9 : r = (bi (m_has out ((n1 : Nat) : Int))) := hw9
          subst hw9
          have hP := ro_P hP hk1
          generalize H1 = H at hP hS ⊢
          refine n_b_eq hx hb (tgt := 48) dX4_countVotes_41 (by decide) (fun h6 => ?_) (fun h6 => ?_)
          · skip
            refine lv_aload_n hx hb dX4_countVotes_48 rfl (lv_at hl 2 rfl) ?_
            refine va_get (D := D) (ci := 4) (v := .ref (a 3)) (C := RX4) (T := TX4) (N := 19) hx hb hw hin_wsX40 hown hK hP 0 pw_0 rfl 2 (by decide) (hw _ kw_19) (fun _ h9 => h9) rfl dX4_countVotes_49 ?_
            refine lv_iload hx hb dX4_countVotes_52 (lv_at hl 0 rfl) ?_
            refine p_aldJ hx hb hK hP (k := ((n1 : Nat) : Int)) (by omega) (by omega) dX4_countVotes_54 ?_
            refine lv_iload_n hx hb dX4_countVotes_55 rfl (lv_at hl 3 rfl) ?_
            refine lv_aload_n hx hb dX4_countVotes_56 rfl (lv_at hl 2 rfl) ?_
            refine lv_aload_n hx hb dX4_countVotes_57 rfl (lv_at hl 2 rfl) ?_
            refine va_get (D := D) (ci := 4) (v := .ref (a 3)) (C := RX4) (T := TX4) (N := 19) hx hb hw hin_wsX40 hown hK hP 0 pw_0 rfl 2 (by decide) (hw _ kw_19) (fun _ h9 => h9) rfl dX4_countVotes_58 ?_
            refine lv_iload hx hb dX4_countVotes_61 (lv_at hl 0 rfl) ?_
            refine p_aldJ hx hb hK hP (k := ((n1 : Nat) : Int)) (by omega) (by omega) dX4_countVotes_63 ?_
            refine va_calli (va_runV (As := [.ref (a (28 + 6 * ((n1 : Nat) : Int).toNat))]) (rest := [.int (iI left), .ref (a (28 + 6 * ((n1 : Nat) : Int).toNat))]) ⟨hx, hb, hml, hown, hw⟩ (c_openTo l D a cH cB cJ cI ha g vq1 H.size ((n1 : Nat) : Int) hWf (by omega)) (cwV 1 hw (gA_V kw_393 kw_394 kw_395 kw_2 kw_396) rfl rfl rfl (by decide +kernel) ⟨Nat.le_of_ble_eq_true rfl, Nat.le_of_ble_eq_true rfl⟩) (pS_v (ci := 4) (q0 := 0) rfl pw_0 hP hK hE) rfl rfl hl.1 rfl (lv_room (Nat.le_of_ble_eq_true rfl)) dX4_countVotes_64 ⟨Nat.le_of_ble_eq_true rfl, Nat.le_of_ble_eq_true rfl⟩) hS (fun q h1 h2 => ro_A h1 h2) (fun q h => ro_F hS hA q h) (fun r u t H1 locs ht hvm hw9 hB9 hz1 hk1 hS => ?_)
            have hw9 : r = (iI (m_openTo g ((n1 : Nat) : Int))) := hw9
            subst hw9
            have hP := ro_P hP hk1
            generalize H1 = H at hP hS ⊢
            have s7 := open_b hWf ((n1 : Nat) : Int)
            refine n_and hx hb (by omega) (by omega) dX4_countVotes_67 ?_
            have s8 := ba_nn left (m_openTo g ((n1 : Nat) : Int))
            have s9 := ba_le (S := left) (T := (m_openTo g ((n1 : Nat) : Int))) (by omega)
            refine va_calli (va_runV (As := [.int (iI (m_ba left (m_openTo g ((n1 : Nat) : Int))))]) (rest := []) ⟨hx, hb, hml, hown, hw⟩ (c_firstIn l D a cH cB cJ cI ha g vq1 H.size ((n1 : Nat) : Int) (m_ba left (m_openTo g ((n1 : Nat) : Int))) hWf (by omega) (by omega)) (cwV 1 hw (gA_V kw_397 kw_398 kw_399 kw_34 kw_400) rfl rfl rfl (by decide +kernel) ⟨Nat.le_of_ble_eq_true rfl, Nat.le_of_ble_eq_true rfl⟩) (pS_v (ci := 2) (q0 := (28 + 6 * ((n1 : Nat) : Int).toNat)) rfl (pw_J (j := ((n1 : Nat) : Int)) (by omega) (by omega)) hP hK hE) rfl rfl hl.1 rfl (lv_room (Nat.le_of_ble_eq_true rfl)) dX4_countVotes_68 ⟨Nat.le_of_ble_eq_true rfl, Nat.le_of_ble_eq_true rfl⟩) hS (fun q h1 h2 => ro_A h1 h2) (fun q h => ro_F hS hA q h) (fun r u t H1 locs ht hvm hw9 hB9 hz1 hk1 hS => ?_)
            have hw9 : r = (iI (m_firstIn g ((n1 : Nat) : Int) (m_ba left (m_openTo g ((n1 : Nat) : Int))))) := hw9
            subst hw9
            have hP := ro_P hP hk1
            generalize H1 = H at hP hS ⊢
            have s10 := first_b hWf (jj := ((n1 : Nat) : Int)) (S := (m_ba left (m_openTo g ((n1 : Nat) : Int)))) (by omega)
            refine lv_istore (lv' := [(5, .int (iI (m_firstIn g ((n1 : Nat) : Int) (m_ba left (m_openTo g ((n1 : Nat) : Int)))))), (4, .int (iI ((n1 : Nat) : Int))), (3, .int (iI (m_cnt (fun j => m_chosen g left out j != -1) n1))), (0, .ref (a 0)), (1, .int (iI left)), (2, .int (iI out))]) hx hb dX4_countVotes_71 hl (by decide) rfl (fun ls hl => ?_)
            refine lv_iload hx hb dX4_countVotes_73 (lv_at hl 0 rfl) ?_
            refine lv_iconst (v := iI (-1)) hx hb dX4_countVotes_75 (by decide) ?_
            refine n_icmp_eq hx hb (by unfold RI; omega) (by unfold RI; omega) (tgt := 93) dX4_countVotes_76 (by decide) (fun h11 => ?_) (fun h11 => ?_)
            · skip
              refine n_inc (lv' := [(4, .int (iI (((n1 : Nat) : Int) + 1))), (5, .int (iI (m_firstIn g ((n1 : Nat) : Int) (m_ba left (m_openTo g ((n1 : Nat) : Int)))))), (3, .int (iI (m_cnt (fun j => m_chosen g left out j != -1) n1))), (0, .ref (a 0)), (1, .int (iI left)), (2, .int (iI out))]) hx hb dX4_countVotes_93 hl (k := 1) rfl (by decide) rfl (fun ls hl => ?_)
              refine lv_goto (tgt := 26) hx hb dX4_countVotes_96 (by decide) ?_
              have hl : lv_has ls 6 [(4, .int (iI (((n1 : Nat) : Int) + 1))), (3, .int (iI (m_cnt (fun j => m_chosen g left out j != -1) n1))), (0, .ref (a 0)), (1, .int (iI left)), (2, .int (iI out))] := lv_sub hl [0, 2, 3, 4, 5] rfl
              have e12 : (((n1 : Nat) : Int) + 1) = (((n1 + 1) : Nat) : Int) := by rfl
              have e13 : (m_cnt (fun j => m_chosen g left out j != -1) n1) = (m_cnt (fun j => m_chosen g left out j != -1) (n1 + 1)) := by exact (cnt_f (q := fun j => m_chosen g left out j != -1) (n := n1) (by simp [m_chosen, h1, Int.not_lt.mpr h1, h5, Int.not_le.mpr h5, h6, h11]; try omega)).symm
              have hl : lv_has ls 6 [(4, .int (iI (((n1 + 1) : Nat) : Int))), (3, .int (iI (m_cnt (fun j => m_chosen g left out j != -1) (n1 + 1)))), (0, .ref (a 0)), (1, .int (iI left)), (2, .int (iI out))] := lv_cast hl (by rw [e12, e13])
              exact ih26 (n1 + 1) vq1 H locs ls (by omega) (by first | exact votes_stay (q := m_chosen g left out) hvs (by simp [m_chosen, h1, Int.not_lt.mpr h1, h5, Int.not_le.mpr h5, h6, h11]; try omega) | (rw [hvq1]; exact votes_step (q := m_chosen g left out) (by omega) hvs (by simp [m_chosen, h1, Int.not_lt.mpr h1, h5, Int.not_le.mpr h5, h6, h11]))) hP hS hl
            · skip
              refine lv_aload_n hx hb dX4_countVotes_79 rfl (lv_at hl 3 rfl) ?_
              refine va_get (D := D) (ci := 4) (v := .ref (a 6)) (C := RX4) (T := TX4) (N := 19) hx hb hw hin_wsX40 hown hK hP 0 pw_0 rfl 18 (by decide) (hw _ kw_28) (fun _ h9 => h9) rfl dX4_countVotes_80 ?_
              refine lv_iload hx hb dX4_countVotes_83 (lv_at hl 0 rfl) ?_
              refine lv_dup2_11 hx hb dX4_countVotes_85 rfl rfl ?_
              refine p_vrd hx hb hK hP (k := (m_firstIn g ((n1 : Nat) : Int) (m_ba left (m_openTo g ((n1 : Nat) : Int))))) (by omega) (by omega) dX4_countVotes_86 ?_
              rw [hvs (m_firstIn g ((n1 : Nat) : Int) (m_ba left (m_openTo g ((n1 : Nat) : Int)))) (by omega) (by omega)]
              refine lv_iconst (v := iI 1) hx hb dX4_countVotes_87 (by decide) ?_
              refine n_add hx hb dX4_countVotes_88 ?_
              refine p_vwr hx hb hK hP (pw_D ha (fun k hk => pA_in hk)) hS (k := (m_firstIn g ((n1 : Nat) : Int) (m_ba left (m_openTo g ((n1 : Nat) : Int))))) (x := (iI ((m_cnt (fun j => m_chosen g left out j == (m_firstIn g ((n1 : Nat) : Int) (m_ba left (m_openTo g ((n1 : Nat) : Int))))) n1) + 1))) (by omega) (by omega) dX4_countVotes_89 (fun H locs hP hS => ?_)
              obtain ⟨v14, hv14⟩ : ∃ z, z = upd vq1 ((m_firstIn g ((n1 : Nat) : Int) (m_ba left (m_openTo g ((n1 : Nat) : Int))))).toNat (iI ((m_cnt (fun j => m_chosen g left out j == (m_firstIn g ((n1 : Nat) : Int) (m_ba left (m_openTo g ((n1 : Nat) : Int))))) n1) + 1)) := ⟨_, rfl⟩
              rw [← hv14] at hP
              refine n_inc (lv' := [(3, .int (iI ((m_cnt (fun j => m_chosen g left out j != -1) n1) + 1))), (5, .int (iI (m_firstIn g ((n1 : Nat) : Int) (m_ba left (m_openTo g ((n1 : Nat) : Int)))))), (4, .int (iI ((n1 : Nat) : Int))), (0, .ref (a 0)), (1, .int (iI left)), (2, .int (iI out))]) hx hb dX4_countVotes_90 hl (k := 2) rfl (by decide) rfl (fun ls hl => ?_)
              refine n_inc (lv' := [(4, .int (iI (((n1 : Nat) : Int) + 1))), (3, .int (iI ((m_cnt (fun j => m_chosen g left out j != -1) n1) + 1))), (5, .int (iI (m_firstIn g ((n1 : Nat) : Int) (m_ba left (m_openTo g ((n1 : Nat) : Int)))))), (0, .ref (a 0)), (1, .int (iI left)), (2, .int (iI out))]) hx hb dX4_countVotes_93 hl (k := 2) rfl (by decide) rfl (fun ls hl => ?_)
              refine lv_goto (tgt := 26) hx hb dX4_countVotes_96 (by decide) ?_
              have hl : lv_has ls 6 [(4, .int (iI (((n1 : Nat) : Int) + 1))), (3, .int (iI ((m_cnt (fun j => m_chosen g left out j != -1) n1) + 1))), (0, .ref (a 0)), (1, .int (iI left)), (2, .int (iI out))] := lv_sub hl [0, 1, 3, 4, 5] rfl
              have e15 : (((n1 : Nat) : Int) + 1) = (((n1 + 1) : Nat) : Int) := by rfl
              have e16 : ((m_cnt (fun j => m_chosen g left out j != -1) n1) + 1) = (m_cnt (fun j => m_chosen g left out j != -1) (n1 + 1)) := by exact (cnt_t (q := fun j => m_chosen g left out j != -1) (n := n1) (by simp [m_chosen, h1, Int.not_lt.mpr h1, h5, Int.not_le.mpr h5, h6, h11, beq_false_of_ne h11]; try omega)).symm
              have hl : lv_has ls 6 [(4, .int (iI (((n1 + 1) : Nat) : Int))), (3, .int (iI (m_cnt (fun j => m_chosen g left out j != -1) (n1 + 1)))), (0, .ref (a 0)), (1, .int (iI left)), (2, .int (iI out))] := lv_cast hl (by rw [e15, e16])
              exact ih26 (n1 + 1) v14 H locs ls (by omega) (by first | exact votes_stay (q := m_chosen g left out) hvs (by simp [m_chosen, h1, Int.not_lt.mpr h1, h5, Int.not_le.mpr h5, h6, h11, beq_false_of_ne h11]; try omega) | (rw [hv14]; exact votes_step (q := m_chosen g left out) (by omega) hvs (by simp [m_chosen, h1, Int.not_lt.mpr h1, h5, Int.not_le.mpr h5, h6, h11, beq_false_of_ne h11]))) hP hS hl
          · skip
            refine lv_iconst (v := iI (-1)) hx hb dX4_countVotes_44 (by decide) ?_
            refine lv_goto (tgt := 71) hx hb dX4_countVotes_45 (by decide) ?_
            refine lv_istore (lv' := [(5, .int (iI (-1))), (4, .int (iI ((n1 : Nat) : Int))), (3, .int (iI (m_cnt (fun j => m_chosen g left out j != -1) n1))), (0, .ref (a 0)), (1, .int (iI left)), (2, .int (iI out))]) hx hb dX4_countVotes_71 hl (by decide) rfl (fun ls hl => ?_)
            refine lv_iload hx hb dX4_countVotes_73 (lv_at hl 0 rfl) ?_
            refine lv_iconst (v := iI (-1)) hx hb dX4_countVotes_75 (by decide) ?_
            refine n_icmp_eq hx hb (by unfold RI; omega) (by unfold RI; omega) (tgt := 93) dX4_countVotes_76 (by decide) (fun h17 => ?_) (fun h17 => absurd h17 (by intro h17; omega))
            refine n_inc (lv' := [(4, .int (iI (((n1 : Nat) : Int) + 1))), (5, .int (iI (-1))), (3, .int (iI (m_cnt (fun j => m_chosen g left out j != -1) n1))), (0, .ref (a 0)), (1, .int (iI left)), (2, .int (iI out))]) hx hb dX4_countVotes_93 hl (k := 1) rfl (by decide) rfl (fun ls hl => ?_)
            refine lv_goto (tgt := 26) hx hb dX4_countVotes_96 (by decide) ?_
            have hl : lv_has ls 6 [(4, .int (iI (((n1 : Nat) : Int) + 1))), (3, .int (iI (m_cnt (fun j => m_chosen g left out j != -1) n1))), (0, .ref (a 0)), (1, .int (iI left)), (2, .int (iI out))] := lv_sub hl [0, 2, 3, 4, 5] rfl
            have e18 : (((n1 : Nat) : Int) + 1) = (((n1 + 1) : Nat) : Int) := by rfl
            have e19 : (m_cnt (fun j => m_chosen g left out j != -1) n1) = (m_cnt (fun j => m_chosen g left out j != -1) (n1 + 1)) := by exact (cnt_f (q := fun j => m_chosen g left out j != -1) (n := n1) (by simp [m_chosen, h1, Int.not_lt.mpr h1, h5, Int.not_le.mpr h5, h6, h17]; try omega)).symm
            have hl : lv_has ls 6 [(4, .int (iI (((n1 + 1) : Nat) : Int))), (3, .int (iI (m_cnt (fun j => m_chosen g left out j != -1) (n1 + 1)))), (0, .ref (a 0)), (1, .int (iI left)), (2, .int (iI out))] := lv_cast hl (by rw [e18, e19])
            exact ih26 (n1 + 1) vq1 H locs ls (by omega) (by first | exact votes_stay (q := m_chosen g left out) hvs (by simp [m_chosen, h1, Int.not_lt.mpr h1, h5, Int.not_le.mpr h5, h6, h17]; try omega) | (rw [hvq1]; exact votes_step (q := m_chosen g left out) (by omega) hvs (by simp [m_chosen, h1, Int.not_lt.mpr h1, h5, Int.not_le.mpr h5, h6, h17]))) hP hS hl
      have hl : lv_has ls 6 [(4, .int (iI 0)), (3, .int (iI 0)), (0, .ref (a 0)), (1, .int (iI left)), (2, .int (iI out))] := lv_sub hl [0, 1, 2, 3, 4] rfl
      have hl : lv_has ls 6 [(4, .int (iI ((0 : Nat) : Int))), (3, .int (iI (m_cnt (fun j => m_chosen g left out j != -1) 0))), (0, .ref (a 0)), (1, .int (iI left)), (2, .int (iI out))] := hl
      exact loop26 ((g 0 0 5).toNat) 0 vq H locs ls (by omega) (fun b h1 h2 => by rw [hv0 b h1 (by omega)]; rfl) hP hS hl
    | succ d ih2 =>
      intro n vq H locs ls hn hv0 hP hS hl
      refine lv_iload_n hx hb dX4_countVotes_2 rfl (lv_at hl 0 rfl) ?_
      refine lv_bipush (v := iI 16) hx hb dX4_countVotes_3 (by decide) ?_
      refine n_icmp_ge hx hb (by unfold RI; omega) (by unfold RI; omega) (tgt := 21) dX4_countVotes_5 (by decide) (fun h20 => absurd h20 (by intro h20; omega)) (fun h20 => ?_)
      refine lv_aload_n hx hb dX4_countVotes_8 rfl (lv_at hl 1 rfl) ?_
      refine va_get (D := D) (ci := 4) (v := .ref (a 6)) (C := RX4) (T := TX4) (N := 19) hx hb hw hin_wsX40 hown hK hP 0 pw_0 rfl 18 (by decide) (hw _ kw_28) (fun _ h9 => h9) rfl dX4_countVotes_9 ?_
      refine lv_iload_n hx hb dX4_countVotes_12 rfl (lv_at hl 0 rfl) ?_
      refine lv_iconst (v := iI 0) hx hb dX4_countVotes_13 (by decide) ?_
      refine p_vwr hx hb hK hP (pw_D ha (fun k hk => pA_in hk)) hS (k := ((n : Nat) : Int)) (x := (iI 0)) (by omega) (by omega) dX4_countVotes_14 (fun H locs hP hS => ?_)
      obtain ⟨v21, hv21⟩ : ∃ z, z = upd vq (((n : Nat) : Int)).toNat (iI 0) := ⟨_, rfl⟩
      rw [← hv21] at hP
      refine n_inc (lv' := [(3, .int (iI (((n : Nat) : Int) + 1))), (0, .ref (a 0)), (1, .int (iI left)), (2, .int (iI out))]) hx hb dX4_countVotes_15 hl (k := 0) rfl (by decide) rfl (fun ls hl => ?_)
      refine lv_goto (tgt := 2) hx hb dX4_countVotes_18 (by decide) ?_
      have hl : lv_has ls 6 [(3, .int (iI (((n : Nat) : Int) + 1))), (0, .ref (a 0)), (1, .int (iI left)), (2, .int (iI out))] := lv_sub hl [0, 1, 2, 3] rfl
      have e22 : (((n : Nat) : Int) + 1) = (((n + 1) : Nat) : Int) := by rfl
      have hl : lv_has ls 6 [(3, .int (iI (((n + 1) : Nat) : Int))), (0, .ref (a 0)), (1, .int (iI left)), (2, .int (iI out))] := lv_cast hl (by rw [e22])
      exact ih2 (n + 1) v21 H locs ls (by omega) (by rw [hv21]; exact votes_0 hv0) hP hS hl
  have hl : lv_has ls 6 [(3, .int (iI 0)), (0, .ref (a 0)), (1, .int (iI left)), (2, .int (iI out))] := lv_sub hl [0, 1, 2, 3] rfl
  have hl : lv_has ls 6 [(3, .int (iI ((0 : Nat) : Int))), (0, .ref (a 0)), (1, .int (iI left)), (2, .int (iI out))] := hl
  exact loop2 16 0 vt H locs ls (by omega) (fun b h1 h2 => absurd h2 (by simp at h2 ⊢; omega)) hP hS hl
set_option maxHeartbeats 4000000 in
set_option maxRecDepth 100000 in
theorem c_aboveHalf (l : Launch) (D : va_G) (a : Nat → Nat) (cH cB cJ cI : ClassId) (ha : pj a) (g : m_St) (vt : Nat → Int32) (sz : Nat) (left : Int) (out : Int) (hWf : Wf g) (hleft : 0 ≤ left ∧ left < 65536) (hvt : ∀ b : Int, 0 ≤ b → b < 16 → vt b.toNat = iI (m_votesFor g left out b)) : Met l yX4_aboveHalf (wc yX4_aboveHalf cX4_aboveHalf 4 (some .int)) ({ frames := 1, cells := 0, slots := 0, locals := 21 }) (va_Pc [.ref (a 0), .int (iI left), .int (iI (m_counted g left out))] (pS D a cH cB cJ cI sz g vt)) (va_Qi (fun (r : Int32) (_ : Unit) => r = iI (m_aboveHalf g left out)) (fun _ _ => True) (fun q => sz ≤ q)) 0 0 (fun q => sz ≤ q) := by
  refine Met.ofW (cc := cX4_aboveHalf) (maxL := 4) (ret := (some .int)) (by decide +kernel) rfl ?_
  intro p e s m args below meth c s₁ B9 hml hv
  obtain ⟨rfl, hsz, hP, hK, hE⟩ := hv
  have hx := B9.exec
  have hb := B9.bytes
  have hr := B9.returns
  have hts := atoms_spec (ws := (wc yX4_aboveHalf cX4_aboveHalf 4 (some .int))) B9.pre
  have hw : ∀ w ∈ wsL_law0, w.before [.ref (a 0), .int (iI left), .int (iI (m_counted g left out))].toArray s = true := fun w h => hts w (List.mem_cons_of_mem _ h)
  have hown : s.vm.findClass RX4 = some m.cls := findClass_of_methodNamed B9.named
  subst hsz
  have hS : va_S (fun q => s.heap.size ≤ q) s.heap s.heap [] := va_S.rf
  have hA : ∀ q : Nat, s.heap.size ≤ q → (fun q : Nat => s.heap.size ≤ q) q := fun _ h => h
  have hl := lv_entry ([.ref (a 0), .int (iI left), .int (iI (m_counted g left out))]) (n := 4) (Nat.le_of_ble_eq_true rfl)
  rw [lg_entry_eq]
  generalize (lg_sl ([.ref (a 0), .int (iI left), .int (iI (m_counted g left out))]) ++ List.replicate (4 - (lg_sl ([.ref (a 0), .int (iI left), .int (iI (m_counted g left out))])).length) Slot.unset).toArray = ls at hl ⊢
  have hl : lv_has ls 4 [(0, .ref (a 0)), (1, .int (iI left)), (2, .int (iI (m_counted g left out)))] := hl
  suffices h9 : ∀ (H : Heap) (locs : List Loc), va_P D vwCl (pw a cH cB cJ cI g vt) H → va_S (fun q => s.heap.size ≤ q) s.heap H locs → W p l e (headSpec (wc yX4_aboveHalf cX4_aboveHalf 4 (some .int)) ({ frames := 1, cells := 0, slots := 0, locals := 21 })).room s m [.ref (a 0), .int (iI left), .int (iI (m_counted g left out))].toArray below meth c H locs 0 0 (MQ below (va_Qi (fun (r : Int32) (_ : Unit) => r = iI (m_aboveHalf g left out)) (fun _ _ => True) (fun q => s.heap.size ≤ q)) [.ref (a 0), .int (iI left), .int (iI (m_counted g left out))].toArray s 0 0 (fun q => s.heap.size ≤ q)) (F0 m 0 ls []) from h9 s.heap [] hP hS
  clear hP hS
  intro H locs hP hS
  have m4 := Wf.m4 hWf
  have hcb := cnt5 hWf (fun j => m_chosen g left out j != -1)
  have hcb : 0 ≤ m_counted g left out ∧ m_counted g left out ≤ 5 := hcb
  refine lv_iconst (v := iI 0) hx hb dX4_aboveHalf_0 (by decide) ?_
  refine lv_istore_n (lv' := [(3, .int (iI 0)), (0, .ref (a 0)), (1, .int (iI left)), (2, .int (iI (m_counted g left out)))]) hx hb dX4_aboveHalf_1 rfl hl (by decide) rfl (fun ls hl => ?_)
  have loop2 : ∀ (d n : Nat) (H : Heap) (locs : List Loc) (ls : Array Slot), n + d = (g 0 0 4).toNat → (m_aboveHalf g left out = m_fs (fun b => m_has left b && decide (m_counted g left out < 2 * m_votesFor g left out b)) d ((n : Nat) : Int)) → va_P D vwCl (pw a cH cB cJ cI g vt) H → va_S (fun q => s.heap.size ≤ q) s.heap H locs → lv_has ls 4 [(3, .int (iI ((n : Nat) : Int))), (0, .ref (a 0)), (1, .int (iI left)), (2, .int (iI (m_counted g left out)))] → W p l e (headSpec (wc yX4_aboveHalf cX4_aboveHalf 4 (some .int)) ({ frames := 1, cells := 0, slots := 0, locals := 21 })).room s m [.ref (a 0), .int (iI left), .int (iI (m_counted g left out))].toArray below meth c H locs 0 0 (MQ below (va_Qi (fun (r : Int32) (_ : Unit) => r = iI (m_aboveHalf g left out)) (fun _ _ => True) (fun q => s.heap.size ≤ q)) [.ref (a 0), .int (iI left), .int (iI (m_counted g left out))].toArray s 0 0 (fun q => s.heap.size ≤ q)) (F0 m 2 ls []) := by
    intro d
    induction d with
    | zero =>
      intro n H locs ls hn hq hP hS hl
      obtain rfl : n = (g 0 0 4).toNat := by omega
      refine lv_iload_n hx hb dX4_aboveHalf_2 rfl (lv_at hl 0 rfl) ?_
      refine lv_aload_n hx hb dX4_aboveHalf_3 rfl (lv_at hl 1 rfl) ?_
      have s1 := Wf.m4 hWf
      refine va_get (D := D) (ci := 4) (v := .int (iI (g 0 0 4))) (C := RX4) (T := TX4) (N := 19) hx hb hw hin_wsX40 hown hK hP 0 pw_0 rfl 4 (by decide) (hw _ kw_98) (fun _ h9 => h9) rfl dX4_aboveHalf_4 ?_
      refine n_icmp_ge hx hb (by unfold RI; omega) (by unfold RI; omega) (tgt := 38) dX4_aboveHalf_7 (by decide) (fun h2 => ?_) (fun h2 => absurd h2 (by intro h2; omega))
      refine lv_iconst (v := iI (-1)) hx hb dX4_aboveHalf_38 (by decide) ?_
      exact W.iret (v := (iI (-1))) hx hb hr (fun t ht hW9 => ⟨⟨(iI (-1)), (), rfl, (congrArg iI (by rw [hq]; first | rfl | simp [m_fs, h2, Int.not_lt.mpr h2])), trivial⟩, hS.F ht⟩) hS.2.2 dX4_aboveHalf_39
    | succ d ih2 =>
      intro n H locs ls hn hq hP hS hl
      have hvb : 0 ≤ m_votesFor g left out ↑n ∧ m_votesFor g left out ↑n ≤ 5 := cnt5 hWf _
      refine lv_iload_n hx hb dX4_aboveHalf_2 rfl (lv_at hl 0 rfl) ?_
      refine lv_aload_n hx hb dX4_aboveHalf_3 rfl (lv_at hl 1 rfl) ?_
      have s3 := Wf.m4 hWf
      refine va_get (D := D) (ci := 4) (v := .int (iI (g 0 0 4))) (C := RX4) (T := TX4) (N := 19) hx hb hw hin_wsX40 hown hK hP 0 pw_0 rfl 4 (by decide) (hw _ kw_98) (fun _ h9 => h9) rfl dX4_aboveHalf_4 ?_
      refine n_icmp_ge hx hb (by unfold RI; omega) (by unfold RI; omega) (tgt := 38) dX4_aboveHalf_7 (by decide) (fun h4 => absurd h4 (by intro h4; omega)) (fun h4 => ?_)
      refine lv_iload_n hx hb dX4_aboveHalf_10 rfl (lv_at hl 2 rfl) ?_
      refine lv_iload_n hx hb dX4_aboveHalf_11 rfl (lv_at hl 0 rfl) ?_
      refine va_calli (va_runS (As := [.int (iI left), .int (iI ((n : Nat) : Int))]) (rest := []) ⟨hx, hb, hml, hown, hw⟩ (c_has l D a cH cB cJ cI ha g vt H.size left ((n : Nat) : Int) (by omega) (by omega)) (va_cwS 2 hw (gA_S kw_229 kw_223 kw_2 kw_224) rfl rfl rfl (by decide +kernel) ⟨Nat.le_of_ble_eq_true rfl, Nat.le_of_ble_eq_true rfl⟩) (pS_s hP hK hE) rfl rfl hl.1 rfl (lv_room (Nat.le_of_ble_eq_true rfl)) dX4_aboveHalf_12 ⟨Nat.le_of_ble_eq_true rfl, Nat.le_of_ble_eq_true rfl⟩) hS (fun q h1 h2 => ro_A h1 h2) (fun q h => ro_F hS hA q h) (fun r u t H1 locs ht hvm hw9 hB9 hz1 hk1 hS => ?_)
      have hw9 : r = (bi (m_has left ((n : Nat) : Int))) := hw9
      subst hw9
      have hP := ro_P hP hk1
      generalize H1 = H at hP hS ⊢
      refine n_b_eq hx hb (tgt := 32) dX4_aboveHalf_15 (by decide) (fun h5 => ?_) (fun h5 => ?_)
      · skip
        refine n_inc (lv' := [(3, .int (iI (((n : Nat) : Int) + 1))), (0, .ref (a 0)), (1, .int (iI left)), (2, .int (iI (m_counted g left out)))]) hx hb dX4_aboveHalf_32 hl (k := 0) rfl (by decide) rfl (fun ls hl => ?_)
        refine lv_goto (tgt := 2) hx hb dX4_aboveHalf_35 (by decide) ?_
        have hl : lv_has ls 4 [(3, .int (iI (((n : Nat) : Int) + 1))), (0, .ref (a 0)), (1, .int (iI left)), (2, .int (iI (m_counted g left out)))] := lv_sub hl [0, 1, 2, 3] rfl
        have e6 : (((n : Nat) : Int) + 1) = (((n + 1) : Nat) : Int) := by rfl
        have hl : lv_has ls 4 [(3, .int (iI (((n + 1) : Nat) : Int))), (0, .ref (a 0)), (1, .int (iI left)), (2, .int (iI (m_counted g left out)))] := lv_cast hl (by rw [e6])
        exact ih2 (n + 1) H locs ls (by omega) (by rw [hq]; simp [m_fs, h4, Int.not_le.mpr h4, h5]) hP hS hl
      · skip
        refine lv_iconst (v := iI 2) hx hb dX4_aboveHalf_18 (by decide) ?_
        refine lv_aload_n hx hb dX4_aboveHalf_19 rfl (lv_at hl 1 rfl) ?_
        refine va_get (D := D) (ci := 4) (v := .ref (a 6)) (C := RX4) (T := TX4) (N := 19) hx hb hw hin_wsX40 hown hK hP 0 pw_0 rfl 18 (by decide) (hw _ kw_28) (fun _ h9 => h9) rfl dX4_aboveHalf_20 ?_
        refine lv_iload_n hx hb dX4_aboveHalf_23 rfl (lv_at hl 0 rfl) ?_
        refine p_vrd hx hb hK hP (k := ((n : Nat) : Int)) (by omega) (by omega) dX4_aboveHalf_24 ?_
        rw [hvt ((n : Nat) : Int) (by omega) (by omega)]
        refine n_mul hx hb dX4_aboveHalf_25 ?_
        refine lv_iload_n hx hb dX4_aboveHalf_26 rfl (lv_at hl 3 rfl) ?_
        refine n_icmp_le hx hb (by unfold RI; omega) (by unfold RI; omega) (tgt := 32) dX4_aboveHalf_27 (by decide) (fun h7 => ?_) (fun h7 => ?_)
        · skip
          refine n_inc (lv' := [(3, .int (iI (((n : Nat) : Int) + 1))), (0, .ref (a 0)), (1, .int (iI left)), (2, .int (iI (m_counted g left out)))]) hx hb dX4_aboveHalf_32 hl (k := 0) rfl (by decide) rfl (fun ls hl => ?_)
          refine lv_goto (tgt := 2) hx hb dX4_aboveHalf_35 (by decide) ?_
          have hl : lv_has ls 4 [(3, .int (iI (((n : Nat) : Int) + 1))), (0, .ref (a 0)), (1, .int (iI left)), (2, .int (iI (m_counted g left out)))] := lv_sub hl [0, 1, 2, 3] rfl
          have e8 : (((n : Nat) : Int) + 1) = (((n + 1) : Nat) : Int) := by rfl
          have hl : lv_has ls 4 [(3, .int (iI (((n + 1) : Nat) : Int))), (0, .ref (a 0)), (1, .int (iI left)), (2, .int (iI (m_counted g left out)))] := lv_cast hl (by rw [e8])
          exact ih2 (n + 1) H locs ls (by omega) (by rw [hq]; simp [m_fs, h4, Int.not_le.mpr h4, h5, h7, Int.not_lt.mpr h7]) hP hS hl
        · skip
          refine lv_iload_n hx hb dX4_aboveHalf_30 rfl (lv_at hl 0 rfl) ?_
          exact W.iret (v := (iI ((n : Nat) : Int))) hx hb hr (fun t ht hW9 => ⟨⟨(iI ((n : Nat) : Int)), (), rfl, (congrArg iI (by rw [hq]; first | rfl | simp [m_fs, h4, Int.not_le.mpr h4, h5, h7, Int.not_le.mpr h7])), trivial⟩, hS.F ht⟩) hS.2.2 dX4_aboveHalf_31
  have hl : lv_has ls 4 [(3, .int (iI 0)), (0, .ref (a 0)), (1, .int (iI left)), (2, .int (iI (m_counted g left out)))] := lv_sub hl [0, 1, 2, 3] rfl
  have hl : lv_has ls 4 [(3, .int (iI ((0 : Nat) : Int))), (0, .ref (a 0)), (1, .int (iI left)), (2, .int (iI (m_counted g left out)))] := hl
  exact loop2 ((g 0 0 4).toNat) 0 H locs ls (by omega) rfl hP hS hl
set_option maxHeartbeats 4000000 in
set_option maxRecDepth 100000 in
theorem c_weakestOf (l : Launch) (D : va_G) (a : Nat → Nat) (cH cB cJ cI : ClassId) (ha : pj a) (g : m_St) (vt : Nat → Int32) (sz : Nat) (left : Int) (out : Int) (hWf : Wf g) (hleft : 0 ≤ left ∧ left < 65536) (hvt : ∀ b : Int, 0 ≤ b → b < 16 → vt b.toNat = iI (m_votesFor g left out b)) : Met l yX4_weakestOf (wc yX4_weakestOf cX4_weakestOf 4 (some .int)) ({ frames := 3, cells := 0, slots := 0, locals := 67 }) (va_Pc [.ref (a 0), .int (iI left)] (pS D a cH cB cJ cI sz g vt)) (va_Qi (fun (r : Int32) (_ : Unit) => r = iI (m_weakest g left out)) (fun _ _ => True) (fun q => sz ≤ q)) 0 0 (fun q => sz ≤ q) := by
  refine Met.ofW (cc := cX4_weakestOf) (maxL := 4) (ret := (some .int)) (by decide +kernel) rfl ?_
  intro p e s m args below meth c s₁ B9 hml hv
  obtain ⟨rfl, hsz, hP, hK, hE⟩ := hv
  have hx := B9.exec
  have hb := B9.bytes
  have hr := B9.returns
  have hts := atoms_spec (ws := (wc yX4_weakestOf cX4_weakestOf 4 (some .int))) B9.pre
  have hw : ∀ w ∈ wsL_law0, w.before [.ref (a 0), .int (iI left)].toArray s = true := fun w h => hts w (List.mem_cons_of_mem _ h)
  have hown : s.vm.findClass RX4 = some m.cls := findClass_of_methodNamed B9.named
  subst hsz
  have hS : va_S (fun q => s.heap.size ≤ q) s.heap s.heap [] := va_S.rf
  have hA : ∀ q : Nat, s.heap.size ≤ q → (fun q : Nat => s.heap.size ≤ q) q := fun _ h => h
  have hl := lv_entry ([.ref (a 0), .int (iI left)]) (n := 4) (Nat.le_of_ble_eq_true rfl)
  rw [lg_entry_eq]
  generalize (lg_sl ([.ref (a 0), .int (iI left)]) ++ List.replicate (4 - (lg_sl ([.ref (a 0), .int (iI left)])).length) Slot.unset).toArray = ls at hl ⊢
  have hl : lv_has ls 4 [(0, .ref (a 0)), (1, .int (iI left))] := hl
  suffices h9 : ∀ (H : Heap) (locs : List Loc), va_P D vwCl (pw a cH cB cJ cI g vt) H → va_S (fun q => s.heap.size ≤ q) s.heap H locs → W p l e (headSpec (wc yX4_weakestOf cX4_weakestOf 4 (some .int)) ({ frames := 3, cells := 0, slots := 0, locals := 67 })).room s m [.ref (a 0), .int (iI left)].toArray below meth c H locs 0 0 (MQ below (va_Qi (fun (r : Int32) (_ : Unit) => r = iI (m_weakest g left out)) (fun _ _ => True) (fun q => s.heap.size ≤ q)) [.ref (a 0), .int (iI left)].toArray s 0 0 (fun q => s.heap.size ≤ q)) (F0 m 0 ls []) from h9 s.heap [] hP hS
  clear hP hS
  intro H locs hP hS
  have m4 := Wf.m4 hWf
  refine lv_iconst (v := iI (-1)) hx hb dX4_weakestOf_0 (by decide) ?_
  refine lv_istore_n (lv' := [(2, .int (iI (-1))), (0, .ref (a 0)), (1, .int (iI left))]) hx hb dX4_weakestOf_1 rfl hl (by decide) rfl (fun ls hl => ?_)
  refine lv_iconst (v := iI 0) hx hb dX4_weakestOf_2 (by decide) ?_
  refine lv_istore_n (lv' := [(3, .int (iI 0)), (2, .int (iI (-1))), (0, .ref (a 0)), (1, .int (iI left))]) hx hb dX4_weakestOf_3 rfl hl (by decide) rfl (fun ls hl => ?_)
  have loop4 : ∀ (d n : Nat) (x2 : Int) (H : Heap) (locs : List Loc) (ls : Array Slot), n + d = (g 0 0 4).toNat → x2 = m_fo (fun b w => bif m_has left b && (w == -1 || m_weaker g left out b w) then b else w) (-1) n → (x2 = -1 ∨ (0 ≤ x2 ∧ x2 < ((n : Nat) : Int))) → va_P D vwCl (pw a cH cB cJ cI g vt) H → va_S (fun q => s.heap.size ≤ q) s.heap H locs → lv_has ls 4 [(3, .int (iI ((n : Nat) : Int))), (2, .int (iI x2)), (0, .ref (a 0)), (1, .int (iI left))] → W p l e (headSpec (wc yX4_weakestOf cX4_weakestOf 4 (some .int)) ({ frames := 3, cells := 0, slots := 0, locals := 67 })).room s m [.ref (a 0), .int (iI left)].toArray below meth c H locs 0 0 (MQ below (va_Qi (fun (r : Int32) (_ : Unit) => r = iI (m_weakest g left out)) (fun _ _ => True) (fun q => s.heap.size ≤ q)) [.ref (a 0), .int (iI left)].toArray s 0 0 (fun q => s.heap.size ≤ q)) (F0 m 4 ls []) := by
    intro d
    induction d with
    | zero =>
      intro n x2 H locs ls hn hx2 hxb hP hS hl
      obtain rfl : n = (g 0 0 4).toNat := by omega
      refine lv_iload_n hx hb dX4_weakestOf_4 rfl (lv_at hl 0 rfl) ?_
      refine lv_aload_n hx hb dX4_weakestOf_5 rfl (lv_at hl 2 rfl) ?_
      have s1 := Wf.m4 hWf
      refine va_get (D := D) (ci := 4) (v := .int (iI (g 0 0 4))) (C := RX4) (T := TX4) (N := 19) hx hb hw hin_wsX40 hown hK hP 0 pw_0 rfl 4 (by decide) (hw _ kw_98) (fun _ h9 => h9) rfl dX4_weakestOf_6 ?_
      refine n_icmp_ge hx hb (by unfold RI; omega) (by unfold RI; omega) (tgt := 76) dX4_weakestOf_9 (by decide) (fun h2 => ?_) (fun h2 => absurd h2 (by intro h2; omega))
      refine lv_iload_n hx hb dX4_weakestOf_76 rfl (lv_at hl 1 rfl) ?_
      exact W.iret (v := (iI x2)) hx hb hr (fun t ht hW9 => ⟨⟨(iI x2), (), rfl, (congrArg iI (by rw [hx2]; rfl)), trivial⟩, hS.F ht⟩) hS.2.2 dX4_weakestOf_77
    | succ d ih4 =>
      intro n x2 H locs ls hn hx2 hxb hP hS hl
      have hvb : 0 ≤ m_votesFor g left out ↑n ∧ m_votesFor g left out ↑n ≤ 5 := cnt5 hWf _
      have hvc : 0 ≤ m_votesFor g left out x2 ∧ m_votesFor g left out x2 ≤ 5 := cnt5 hWf _
      refine lv_iload_n hx hb dX4_weakestOf_4 rfl (lv_at hl 0 rfl) ?_
      refine lv_aload_n hx hb dX4_weakestOf_5 rfl (lv_at hl 2 rfl) ?_
      have s3 := Wf.m4 hWf
      refine va_get (D := D) (ci := 4) (v := .int (iI (g 0 0 4))) (C := RX4) (T := TX4) (N := 19) hx hb hw hin_wsX40 hown hK hP 0 pw_0 rfl 4 (by decide) (hw _ kw_98) (fun _ h9 => h9) rfl dX4_weakestOf_6 ?_
      refine n_icmp_ge hx hb (by unfold RI; omega) (by unfold RI; omega) (tgt := 76) dX4_weakestOf_9 (by decide) (fun h4 => absurd h4 (by intro h4; omega)) (fun h4 => ?_)
      refine lv_iload_n hx hb dX4_weakestOf_12 rfl (lv_at hl 3 rfl) ?_
      refine lv_iload_n hx hb dX4_weakestOf_13 rfl (lv_at hl 0 rfl) ?_
      refine va_calli (va_runS (As := [.int (iI left), .int (iI ((n : Nat) : Int))]) (rest := []) ⟨hx, hb, hml, hown, hw⟩ (c_has l D a cH cB cJ cI ha g vt H.size left ((n : Nat) : Int) (by omega) (by omega)) (va_cwS 2 hw (gA_S kw_229 kw_223 kw_2 kw_224) rfl rfl rfl (by decide +kernel) ⟨Nat.le_of_ble_eq_true rfl, Nat.le_of_ble_eq_true rfl⟩) (pS_s hP hK hE) rfl rfl hl.1 rfl (lv_room (Nat.le_of_ble_eq_true rfl)) dX4_weakestOf_14 ⟨Nat.le_of_ble_eq_true rfl, Nat.le_of_ble_eq_true rfl⟩) hS (fun q h1 h2 => ro_A h1 h2) (fun q h => ro_F hS hA q h) (fun r u t H1 locs ht hvm hw9 hB9 hz1 hk1 hS => ?_)
      have hw9 : r = (bi (m_has left ((n : Nat) : Int))) := hw9
      subst hw9
      have hP := ro_P hP hk1
      generalize H1 = H at hP hS ⊢
      refine n_b_eq hx hb (tgt := 70) dX4_weakestOf_17 (by decide) (fun h5 => ?_) (fun h5 => ?_)
      · skip
        refine n_inc (lv' := [(3, .int (iI (((n : Nat) : Int) + 1))), (2, .int (iI x2)), (0, .ref (a 0)), (1, .int (iI left))]) hx hb dX4_weakestOf_70 hl (k := 0) rfl (by decide) rfl (fun ls hl => ?_)
        refine lv_goto (tgt := 4) hx hb dX4_weakestOf_73 (by decide) ?_
        have hl : lv_has ls 4 [(3, .int (iI (((n : Nat) : Int) + 1))), (2, .int (iI x2)), (0, .ref (a 0)), (1, .int (iI left))] := lv_sub hl [0, 1, 2, 3] rfl
        have e6 : (((n : Nat) : Int) + 1) = (((n + 1) : Nat) : Int) := by rfl
        have hl : lv_has ls 4 [(3, .int (iI (((n + 1) : Nat) : Int))), (2, .int (iI x2)), (0, .ref (a 0)), (1, .int (iI left))] := lv_cast hl (by rw [e6])
        exact ih4 (n + 1) x2 H locs ls (by omega) (by simp only [m_fo, ← hx2]; simp [m_weaker, h4, Int.not_le.mpr h4, h5]; try omega) (by omega) hP hS hl
      · skip
        refine lv_iload_n hx hb dX4_weakestOf_20 rfl (lv_at hl 1 rfl) ?_
        refine lv_iconst (v := iI (-1)) hx hb dX4_weakestOf_21 (by decide) ?_
        refine n_icmp_eq hx hb (by unfold RI; omega) (by unfold RI; omega) (tgt := 68) dX4_weakestOf_22 (by decide) (fun h7 => ?_) (fun h7 => ?_)
        · skip
          refine lv_iload_n hx hb dX4_weakestOf_68 rfl (lv_at hl 0 rfl) ?_
          refine lv_istore_n (lv' := [(2, .int (iI ((n : Nat) : Int))), (3, .int (iI ((n : Nat) : Int))), (0, .ref (a 0)), (1, .int (iI left))]) hx hb dX4_weakestOf_69 rfl hl (by decide) rfl (fun ls hl => ?_)
          refine n_inc (lv' := [(3, .int (iI (((n : Nat) : Int) + 1))), (2, .int (iI ((n : Nat) : Int))), (0, .ref (a 0)), (1, .int (iI left))]) hx hb dX4_weakestOf_70 hl (k := 1) rfl (by decide) rfl (fun ls hl => ?_)
          refine lv_goto (tgt := 4) hx hb dX4_weakestOf_73 (by decide) ?_
          have hl : lv_has ls 4 [(3, .int (iI (((n : Nat) : Int) + 1))), (2, .int (iI ((n : Nat) : Int))), (0, .ref (a 0)), (1, .int (iI left))] := lv_sub hl [0, 1, 2, 3] rfl
          have e8 : (((n : Nat) : Int) + 1) = (((n + 1) : Nat) : Int) := by rfl
          have hl : lv_has ls 4 [(3, .int (iI (((n + 1) : Nat) : Int))), (2, .int (iI ((n : Nat) : Int))), (0, .ref (a 0)), (1, .int (iI left))] := lv_cast hl (by rw [e8])
          exact ih4 (n + 1) ((n : Nat) : Int) H locs ls (by omega) (by simp only [m_fo, ← hx2]; simp [m_weaker, h4, Int.not_le.mpr h4, h5, h7]; try omega) (by omega) hP hS hl
        · skip
          refine lv_aload_n hx hb dX4_weakestOf_25 rfl (lv_at hl 2 rfl) ?_
          refine va_get (D := D) (ci := 4) (v := .ref (a 6)) (C := RX4) (T := TX4) (N := 19) hx hb hw hin_wsX40 hown hK hP 0 pw_0 rfl 18 (by decide) (hw _ kw_28) (fun _ h9 => h9) rfl dX4_weakestOf_26 ?_
          refine lv_iload_n hx hb dX4_weakestOf_29 rfl (lv_at hl 0 rfl) ?_
          refine p_vrd hx hb hK hP (k := ((n : Nat) : Int)) (by omega) (by omega) dX4_weakestOf_30 ?_
          rw [hvt ((n : Nat) : Int) (by omega) (by omega)]
          refine lv_aload_n hx hb dX4_weakestOf_31 rfl (lv_at hl 2 rfl) ?_
          refine va_get (D := D) (ci := 4) (v := .ref (a 6)) (C := RX4) (T := TX4) (N := 19) hx hb hw hin_wsX40 hown hK hP 0 pw_0 rfl 18 (by decide) (hw _ kw_28) (fun _ h9 => h9) rfl dX4_weakestOf_32 ?_
          refine lv_iload_n hx hb dX4_weakestOf_35 rfl (lv_at hl 1 rfl) ?_
          refine p_vrd hx hb hK hP (k := x2) (by omega) (by omega) dX4_weakestOf_36 ?_
          rw [hvt x2 (by omega) (by omega)]
          refine n_icmp_lt hx hb (by unfold RI; omega) (by unfold RI; omega) (tgt := 68) dX4_weakestOf_37 (by decide) (fun h9 => ?_) (fun h9 => ?_)
          · skip
            refine lv_iload_n hx hb dX4_weakestOf_68 rfl (lv_at hl 0 rfl) ?_
            refine lv_istore_n (lv' := [(2, .int (iI ((n : Nat) : Int))), (3, .int (iI ((n : Nat) : Int))), (0, .ref (a 0)), (1, .int (iI left))]) hx hb dX4_weakestOf_69 rfl hl (by decide) rfl (fun ls hl => ?_)
            refine n_inc (lv' := [(3, .int (iI (((n : Nat) : Int) + 1))), (2, .int (iI ((n : Nat) : Int))), (0, .ref (a 0)), (1, .int (iI left))]) hx hb dX4_weakestOf_70 hl (k := 1) rfl (by decide) rfl (fun ls hl => ?_)
            refine lv_goto (tgt := 4) hx hb dX4_weakestOf_73 (by decide) ?_
            have hl : lv_has ls 4 [(3, .int (iI (((n : Nat) : Int) + 1))), (2, .int (iI ((n : Nat) : Int))), (0, .ref (a 0)), (1, .int (iI left))] := lv_sub hl [0, 1, 2, 3] rfl
            have e10 : (((n : Nat) : Int) + 1) = (((n + 1) : Nat) : Int) := by rfl
            have hl : lv_has ls 4 [(3, .int (iI (((n + 1) : Nat) : Int))), (2, .int (iI ((n : Nat) : Int))), (0, .ref (a 0)), (1, .int (iI left))] := lv_cast hl (by rw [e10])
            exact ih4 (n + 1) ((n : Nat) : Int) H locs ls (by omega) (by simp only [m_fo, ← hx2]; simp [m_weaker, h4, Int.not_le.mpr h4, h5, h7, beq_false_of_ne h7, h9, Int.not_le.mpr h9]; try omega) (by omega) hP hS hl
          · skip
            refine lv_aload_n hx hb dX4_weakestOf_40 rfl (lv_at hl 2 rfl) ?_
            refine va_get (D := D) (ci := 4) (v := .ref (a 6)) (C := RX4) (T := TX4) (N := 19) hx hb hw hin_wsX40 hown hK hP 0 pw_0 rfl 18 (by decide) (hw _ kw_28) (fun _ h9 => h9) rfl dX4_weakestOf_41 ?_
            refine lv_iload_n hx hb dX4_weakestOf_44 rfl (lv_at hl 0 rfl) ?_
            refine p_vrd hx hb hK hP (k := ((n : Nat) : Int)) (by omega) (by omega) dX4_weakestOf_45 ?_
            rw [hvt ((n : Nat) : Int) (by omega) (by omega)]
            refine lv_aload_n hx hb dX4_weakestOf_46 rfl (lv_at hl 2 rfl) ?_
            refine va_get (D := D) (ci := 4) (v := .ref (a 6)) (C := RX4) (T := TX4) (N := 19) hx hb hw hin_wsX40 hown hK hP 0 pw_0 rfl 18 (by decide) (hw _ kw_28) (fun _ h9 => h9) rfl dX4_weakestOf_47 ?_
            refine lv_iload_n hx hb dX4_weakestOf_50 rfl (lv_at hl 1 rfl) ?_
            refine p_vrd hx hb hK hP (k := x2) (by omega) (by omega) dX4_weakestOf_51 ?_
            rw [hvt x2 (by omega) (by omega)]
            refine n_icmp_ne hx hb (by unfold RI; omega) (by unfold RI; omega) (tgt := 70) dX4_weakestOf_52 (by decide) (fun h11 => ?_) (fun h11 => ?_)
            · skip
              refine n_inc (lv' := [(3, .int (iI (((n : Nat) : Int) + 1))), (2, .int (iI x2)), (0, .ref (a 0)), (1, .int (iI left))]) hx hb dX4_weakestOf_70 hl (k := 0) rfl (by decide) rfl (fun ls hl => ?_)
              refine lv_goto (tgt := 4) hx hb dX4_weakestOf_73 (by decide) ?_
              have hl : lv_has ls 4 [(3, .int (iI (((n : Nat) : Int) + 1))), (2, .int (iI x2)), (0, .ref (a 0)), (1, .int (iI left))] := lv_sub hl [0, 1, 2, 3] rfl
              have e12 : (((n : Nat) : Int) + 1) = (((n + 1) : Nat) : Int) := by rfl
              have hl : lv_has ls 4 [(3, .int (iI (((n + 1) : Nat) : Int))), (2, .int (iI x2)), (0, .ref (a 0)), (1, .int (iI left))] := lv_cast hl (by rw [e12])
              exact ih4 (n + 1) x2 H locs ls (by omega) (by simp only [m_fo, ← hx2]; simp [m_weaker, h4, Int.not_le.mpr h4, h5, h7, beq_false_of_ne h7, h9, Int.not_lt.mpr h9, h11, beq_false_of_ne h11]; try omega) (by omega) hP hS hl
            · skip
              refine lv_aload_n hx hb dX4_weakestOf_55 rfl (lv_at hl 2 rfl) ?_
              refine lv_iload_n hx hb dX4_weakestOf_56 rfl (lv_at hl 0 rfl) ?_
              refine va_calli (va_runV (As := [.int (iI ((n : Nat) : Int))]) (rest := []) ⟨hx, hb, hml, hown, hw⟩ (c_scoreOf l D a cH cB cJ cI ha g vt H.size ((n : Nat) : Int) hWf (by omega)) (cwV 1 hw (gA_V kw_230 kw_231 kw_232 kw_2 kw_233) rfl rfl rfl (by decide +kernel) ⟨Nat.le_of_ble_eq_true rfl, Nat.le_of_ble_eq_true rfl⟩) (pS_v (ci := 4) (q0 := 0) rfl pw_0 hP hK hE) rfl rfl hl.1 rfl (lv_room (Nat.le_of_ble_eq_true rfl)) dX4_weakestOf_57 ⟨Nat.le_of_ble_eq_true rfl, Nat.le_of_ble_eq_true rfl⟩) hS (fun q h1 h2 => ro_A h1 h2) (fun q h => ro_F hS hA q h) (fun r u t H1 locs ht hvm hw9 hB9 hz1 hk1 hS => ?_)
              have hw9 : r = (iI (m_score g ((n : Nat) : Int))) := hw9
              subst hw9
              have hP := ro_P hP hk1
              generalize H1 = H at hP hS ⊢
              have s13 := score_b hWf (bb := ((n : Nat) : Int)) (by omega)
              refine lv_aload_n hx hb dX4_weakestOf_60 rfl (lv_at hl 2 rfl) ?_
              refine lv_iload_n hx hb dX4_weakestOf_61 rfl (lv_at hl 1 rfl) ?_
              refine va_calli (va_runV (As := [.int (iI x2)]) (rest := [.int (iI (m_score g ((n : Nat) : Int)))]) ⟨hx, hb, hml, hown, hw⟩ (c_scoreOf l D a cH cB cJ cI ha g vt H.size x2 hWf (by omega)) (cwV 1 hw (gA_V kw_230 kw_231 kw_232 kw_2 kw_233) rfl rfl rfl (by decide +kernel) ⟨Nat.le_of_ble_eq_true rfl, Nat.le_of_ble_eq_true rfl⟩) (pS_v (ci := 4) (q0 := 0) rfl pw_0 hP hK hE) rfl rfl hl.1 rfl (lv_room (Nat.le_of_ble_eq_true rfl)) dX4_weakestOf_62 ⟨Nat.le_of_ble_eq_true rfl, Nat.le_of_ble_eq_true rfl⟩) hS (fun q h1 h2 => ro_A h1 h2) (fun q h => ro_F hS hA q h) (fun r u t H1 locs ht hvm hw9 hB9 hz1 hk1 hS => ?_)
              have hw9 : r = (iI (m_score g x2)) := hw9
              subst hw9
              have hP := ro_P hP hk1
              generalize H1 = H at hP hS ⊢
              have s14 := score_b hWf (bb := x2) (by omega)
              refine n_icmp_gt hx hb (by unfold RI; omega) (by unfold RI; omega) (tgt := 70) dX4_weakestOf_65 (by decide) (fun h15 => ?_) (fun h15 => ?_)
              · skip
                refine n_inc (lv' := [(3, .int (iI (((n : Nat) : Int) + 1))), (2, .int (iI x2)), (0, .ref (a 0)), (1, .int (iI left))]) hx hb dX4_weakestOf_70 hl (k := 0) rfl (by decide) rfl (fun ls hl => ?_)
                refine lv_goto (tgt := 4) hx hb dX4_weakestOf_73 (by decide) ?_
                have hl : lv_has ls 4 [(3, .int (iI (((n : Nat) : Int) + 1))), (2, .int (iI x2)), (0, .ref (a 0)), (1, .int (iI left))] := lv_sub hl [0, 1, 2, 3] rfl
                have e16 : (((n : Nat) : Int) + 1) = (((n + 1) : Nat) : Int) := by rfl
                have hl : lv_has ls 4 [(3, .int (iI (((n + 1) : Nat) : Int))), (2, .int (iI x2)), (0, .ref (a 0)), (1, .int (iI left))] := lv_cast hl (by rw [e16])
                exact ih4 (n + 1) x2 H locs ls (by omega) (by simp only [m_fo, ← hx2]; simp [m_weaker, h4, Int.not_le.mpr h4, h5, h7, beq_false_of_ne h7, h9, Int.not_lt.mpr h9, h11, h15, Int.not_le.mpr h15]; try omega) (by omega) hP hS hl
              · skip
                refine lv_iload_n hx hb dX4_weakestOf_68 rfl (lv_at hl 0 rfl) ?_
                refine lv_istore_n (lv' := [(2, .int (iI ((n : Nat) : Int))), (3, .int (iI ((n : Nat) : Int))), (0, .ref (a 0)), (1, .int (iI left))]) hx hb dX4_weakestOf_69 rfl hl (by decide) rfl (fun ls hl => ?_)
                refine n_inc (lv' := [(3, .int (iI (((n : Nat) : Int) + 1))), (2, .int (iI ((n : Nat) : Int))), (0, .ref (a 0)), (1, .int (iI left))]) hx hb dX4_weakestOf_70 hl (k := 1) rfl (by decide) rfl (fun ls hl => ?_)
                refine lv_goto (tgt := 4) hx hb dX4_weakestOf_73 (by decide) ?_
                have hl : lv_has ls 4 [(3, .int (iI (((n : Nat) : Int) + 1))), (2, .int (iI ((n : Nat) : Int))), (0, .ref (a 0)), (1, .int (iI left))] := lv_sub hl [0, 1, 2, 3] rfl
                have e17 : (((n : Nat) : Int) + 1) = (((n + 1) : Nat) : Int) := by rfl
                have hl : lv_has ls 4 [(3, .int (iI (((n + 1) : Nat) : Int))), (2, .int (iI ((n : Nat) : Int))), (0, .ref (a 0)), (1, .int (iI left))] := lv_cast hl (by rw [e17])
                exact ih4 (n + 1) ((n : Nat) : Int) H locs ls (by omega) (by simp only [m_fo, ← hx2]; simp [m_weaker, h4, Int.not_le.mpr h4, h5, h7, beq_false_of_ne h7, h9, Int.not_lt.mpr h9, h11, h15, Int.not_lt.mpr h15]; try omega) (by omega) hP hS hl
  have hl : lv_has ls 4 [(3, .int (iI 0)), (2, .int (iI (-1))), (0, .ref (a 0)), (1, .int (iI left))] := lv_sub hl [0, 1, 2, 3] rfl
  have hl : lv_has ls 4 [(3, .int (iI ((0 : Nat) : Int))), (2, .int (iI (-1))), (0, .ref (a 0)), (1, .int (iI left))] := hl
  exact loop4 ((g 0 0 4).toNat) 0 (-1) H locs ls (by omega) rfl (Or.inl rfl) hP hS hl
set_option maxHeartbeats 4000000 in
set_option maxRecDepth 100000 in
theorem c_winnerWithout (l : Launch) (D : va_G) (a : Nat → Nat) (cH cB cJ cI : ClassId) (ha : pj a) (g : m_St) (vt : Nat → Int32) (sz : Nat) (bs : Int) (out : Int) (hWf : Wf g) (hbs : 0 ≤ bs ∧ bs < 65536) (hout : 0 ≤ out ∧ out < 2147483648) (hsb : ∀ b, m_has (g 0 0 13) b = true → b < g 0 0 4) : Met l yX4_winnerWithout (wc yX4_winnerWithout cX4_winnerWithout 8 (some .int)) ({ frames := 4, cells := 0, slots := 0, locals := 90 }) (va_Pc [.ref (a 0), .int (iI bs), .int (iI out)] (pS D a cH cB cJ cI sz g vt)) (va_Qi (fun (r : Int32) (_ : Unit) => r = iI (m_winner g bs out)) (fun _ t => ∃ vt1 : Nat → Int32, va_P D vwCl (pw a cH cB cJ cI g vt1) t.heap) (pA a sz)) 0 0 (pA a sz) := by
  refine Met.ofW (cc := cX4_winnerWithout) (maxL := 8) (ret := (some .int)) (by decide +kernel) rfl ?_
  intro p e s m args below meth c s₁ B9 hml hv
  obtain ⟨rfl, hsz, hP, hK, hE⟩ := hv
  have hx := B9.exec
  have hb := B9.bytes
  have hr := B9.returns
  have hts := atoms_spec (ws := (wc yX4_winnerWithout cX4_winnerWithout 8 (some .int))) B9.pre
  have hw : ∀ w ∈ wsL_law0, w.before [.ref (a 0), .int (iI bs), .int (iI out)].toArray s = true := fun w h => hts w (List.mem_cons_of_mem _ h)
  have hown : s.vm.findClass RX4 = some m.cls := findClass_of_methodNamed B9.named
  subst hsz
  have hS : va_S (pA a s.heap.size) s.heap s.heap [] := va_S.rf
  have hA : ∀ q : Nat, s.heap.size ≤ q → pA a s.heap.size q := fun _ h => pA_new h
  have hB : ∀ k, k < 58 → pA a s.heap.size (a k) := fun _ h => pA_in h
  have hl := lv_entry ([.ref (a 0), .int (iI bs), .int (iI out)]) (n := 8) (Nat.le_of_ble_eq_true rfl)
  rw [lg_entry_eq]
  generalize (lg_sl ([.ref (a 0), .int (iI bs), .int (iI out)]) ++ List.replicate (8 - (lg_sl ([.ref (a 0), .int (iI bs), .int (iI out)])).length) Slot.unset).toArray = ls at hl ⊢
  have hl : lv_has ls 8 [(0, .ref (a 0)), (1, .int (iI bs)), (2, .int (iI out))] := hl
  suffices h9 : ∀ (H : Heap) (locs : List Loc), va_P D vwCl (pw a cH cB cJ cI g vt) H → va_S (pA a s.heap.size) s.heap H locs → W p l e (headSpec (wc yX4_winnerWithout cX4_winnerWithout 8 (some .int)) ({ frames := 4, cells := 0, slots := 0, locals := 90 })).room s m [.ref (a 0), .int (iI bs), .int (iI out)].toArray below meth c H locs 0 0 (MQ below (va_Qi (fun (r : Int32) (_ : Unit) => r = iI (m_winner g bs out)) (fun _ t => ∃ vt1 : Nat → Int32, va_P D vwCl (pw a cH cB cJ cI g vt1) t.heap) (pA a s.heap.size)) [.ref (a 0), .int (iI bs), .int (iI out)].toArray s 0 0 (pA a s.heap.size)) (F0 m 0 ls []) from h9 s.heap [] hP hS
  clear hP hS
  intro H locs hP hS
  have m4 := Wf.m4 hWf
  have m13 := Wf.m13 hWf
  refine lv_aload_n hx hb dX4_winnerWithout_0 rfl (lv_at hl 0 rfl) ?_
  have s1 := Wf.m13 hWf
  refine va_get (D := D) (ci := 4) (v := .int (iI (g 0 0 13))) (C := RX4) (T := TX4) (N := 19) hx hb hw hin_wsX40 hown hK hP 0 pw_0 rfl 13 (by decide) (hw _ kw_100) (fun _ h9 => h9) rfl dX4_winnerWithout_1 ?_
  refine lv_aload_n hx hb dX4_winnerWithout_4 rfl (lv_at hl 0 rfl) ?_
  have s2 := Wf.m17 hWf
  refine va_get (D := D) (ci := 4) (v := .int (iI (g 0 0 17))) (C := RX4) (T := TX4) (N := 19) hx hb hw hin_wsX40 hown hK hP 0 pw_0 rfl 17 (by decide) (hw _ kw_101) (fun _ h9 => h9) rfl dX4_winnerWithout_5 ?_
  refine lv_iconst (v := iI (-1)) hx hb dX4_winnerWithout_8 (by decide) ?_
  refine lv_ixor hx hb dX4_winnerWithout_9 ?_
  refine n_andn hx hb (by omega) (by omega) dX4_winnerWithout_10 ?_
  have s3 := bd_span (S := g 0 0 13) (T := g 0 0 17) (by omega)
  refine lv_iload_n hx hb dX4_winnerWithout_11 rfl (lv_at hl 1 rfl) ?_
  refine lv_iconst (v := iI (-1)) hx hb dX4_winnerWithout_12 (by decide) ?_
  refine lv_ixor hx hb dX4_winnerWithout_13 ?_
  refine n_andn hx hb (by omega) (by omega) dX4_winnerWithout_14 ?_
  have s4 := bd_span (S := (m_bd (g 0 0 13) (g 0 0 17))) (T := bs) (by omega)
  refine lv_istore_n (lv' := [(3, .int (iI (m_bd (m_bd (g 0 0 13) (g 0 0 17)) bs))), (0, .ref (a 0)), (1, .int (iI bs)), (2, .int (iI out))]) hx hb dX4_winnerWithout_15 rfl hl (by decide) rfl (fun ls hl => ?_)
  refine lv_iconst (v := iI (-1)) hx hb dX4_winnerWithout_16 (by decide) ?_
  refine lv_istore (lv' := [(4, .int (iI (-1))), (3, .int (iI (m_bd (m_bd (g 0 0 13) (g 0 0 17)) bs))), (0, .ref (a 0)), (1, .int (iI bs)), (2, .int (iI out))]) hx hb dX4_winnerWithout_17 hl (by decide) rfl (fun ls hl => ?_)
  refine lv_iconst (v := iI 0) hx hb dX4_winnerWithout_19 (by decide) ?_
  refine lv_istore (lv' := [(5, .int (iI 0)), (4, .int (iI (-1))), (3, .int (iI (m_bd (m_bd (g 0 0 13) (g 0 0 17)) bs))), (0, .ref (a 0)), (1, .int (iI bs)), (2, .int (iI out))]) hx hb dX4_winnerWithout_20 hl (by decide) rfl (fun ls hl => ?_)
  have loop22 : ∀ (d n : Nat) (x3 : Int) (x4 : Int) (vq : Nat → Int32) (H : Heap) (locs : List Loc) (ls : Array Slot), n + d = 16 → (m_winner g bs out = m_winLoop g out d x3 x4) → (0 ≤ x3 ∧ x3 < 65536) → (∀ b, m_has x3 b = true → b < g 0 0 4) → va_P D vwCl (pw a cH cB cJ cI g vq) H → va_S (pA a s.heap.size) s.heap H locs → lv_has ls 8 [(5, .int (iI ((n : Nat) : Int))), (4, .int (iI x4)), (3, .int (iI x3)), (0, .ref (a 0)), (1, .int (iI bs)), (2, .int (iI out))] → W p l e (headSpec (wc yX4_winnerWithout cX4_winnerWithout 8 (some .int)) ({ frames := 4, cells := 0, slots := 0, locals := 90 })).room s m [.ref (a 0), .int (iI bs), .int (iI out)].toArray below meth c H locs 0 0 (MQ below (va_Qi (fun (r : Int32) (_ : Unit) => r = iI (m_winner g bs out)) (fun _ t => ∃ vt1 : Nat → Int32, va_P D vwCl (pw a cH cB cJ cI g vt1) t.heap) (pA a s.heap.size)) [.ref (a 0), .int (iI bs), .int (iI out)].toArray s 0 0 (pA a s.heap.size)) (F0 m 22 ls []) := by
    intro d
    induction d with
    | zero =>
      intro n x3 x4 vq H locs ls hn hq hs hsub hP hS hl
      obtain rfl : n = 16 := by omega
      refine lv_iload hx hb dX4_winnerWithout_22 (lv_at hl 0 rfl) ?_
      refine lv_bipush (v := iI 16) hx hb dX4_winnerWithout_24 (by decide) ?_
      refine n_icmp_ge hx hb (by unfold RI; omega) (by unfold RI; omega) (tgt := 82) dX4_winnerWithout_26 (by decide) (fun h5 => ?_) (fun h5 => absurd h5 (by intro h5; omega))
      refine lv_iload hx hb dX4_winnerWithout_82 (lv_at hl 1 rfl) ?_
      exact W.iret (v := (iI x4)) hx hb hr (fun t ht hW9 => ⟨⟨(iI x4), (), rfl, (congrArg iI (by rw [hq]; first | rfl | simp [m_winLoop, h5, Int.not_lt.mpr h5])), ⟨vq, by rw [ht]; exact hP⟩⟩, hS.F ht⟩) hS.2.2 dX4_winnerWithout_84
    | succ d ih22 =>
      intro n x3 x4 vq H locs ls hn hq hs hsub hP hS hl
      refine lv_iload hx hb dX4_winnerWithout_22 (lv_at hl 0 rfl) ?_
      refine lv_bipush (v := iI 16) hx hb dX4_winnerWithout_24 (by decide) ?_
      refine n_icmp_ge hx hb (by unfold RI; omega) (by unfold RI; omega) (tgt := 82) dX4_winnerWithout_26 (by decide) (fun h6 => absurd h6 (by intro h6; omega)) (fun h6 => ?_)
      refine lv_iload_n hx hb dX4_winnerWithout_29 rfl (lv_at hl 2 rfl) ?_
      refine n_if_eq hx hb (by unfold RI; omega) (tgt := 82) dX4_winnerWithout_30 (by decide) (fun h7 => ?_) (fun h7 => ?_)
      · skip
        refine lv_iload hx hb dX4_winnerWithout_82 (lv_at hl 1 rfl) ?_
        exact W.iret (v := (iI x4)) hx hb hr (fun t ht hW9 => ⟨⟨(iI x4), (), rfl, (congrArg iI (by rw [hq]; first | rfl | simp [m_winLoop, h6, Int.not_le.mpr h6, h7])), ⟨vq, by rw [ht]; exact hP⟩⟩, hS.F ht⟩) hS.2.2 dX4_winnerWithout_84
      · skip
        refine lv_aload_n hx hb dX4_winnerWithout_33 rfl (lv_at hl 3 rfl) ?_
        refine lv_iload_n hx hb dX4_winnerWithout_34 rfl (lv_at hl 2 rfl) ?_
        refine lv_iload_n hx hb dX4_winnerWithout_35 rfl (lv_at hl 5 rfl) ?_
        refine va_calli (va_runV (As := [.int (iI x3), .int (iI out)]) (rest := []) ⟨hx, hb, hml, hown, hw⟩ (c_countVotes l D a cH cB cJ cI ha g vq H.size x3 out hWf (by omega) (by omega)) (cwV 2 hw (gA_V kw_389 kw_390 kw_391 kw_2 kw_392) rfl rfl rfl (by decide +kernel) ⟨Nat.le_of_ble_eq_true rfl, Nat.le_of_ble_eq_true rfl⟩) (pS_v (ci := 4) (q0 := 0) rfl pw_0 hP hK hE) rfl rfl hl.1 rfl (lv_room (Nat.le_of_ble_eq_true rfl)) dX4_winnerWithout_36 ⟨Nat.le_of_ble_eq_true rfl, Nat.le_of_ble_eq_true rfl⟩) hS (fun q _ h => rw_A hS hA hB q h) (fun q h => rw_A hS hA hB q h) (fun r u t H1 locs ht hvm hw9 hB9 hz1 hk1 hS => ?_)
        have hw9 : r = (iI (m_counted g x3 out)) := hw9
        subst hw9
        obtain ⟨v8, hP1, hvt_v⟩ := hB9
        rw [ht] at hP1
        have hP : va_P D vwCl (pw a cH cB cJ cI g v8) H1 := hP1
        generalize H1 = H at hP hS ⊢
        refine lv_istore (lv' := [(6, .int (iI (m_counted g x3 out))), (5, .int (iI ((n : Nat) : Int))), (4, .int (iI x4)), (3, .int (iI x3)), (0, .ref (a 0)), (1, .int (iI bs)), (2, .int (iI out))]) hx hb dX4_winnerWithout_39 hl (by decide) rfl (fun ls hl => ?_)
        refine lv_aload_n hx hb dX4_winnerWithout_41 rfl (lv_at hl 4 rfl) ?_
        refine lv_iload_n hx hb dX4_winnerWithout_42 rfl (lv_at hl 3 rfl) ?_
        refine lv_iload hx hb dX4_winnerWithout_43 (lv_at hl 0 rfl) ?_
        refine va_calli (va_runV (As := [.int (iI x3), .int (iI (m_counted g x3 out))]) (rest := []) ⟨hx, hb, hml, hown, hw⟩ (c_aboveHalf l D a cH cB cJ cI ha g v8 H.size x3 out hWf (by omega) (hvt_v)) (cwV 2 hw (gA_V kw_401 kw_402 kw_403 kw_2 kw_404) rfl rfl rfl (by decide +kernel) ⟨Nat.le_of_ble_eq_true rfl, Nat.le_of_ble_eq_true rfl⟩) (pS_v (ci := 4) (q0 := 0) rfl pw_0 hP hK hE) rfl rfl hl.1 rfl (lv_room (Nat.le_of_ble_eq_true rfl)) dX4_winnerWithout_45 ⟨Nat.le_of_ble_eq_true rfl, Nat.le_of_ble_eq_true rfl⟩) hS (fun q h1 h2 => ro_A h1 h2) (fun q h => ro_F hS hA q h) (fun r u t H1 locs ht hvm hw9 hB9 hz1 hk1 hS => ?_)
        have hw9 : r = (iI (m_aboveHalf g x3 out)) := hw9
        subst hw9
        have hP := ro_P hP hk1
        generalize H1 = H at hP hS ⊢
        have s9 := above_in g x3 out
        have s10 := Wf.m4 hWf
        refine lv_istore (lv' := [(7, .int (iI (m_aboveHalf g x3 out))), (6, .int (iI (m_counted g x3 out))), (5, .int (iI ((n : Nat) : Int))), (4, .int (iI x4)), (3, .int (iI x3)), (0, .ref (a 0)), (1, .int (iI bs)), (2, .int (iI out))]) hx hb dX4_winnerWithout_48 hl (by decide) rfl (fun ls hl => ?_)
        refine lv_iload hx hb dX4_winnerWithout_50 (lv_at hl 0 rfl) ?_
        refine lv_iconst (v := iI (-1)) hx hb dX4_winnerWithout_52 (by decide) ?_
        refine n_icmp_eq hx hb (by unfold RI; omega) (by unfold RI; omega) (tgt := 59) dX4_winnerWithout_53 (by decide) (fun h11 => ?_) (fun h11 => ?_)
        · skip
          refine lv_aload_n hx hb dX4_winnerWithout_59 rfl (lv_at hl 5 rfl) ?_
          refine lv_iload_n hx hb dX4_winnerWithout_60 rfl (lv_at hl 4 rfl) ?_
          have hwn := weak_nn (out := out) hWf hs.1 (by assumption) hsub
          refine va_calli (va_runV (As := [.int (iI x3)]) (rest := []) ⟨hx, hb, hml, hown, hw⟩ (c_weakestOf l D a cH cB cJ cI ha g v8 H.size x3 out hWf (by omega) (hvt_v)) (cwV 1 hw (gA_V kw_405 kw_406 kw_407 kw_2 kw_408) rfl rfl rfl (by decide +kernel) ⟨Nat.le_of_ble_eq_true rfl, Nat.le_of_ble_eq_true rfl⟩) (pS_v (ci := 4) (q0 := 0) rfl pw_0 hP hK hE) rfl rfl hl.1 rfl (lv_room (Nat.le_of_ble_eq_true rfl)) dX4_winnerWithout_61 ⟨Nat.le_of_ble_eq_true rfl, Nat.le_of_ble_eq_true rfl⟩) hS (fun q h1 h2 => ro_A h1 h2) (fun q h => ro_F hS hA q h) (fun r u t H1 locs ht hvm hw9 hB9 hz1 hk1 hS => ?_)
          have hw9 : r = (iI (m_weakest g x3 out)) := hw9
          subst hw9
          have hP := ro_P hP hk1
          generalize H1 = H at hP hS ⊢
          refine lv_istore (lv' := [(4, .int (iI (m_weakest g x3 out))), (7, .int (iI (m_aboveHalf g x3 out))), (6, .int (iI (m_counted g x3 out))), (5, .int (iI ((n : Nat) : Int))), (3, .int (iI x3)), (0, .ref (a 0)), (1, .int (iI bs)), (2, .int (iI out))]) hx hb dX4_winnerWithout_64 hl (by decide) rfl (fun ls hl => ?_)
          refine lv_iload_n hx hb dX4_winnerWithout_66 rfl (lv_at hl 4 rfl) ?_
          refine lv_iload hx hb dX4_winnerWithout_67 (lv_at hl 0 rfl) ?_
          refine va_calli (va_runS (As := [.int (iI (m_weakest g x3 out))]) (rest := [.int (iI x3)]) ⟨hx, hb, hml, hown, hw⟩ (c_bit l D a cH cB cJ cI ha g v8 H.size (m_weakest g x3 out) (by omega)) (va_cwS 1 hw (gA_S kw_171 kw_172 kw_2 kw_173) rfl rfl rfl (by decide +kernel) ⟨Nat.le_of_ble_eq_true rfl, Nat.le_of_ble_eq_true rfl⟩) (pS_s hP hK hE) rfl rfl hl.1 rfl (lv_room (Nat.le_of_ble_eq_true rfl)) dX4_winnerWithout_69 ⟨Nat.le_of_ble_eq_true rfl, Nat.le_of_ble_eq_true rfl⟩) hS (fun q h1 h2 => ro_A h1 h2) (fun q h => ro_F hS hA q h) (fun r u t H1 locs ht hvm hw9 hB9 hz1 hk1 hS => ?_)
          have hw9 : r = (iI (m_bt (m_weakest g x3 out))) := hw9
          subst hw9
          have hP := ro_P hP hk1
          generalize H1 = H at hP hS ⊢
          have s12 := bt_nn (m_weakest g x3 out)
          have s13 := bt_lt (n := (m_weakest g x3 out)) (by omega) (by omega)
          refine lv_iconst (v := iI (-1)) hx hb dX4_winnerWithout_72 (by decide) ?_
          refine lv_ixor hx hb dX4_winnerWithout_73 ?_
          refine n_andn hx hb (by omega) (by omega) dX4_winnerWithout_74 ?_
          have s14 := bd_span (S := x3) (T := (m_bt (m_weakest g x3 out))) (by omega)
          refine lv_istore_n (lv' := [(3, .int (iI (m_bd x3 (m_bt (m_weakest g x3 out))))), (4, .int (iI (m_weakest g x3 out))), (7, .int (iI (m_aboveHalf g x3 out))), (6, .int (iI (m_counted g x3 out))), (5, .int (iI ((n : Nat) : Int))), (0, .ref (a 0)), (1, .int (iI bs)), (2, .int (iI out))]) hx hb dX4_winnerWithout_75 rfl hl (by decide) rfl (fun ls hl => ?_)
          refine n_inc (lv' := [(5, .int (iI (((n : Nat) : Int) + 1))), (3, .int (iI (m_bd x3 (m_bt (m_weakest g x3 out))))), (4, .int (iI (m_weakest g x3 out))), (7, .int (iI (m_aboveHalf g x3 out))), (6, .int (iI (m_counted g x3 out))), (0, .ref (a 0)), (1, .int (iI bs)), (2, .int (iI out))]) hx hb dX4_winnerWithout_76 hl (k := 4) rfl (by decide) rfl (fun ls hl => ?_)
          refine lv_goto (tgt := 22) hx hb dX4_winnerWithout_79 (by decide) ?_
          have hl : lv_has ls 8 [(5, .int (iI (((n : Nat) : Int) + 1))), (4, .int (iI (m_weakest g x3 out))), (3, .int (iI (m_bd x3 (m_bt (m_weakest g x3 out))))), (0, .ref (a 0)), (1, .int (iI bs)), (2, .int (iI out))] := lv_sub hl [0, 2, 1, 5, 6, 7] rfl
          have e15 : (((n : Nat) : Int) + 1) = (((n + 1) : Nat) : Int) := by rfl
          have hl : lv_has ls 8 [(5, .int (iI (((n + 1) : Nat) : Int))), (4, .int (iI (m_weakest g x3 out))), (3, .int (iI (m_bd x3 (m_bt (m_weakest g x3 out))))), (0, .ref (a 0)), (1, .int (iI bs)), (2, .int (iI out))] := lv_cast hl (by rw [e15])
          exact ih22 (n + 1) (m_bd x3 (m_bt (m_weakest g x3 out))) (m_weakest g x3 out) v8 H locs ls (by omega) (by rw [hq]; simp only [m_winLoop]; rw [if_neg (by assumption), if_pos (by assumption)]) (by omega) (by (intro b hb9; rw [has_bd] at hb9; exact hsub b (by cases e9 : m_has x3 b; (rw [e9] at hb9; simp at hb9); rfl))) hP hS hl
        · skip
          refine lv_iload hx hb dX4_winnerWithout_56 (lv_at hl 0 rfl) ?_
          exact W.iret (v := (iI (m_aboveHalf g x3 out))) hx hb hr (fun t ht hW9 => ⟨⟨(iI (m_aboveHalf g x3 out)), (), rfl, (congrArg iI (by rw [hq]; first | rfl | simp [m_winLoop, h6, Int.not_le.mpr h6, h7, beq_false_of_ne h7, h11, beq_false_of_ne h11])), ⟨v8, by rw [ht]; exact hP⟩⟩, hS.F ht⟩) hS.2.2 dX4_winnerWithout_58
  have hl : lv_has ls 8 [(5, .int (iI 0)), (4, .int (iI (-1))), (3, .int (iI (m_bd (m_bd (g 0 0 13) (g 0 0 17)) bs))), (0, .ref (a 0)), (1, .int (iI bs)), (2, .int (iI out))] := lv_sub hl [0, 1, 2, 3, 4, 5] rfl
  have hl : lv_has ls 8 [(5, .int (iI ((0 : Nat) : Int))), (4, .int (iI (-1))), (3, .int (iI (m_bd (m_bd (g 0 0 13) (g 0 0 17)) bs))), (0, .ref (a 0)), (1, .int (iI bs)), (2, .int (iI out))] := hl
  exact loop22 16 0 (m_bd (m_bd (g 0 0 13) (g 0 0 17)) bs) (-1) vt H locs ls (by omega) rfl (by omega) (fun b hb9 => hsb b (by rw [has_bd, has_bd] at hb9; cases e9 : m_has (g 0 0 13) b; (rw [e9] at hb9; simp at hb9); rfl)) hP hS hl
set_option maxHeartbeats 4000000 in
set_option maxRecDepth 100000 in
theorem c_leadOver (l : Launch) (D : va_G) (a : Nat → Nat) (cH cB cJ cI : ClassId) (ha : pj a) (g : m_St) (vt : Nat → Int32) (sz : Nat) (bb : Int) (oo : Int) (hWf : Wf g) (hbb : 0 ≤ bb ∧ bb < 16) (hoo : 0 ≤ oo ∧ oo < 16) : Met l yX4_leadOver (wc yX4_leadOver cX4_leadOver 6 (some .int)) ({ frames := 2, cells := 0, slots := 0, locals := 44 }) (va_Pc [.ref (a 0), .int (iI bb), .int (iI oo)] (pS D a cH cB cJ cI sz g vt)) (va_Qi (fun (r : Int32) (_ : Unit) => r = iI (m_lead g bb oo)) (fun _ _ => True) (fun q => sz ≤ q)) 0 0 (fun q => sz ≤ q) := by
  refine Met.ofW (cc := cX4_leadOver) (maxL := 6) (ret := (some .int)) (by decide +kernel) rfl ?_
  intro p e s m args below meth c s₁ B9 hml hv
  obtain ⟨rfl, hsz, hP, hK, hE⟩ := hv
  have hx := B9.exec
  have hb := B9.bytes
  have hr := B9.returns
  have hts := atoms_spec (ws := (wc yX4_leadOver cX4_leadOver 6 (some .int))) B9.pre
  have hw : ∀ w ∈ wsL_law0, w.before [.ref (a 0), .int (iI bb), .int (iI oo)].toArray s = true := fun w h => hts w (List.mem_cons_of_mem _ h)
  have hown : s.vm.findClass RX4 = some m.cls := findClass_of_methodNamed B9.named
  subst hsz
  have hS : va_S (fun q => s.heap.size ≤ q) s.heap s.heap [] := va_S.rf
  have hA : ∀ q : Nat, s.heap.size ≤ q → (fun q : Nat => s.heap.size ≤ q) q := fun _ h => h
  have hl := lv_entry ([.ref (a 0), .int (iI bb), .int (iI oo)]) (n := 6) (Nat.le_of_ble_eq_true rfl)
  rw [lg_entry_eq]
  generalize (lg_sl ([.ref (a 0), .int (iI bb), .int (iI oo)]) ++ List.replicate (6 - (lg_sl ([.ref (a 0), .int (iI bb), .int (iI oo)])).length) Slot.unset).toArray = ls at hl ⊢
  have hl : lv_has ls 6 [(0, .ref (a 0)), (1, .int (iI bb)), (2, .int (iI oo))] := hl
  suffices h9 : ∀ (H : Heap) (locs : List Loc), va_P D vwCl (pw a cH cB cJ cI g vt) H → va_S (fun q => s.heap.size ≤ q) s.heap H locs → W p l e (headSpec (wc yX4_leadOver cX4_leadOver 6 (some .int)) ({ frames := 2, cells := 0, slots := 0, locals := 44 })).room s m [.ref (a 0), .int (iI bb), .int (iI oo)].toArray below meth c H locs 0 0 (MQ below (va_Qi (fun (r : Int32) (_ : Unit) => r = iI (m_lead g bb oo)) (fun _ _ => True) (fun q => s.heap.size ≤ q)) [.ref (a 0), .int (iI bb), .int (iI oo)].toArray s 0 0 (fun q => s.heap.size ≤ q)) (F0 m 0 ls []) from h9 s.heap [] hP hS
  clear hP hS
  intro H locs hP hS
  have m5 := Wf.m5 hWf
  have hbt1 := bt_lt (n := bb) (by omega) (by omega)
  have hbo := bo_16 (S := m_bt bb) (k := oo) (bt_65 hbb) (by omega) (by omega)
  refine lv_iload_n hx hb dX4_leadOver_0 rfl (lv_at hl 1 rfl) ?_
  refine va_calli (va_runS (As := [.int (iI bb)]) (rest := []) ⟨hx, hb, hml, hown, hw⟩ (c_bit l D a cH cB cJ cI ha g vt H.size bb (by omega)) (va_cwS 1 hw (gA_S kw_171 kw_172 kw_2 kw_173) rfl rfl rfl (by decide +kernel) ⟨Nat.le_of_ble_eq_true rfl, Nat.le_of_ble_eq_true rfl⟩) (pS_s hP hK hE) rfl rfl hl.1 rfl (lv_room (Nat.le_of_ble_eq_true rfl)) dX4_leadOver_1 ⟨Nat.le_of_ble_eq_true rfl, Nat.le_of_ble_eq_true rfl⟩) hS (fun q h1 h2 => ro_A h1 h2) (fun q h => ro_F hS hA q h) (fun r u t H1 locs ht hvm hw9 hB9 hz1 hk1 hS => ?_)
  have hw9 : r = (iI (m_bt bb)) := hw9
  subst hw9
  have hP := ro_P hP hk1
  generalize H1 = H at hP hS ⊢
  have s1 := bt_nn bb
  have s2 := bt_lt (n := bb) (by omega) (by omega)
  refine lv_iload_n hx hb dX4_leadOver_4 rfl (lv_at hl 2 rfl) ?_
  refine va_calli (va_runS (As := [.int (iI oo)]) (rest := [.int (iI (m_bt bb))]) ⟨hx, hb, hml, hown, hw⟩ (c_bit l D a cH cB cJ cI ha g vt H.size oo (by omega)) (va_cwS 1 hw (gA_S kw_171 kw_172 kw_2 kw_173) rfl rfl rfl (by decide +kernel) ⟨Nat.le_of_ble_eq_true rfl, Nat.le_of_ble_eq_true rfl⟩) (pS_s hP hK hE) rfl rfl hl.1 rfl (lv_room (Nat.le_of_ble_eq_true rfl)) dX4_leadOver_5 ⟨Nat.le_of_ble_eq_true rfl, Nat.le_of_ble_eq_true rfl⟩) hS (fun q h1 h2 => ro_A h1 h2) (fun q h => ro_F hS hA q h) (fun r u t H1 locs ht hvm hw9 hB9 hz1 hk1 hS => ?_)
  have hw9 : r = (iI (m_bt oo)) := hw9
  subst hw9
  have hP := ro_P hP hk1
  generalize H1 = H at hP hS ⊢
  have s3 := bt_nn oo
  have s4 := bt_lt (n := oo) (by omega) (by omega)
  refine n_or hx hb (by omega) (by omega) dX4_leadOver_8 ?_
  have s5 := bo_nn (m_bt bb) (m_bt oo)
  refine lv_istore_n (lv' := [(3, .int (iI (m_bo (m_bt bb) (m_bt oo)))), (0, .ref (a 0)), (1, .int (iI bb)), (2, .int (iI oo))]) hx hb dX4_leadOver_9 rfl hl (by decide) rfl (fun ls hl => ?_)
  refine lv_iconst (v := iI 0) hx hb dX4_leadOver_10 (by decide) ?_
  refine lv_istore (lv' := [(4, .int (iI 0)), (3, .int (iI (m_bo (m_bt bb) (m_bt oo)))), (0, .ref (a 0)), (1, .int (iI bb)), (2, .int (iI oo))]) hx hb dX4_leadOver_11 hl (by decide) rfl (fun ls hl => ?_)
  refine lv_iconst (v := iI 0) hx hb dX4_leadOver_13 (by decide) ?_
  refine lv_istore (lv' := [(5, .int (iI 0)), (4, .int (iI 0)), (3, .int (iI (m_bo (m_bt bb) (m_bt oo)))), (0, .ref (a 0)), (1, .int (iI bb)), (2, .int (iI oo))]) hx hb dX4_leadOver_14 hl (by decide) rfl (fun ls hl => ?_)
  have loop16 : ∀ (d n : Nat) (H : Heap) (locs : List Loc) (ls : Array Slot), n + d = (g 0 0 5).toNat → va_P D vwCl (pw a cH cB cJ cI g vt) H → va_S (fun q => s.heap.size ≤ q) s.heap H locs → lv_has ls 6 [(5, .int (iI ((n : Nat) : Int))), (4, .int (iI (m_sm (fun j => bif decide (0 < g 3 j 15) && m_ba (m_openTo g j) (m_bo (m_bt bb) (m_bt oo)) == m_bo (m_bt bb) (m_bt oo) then (bif m_firstIn g j (m_bo (m_bt bb) (m_bt oo)) == bb then 1 else -1) else 0) n))), (3, .int (iI (m_bo (m_bt bb) (m_bt oo)))), (0, .ref (a 0)), (1, .int (iI bb)), (2, .int (iI oo))] → W p l e (headSpec (wc yX4_leadOver cX4_leadOver 6 (some .int)) ({ frames := 2, cells := 0, slots := 0, locals := 44 })).room s m [.ref (a 0), .int (iI bb), .int (iI oo)].toArray below meth c H locs 0 0 (MQ below (va_Qi (fun (r : Int32) (_ : Unit) => r = iI (m_lead g bb oo)) (fun _ _ => True) (fun q => s.heap.size ≤ q)) [.ref (a 0), .int (iI bb), .int (iI oo)].toArray s 0 0 (fun q => s.heap.size ≤ q)) (F0 m 16 ls []) := by
    intro d
    induction d with
    | zero =>
      intro n H locs ls hn hP hS hl
      obtain rfl : n = (g 0 0 5).toNat := by omega
      refine lv_iload hx hb dX4_leadOver_16 (lv_at hl 0 rfl) ?_
      refine lv_aload_n hx hb dX4_leadOver_18 rfl (lv_at hl 3 rfl) ?_
      have s6 := Wf.m5 hWf
      refine va_get (D := D) (ci := 4) (v := .int (iI (g 0 0 5))) (C := RX4) (T := TX4) (N := 19) hx hb hw hin_wsX40 hown hK hP 0 pw_0 rfl 5 (by decide) (hw _ kw_81) (fun _ h9 => h9) rfl dX4_leadOver_19 ?_
      refine n_icmp_ge hx hb (by unfold RI; omega) (by unfold RI; omega) (tgt := 86) dX4_leadOver_22 (by decide) (fun h7 => ?_) (fun h7 => absurd h7 (by intro h7; omega))
      refine lv_iload hx hb dX4_leadOver_86 (lv_at hl 1 rfl) ?_
      exact W.iret (v := (iI (m_sm (fun j => bif decide (0 < g 3 j 15) && m_ba (m_openTo g j) (m_bo (m_bt bb) (m_bt oo)) == m_bo (m_bt bb) (m_bt oo) then (bif m_firstIn g j (m_bo (m_bt bb) (m_bt oo)) == bb then 1 else -1) else 0) ((g 0 0 5).toNat)))) hx hb hr (fun t ht hW9 => ⟨⟨(iI (m_sm (fun j => bif decide (0 < g 3 j 15) && m_ba (m_openTo g j) (m_bo (m_bt bb) (m_bt oo)) == m_bo (m_bt bb) (m_bt oo) then (bif m_firstIn g j (m_bo (m_bt bb) (m_bt oo)) == bb then 1 else -1) else 0) ((g 0 0 5).toNat))), (), rfl, (congrArg iI (by rfl)), trivial⟩, hS.F ht⟩) hS.2.2 dX4_leadOver_88
    | succ d ih16 =>
      intro n H locs ls hn hP hS hl
      refine lv_iload hx hb dX4_leadOver_16 (lv_at hl 0 rfl) ?_
      refine lv_aload_n hx hb dX4_leadOver_18 rfl (lv_at hl 3 rfl) ?_
      have s8 := Wf.m5 hWf
      refine va_get (D := D) (ci := 4) (v := .int (iI (g 0 0 5))) (C := RX4) (T := TX4) (N := 19) hx hb hw hin_wsX40 hown hK hP 0 pw_0 rfl 5 (by decide) (hw _ kw_81) (fun _ h9 => h9) rfl dX4_leadOver_19 ?_
      refine n_icmp_ge hx hb (by unfold RI; omega) (by unfold RI; omega) (tgt := 86) dX4_leadOver_22 (by decide) (fun h9 => absurd h9 (by intro h9; omega)) (fun h9 => ?_)
      refine lv_aload_n hx hb dX4_leadOver_25 rfl (lv_at hl 3 rfl) ?_
      refine va_get (D := D) (ci := 4) (v := .ref (a 3)) (C := RX4) (T := TX4) (N := 19) hx hb hw hin_wsX40 hown hK hP 0 pw_0 rfl 2 (by decide) (hw _ kw_19) (fun _ h9 => h9) rfl dX4_leadOver_26 ?_
      refine lv_iload hx hb dX4_leadOver_29 (lv_at hl 0 rfl) ?_
      refine p_aldJ hx hb hK hP (k := ((n : Nat) : Int)) (by omega) (by omega) dX4_leadOver_31 ?_
      refine va_calli (va_runV (As := []) (rest := []) ⟨hx, hb, hml, hown, hw⟩ (c_hasOrder l D a cH cB cJ cI ha g vt H.size ((n : Nat) : Int) hWf (by omega)) (cwV 0 hw (gA_V kw_188 kw_189 kw_190 kw_34 kw_191) rfl rfl rfl (by decide +kernel) ⟨Nat.le_of_ble_eq_true rfl, Nat.le_of_ble_eq_true rfl⟩) (pS_v (ci := 2) (q0 := (28 + 6 * ((n : Nat) : Int).toNat)) rfl (pw_J (j := ((n : Nat) : Int)) (by omega) (by omega)) hP hK hE) rfl rfl hl.1 rfl (lv_room (Nat.le_of_ble_eq_true rfl)) dX4_leadOver_32 ⟨Nat.le_of_ble_eq_true rfl, Nat.le_of_ble_eq_true rfl⟩) hS (fun q h1 h2 => ro_A h1 h2) (fun q h => ro_F hS hA q h) (fun r u t H1 locs ht hvm hw9 hB9 hz1 hk1 hS => ?_)
      have hw9 : r = (bi (decide (0 < g 3 ((n : Nat) : Int) 15))) := hw9
      subst hw9
      have hP := ro_P hP hk1
      generalize H1 = H at hP hS ⊢
      refine n_b_eq hx hb (tgt := 80) dX4_leadOver_35 (by decide) (fun h10 => ?_) (fun h10 => ?_)
      · skip
        have h10 := of_decide_eq_false h10
        refine n_inc (lv' := [(5, .int (iI (((n : Nat) : Int) + 1))), (4, .int (iI (m_sm (fun j => bif decide (0 < g 3 j 15) && m_ba (m_openTo g j) (m_bo (m_bt bb) (m_bt oo)) == m_bo (m_bt bb) (m_bt oo) then (bif m_firstIn g j (m_bo (m_bt bb) (m_bt oo)) == bb then 1 else -1) else 0) n))), (3, .int (iI (m_bo (m_bt bb) (m_bt oo)))), (0, .ref (a 0)), (1, .int (iI bb)), (2, .int (iI oo))]) hx hb dX4_leadOver_80 hl (k := 0) rfl (by decide) rfl (fun ls hl => ?_)
        refine lv_goto (tgt := 16) hx hb dX4_leadOver_83 (by decide) ?_
        have hl : lv_has ls 6 [(5, .int (iI (((n : Nat) : Int) + 1))), (4, .int (iI (m_sm (fun j => bif decide (0 < g 3 j 15) && m_ba (m_openTo g j) (m_bo (m_bt bb) (m_bt oo)) == m_bo (m_bt bb) (m_bt oo) then (bif m_firstIn g j (m_bo (m_bt bb) (m_bt oo)) == bb then 1 else -1) else 0) n))), (3, .int (iI (m_bo (m_bt bb) (m_bt oo)))), (0, .ref (a 0)), (1, .int (iI bb)), (2, .int (iI oo))] := lv_sub hl [0, 1, 2, 3, 4, 5] rfl
        have e11 : (((n : Nat) : Int) + 1) = (((n + 1) : Nat) : Int) := by rfl
        have e12 : (m_sm (fun j => bif decide (0 < g 3 j 15) && m_ba (m_openTo g j) (m_bo (m_bt bb) (m_bt oo)) == m_bo (m_bt bb) (m_bt oo) then (bif m_firstIn g j (m_bo (m_bt bb) (m_bt oo)) == bb then 1 else -1) else 0) n) = (m_sm (fun j => bif decide (0 < g 3 j 15) && m_ba (m_openTo g j) (m_bo (m_bt bb) (m_bt oo)) == m_bo (m_bt bb) (m_bt oo) then (bif m_firstIn g j (m_bo (m_bt bb) (m_bt oo)) == bb then 1 else -1) else 0) (n + 1)) := by rw [sm_s]; simp [h9, Int.not_le.mpr h9, h10]; try omega
        have hl : lv_has ls 6 [(5, .int (iI (((n + 1) : Nat) : Int))), (4, .int (iI (m_sm (fun j => bif decide (0 < g 3 j 15) && m_ba (m_openTo g j) (m_bo (m_bt bb) (m_bt oo)) == m_bo (m_bt bb) (m_bt oo) then (bif m_firstIn g j (m_bo (m_bt bb) (m_bt oo)) == bb then 1 else -1) else 0) (n + 1)))), (3, .int (iI (m_bo (m_bt bb) (m_bt oo)))), (0, .ref (a 0)), (1, .int (iI bb)), (2, .int (iI oo))] := lv_cast hl (by rw [e11, e12])
        exact ih16 (n + 1) H locs ls (by omega) hP hS hl
      · skip
        have h10 := of_decide_eq_true h10
        refine lv_aload_n hx hb dX4_leadOver_38 rfl (lv_at hl 3 rfl) ?_
        refine lv_aload_n hx hb dX4_leadOver_39 rfl (lv_at hl 3 rfl) ?_
        refine va_get (D := D) (ci := 4) (v := .ref (a 3)) (C := RX4) (T := TX4) (N := 19) hx hb hw hin_wsX40 hown hK hP 0 pw_0 rfl 2 (by decide) (hw _ kw_19) (fun _ h9 => h9) rfl dX4_leadOver_40 ?_
        refine lv_iload hx hb dX4_leadOver_43 (lv_at hl 0 rfl) ?_
        refine p_aldJ hx hb hK hP (k := ((n : Nat) : Int)) (by omega) (by omega) dX4_leadOver_45 ?_
        refine va_calli (va_runV (As := [.ref (a (28 + 6 * ((n : Nat) : Int).toNat))]) (rest := []) ⟨hx, hb, hml, hown, hw⟩ (c_openTo l D a cH cB cJ cI ha g vt H.size ((n : Nat) : Int) hWf (by omega)) (cwV 1 hw (gA_V kw_393 kw_394 kw_395 kw_2 kw_396) rfl rfl rfl (by decide +kernel) ⟨Nat.le_of_ble_eq_true rfl, Nat.le_of_ble_eq_true rfl⟩) (pS_v (ci := 4) (q0 := 0) rfl pw_0 hP hK hE) rfl rfl hl.1 rfl (lv_room (Nat.le_of_ble_eq_true rfl)) dX4_leadOver_46 ⟨Nat.le_of_ble_eq_true rfl, Nat.le_of_ble_eq_true rfl⟩) hS (fun q h1 h2 => ro_A h1 h2) (fun q h => ro_F hS hA q h) (fun r u t H1 locs ht hvm hw9 hB9 hz1 hk1 hS => ?_)
        have hw9 : r = (iI (m_openTo g ((n : Nat) : Int))) := hw9
        subst hw9
        have hP := ro_P hP hk1
        generalize H1 = H at hP hS ⊢
        have s13 := open_b hWf ((n : Nat) : Int)
        refine lv_iload_n hx hb dX4_leadOver_49 rfl (lv_at hl 2 rfl) ?_
        refine n_and hx hb (by omega) (by omega) dX4_leadOver_50 ?_
        have s14 := ba_nn (m_openTo g ((n : Nat) : Int)) (m_bo (m_bt bb) (m_bt oo))
        have s15 := ba_le (S := (m_openTo g ((n : Nat) : Int))) (T := (m_bo (m_bt bb) (m_bt oo))) (by omega)
        refine lv_iload_n hx hb dX4_leadOver_51 rfl (lv_at hl 2 rfl) ?_
        refine n_icmp_ne hx hb (by unfold RI; omega) (by unfold RI; omega) (tgt := 80) dX4_leadOver_52 (by decide) (fun h16 => ?_) (fun h16 => ?_)
        · skip
          refine n_inc (lv' := [(5, .int (iI (((n : Nat) : Int) + 1))), (4, .int (iI (m_sm (fun j => bif decide (0 < g 3 j 15) && m_ba (m_openTo g j) (m_bo (m_bt bb) (m_bt oo)) == m_bo (m_bt bb) (m_bt oo) then (bif m_firstIn g j (m_bo (m_bt bb) (m_bt oo)) == bb then 1 else -1) else 0) n))), (3, .int (iI (m_bo (m_bt bb) (m_bt oo)))), (0, .ref (a 0)), (1, .int (iI bb)), (2, .int (iI oo))]) hx hb dX4_leadOver_80 hl (k := 0) rfl (by decide) rfl (fun ls hl => ?_)
          refine lv_goto (tgt := 16) hx hb dX4_leadOver_83 (by decide) ?_
          have hl : lv_has ls 6 [(5, .int (iI (((n : Nat) : Int) + 1))), (4, .int (iI (m_sm (fun j => bif decide (0 < g 3 j 15) && m_ba (m_openTo g j) (m_bo (m_bt bb) (m_bt oo)) == m_bo (m_bt bb) (m_bt oo) then (bif m_firstIn g j (m_bo (m_bt bb) (m_bt oo)) == bb then 1 else -1) else 0) n))), (3, .int (iI (m_bo (m_bt bb) (m_bt oo)))), (0, .ref (a 0)), (1, .int (iI bb)), (2, .int (iI oo))] := lv_sub hl [0, 1, 2, 3, 4, 5] rfl
          have e17 : (((n : Nat) : Int) + 1) = (((n + 1) : Nat) : Int) := by rfl
          have e18 : (m_sm (fun j => bif decide (0 < g 3 j 15) && m_ba (m_openTo g j) (m_bo (m_bt bb) (m_bt oo)) == m_bo (m_bt bb) (m_bt oo) then (bif m_firstIn g j (m_bo (m_bt bb) (m_bt oo)) == bb then 1 else -1) else 0) n) = (m_sm (fun j => bif decide (0 < g 3 j 15) && m_ba (m_openTo g j) (m_bo (m_bt bb) (m_bt oo)) == m_bo (m_bt bb) (m_bt oo) then (bif m_firstIn g j (m_bo (m_bt bb) (m_bt oo)) == bb then 1 else -1) else 0) (n + 1)) := by rw [sm_s]; simp [h9, Int.not_le.mpr h9, h10, h16, beq_false_of_ne h16]; try omega
          have hl : lv_has ls 6 [(5, .int (iI (((n + 1) : Nat) : Int))), (4, .int (iI (m_sm (fun j => bif decide (0 < g 3 j 15) && m_ba (m_openTo g j) (m_bo (m_bt bb) (m_bt oo)) == m_bo (m_bt bb) (m_bt oo) then (bif m_firstIn g j (m_bo (m_bt bb) (m_bt oo)) == bb then 1 else -1) else 0) (n + 1)))), (3, .int (iI (m_bo (m_bt bb) (m_bt oo)))), (0, .ref (a 0)), (1, .int (iI bb)), (2, .int (iI oo))] := lv_cast hl (by rw [e17, e18])
          exact ih16 (n + 1) H locs ls (by omega) hP hS hl
        · skip
          refine lv_iload hx hb dX4_leadOver_55 (lv_at hl 1 rfl) ?_
          refine lv_aload_n hx hb dX4_leadOver_57 rfl (lv_at hl 3 rfl) ?_
          refine va_get (D := D) (ci := 4) (v := .ref (a 3)) (C := RX4) (T := TX4) (N := 19) hx hb hw hin_wsX40 hown hK hP 0 pw_0 rfl 2 (by decide) (hw _ kw_19) (fun _ h9 => h9) rfl dX4_leadOver_58 ?_
          refine lv_iload hx hb dX4_leadOver_61 (lv_at hl 0 rfl) ?_
          refine p_aldJ hx hb hK hP (k := ((n : Nat) : Int)) (by omega) (by omega) dX4_leadOver_63 ?_
          refine lv_iload_n hx hb dX4_leadOver_64 rfl (lv_at hl 2 rfl) ?_
          refine va_calli (va_runV (As := [.int (iI (m_bo (m_bt bb) (m_bt oo)))]) (rest := [.int (iI (m_sm (fun j => bif decide (0 < g 3 j 15) && m_ba (m_openTo g j) (m_bo (m_bt bb) (m_bt oo)) == m_bo (m_bt bb) (m_bt oo) then (bif m_firstIn g j (m_bo (m_bt bb) (m_bt oo)) == bb then 1 else -1) else 0) n))]) ⟨hx, hb, hml, hown, hw⟩ (c_firstIn l D a cH cB cJ cI ha g vt H.size ((n : Nat) : Int) (m_bo (m_bt bb) (m_bt oo)) hWf (by omega) (by omega)) (cwV 1 hw (gA_V kw_397 kw_398 kw_399 kw_34 kw_400) rfl rfl rfl (by decide +kernel) ⟨Nat.le_of_ble_eq_true rfl, Nat.le_of_ble_eq_true rfl⟩) (pS_v (ci := 2) (q0 := (28 + 6 * ((n : Nat) : Int).toNat)) rfl (pw_J (j := ((n : Nat) : Int)) (by omega) (by omega)) hP hK hE) rfl rfl hl.1 rfl (lv_room (Nat.le_of_ble_eq_true rfl)) dX4_leadOver_65 ⟨Nat.le_of_ble_eq_true rfl, Nat.le_of_ble_eq_true rfl⟩) hS (fun q h1 h2 => ro_A h1 h2) (fun q h => ro_F hS hA q h) (fun r u t H1 locs ht hvm hw9 hB9 hz1 hk1 hS => ?_)
          have hw9 : r = (iI (m_firstIn g ((n : Nat) : Int) (m_bo (m_bt bb) (m_bt oo)))) := hw9
          subst hw9
          have hP := ro_P hP hk1
          generalize H1 = H at hP hS ⊢
          have s19 := first_b hWf (jj := ((n : Nat) : Int)) (S := (m_bo (m_bt bb) (m_bt oo))) (by omega)
          refine lv_iload_n hx hb dX4_leadOver_68 rfl (lv_at hl 4 rfl) ?_
          refine n_icmp_ne hx hb (by unfold RI; omega) (by unfold RI; omega) (tgt := 76) dX4_leadOver_69 (by decide) (fun h20 => ?_) (fun h20 => ?_)
          · skip
            refine lv_iconst (v := iI (-1)) hx hb dX4_leadOver_76 (by decide) ?_
            refine n_add hx hb dX4_leadOver_77 ?_
            refine lv_istore (lv' := [(4, .int (iI ((m_sm (fun j => bif decide (0 < g 3 j 15) && m_ba (m_openTo g j) (m_bo (m_bt bb) (m_bt oo)) == m_bo (m_bt bb) (m_bt oo) then (bif m_firstIn g j (m_bo (m_bt bb) (m_bt oo)) == bb then 1 else -1) else 0) n) + (-1)))), (5, .int (iI ((n : Nat) : Int))), (3, .int (iI (m_bo (m_bt bb) (m_bt oo)))), (0, .ref (a 0)), (1, .int (iI bb)), (2, .int (iI oo))]) hx hb dX4_leadOver_78 hl (by decide) rfl (fun ls hl => ?_)
            refine n_inc (lv' := [(5, .int (iI (((n : Nat) : Int) + 1))), (4, .int (iI ((m_sm (fun j => bif decide (0 < g 3 j 15) && m_ba (m_openTo g j) (m_bo (m_bt bb) (m_bt oo)) == m_bo (m_bt bb) (m_bt oo) then (bif m_firstIn g j (m_bo (m_bt bb) (m_bt oo)) == bb then 1 else -1) else 0) n) + (-1)))), (3, .int (iI (m_bo (m_bt bb) (m_bt oo)))), (0, .ref (a 0)), (1, .int (iI bb)), (2, .int (iI oo))]) hx hb dX4_leadOver_80 hl (k := 1) rfl (by decide) rfl (fun ls hl => ?_)
            refine lv_goto (tgt := 16) hx hb dX4_leadOver_83 (by decide) ?_
            have hl : lv_has ls 6 [(5, .int (iI (((n : Nat) : Int) + 1))), (4, .int (iI ((m_sm (fun j => bif decide (0 < g 3 j 15) && m_ba (m_openTo g j) (m_bo (m_bt bb) (m_bt oo)) == m_bo (m_bt bb) (m_bt oo) then (bif m_firstIn g j (m_bo (m_bt bb) (m_bt oo)) == bb then 1 else -1) else 0) n) + (-1)))), (3, .int (iI (m_bo (m_bt bb) (m_bt oo)))), (0, .ref (a 0)), (1, .int (iI bb)), (2, .int (iI oo))] := lv_sub hl [0, 1, 2, 3, 4, 5] rfl
            have e21 : (((n : Nat) : Int) + 1) = (((n + 1) : Nat) : Int) := by rfl
            have e22 : ((m_sm (fun j => bif decide (0 < g 3 j 15) && m_ba (m_openTo g j) (m_bo (m_bt bb) (m_bt oo)) == m_bo (m_bt bb) (m_bt oo) then (bif m_firstIn g j (m_bo (m_bt bb) (m_bt oo)) == bb then 1 else -1) else 0) n) + (-1)) = (m_sm (fun j => bif decide (0 < g 3 j 15) && m_ba (m_openTo g j) (m_bo (m_bt bb) (m_bt oo)) == m_bo (m_bt bb) (m_bt oo) then (bif m_firstIn g j (m_bo (m_bt bb) (m_bt oo)) == bb then 1 else -1) else 0) (n + 1)) := by rw [sm_s]; simp [h9, Int.not_le.mpr h9, h10, h16, h20, beq_false_of_ne h20]; try omega
            have hl : lv_has ls 6 [(5, .int (iI (((n + 1) : Nat) : Int))), (4, .int (iI (m_sm (fun j => bif decide (0 < g 3 j 15) && m_ba (m_openTo g j) (m_bo (m_bt bb) (m_bt oo)) == m_bo (m_bt bb) (m_bt oo) then (bif m_firstIn g j (m_bo (m_bt bb) (m_bt oo)) == bb then 1 else -1) else 0) (n + 1)))), (3, .int (iI (m_bo (m_bt bb) (m_bt oo)))), (0, .ref (a 0)), (1, .int (iI bb)), (2, .int (iI oo))] := lv_cast hl (by rw [e21, e22])
            exact ih16 (n + 1) H locs ls (by omega) hP hS hl
          · skip
            refine lv_iconst (v := iI 1) hx hb dX4_leadOver_72 (by decide) ?_
            refine lv_goto (tgt := 77) hx hb dX4_leadOver_73 (by decide) ?_
            refine n_add hx hb dX4_leadOver_77 ?_
            refine lv_istore (lv' := [(4, .int (iI ((m_sm (fun j => bif decide (0 < g 3 j 15) && m_ba (m_openTo g j) (m_bo (m_bt bb) (m_bt oo)) == m_bo (m_bt bb) (m_bt oo) then (bif m_firstIn g j (m_bo (m_bt bb) (m_bt oo)) == bb then 1 else -1) else 0) n) + 1))), (5, .int (iI ((n : Nat) : Int))), (3, .int (iI (m_bo (m_bt bb) (m_bt oo)))), (0, .ref (a 0)), (1, .int (iI bb)), (2, .int (iI oo))]) hx hb dX4_leadOver_78 hl (by decide) rfl (fun ls hl => ?_)
            refine n_inc (lv' := [(5, .int (iI (((n : Nat) : Int) + 1))), (4, .int (iI ((m_sm (fun j => bif decide (0 < g 3 j 15) && m_ba (m_openTo g j) (m_bo (m_bt bb) (m_bt oo)) == m_bo (m_bt bb) (m_bt oo) then (bif m_firstIn g j (m_bo (m_bt bb) (m_bt oo)) == bb then 1 else -1) else 0) n) + 1))), (3, .int (iI (m_bo (m_bt bb) (m_bt oo)))), (0, .ref (a 0)), (1, .int (iI bb)), (2, .int (iI oo))]) hx hb dX4_leadOver_80 hl (k := 1) rfl (by decide) rfl (fun ls hl => ?_)
            refine lv_goto (tgt := 16) hx hb dX4_leadOver_83 (by decide) ?_
            have hl : lv_has ls 6 [(5, .int (iI (((n : Nat) : Int) + 1))), (4, .int (iI ((m_sm (fun j => bif decide (0 < g 3 j 15) && m_ba (m_openTo g j) (m_bo (m_bt bb) (m_bt oo)) == m_bo (m_bt bb) (m_bt oo) then (bif m_firstIn g j (m_bo (m_bt bb) (m_bt oo)) == bb then 1 else -1) else 0) n) + 1))), (3, .int (iI (m_bo (m_bt bb) (m_bt oo)))), (0, .ref (a 0)), (1, .int (iI bb)), (2, .int (iI oo))] := lv_sub hl [0, 1, 2, 3, 4, 5] rfl
            have e23 : (((n : Nat) : Int) + 1) = (((n + 1) : Nat) : Int) := by rfl
            have e24 : ((m_sm (fun j => bif decide (0 < g 3 j 15) && m_ba (m_openTo g j) (m_bo (m_bt bb) (m_bt oo)) == m_bo (m_bt bb) (m_bt oo) then (bif m_firstIn g j (m_bo (m_bt bb) (m_bt oo)) == bb then 1 else -1) else 0) n) + 1) = (m_sm (fun j => bif decide (0 < g 3 j 15) && m_ba (m_openTo g j) (m_bo (m_bt bb) (m_bt oo)) == m_bo (m_bt bb) (m_bt oo) then (bif m_firstIn g j (m_bo (m_bt bb) (m_bt oo)) == bb then 1 else -1) else 0) (n + 1)) := by rw [sm_s]; simp [h9, Int.not_le.mpr h9, h10, h16, h20]; try omega
            have hl : lv_has ls 6 [(5, .int (iI (((n + 1) : Nat) : Int))), (4, .int (iI (m_sm (fun j => bif decide (0 < g 3 j 15) && m_ba (m_openTo g j) (m_bo (m_bt bb) (m_bt oo)) == m_bo (m_bt bb) (m_bt oo) then (bif m_firstIn g j (m_bo (m_bt bb) (m_bt oo)) == bb then 1 else -1) else 0) (n + 1)))), (3, .int (iI (m_bo (m_bt bb) (m_bt oo)))), (0, .ref (a 0)), (1, .int (iI bb)), (2, .int (iI oo))] := lv_cast hl (by rw [e23, e24])
            exact ih16 (n + 1) H locs ls (by omega) hP hS hl
  have hl : lv_has ls 6 [(5, .int (iI 0)), (4, .int (iI 0)), (3, .int (iI (m_bo (m_bt bb) (m_bt oo)))), (0, .ref (a 0)), (1, .int (iI bb)), (2, .int (iI oo))] := lv_sub hl [0, 1, 2, 3, 4, 5] rfl
  have hl : lv_has ls 6 [(5, .int (iI ((0 : Nat) : Int))), (4, .int (iI (m_sm (fun j => bif decide (0 < g 3 j 15) && m_ba (m_openTo g j) (m_bo (m_bt bb) (m_bt oo)) == m_bo (m_bt bb) (m_bt oo) then (bif m_firstIn g j (m_bo (m_bt bb) (m_bt oo)) == bb then 1 else -1) else 0) 0))), (3, .int (iI (m_bo (m_bt bb) (m_bt oo)))), (0, .ref (a 0)), (1, .int (iI bb)), (2, .int (iI oo))] := hl
  exact loop16 ((g 0 0 5).toNat) 0 H locs ls (by omega) hP hS hl
set_option maxHeartbeats 4000000 in
set_option maxRecDepth 100000 in
theorem c_isAheadOfRest (l : Launch) (D : va_G) (a : Nat → Nat) (cH cB cJ cI : ClassId) (ha : pj a) (g : m_St) (vt : Nat → Int32) (sz : Nat) (bb : Int) (hWf : Wf g) (hbb : 0 ≤ bb ∧ bb < 16) : Met l yX4_isAheadOfRest (wc yX4_isAheadOfRest cX4_isAheadOfRest 3 (some .boolean)) ({ frames := 3, cells := 0, slots := 0, locals := 69 }) (va_Pc [.ref (a 0), .int (iI bb)] (pS D a cH cB cJ cI sz g vt)) (va_Qi (fun (r : Int32) (_ : Unit) => r = bi (m_ahead g bb)) (fun _ _ => True) (fun q => sz ≤ q)) 0 0 (fun q => sz ≤ q) := by
  refine Met.ofW (cc := cX4_isAheadOfRest) (maxL := 3) (ret := (some .boolean)) (by decide +kernel) rfl ?_
  intro p e s m args below meth c s₁ B9 hml hv
  obtain ⟨rfl, hsz, hP, hK, hE⟩ := hv
  have hx := B9.exec
  have hb := B9.bytes
  have hr := B9.returns
  have hts := atoms_spec (ws := (wc yX4_isAheadOfRest cX4_isAheadOfRest 3 (some .boolean))) B9.pre
  have hw : ∀ w ∈ wsL_law0, w.before [.ref (a 0), .int (iI bb)].toArray s = true := fun w h => hts w (List.mem_cons_of_mem _ h)
  have hown : s.vm.findClass RX4 = some m.cls := findClass_of_methodNamed B9.named
  subst hsz
  have hS : va_S (fun q => s.heap.size ≤ q) s.heap s.heap [] := va_S.rf
  have hA : ∀ q : Nat, s.heap.size ≤ q → (fun q : Nat => s.heap.size ≤ q) q := fun _ h => h
  have hl := lv_entry ([.ref (a 0), .int (iI bb)]) (n := 3) (Nat.le_of_ble_eq_true rfl)
  rw [lg_entry_eq]
  generalize (lg_sl ([.ref (a 0), .int (iI bb)]) ++ List.replicate (3 - (lg_sl ([.ref (a 0), .int (iI bb)])).length) Slot.unset).toArray = ls at hl ⊢
  have hl : lv_has ls 3 [(0, .ref (a 0)), (1, .int (iI bb))] := hl
  suffices h9 : ∀ (H : Heap) (locs : List Loc), va_P D vwCl (pw a cH cB cJ cI g vt) H → va_S (fun q => s.heap.size ≤ q) s.heap H locs → W p l e (headSpec (wc yX4_isAheadOfRest cX4_isAheadOfRest 3 (some .boolean)) ({ frames := 3, cells := 0, slots := 0, locals := 69 })).room s m [.ref (a 0), .int (iI bb)].toArray below meth c H locs 0 0 (MQ below (va_Qi (fun (r : Int32) (_ : Unit) => r = bi (m_ahead g bb)) (fun _ _ => True) (fun q => s.heap.size ≤ q)) [.ref (a 0), .int (iI bb)].toArray s 0 0 (fun q => s.heap.size ≤ q)) (F0 m 0 ls []) from h9 s.heap [] hP hS
  clear hP hS
  intro H locs hP hS
  have m4 := Wf.m4 hWf
  refine lv_iconst (v := iI 0) hx hb dX4_isAheadOfRest_0 (by decide) ?_
  refine lv_istore_n (lv' := [(2, .int (iI 0)), (0, .ref (a 0)), (1, .int (iI bb))]) hx hb dX4_isAheadOfRest_1 rfl hl (by decide) rfl (fun ls hl => ?_)
  have loop2 : ∀ (d n : Nat) (H : Heap) (locs : List Loc) (ls : Array Slot), n + d = (g 0 0 4).toNat → (m_ahead g bb = m_al (fun o => !(o != bb && m_has (g 0 0 13) o && decide (m_lead g bb o ≤ 0))) d ((n : Nat) : Int)) → va_P D vwCl (pw a cH cB cJ cI g vt) H → va_S (fun q => s.heap.size ≤ q) s.heap H locs → lv_has ls 3 [(2, .int (iI ((n : Nat) : Int))), (0, .ref (a 0)), (1, .int (iI bb))] → W p l e (headSpec (wc yX4_isAheadOfRest cX4_isAheadOfRest 3 (some .boolean)) ({ frames := 3, cells := 0, slots := 0, locals := 69 })).room s m [.ref (a 0), .int (iI bb)].toArray below meth c H locs 0 0 (MQ below (va_Qi (fun (r : Int32) (_ : Unit) => r = bi (m_ahead g bb)) (fun _ _ => True) (fun q => s.heap.size ≤ q)) [.ref (a 0), .int (iI bb)].toArray s 0 0 (fun q => s.heap.size ≤ q)) (F0 m 2 ls []) := by
    intro d
    induction d with
    | zero =>
      intro n H locs ls hn hq hP hS hl
      obtain rfl : n = (g 0 0 4).toNat := by omega
      refine lv_iload_n hx hb dX4_isAheadOfRest_2 rfl (lv_at hl 0 rfl) ?_
      refine lv_aload_n hx hb dX4_isAheadOfRest_3 rfl (lv_at hl 1 rfl) ?_
      have s1 := Wf.m4 hWf
      refine va_get (D := D) (ci := 4) (v := .int (iI (g 0 0 4))) (C := RX4) (T := TX4) (N := 19) hx hb hw hin_wsX40 hown hK hP 0 pw_0 rfl 4 (by decide) (hw _ kw_98) (fun _ h9 => h9) rfl dX4_isAheadOfRest_4 ?_
      refine n_icmp_ge hx hb (by unfold RI; omega) (by unfold RI; omega) (tgt := 43) dX4_isAheadOfRest_7 (by decide) (fun h2 => ?_) (fun h2 => absurd h2 (by intro h2; omega))
      refine lv_iconst (v := iI 1) hx hb dX4_isAheadOfRest_43 (by decide) ?_
      exact W.zret (v := (iI 1)) (ty := .boolean) hx hb hr (by decide +kernel) (fun t ht hW9 => ⟨⟨(iI 1), (), rfl, (show iI 1 = bi (m_ahead g bb) from by rw [show (m_ahead g bb) = true from by rw [hq]; first | rfl | simp [m_al, h2, Int.not_lt.mpr h2]]; rfl), trivial⟩, hS.F ht⟩) hS.2.2 dX4_isAheadOfRest_44
    | succ d ih2 =>
      intro n H locs ls hn hq hP hS hl
      refine lv_iload_n hx hb dX4_isAheadOfRest_2 rfl (lv_at hl 0 rfl) ?_
      refine lv_aload_n hx hb dX4_isAheadOfRest_3 rfl (lv_at hl 1 rfl) ?_
      have s3 := Wf.m4 hWf
      refine va_get (D := D) (ci := 4) (v := .int (iI (g 0 0 4))) (C := RX4) (T := TX4) (N := 19) hx hb hw hin_wsX40 hown hK hP 0 pw_0 rfl 4 (by decide) (hw _ kw_98) (fun _ h9 => h9) rfl dX4_isAheadOfRest_4 ?_
      refine n_icmp_ge hx hb (by unfold RI; omega) (by unfold RI; omega) (tgt := 43) dX4_isAheadOfRest_7 (by decide) (fun h4 => absurd h4 (by intro h4; omega)) (fun h4 => ?_)
      refine lv_iload_n hx hb dX4_isAheadOfRest_10 rfl (lv_at hl 0 rfl) ?_
      refine lv_iload_n hx hb dX4_isAheadOfRest_11 rfl (lv_at hl 2 rfl) ?_
      refine n_icmp_eq hx hb (by unfold RI; omega) (by unfold RI; omega) (tgt := 37) dX4_isAheadOfRest_12 (by decide) (fun h5 => ?_) (fun h5 => ?_)
      · skip
        refine n_inc (lv' := [(2, .int (iI (((n : Nat) : Int) + 1))), (0, .ref (a 0)), (1, .int (iI bb))]) hx hb dX4_isAheadOfRest_37 hl (k := 0) rfl (by decide) rfl (fun ls hl => ?_)
        refine lv_goto (tgt := 2) hx hb dX4_isAheadOfRest_40 (by decide) ?_
        have hl : lv_has ls 3 [(2, .int (iI (((n : Nat) : Int) + 1))), (0, .ref (a 0)), (1, .int (iI bb))] := lv_sub hl [0, 1, 2] rfl
        have e6 : (((n : Nat) : Int) + 1) = (((n + 1) : Nat) : Int) := by rfl
        have hl : lv_has ls 3 [(2, .int (iI (((n + 1) : Nat) : Int))), (0, .ref (a 0)), (1, .int (iI bb))] := lv_cast hl (by rw [e6])
        exact ih2 (n + 1) H locs ls (by omega) (by rw [hq]; simp [m_al, h4, Int.not_le.mpr h4, h5]; try omega) hP hS hl
      · skip
        refine lv_aload_n hx hb dX4_isAheadOfRest_15 rfl (lv_at hl 1 rfl) ?_
        have s7 := Wf.m13 hWf
        refine va_get (D := D) (ci := 4) (v := .int (iI (g 0 0 13))) (C := RX4) (T := TX4) (N := 19) hx hb hw hin_wsX40 hown hK hP 0 pw_0 rfl 13 (by decide) (hw _ kw_100) (fun _ h9 => h9) rfl dX4_isAheadOfRest_16 ?_
        refine lv_iload_n hx hb dX4_isAheadOfRest_19 rfl (lv_at hl 0 rfl) ?_
        refine va_calli (va_runS (As := [.int (iI (g 0 0 13)), .int (iI ((n : Nat) : Int))]) (rest := []) ⟨hx, hb, hml, hown, hw⟩ (c_has l D a cH cB cJ cI ha g vt H.size (g 0 0 13) ((n : Nat) : Int) (by omega) (by omega)) (va_cwS 2 hw (gA_S kw_229 kw_223 kw_2 kw_224) rfl rfl rfl (by decide +kernel) ⟨Nat.le_of_ble_eq_true rfl, Nat.le_of_ble_eq_true rfl⟩) (pS_s hP hK hE) rfl rfl hl.1 rfl (lv_room (Nat.le_of_ble_eq_true rfl)) dX4_isAheadOfRest_20 ⟨Nat.le_of_ble_eq_true rfl, Nat.le_of_ble_eq_true rfl⟩) hS (fun q h1 h2 => ro_A h1 h2) (fun q h => ro_F hS hA q h) (fun r u t H1 locs ht hvm hw9 hB9 hz1 hk1 hS => ?_)
        have hw9 : r = (bi (m_has (g 0 0 13) ((n : Nat) : Int))) := hw9
        subst hw9
        have hP := ro_P hP hk1
        generalize H1 = H at hP hS ⊢
        refine n_b_eq hx hb (tgt := 37) dX4_isAheadOfRest_23 (by decide) (fun h8 => ?_) (fun h8 => ?_)
        · skip
          refine n_inc (lv' := [(2, .int (iI (((n : Nat) : Int) + 1))), (0, .ref (a 0)), (1, .int (iI bb))]) hx hb dX4_isAheadOfRest_37 hl (k := 0) rfl (by decide) rfl (fun ls hl => ?_)
          refine lv_goto (tgt := 2) hx hb dX4_isAheadOfRest_40 (by decide) ?_
          have hl : lv_has ls 3 [(2, .int (iI (((n : Nat) : Int) + 1))), (0, .ref (a 0)), (1, .int (iI bb))] := lv_sub hl [0, 1, 2] rfl
          have e9 : (((n : Nat) : Int) + 1) = (((n + 1) : Nat) : Int) := by rfl
          have hl : lv_has ls 3 [(2, .int (iI (((n + 1) : Nat) : Int))), (0, .ref (a 0)), (1, .int (iI bb))] := lv_cast hl (by rw [e9])
          exact ih2 (n + 1) H locs ls (by omega) (by rw [hq]; simp [m_al, h4, Int.not_le.mpr h4, h5, beq_false_of_ne h5, h8]; try omega) hP hS hl
        · skip
          refine lv_aload_n hx hb dX4_isAheadOfRest_26 rfl (lv_at hl 1 rfl) ?_
          refine lv_iload_n hx hb dX4_isAheadOfRest_27 rfl (lv_at hl 2 rfl) ?_
          refine lv_iload_n hx hb dX4_isAheadOfRest_28 rfl (lv_at hl 0 rfl) ?_
          refine va_calli (va_runV (As := [.int (iI bb), .int (iI ((n : Nat) : Int))]) (rest := []) ⟨hx, hb, hml, hown, hw⟩ (c_leadOver l D a cH cB cJ cI ha g vt H.size bb ((n : Nat) : Int) hWf (by omega) (by omega)) (cwV 2 hw (gA_V kw_534 kw_535 kw_536 kw_2 kw_537) rfl rfl rfl (by decide +kernel) ⟨Nat.le_of_ble_eq_true rfl, Nat.le_of_ble_eq_true rfl⟩) (pS_v (ci := 4) (q0 := 0) rfl pw_0 hP hK hE) rfl rfl hl.1 rfl (lv_room (Nat.le_of_ble_eq_true rfl)) dX4_isAheadOfRest_29 ⟨Nat.le_of_ble_eq_true rfl, Nat.le_of_ble_eq_true rfl⟩) hS (fun q h1 h2 => ro_A h1 h2) (fun q h => ro_F hS hA q h) (fun r u t H1 locs ht hvm hw9 hB9 hz1 hk1 hS => ?_)
          have hw9 : r = (iI (m_lead g bb ((n : Nat) : Int))) := hw9
          subst hw9
          have hP := ro_P hP hk1
          generalize H1 = H at hP hS ⊢
          have s10 := lead_b hWf bb ((n : Nat) : Int)
          refine n_if_gt hx hb (by unfold RI; omega) (tgt := 37) dX4_isAheadOfRest_32 (by decide) (fun h11 => ?_) (fun h11 => ?_)
          · skip
            refine n_inc (lv' := [(2, .int (iI (((n : Nat) : Int) + 1))), (0, .ref (a 0)), (1, .int (iI bb))]) hx hb dX4_isAheadOfRest_37 hl (k := 0) rfl (by decide) rfl (fun ls hl => ?_)
            refine lv_goto (tgt := 2) hx hb dX4_isAheadOfRest_40 (by decide) ?_
            have hl : lv_has ls 3 [(2, .int (iI (((n : Nat) : Int) + 1))), (0, .ref (a 0)), (1, .int (iI bb))] := lv_sub hl [0, 1, 2] rfl
            have e12 : (((n : Nat) : Int) + 1) = (((n + 1) : Nat) : Int) := by rfl
            have hl : lv_has ls 3 [(2, .int (iI (((n + 1) : Nat) : Int))), (0, .ref (a 0)), (1, .int (iI bb))] := lv_cast hl (by rw [e12])
            exact ih2 (n + 1) H locs ls (by omega) (by rw [hq]; simp [m_al, h4, Int.not_le.mpr h4, h5, beq_false_of_ne h5, h8, h11, Int.not_le.mpr h11]; try omega) hP hS hl
          · skip
            refine lv_iconst (v := iI 0) hx hb dX4_isAheadOfRest_35 (by decide) ?_
            exact W.zret (v := (iI 0)) (ty := .boolean) hx hb hr (by decide +kernel) (fun t ht hW9 => ⟨⟨(iI 0), (), rfl, (show iI 0 = bi (m_ahead g bb) from by rw [show (m_ahead g bb) = false from by rw [hq]; first | rfl | simp [m_al, h4, Int.not_le.mpr h4, h5, beq_false_of_ne h5, h8, h11, Int.not_lt.mpr h11]]; rfl), trivial⟩, hS.F ht⟩) hS.2.2 dX4_isAheadOfRest_36
  have hl : lv_has ls 3 [(2, .int (iI 0)), (0, .ref (a 0)), (1, .int (iI bb))] := lv_sub hl [0, 1, 2] rfl
  have hl : lv_has ls 3 [(2, .int (iI ((0 : Nat) : Int))), (0, .ref (a 0)), (1, .int (iI bb))] := hl
  exact loop2 ((g 0 0 4).toNat) 0 H locs ls (by omega) rfl hP hS hl
set_option maxHeartbeats 4000000 in
set_option maxRecDepth 100000 in
theorem c_beatsAll (l : Launch) (D : va_G) (a : Nat → Nat) (cH cB cJ cI : ClassId) (ha : pj a) (g : m_St) (vt : Nat → Int32) (sz : Nat) (hWf : Wf g) : Met l yX4_beatsAll (wc yX4_beatsAll cX4_beatsAll 2 (some .int)) ({ frames := 4, cells := 0, slots := 0, locals := 91 }) (va_Pc [.ref (a 0)] (pS D a cH cB cJ cI sz g vt)) (va_Qi (fun (r : Int32) (_ : Unit) => r = iI (m_beatsAll g)) (fun _ _ => True) (fun q => sz ≤ q)) 0 0 (fun q => sz ≤ q) := by
  refine Met.ofW (cc := cX4_beatsAll) (maxL := 2) (ret := (some .int)) (by decide +kernel) rfl ?_
  intro p e s m args below meth c s₁ B9 hml hv
  obtain ⟨rfl, hsz, hP, hK, hE⟩ := hv
  have hx := B9.exec
  have hb := B9.bytes
  have hr := B9.returns
  have hts := atoms_spec (ws := (wc yX4_beatsAll cX4_beatsAll 2 (some .int))) B9.pre
  have hw : ∀ w ∈ wsL_law0, w.before [.ref (a 0)].toArray s = true := fun w h => hts w (List.mem_cons_of_mem _ h)
  have hown : s.vm.findClass RX4 = some m.cls := findClass_of_methodNamed B9.named
  subst hsz
  have hS : va_S (fun q => s.heap.size ≤ q) s.heap s.heap [] := va_S.rf
  have hA : ∀ q : Nat, s.heap.size ≤ q → (fun q : Nat => s.heap.size ≤ q) q := fun _ h => h
  have hl := lv_entry ([.ref (a 0)]) (n := 2) (Nat.le_of_ble_eq_true rfl)
  rw [lg_entry_eq]
  generalize (lg_sl ([.ref (a 0)]) ++ List.replicate (2 - (lg_sl ([.ref (a 0)])).length) Slot.unset).toArray = ls at hl ⊢
  have hl : lv_has ls 2 [(0, .ref (a 0))] := hl
  suffices h9 : ∀ (H : Heap) (locs : List Loc), va_P D vwCl (pw a cH cB cJ cI g vt) H → va_S (fun q => s.heap.size ≤ q) s.heap H locs → W p l e (headSpec (wc yX4_beatsAll cX4_beatsAll 2 (some .int)) ({ frames := 4, cells := 0, slots := 0, locals := 91 })).room s m [.ref (a 0)].toArray below meth c H locs 0 0 (MQ below (va_Qi (fun (r : Int32) (_ : Unit) => r = iI (m_beatsAll g)) (fun _ _ => True) (fun q => s.heap.size ≤ q)) [.ref (a 0)].toArray s 0 0 (fun q => s.heap.size ≤ q)) (F0 m 0 ls []) from h9 s.heap [] hP hS
  clear hP hS
  intro H locs hP hS
  have m4 := Wf.m4 hWf
  refine lv_iconst (v := iI 0) hx hb dX4_beatsAll_0 (by decide) ?_
  refine lv_istore_n (lv' := [(1, .int (iI 0)), (0, .ref (a 0))]) hx hb dX4_beatsAll_1 rfl hl (by decide) rfl (fun ls hl => ?_)
  have loop2 : ∀ (d n : Nat) (H : Heap) (locs : List Loc) (ls : Array Slot), n + d = (g 0 0 4).toNat → (m_beatsAll g = m_fs (fun b => m_has (g 0 0 13) b && m_ahead g b) d ((n : Nat) : Int)) → va_P D vwCl (pw a cH cB cJ cI g vt) H → va_S (fun q => s.heap.size ≤ q) s.heap H locs → lv_has ls 2 [(1, .int (iI ((n : Nat) : Int))), (0, .ref (a 0))] → W p l e (headSpec (wc yX4_beatsAll cX4_beatsAll 2 (some .int)) ({ frames := 4, cells := 0, slots := 0, locals := 91 })).room s m [.ref (a 0)].toArray below meth c H locs 0 0 (MQ below (va_Qi (fun (r : Int32) (_ : Unit) => r = iI (m_beatsAll g)) (fun _ _ => True) (fun q => s.heap.size ≤ q)) [.ref (a 0)].toArray s 0 0 (fun q => s.heap.size ≤ q)) (F0 m 2 ls []) := by
    intro d
    induction d with
    | zero =>
      intro n H locs ls hn hq hP hS hl
      obtain rfl : n = (g 0 0 4).toNat := by omega
      refine lv_iload_n hx hb dX4_beatsAll_2 rfl (lv_at hl 0 rfl) ?_
      refine lv_aload_n hx hb dX4_beatsAll_3 rfl (lv_at hl 1 rfl) ?_
      have s1 := Wf.m4 hWf
      refine va_get (D := D) (ci := 4) (v := .int (iI (g 0 0 4))) (C := RX4) (T := TX4) (N := 19) hx hb hw hin_wsX40 hown hK hP 0 pw_0 rfl 4 (by decide) (hw _ kw_98) (fun _ h9 => h9) rfl dX4_beatsAll_4 ?_
      refine n_icmp_ge hx hb (by unfold RI; omega) (by unfold RI; omega) (tgt := 37) dX4_beatsAll_7 (by decide) (fun h2 => ?_) (fun h2 => absurd h2 (by intro h2; omega))
      refine lv_iconst (v := iI (-1)) hx hb dX4_beatsAll_37 (by decide) ?_
      exact W.iret (v := (iI (-1))) hx hb hr (fun t ht hW9 => ⟨⟨(iI (-1)), (), rfl, (congrArg iI (by rw [hq]; first | rfl | simp [m_fs, h2, Int.not_lt.mpr h2])), trivial⟩, hS.F ht⟩) hS.2.2 dX4_beatsAll_38
    | succ d ih2 =>
      intro n H locs ls hn hq hP hS hl
      refine lv_iload_n hx hb dX4_beatsAll_2 rfl (lv_at hl 0 rfl) ?_
      refine lv_aload_n hx hb dX4_beatsAll_3 rfl (lv_at hl 1 rfl) ?_
      have s3 := Wf.m4 hWf
      refine va_get (D := D) (ci := 4) (v := .int (iI (g 0 0 4))) (C := RX4) (T := TX4) (N := 19) hx hb hw hin_wsX40 hown hK hP 0 pw_0 rfl 4 (by decide) (hw _ kw_98) (fun _ h9 => h9) rfl dX4_beatsAll_4 ?_
      refine n_icmp_ge hx hb (by unfold RI; omega) (by unfold RI; omega) (tgt := 37) dX4_beatsAll_7 (by decide) (fun h4 => absurd h4 (by intro h4; omega)) (fun h4 => ?_)
      refine lv_aload_n hx hb dX4_beatsAll_10 rfl (lv_at hl 1 rfl) ?_
      have s5 := Wf.m13 hWf
      refine va_get (D := D) (ci := 4) (v := .int (iI (g 0 0 13))) (C := RX4) (T := TX4) (N := 19) hx hb hw hin_wsX40 hown hK hP 0 pw_0 rfl 13 (by decide) (hw _ kw_100) (fun _ h9 => h9) rfl dX4_beatsAll_11 ?_
      refine lv_iload_n hx hb dX4_beatsAll_14 rfl (lv_at hl 0 rfl) ?_
      refine va_calli (va_runS (As := [.int (iI (g 0 0 13)), .int (iI ((n : Nat) : Int))]) (rest := []) ⟨hx, hb, hml, hown, hw⟩ (c_has l D a cH cB cJ cI ha g vt H.size (g 0 0 13) ((n : Nat) : Int) (by omega) (by omega)) (va_cwS 2 hw (gA_S kw_229 kw_223 kw_2 kw_224) rfl rfl rfl (by decide +kernel) ⟨Nat.le_of_ble_eq_true rfl, Nat.le_of_ble_eq_true rfl⟩) (pS_s hP hK hE) rfl rfl hl.1 rfl (lv_room (Nat.le_of_ble_eq_true rfl)) dX4_beatsAll_15 ⟨Nat.le_of_ble_eq_true rfl, Nat.le_of_ble_eq_true rfl⟩) hS (fun q h1 h2 => ro_A h1 h2) (fun q h => ro_F hS hA q h) (fun r u t H1 locs ht hvm hw9 hB9 hz1 hk1 hS => ?_)
      have hw9 : r = (bi (m_has (g 0 0 13) ((n : Nat) : Int))) := hw9
      subst hw9
      have hP := ro_P hP hk1
      generalize H1 = H at hP hS ⊢
      refine n_b_eq hx hb (tgt := 31) dX4_beatsAll_18 (by decide) (fun h6 => ?_) (fun h6 => ?_)
      · skip
        refine n_inc (lv' := [(1, .int (iI (((n : Nat) : Int) + 1))), (0, .ref (a 0))]) hx hb dX4_beatsAll_31 hl (k := 0) rfl (by decide) rfl (fun ls hl => ?_)
        refine lv_goto (tgt := 2) hx hb dX4_beatsAll_34 (by decide) ?_
        have hl : lv_has ls 2 [(1, .int (iI (((n : Nat) : Int) + 1))), (0, .ref (a 0))] := lv_sub hl [0, 1] rfl
        have e7 : (((n : Nat) : Int) + 1) = (((n + 1) : Nat) : Int) := by rfl
        have hl : lv_has ls 2 [(1, .int (iI (((n + 1) : Nat) : Int))), (0, .ref (a 0))] := lv_cast hl (by rw [e7])
        exact ih2 (n + 1) H locs ls (by omega) (by rw [hq]; simp [m_fs, h4, Int.not_le.mpr h4, h6]) hP hS hl
      · skip
        refine lv_aload_n hx hb dX4_beatsAll_21 rfl (lv_at hl 1 rfl) ?_
        refine lv_iload_n hx hb dX4_beatsAll_22 rfl (lv_at hl 0 rfl) ?_
        refine va_calli (va_runV (As := [.int (iI ((n : Nat) : Int))]) (rest := []) ⟨hx, hb, hml, hown, hw⟩ (c_isAheadOfRest l D a cH cB cJ cI ha g vt H.size ((n : Nat) : Int) hWf (by omega)) (cwV 1 hw (gA_V kw_530 kw_531 kw_532 kw_2 kw_533) rfl rfl rfl (by decide +kernel) ⟨Nat.le_of_ble_eq_true rfl, Nat.le_of_ble_eq_true rfl⟩) (pS_v (ci := 4) (q0 := 0) rfl pw_0 hP hK hE) rfl rfl hl.1 rfl (lv_room (Nat.le_of_ble_eq_true rfl)) dX4_beatsAll_23 ⟨Nat.le_of_ble_eq_true rfl, Nat.le_of_ble_eq_true rfl⟩) hS (fun q h1 h2 => ro_A h1 h2) (fun q h => ro_F hS hA q h) (fun r u t H1 locs ht hvm hw9 hB9 hz1 hk1 hS => ?_)
        have hw9 : r = (bi (m_ahead g ((n : Nat) : Int))) := hw9
        subst hw9
        have hP := ro_P hP hk1
        generalize H1 = H at hP hS ⊢
        refine n_b_eq hx hb (tgt := 31) dX4_beatsAll_26 (by decide) (fun h8 => ?_) (fun h8 => ?_)
        · skip
          refine n_inc (lv' := [(1, .int (iI (((n : Nat) : Int) + 1))), (0, .ref (a 0))]) hx hb dX4_beatsAll_31 hl (k := 0) rfl (by decide) rfl (fun ls hl => ?_)
          refine lv_goto (tgt := 2) hx hb dX4_beatsAll_34 (by decide) ?_
          have hl : lv_has ls 2 [(1, .int (iI (((n : Nat) : Int) + 1))), (0, .ref (a 0))] := lv_sub hl [0, 1] rfl
          have e9 : (((n : Nat) : Int) + 1) = (((n + 1) : Nat) : Int) := by rfl
          have hl : lv_has ls 2 [(1, .int (iI (((n + 1) : Nat) : Int))), (0, .ref (a 0))] := lv_cast hl (by rw [e9])
          exact ih2 (n + 1) H locs ls (by omega) (by rw [hq]; simp [m_fs, h4, Int.not_le.mpr h4, h6, h8]) hP hS hl
        · skip
          refine lv_iload_n hx hb dX4_beatsAll_29 rfl (lv_at hl 0 rfl) ?_
          exact W.iret (v := (iI ((n : Nat) : Int))) hx hb hr (fun t ht hW9 => ⟨⟨(iI ((n : Nat) : Int)), (), rfl, (congrArg iI (by rw [hq]; first | rfl | simp [m_fs, h4, Int.not_le.mpr h4, h6, h8])), trivial⟩, hS.F ht⟩) hS.2.2 dX4_beatsAll_30
  have hl : lv_has ls 2 [(1, .int (iI 0)), (0, .ref (a 0))] := lv_sub hl [0, 1] rfl
  have hl : lv_has ls 2 [(1, .int (iI ((0 : Nat) : Int))), (0, .ref (a 0))] := hl
  exact loop2 ((g 0 0 4).toNat) 0 H locs ls (by omega) rfl hP hS hl

set_option maxHeartbeats 4000000 in
set_option maxRecDepth 100000 in
theorem law_points {p : Program} {l : Launch} {e : Env} {s : State} {m : MethodId} {args : Array Value} {below : List Frame} {meth : Method} {c : Code} {Q : State → Prop} {b : Nat} {D : va_G} {a : Nat → Nat} {cH cB cJ cI : ClassId} (hx : p.tables.exec = Jvm.exec) (hb : c.code = cL_law) (hml : c.maxLocals = 23) (hown : s.vm.findClass RL = some m.cls) (hw : ∀ w ∈ wsL_law0, w.before args s = true) (ha : pj a) (hB : ∀ k, k < 58 → s.heap.size ≤ a k) (hK : va_K D vwCl (pT cH cB cJ cI) s) (hE : ew s) {g : m_St} {vt : Nat → Int32} {hh jj paid printed called : Int} {tn cells slots : Nat} (ht9 : tn < 90) (hcc : cells + 2 ≤ 600074) (hss : slots + 10 ≤ 7301550) (hhh : 2 ≤ hh ∧ hh ≤ 5) (hjj : 3 ≤ jj ∧ jj ≤ 5) (hIv : Iv hh jj ((tn : Nat) : Int) paid printed called g) {x8 : Int32} {bk jd : Int} (hbk : -1 ≤ bk ∧ bk < g 0 0 4) (hjd : 0 ≤ jd ∧ jd < g 0 0 5) {H : Heap} {locs : List Loc} {ls : Array Slot} (hP : va_P D vwCl (pw a cH cB cJ cI g vt) H) (hS : va_S (fun q => s.heap.size ≤ q) s.heap H locs) (hl : lv_has ls 23 [(0, .ref b), (1, .ref (a 0)), (2, .int (iI hh)), (3, .int (iI jj)), (4, .int (iI paid)), (5, .int (iI printed)), (6, .int (iI called)), (7, .int (iI ((tn : Nat) : Int))), (8, .int x8), (9, .int (iI (g 0 0 4))), (10, .int (iI bk)), (11, .int (iI jd)), (12, .int (iI (g 0 0 9))), (13, .int (iI (g 0 0 8))), (14, .int (iI (m_entCount g))), (15, .int (iI (g 9 0 3)))]) (kx : ∀ (g1 : m_St) (v1 : Nat → Int32) (p1 p2 p3 : Int) (H : Heap) (locs : List Loc) (ls : Array Slot), Iv hh jj ((tn : Int) + 1) p1 p2 p3 g1 → va_P D vwCl (pw a cH cB cJ cI g1 v1) H → va_S (fun q => s.heap.size ≤ q) s.heap H locs → lv_has ls 23 [(0, .ref b), (1, .ref (a 0)), (2, .int (iI hh)), (3, .int (iI jj)), (4, .int (iI p1)), (5, .int (iI p2)), (6, .int (iI p3)), (7, .int (iI ((tn : Nat) : Int)))] → W p l e room_1 s m args below meth c H locs (cells + 1) (slots + 5) Q (F0 m 1603 ls [])) : W p l e room_1 s m args below meth c H locs cells slots Q (F0 m 1147 ls []) := by
  have hWf : Wf g := hIv.1
  have m3 := Wf.m3 hWf
  have m4 := Wf.m4 hWf
  have m5 := Wf.m5 hWf
  have m8 := Wf.m8 hWf
  have m9 := Wf.m9 hWf
  have m10 := Wf.m10 hWf
  have m11 := Wf.m11 hWf
  have m13 := Wf.m13 hWf
  have m14 := Wf.m14 hWf
  have hS5 := hIv.2.2.2.2.1
  have hsb : ∀ b, m_has (g 0 0 13) b = true → b < g 0 0 4 := fun b hb => (hS5.1 b (hS5.2.1 b hb)).1
  have hN3 : g 0 0 3 = hh := hIv.2.2.2.1.1
  have hN5 : g 0 0 5 = jj := hIv.2.2.2.1.2.1
  have hN8 : 5 * g 0 0 8 + g 0 0 9 ≤ tn := hIv.2.2.2.1.2.2.1
  have hN10 : g 0 0 10 ≤ 6 * tn := hIv.2.2.2.1.2.2.2
  have hA : ∀ q : Nat, s.heap.size ≤ q → (fun q : Nat => s.heap.size ≤ q) q := fun _ h => h
  refine lv_iload hx hb dL_law_1147 (lv_at hl 10 rfl) ?_
  refine n_if_lt hx hb (by unfold RI; omega) (tgt := 1603) dL_law_1149 (by decide) (fun h1 => ?_) (fun h1 => ?_)
  · skip
    refine W.widen (k := cells + 1) (n := slots + 5) (by omega) (by omega) ?_
    exact kx g vt paid printed called H locs ls (inv_later hIv) hP hS (lv_sub hl [0, 1, 2, 3, 4, 5, 6, 7] rfl)
  · skip
    refine lv_iload hx hb dL_law_1152 (lv_at hl 12 rfl) ?_
    refine lv_iconst (v := iI 2) hx hb dL_law_1154 (by decide) ?_
    refine n_icmp_ne hx hb (by unfold RI; omega) (by unfold RI; omega) (tgt := 1603) dL_law_1155 (by decide) (fun h2 => ?_) (fun h2 => ?_)
    · skip
      refine W.widen (k := cells + 1) (n := slots + 5) (by omega) (by omega) ?_
      exact kx g vt paid printed called H locs ls (inv_later hIv) hP hS (lv_sub hl [0, 1, 2, 3, 4, 5, 6, 7] rfl)
    · skip
      refine lv_aload_n hx hb dL_law_1158 rfl (lv_at hl 1 rfl) ?_
      refine lv_iload hx hb dL_law_1159 (lv_at hl 10 rfl) ?_
      refine lv_bipush (v := iI 7) hx hb dL_law_1161 (by decide) ?_
      refine va_calli (va_runV (As := [.int (iI bk), .int (iI 7)]) (rest := []) ⟨hx, hb, hml, hown, hw⟩ (c_ofBook l D a cH cB cJ cI ha g vt H.size bk 7 hWf (by omega) (by omega)) (cwV 2 hw (gA_V kw_206 kw_207 kw_208 kw_2 kw_209) rfl rfl rfl (by decide +kernel) ⟨Nat.le_of_ble_eq_true rfl, Nat.le_of_ble_eq_true rfl⟩) (pS_v (ci := 4) (q0 := 0) rfl pw_0 hP hK hE) rfl rfl hl.1 rfl (lv_room (Nat.le_of_ble_eq_true rfl)) dL_law_1163 ⟨rm_c (by omega), rm_s (by omega)⟩) hS (fun q h1 h2 => ro_A h1 h2) (fun q h => ro_F hS hA q h) (fun r u t H1 locs ht hvm hw9 hB9 hz1 hk1 hS => ?_)
      have hw9 : r = (iI (m_ofBook g bk 7)) := hw9
      subst hw9
      have hP := ro_P hP hk1
      generalize H1 = H at hP hS ⊢
      rw [show (m_ofBook g bk 7) = (m_standing g bk) from rfl]
      have f3 := stand_b g bk
      refine lv_iconst (v := iI 1) hx hb dL_law_1166 (by decide) ?_
      refine n_icmp_ne hx hb (by unfold RI; omega) (by unfold RI; omega) (tgt := 1603) dL_law_1167 (by decide) (fun h4 => ?_) (fun h4 => ?_)
      · skip
        refine W.widen (k := cells + 1) (n := slots + 5) (by omega) (by omega) ?_
        exact kx g vt paid printed called H locs ls (inv_later hIv) hP hS (lv_sub hl [0, 1, 2, 3, 4, 5, 6, 7] rfl)
      · skip
        refine lv_aload_n hx hb dL_law_1170 rfl (lv_at hl 1 rfl) ?_
        refine lv_iload hx hb dL_law_1171 (lv_at hl 11 rfl) ?_
        refine lv_iconst (v := iI 1) hx hb dL_law_1173 (by decide) ?_
        refine va_calli (va_runV (As := [.int (iI jd), .int (iI 1)]) (rest := []) ⟨hx, hb, hml, hown, hw⟩ (c_ofJudge l D a cH cB cJ cI ha g vt H.size jd 1 hWf (by omega) (by omega)) (cwV 2 hw (gA_V kw_174 kw_175 kw_176 kw_2 kw_177) rfl rfl rfl (by decide +kernel) ⟨Nat.le_of_ble_eq_true rfl, Nat.le_of_ble_eq_true rfl⟩) (pS_v (ci := 4) (q0 := 0) rfl pw_0 hP hK hE) rfl rfl hl.1 rfl (lv_room (Nat.le_of_ble_eq_true rfl)) dL_law_1174 ⟨rm_c (by omega), rm_s (by omega)⟩) hS (fun q h1 h2 => ro_A h1 h2) (fun q h => ro_F hS hA q h) (fun r u t H1 locs ht hvm hw9 hB9 hz1 hk1 hS => ?_)
        have hw9 : r = (iI (m_ofJudge g jd 1)) := hw9
        subst hw9
        have hP := ro_P hP hk1
        generalize H1 = H at hP hS ⊢
        rw [show (m_ofJudge g jd 1) = (g 3 jd 3) from rfl]
        have s5 := Wf.j3 hWf (k := jd) (by omega) (by omega)
        refine lv_aload_n hx hb dL_law_1177 rfl (lv_at hl 1 rfl) ?_
        refine lv_iload hx hb dL_law_1178 (lv_at hl 10 rfl) ?_
        refine lv_iconst (v := iI 1) hx hb dL_law_1180 (by decide) ?_
        refine va_calli (va_runV (As := [.int (iI bk), .int (iI 1)]) (rest := [.int (iI (g 3 jd 3))]) ⟨hx, hb, hml, hown, hw⟩ (c_ofBook l D a cH cB cJ cI ha g vt H.size bk 1 hWf (by omega) (by omega)) (cwV 2 hw (gA_V kw_206 kw_207 kw_208 kw_2 kw_209) rfl rfl rfl (by decide +kernel) ⟨Nat.le_of_ble_eq_true rfl, Nat.le_of_ble_eq_true rfl⟩) (pS_v (ci := 4) (q0 := 0) rfl pw_0 hP hK hE) rfl rfl hl.1 rfl (lv_room (Nat.le_of_ble_eq_true rfl)) dL_law_1181 ⟨rm_c (by omega), rm_s (by omega)⟩) hS (fun q h1 h2 => ro_A h1 h2) (fun q h => ro_F hS hA q h) (fun r u t H1 locs ht hvm hw9 hB9 hz1 hk1 hS => ?_)
        have hw9 : r = (iI (m_ofBook g bk 1)) := hw9
        subst hw9
        have hP := ro_P hP hk1
        generalize H1 = H at hP hS ⊢
        rw [show (m_ofBook g bk 1) = (g 2 bk 1) from rfl]
        have s6 := Wf.b1 hWf (k := bk) (by omega) (by omega)
        refine lv_ishr hx hb dL_law_1184 ?_
        refine lv_iconst (v := iI 1) hx hb dL_law_1185 (by decide) ?_
        refine lv_iand hx hb dL_law_1186 ?_
        rw [shr_has (S := (g 3 jd 3)) (n := (g 2 bk 1)) (by omega) (by omega) (by omega)]
        rw [bi_i]
        have hib9 := m_ib_b (m_has (g 3 jd 3) (g 2 bk 1))
        refine lv_iconst (v := iI 1) hx hb dL_law_1187 (by decide) ?_
        refine n_icmp_ne hx hb (by unfold RI; omega) (by unfold RI; omega) (tgt := 1194) dL_law_1188 (by decide) (fun h7 => ?_) (fun h7 => ?_)
        · skip
          have hag : m_agn g jd (g 2 bk 1) = false := by
            unfold m_agn
            cases e9 : m_has (g 3 jd 3) (g 2 bk 1)
            · rfl
            · rw [e9] at h7; exact absurd rfl h7
          have hjd := so_judge hIv (j := jd) (by omega)
          have hg7 := Wf.r7 hWf (j := jd) (k := bk) (by omega) (by omega) (by omega) (by omega)
          have hlg := ((so_stand hIv (b := bk) (by omega)).2.1 (by omega)).1
          refine lv_iload hx hb dL_law_1194 (lv_at hl 8 rfl) ?_
          refine lv_iconst (v := iI 3) hx hb dL_law_1196 (by decide) ?_
          refine lv_ishr hx hb dL_law_1197 ?_
          refine lv_iconst (v := iI 1) hx hb dL_law_1198 (by decide) ?_
          refine lv_aload_n hx hb dL_law_1199 rfl (lv_at hl 1 rfl) ?_
          refine lv_iload hx hb dL_law_1200 (lv_at hl 11 rfl) ?_
          refine lv_bipush (v := iI 7) hx hb dL_law_1202 (by decide) ?_
          refine va_calli (va_runV (As := [.int (iI jd), .int (iI 7)]) (rest := [.int (iI 1), .int (x8 >>> (iI 3 &&& 31))]) ⟨hx, hb, hml, hown, hw⟩ (c_ofJudge l D a cH cB cJ cI ha g vt H.size jd 7 hWf (by omega) (by omega)) (cwV 2 hw (gA_V kw_174 kw_175 kw_176 kw_2 kw_177) rfl rfl rfl (by decide +kernel) ⟨Nat.le_of_ble_eq_true rfl, Nat.le_of_ble_eq_true rfl⟩) (pS_v (ci := 4) (q0 := 0) rfl pw_0 hP hK hE) rfl rfl hl.1 rfl (lv_room (Nat.le_of_ble_eq_true rfl)) dL_law_1204 ⟨rm_c (by omega), rm_s (by omega)⟩) hS (fun q h1 h2 => ro_A h1 h2) (fun q h => ro_F hS hA q h) (fun r u t H1 locs ht hvm hw9 hB9 hz1 hk1 hS => ?_)
          have hw9 : r = (iI (m_ofJudge g jd 7)) := hw9
          subst hw9
          have hP := ro_P hP hk1
          generalize H1 = H at hP hS ⊢
          rw [show (m_ofJudge g jd 7) = (m_ptsLeft g jd) from rfl]
          refine n_add hx hb dL_law_1207 ?_
          refine va_calli (va_runS (As := [.int (x8 >>> (iI 3 &&& 31)), .int (iI (1 + (m_ptsLeft g jd)))]) (rest := []) ⟨hx, hb, hml, hown, hw⟩ (c_below l D a cH cB cJ cI ha g vt H.size (x8 >>> (iI 3 &&& 31)) (1 + (m_ptsLeft g jd)) (by omega)) (va_cwS 2 hw (gA_S kw_64 kw_65 kw_61 kw_66) rfl rfl rfl (by decide +kernel) ⟨Nat.le_of_ble_eq_true rfl, Nat.le_of_ble_eq_true rfl⟩) (pS_s hP hK hE) rfl rfl hl.1 rfl (lv_room (Nat.le_of_ble_eq_true rfl)) dL_law_1208 ⟨rm_c (by omega), rm_s (by omega)⟩) hS (fun q h1 h2 => ro_A h1 h2) (fun q h => ro_F hS hA q h) (fun r u t H1 locs ht hvm hw9 hB9 hz1 hk1 hS => ?_)
          have hw9 : r = (iI (m_bel (x8 >>> (iI 3 &&& 31)) (1 + (m_ptsLeft g jd)))) := hw9
          subst hw9
          have hP := ro_P hP hk1
          generalize H1 = H at hP hS ⊢
          have s9 := bel_b (x8 >>> (iI 3 &&& 31)) (n := (1 + (m_ptsLeft g jd))) (by omega)
          obtain ⟨u8, hu8⟩ : ∃ z, z = (m_bel (x8 >>> (iI 3 &&& 31)) (1 + (m_ptsLeft g jd))) := ⟨_, rfl⟩
          have hbu8 : 0 ≤ u8 ∧ u8 < (1 + (m_ptsLeft g jd)) := by rw [hu8]; exact bel_b _ (by omega)
          rw [show (m_bel (x8 >>> (iI 3 &&& 31)) (1 + (m_ptsLeft g jd))) = u8 from hu8.symm]
          refine lv_istore (lv' := [(16, .int (iI u8)), (0, .ref b), (1, .ref (a 0)), (2, .int (iI hh)), (3, .int (iI jj)), (4, .int (iI paid)), (5, .int (iI printed)), (6, .int (iI called)), (7, .int (iI ((tn : Nat) : Int))), (8, .int x8), (9, .int (iI (g 0 0 4))), (10, .int (iI bk)), (11, .int (iI jd)), (12, .int (iI (g 0 0 9))), (13, .int (iI (g 0 0 8))), (14, .int (iI (m_entCount g))), (15, .int (iI (g 9 0 3)))]) hx hb dL_law_1211 hl (by decide) rfl (fun ls hl => ?_)
          refine lv_aload_n hx hb dL_law_1213 rfl (lv_at hl 2 rfl) ?_
          refine lv_iload hx hb dL_law_1214 (lv_at hl 12 rfl) ?_
          refine lv_iload hx hb dL_law_1216 (lv_at hl 11 rfl) ?_
          refine lv_iload hx hb dL_law_1218 (lv_at hl 0 rfl) ?_
          refine va_calli (va_runV (As := [.int (iI jd), .int (iI bk), .int (iI u8)]) (rest := []) ⟨hx, hb, hml, hown, hw⟩ (c_points l D a cH cB cJ cI ha g vt H.size jd bk u8 hWf (by omega) (by omega) (by omega) (hlg) (by omega) (hag) (by omega)) (cwV 3 hw (gA_V kw_429 kw_430 kw_431 kw_2 kw_432) rfl rfl rfl (by decide +kernel) ⟨Nat.le_of_ble_eq_true rfl, Nat.le_of_ble_eq_true rfl⟩) (pS_v (ci := 4) (q0 := 0) rfl pw_0 hP hK hE) rfl rfl hl.1 rfl (lv_room (Nat.le_of_ble_eq_true rfl)) dL_law_1220 ⟨rm_c (by omega), rm_s (by omega)⟩) hS (fun q _ h => rw_A hS hA hB q h) (fun q h => rw_A hS hA hB q h) (fun r u t H1 locs ht hvm hw9 hB9 hz1 hk1 hS => ?_)
          have hw9 : r = (iI (m_ptsLeft g jd + g 7 jd bk - u8)) := hw9
          subst hw9
          obtain ⟨v10, hP1⟩ := hB9
          rw [ht] at hP1
          obtain ⟨g11, hg11⟩ : ∃ z, z = (m_points g jd bk u8) := ⟨_, rfl⟩
          rw [← hg11] at hP1
          have hP : va_P D vwCl (pw a cH cB cJ cI g11 v10) H1 := hP1
          generalize H1 = H at hP hS ⊢
          have hivg11 : Iv hh jj ((tn : Nat) : Int) paid printed called g11 := by rw [hg11]; exact (inv_points hIv (j := jd) (b := bk) (n := u8) (by omega) (by omega) (by omega)).1
          have hn5g11 : g11 0 0 5 = jj := hivg11.2.2.2.1.2.1
          have hn4g11 : g11 0 0 4 = g 0 0 4 := by rw [hg11]; rfl
          have hptg11 : m_ptsLeft g11 jd = m_ptsLeft g jd + g 7 jd bk - u8 := by rw [hg11]; exact (inv_points hIv (j := jd) (b := bk) (n := u8) (by omega) (by omega) (by omega)).2.1
          have hpng11 : u8 ≤ m_pts g11 bk := by rw [hg11]; exact pts_new hWf (by omega) (by omega) (by omega) hag
          have hpbg11 := pts_b hivg11.1 (bb := bk) (by omega)
          have hWg11 : Wf g11 := hivg11.1
          refine lv_aload_n hx hb dL_law_1223 rfl (lv_at hl 2 rfl) ?_
          refine lv_iload hx hb dL_law_1224 (lv_at hl 12 rfl) ?_
          refine lv_bipush (v := iI 7) hx hb dL_law_1226 (by decide) ?_
          refine va_calli (va_runV (As := [.int (iI jd), .int (iI 7)]) (rest := [.int (iI (m_ptsLeft g jd + g 7 jd bk - u8))]) ⟨hx, hb, hml, hown, hw⟩ (c_ofJudge l D a cH cB cJ cI ha g11 v10 H.size jd 7 hWg11 (by omega) (by omega)) (cwV 2 hw (gA_V kw_174 kw_175 kw_176 kw_2 kw_177) rfl rfl rfl (by decide +kernel) ⟨Nat.le_of_ble_eq_true rfl, Nat.le_of_ble_eq_true rfl⟩) (pS_v (ci := 4) (q0 := 0) rfl pw_0 hP hK hE) rfl rfl hl.1 rfl (lv_room (Nat.le_of_ble_eq_true rfl)) dL_law_1228 ⟨rm_c (by omega), rm_s (by omega)⟩) hS (fun q h1 h2 => ro_A h1 h2) (fun q h => ro_F hS hA q h) (fun r u t H1 locs ht hvm hw9 hB9 hz1 hk1 hS => ?_)
          have hw9 : r = (iI (m_ofJudge g11 jd 7)) := hw9
          subst hw9
          have hP := ro_P hP hk1
          generalize H1 = H at hP hS ⊢
          rw [show (m_ofJudge g11 jd 7) = (m_ptsLeft g jd + g 7 jd bk - u8) from hptg11]
          refine n_icmp_ne hx hb (by unfold RI; omega) (by unfold RI; omega) (tgt := 1247) dL_law_1231 (by decide) (fun h12 => absurd h12 (by intro h12; exact h12 rfl)) (fun h12 => ?_)
          refine lv_aload_n hx hb dL_law_1234 rfl (lv_at hl 2 rfl) ?_
          refine lv_iload hx hb dL_law_1235 (lv_at hl 11 rfl) ?_
          refine lv_bipush (v := iI 10) hx hb dL_law_1237 (by decide) ?_
          refine va_calli (va_runV (As := [.int (iI bk), .int (iI 10)]) (rest := []) ⟨hx, hb, hml, hown, hw⟩ (c_ofBook l D a cH cB cJ cI ha g11 v10 H.size bk 10 hWg11 (by omega) (by omega)) (cwV 2 hw (gA_V kw_206 kw_207 kw_208 kw_2 kw_209) rfl rfl rfl (by decide +kernel) ⟨Nat.le_of_ble_eq_true rfl, Nat.le_of_ble_eq_true rfl⟩) (pS_v (ci := 4) (q0 := 0) rfl pw_0 hP hK hE) rfl rfl hl.1 rfl (lv_room (Nat.le_of_ble_eq_true rfl)) dL_law_1239 ⟨rm_c (by omega), rm_s (by omega)⟩) hS (fun q h1 h2 => ro_A h1 h2) (fun q h => ro_F hS hA q h) (fun r u t H1 locs ht hvm hw9 hB9 hz1 hk1 hS => ?_)
          have hw9 : r = (iI (m_ofBook g11 bk 10)) := hw9
          subst hw9
          have hP := ro_P hP hk1
          generalize H1 = H at hP hS ⊢
          rw [show (m_ofBook g11 bk 10) = (m_pts g11 bk) from rfl]
          refine lv_iload hx hb dL_law_1242 (lv_at hl 0 rfl) ?_
          refine n_icmp_ge hx hb (by unfold RI; omega) (by unfold RI; omega) (tgt := 1603) dL_law_1244 (by decide) (fun h13 => ?_) (fun h13 => absurd h13 (by intro h13; omega))
          refine W.widen (k := cells + 1) (n := slots + 5) (by omega) (by omega) ?_
          exact kx g11 v10 paid printed called H locs ls (inv_later hivg11) hP hS (lv_sub hl [1, 2, 3, 4, 5, 6, 7, 8] rfl)
        · skip
          refine lv_goto (tgt := 1603) hx hb dL_law_1191 (by decide) ?_
          refine W.widen (k := cells + 1) (n := slots + 5) (by omega) (by omega) ?_
          exact kx g vt paid printed called H locs ls (inv_later hIv) hP hS (lv_sub hl [0, 1, 2, 3, 4, 5, 6, 7] rfl)

set_option maxHeartbeats 4000000 in
set_option maxRecDepth 100000 in
theorem law_vote {p : Program} {l : Launch} {e : Env} {s : State} {m : MethodId} {args : Array Value} {below : List Frame} {meth : Method} {c : Code} {Q : State → Prop} {b : Nat} {D : va_G} {a : Nat → Nat} {cH cB cJ cI : ClassId} (hx : p.tables.exec = Jvm.exec) (hb : c.code = cL_law) (hml : c.maxLocals = 23) (hown : s.vm.findClass RL = some m.cls) (hw : ∀ w ∈ wsL_law0, w.before args s = true) (ha : pj a) (hB : ∀ k, k < 58 → s.heap.size ≤ a k) (hK : va_K D vwCl (pT cH cB cJ cI) s) (hE : ew s) {g : m_St} {vt : Nat → Int32} {hh jj paid printed called : Int} {tn cells slots : Nat} (ht9 : tn < 90) (hcc : cells + 2 ≤ 600074) (hss : slots + 10 ≤ 7301550) (hhh : 2 ≤ hh ∧ hh ≤ 5) (hjj : 3 ≤ jj ∧ jj ≤ 5) (hIv : Iv hh jj ((tn : Nat) : Int) paid printed called g) {x8 : Int32} {bk jd : Int} (hbk : -1 ≤ bk ∧ bk < g 0 0 4) (hjd : 0 ≤ jd ∧ jd < g 0 0 5) {H : Heap} {locs : List Loc} {ls : Array Slot} (hP : va_P D vwCl (pw a cH cB cJ cI g vt) H) (hS : va_S (fun q => s.heap.size ≤ q) s.heap H locs) (hl : lv_has ls 23 [(0, .ref b), (1, .ref (a 0)), (2, .int (iI hh)), (3, .int (iI jj)), (4, .int (iI paid)), (5, .int (iI printed)), (6, .int (iI called)), (7, .int (iI ((tn : Nat) : Int))), (8, .int x8), (9, .int (iI (g 0 0 4))), (10, .int (iI bk)), (11, .int (iI jd)), (12, .int (iI (g 0 0 9))), (13, .int (iI (g 0 0 8))), (14, .int (iI (m_entCount g))), (15, .int (iI (g 9 0 3)))]) (kx : ∀ (g1 : m_St) (v1 : Nat → Int32) (p1 p2 p3 : Int) (H : Heap) (locs : List Loc) (ls : Array Slot), Iv hh jj ((tn : Int) + 1) p1 p2 p3 g1 → va_P D vwCl (pw a cH cB cJ cI g1 v1) H → va_S (fun q => s.heap.size ≤ q) s.heap H locs → lv_has ls 23 [(0, .ref b), (1, .ref (a 0)), (2, .int (iI hh)), (3, .int (iI jj)), (4, .int (iI p1)), (5, .int (iI p2)), (6, .int (iI p3)), (7, .int (iI ((tn : Nat) : Int)))] → W p l e room_1 s m args below meth c H locs (cells + 1) (slots + 5) Q (F0 m 1603 ls [])) : W p l e room_1 s m args below meth c H locs cells slots Q (F0 m 1249 ls []) := by
  have hWf : Wf g := hIv.1
  have m3 := Wf.m3 hWf
  have m4 := Wf.m4 hWf
  have m5 := Wf.m5 hWf
  have m8 := Wf.m8 hWf
  have m9 := Wf.m9 hWf
  have m10 := Wf.m10 hWf
  have m11 := Wf.m11 hWf
  have m13 := Wf.m13 hWf
  have m14 := Wf.m14 hWf
  have hS5 := hIv.2.2.2.2.1
  have hsb : ∀ b, m_has (g 0 0 13) b = true → b < g 0 0 4 := fun b hb => (hS5.1 b (hS5.2.1 b hb)).1
  have hN3 : g 0 0 3 = hh := hIv.2.2.2.1.1
  have hN5 : g 0 0 5 = jj := hIv.2.2.2.1.2.1
  have hN8 : 5 * g 0 0 8 + g 0 0 9 ≤ tn := hIv.2.2.2.1.2.2.1
  have hN10 : g 0 0 10 ≤ 6 * tn := hIv.2.2.2.1.2.2.2
  have hA : ∀ q : Nat, s.heap.size ≤ q → (fun q : Nat => s.heap.size ≤ q) q := fun _ h => h
  have hpc5 : m_pcn (g 0 0 13) ≤ 5 := hS5.2.2.2.2.2.2.1
  have hpc0 := pcn_b (g 0 0 13)
  refine lv_aload_n hx hb dL_law_1249 rfl (lv_at hl 1 rfl) ?_
  refine lv_bipush (v := iI 8) hx hb dL_law_1250 (by decide) ?_
  refine va_calli (va_runV (As := [.int (iI 8)]) (rest := []) ⟨hx, hb, hml, hown, hw⟩ (c_many l D a cH cB cJ cI ha g vt H.size 8 hWf (by omega)) (cwV 1 hw (gA_V kw_92 kw_93 kw_94 kw_2 kw_95) rfl rfl rfl (by decide +kernel) ⟨Nat.le_of_ble_eq_true rfl, Nat.le_of_ble_eq_true rfl⟩) (pS_v (ci := 4) (q0 := 0) rfl pw_0 hP hK hE) rfl rfl hl.1 rfl (lv_room (Nat.le_of_ble_eq_true rfl)) dL_law_1252 ⟨rm_c (by omega), rm_s (by omega)⟩) hS (fun q h1 h2 => ro_A h1 h2) (fun q h => ro_F hS hA q h) (fun r u t H1 locs ht hvm hw9 hB9 hz1 hk1 hS => ?_)
  have hw9 : r = (iI (m_many g 8)) := hw9
  subst hw9
  have hP := ro_P hP hk1
  generalize H1 = H at hP hS ⊢
  rw [show (m_many g 8) = (g 0 0 13) from rfl]
  have s1 := Wf.m13 hWf
  refine va_calli (va_runS (As := [.int (iI (g 0 0 13))]) (rest := []) ⟨hx, hb, hml, hown, hw⟩ (c_bitCount l D a cH cB cJ cI ha g vt H.size (g 0 0 13) (by omega)) (va_cwS 1 hw (gA_S kw_197 kw_113 kw_114 kw_115) rfl rfl rfl (by decide +kernel) ⟨Nat.le_of_ble_eq_true rfl, Nat.le_of_ble_eq_true rfl⟩) (pS_s hP hK hE) rfl rfl hl.1 rfl (lv_room (Nat.le_of_ble_eq_true rfl)) dL_law_1255 ⟨rm_c (by omega), rm_s (by omega)⟩) hS (fun q h1 h2 => ro_A h1 h2) (fun q h => ro_F hS hA q h) (fun r u t H1 locs ht hvm hw9 hB9 hz1 hk1 hS => ?_)
  have hw9 : r = (iI (m_pcn (g 0 0 13))) := hw9
  subst hw9
  have hP := ro_P hP hk1
  generalize H1 = H at hP hS ⊢
  have s2 := pcn_b (g 0 0 13)
  refine lv_istore (lv' := [(16, .int (iI (m_pcn (g 0 0 13)))), (0, .ref b), (1, .ref (a 0)), (2, .int (iI hh)), (3, .int (iI jj)), (4, .int (iI paid)), (5, .int (iI printed)), (6, .int (iI called)), (7, .int (iI ((tn : Nat) : Int))), (8, .int x8), (9, .int (iI (g 0 0 4))), (10, .int (iI bk)), (11, .int (iI jd)), (12, .int (iI (g 0 0 9))), (13, .int (iI (g 0 0 8))), (14, .int (iI (m_entCount g))), (15, .int (iI (g 9 0 3)))]) hx hb dL_law_1258 hl (by decide) rfl (fun ls hl => ?_)
  refine lv_iload hx hb dL_law_1260 (lv_at hl 13 rfl) ?_
  refine lv_iconst (v := iI 3) hx hb dL_law_1262 (by decide) ?_
  refine n_icmp_ne hx hb (by unfold RI; omega) (by unfold RI; omega) (tgt := 1603) dL_law_1263 (by decide) (fun h3 => ?_) (fun h3 => ?_)
  · skip
    refine W.widen (k := cells + 1) (n := slots + 5) (by omega) (by omega) ?_
    exact kx g vt paid printed called H locs ls (inv_later hIv) hP hS (lv_sub hl [1, 2, 3, 4, 5, 6, 7, 8] rfl)
  · skip
    refine lv_iload hx hb dL_law_1266 (lv_at hl 0 rfl) ?_
    refine n_if_ne hx hb (by unfold RI; omega) (tgt := 1274) dL_law_1268 (by decide) (fun h4 => ?_) (fun h4 => ?_)
    · skip
      refine lv_iconst (v := iI 0) hx hb dL_law_1274 (by decide) ?_
      refine lv_istore (lv' := [(17, .int (iI 0)), (16, .int (iI (m_pcn (g 0 0 13)))), (0, .ref b), (1, .ref (a 0)), (2, .int (iI hh)), (3, .int (iI jj)), (4, .int (iI paid)), (5, .int (iI printed)), (6, .int (iI called)), (7, .int (iI ((tn : Nat) : Int))), (8, .int x8), (9, .int (iI (g 0 0 4))), (10, .int (iI bk)), (11, .int (iI jd)), (12, .int (iI (g 0 0 9))), (13, .int (iI (g 0 0 8))), (14, .int (iI (m_entCount g))), (15, .int (iI (g 9 0 3)))]) hx hb dL_law_1275 hl (by decide) rfl (fun ls hl => ?_)
      refine lv_iload hx hb dL_law_1277 (lv_at hl 10 rfl) ?_
      refine lv_iconst (v := iI 3) hx hb dL_law_1279 (by decide) ?_
      refine lv_ishr hx hb dL_law_1280 ?_
      refine lv_iload hx hb dL_law_1281 (lv_at hl 1 rfl) ?_
      refine va_calli (va_runS (As := [.int (x8 >>> (iI 3 &&& 31)), .int (iI (m_pcn (g 0 0 13)))]) (rest := []) ⟨hx, hb, hml, hown, hw⟩ (c_below l D a cH cB cJ cI ha g vt H.size (x8 >>> (iI 3 &&& 31)) (m_pcn (g 0 0 13)) (by omega)) (va_cwS 2 hw (gA_S kw_64 kw_65 kw_61 kw_66) rfl rfl rfl (by decide +kernel) ⟨Nat.le_of_ble_eq_true rfl, Nat.le_of_ble_eq_true rfl⟩) (pS_s hP hK hE) rfl rfl hl.1 rfl (lv_room (Nat.le_of_ble_eq_true rfl)) dL_law_1283 ⟨rm_c (by omega), rm_s (by omega)⟩) hS (fun q h1 h2 => ro_A h1 h2) (fun q h => ro_F hS hA q h) (fun r u t H1 locs ht hvm hw9 hB9 hz1 hk1 hS => ?_)
      have hw9 : r = (iI (m_bel (x8 >>> (iI 3 &&& 31)) (m_pcn (g 0 0 13)))) := hw9
      subst hw9
      have hP := ro_P hP hk1
      generalize H1 = H at hP hS ⊢
      have s6 := bel_b (x8 >>> (iI 3 &&& 31)) (n := (m_pcn (g 0 0 13))) (by omega)
      obtain ⟨u5, hu5⟩ : ∃ z, z = (m_bel (x8 >>> (iI 3 &&& 31)) (m_pcn (g 0 0 13))) := ⟨_, rfl⟩
      have hbu5 : 0 ≤ u5 ∧ u5 < (m_pcn (g 0 0 13)) := by rw [hu5]; exact bel_b _ (by omega)
      rw [show (m_bel (x8 >>> (iI 3 &&& 31)) (m_pcn (g 0 0 13))) = u5 from hu5.symm]
      refine lv_istore (lv' := [(18, .int (iI u5)), (17, .int (iI 0)), (16, .int (iI (m_pcn (g 0 0 13)))), (0, .ref b), (1, .ref (a 0)), (2, .int (iI hh)), (3, .int (iI jj)), (4, .int (iI paid)), (5, .int (iI printed)), (6, .int (iI called)), (7, .int (iI ((tn : Nat) : Int))), (8, .int x8), (9, .int (iI (g 0 0 4))), (10, .int (iI bk)), (11, .int (iI jd)), (12, .int (iI (g 0 0 9))), (13, .int (iI (g 0 0 8))), (14, .int (iI (m_entCount g))), (15, .int (iI (g 9 0 3)))]) hx hb dL_law_1286 hl (by decide) rfl (fun ls hl => ?_)
      refine lv_iconst (v := iI 0) hx hb dL_law_1288 (by decide) ?_
      refine lv_istore (lv' := [(19, .int (iI 0)), (18, .int (iI u5)), (17, .int (iI 0)), (16, .int (iI (m_pcn (g 0 0 13)))), (0, .ref b), (1, .ref (a 0)), (2, .int (iI hh)), (3, .int (iI jj)), (4, .int (iI paid)), (5, .int (iI printed)), (6, .int (iI called)), (7, .int (iI ((tn : Nat) : Int))), (8, .int x8), (9, .int (iI (g 0 0 4))), (10, .int (iI bk)), (11, .int (iI jd)), (12, .int (iI (g 0 0 9))), (13, .int (iI (g 0 0 8))), (14, .int (iI (m_entCount g))), (15, .int (iI (g 9 0 3)))]) hx hb dL_law_1289 hl (by decide) rfl (fun ls hl => ?_)
      have loop1291 : ∀ (d n : Nat) (H : Heap) (locs : List Loc) (ls : Array Slot), n + d = (m_pcn (g 0 0 13)).toNat → va_P D vwCl (pw a cH cB cJ cI g vt) H → va_S (fun q => s.heap.size ≤ q) s.heap H locs → lv_has ls 23 [(19, .int (iI ((n : Nat) : Int))), (18, .int (iI u5)), (17, .int (iI (lawOrder (m_pcn (g 0 0 13)) u5 n))), (16, .int (iI (m_pcn (g 0 0 13)))), (0, .ref b), (1, .ref (a 0)), (2, .int (iI hh)), (3, .int (iI jj)), (4, .int (iI paid)), (5, .int (iI printed)), (6, .int (iI called)), (7, .int (iI ((tn : Nat) : Int))), (8, .int x8), (9, .int (iI (g 0 0 4))), (10, .int (iI bk)), (11, .int (iI jd)), (12, .int (iI (g 0 0 9))), (13, .int (iI (g 0 0 8))), (14, .int (iI (m_entCount g))), (15, .int (iI (g 9 0 3)))] → W p l e room_1 s m args below meth c H locs cells slots Q (F0 m 1291 ls []) := by
        intro d
        induction d with
        | zero =>
          intro n H locs ls hn hP hS hl
          obtain rfl : n = (m_pcn (g 0 0 13)).toNat := by omega
          refine lv_iload hx hb dL_law_1291 (lv_at hl 0 rfl) ?_
          refine lv_iload hx hb dL_law_1293 (lv_at hl 3 rfl) ?_
          refine n_icmp_ge hx hb (by unfold RI; omega) (by unfold RI; omega) (tgt := 1322) dL_law_1295 (by decide) (fun h7 => ?_) (fun h7 => absurd h7 (by intro h7; omega))
          have hol := isOrder_law hIv (f := u5) (by omega) (by omega)
          refine lv_aload_n hx hb dL_law_1322 rfl (lv_at hl 5 rfl) ?_
          refine lv_iload hx hb dL_law_1323 (lv_at hl 15 rfl) ?_
          refine lv_iload hx hb dL_law_1325 (lv_at hl 2 rfl) ?_
          refine va_calli (va_runV (As := [.int (iI jd), .int (iI (lawOrder (m_pcn (g 0 0 13)) u5 ((m_pcn (g 0 0 13)).toNat)))]) (rest := []) ⟨hx, hb, hml, hown, hw⟩ (c_vote l D a cH cB cJ cI ha g vt H.size jd (lawOrder (m_pcn (g 0 0 13)) u5 ((m_pcn (g 0 0 13)).toNat)) hWf (by omega) (by omega) (hol.1) (by omega)) (cwV 2 hw (gA_V kw_433 kw_434 kw_435 kw_2 kw_436) rfl rfl rfl (by decide +kernel) ⟨Nat.le_of_ble_eq_true rfl, Nat.le_of_ble_eq_true rfl⟩) (pS_v (ci := 4) (q0 := 0) rfl pw_0 hP hK hE) rfl rfl hl.1 rfl (lv_room (Nat.le_of_ble_eq_true rfl)) dL_law_1327 ⟨rm_c (by omega), rm_s (by omega)⟩) hS (fun q _ h => rw_A hS hA hB q h) (fun q h => rw_A hS hA hB q h) (fun r u t H1 locs ht hvm hw9 hB9 hz1 hk1 hS => ?_)
          have hw9 : r = (iI (m_orderCount (m_takeOrder g jd (lawOrder (m_pcn (g 0 0 13)) u5 ((m_pcn (g 0 0 13)).toNat))))) := hw9
          subst hw9
          obtain ⟨v8, hP1⟩ := hB9
          rw [ht] at hP1
          obtain ⟨g9, hg9⟩ : ∃ z, z = (m_takeOrder g jd (lawOrder (m_pcn (g 0 0 13)) u5 ((m_pcn (g 0 0 13)).toNat))) := ⟨_, rfl⟩
          rw [← hg9] at hP1
          have hP : va_P D vwCl (pw a cH cB cJ cI g9 v8) H1 := hP1
          generalize H1 = H at hP hS ⊢
          rw [show (m_orderCount (m_takeOrder g jd (lawOrder (m_pcn (g 0 0 13)) u5 ((m_pcn (g 0 0 13)).toNat)))) = (m_orderCount g9) from (by rw [hg9])]
          have hivg9 : Iv hh jj ((tn : Nat) : Int) paid printed called g9 := by rw [hg9]; exact (inv_vote hIv (by omega)).1
          have hn5g9 : g9 0 0 5 = jj := hivg9.2.2.2.1.2.1
          have h15g9 : g9 3 jd 15 = (m_pcn (g 0 0 13)) := by rw [hg9]; exact (inv_vote hIv (by omega)).2
          have hocg9 := orders_1 hivg9.1 (j := jd) (by omega) (by omega)
          have hibg9 : m_ib (decide (0 < g9 3 jd 15)) = 1 := by rw [decide_eq_true (by omega)]; rfl
          have hWg9 : Wf g9 := hivg9.1
          refine lv_iconst (v := iI 1) hx hb dL_law_1330 (by decide) ?_
          refine n_icmp_lt hx hb (by unfold RI; omega) (by unfold RI; omega) (tgt := 1346) dL_law_1331 (by decide) (fun h10 => absurd h10 (by intro h10; omega)) (fun h10 => ?_)
          refine lv_aload_n hx hb dL_law_1334 rfl (lv_at hl 5 rfl) ?_
          refine lv_iload hx hb dL_law_1335 (lv_at hl 15 rfl) ?_
          refine lv_bipush (v := iI 6) hx hb dL_law_1337 (by decide) ?_
          refine va_calli (va_runV (As := [.int (iI jd), .int (iI 6)]) (rest := []) ⟨hx, hb, hml, hown, hw⟩ (c_ofJudge l D a cH cB cJ cI ha g9 v8 H.size jd 6 hWg9 (by omega) (by omega)) (cwV 2 hw (gA_V kw_174 kw_175 kw_176 kw_2 kw_177) rfl rfl rfl (by decide +kernel) ⟨Nat.le_of_ble_eq_true rfl, Nat.le_of_ble_eq_true rfl⟩) (pS_v (ci := 4) (q0 := 0) rfl pw_0 hP hK hE) rfl rfl hl.1 rfl (lv_room (Nat.le_of_ble_eq_true rfl)) dL_law_1339 ⟨rm_c (by omega), rm_s (by omega)⟩) hS (fun q h1 h2 => ro_A h1 h2) (fun q h => ro_F hS hA q h) (fun r u t H1 locs ht hvm hw9 hB9 hz1 hk1 hS => ?_)
          have hw9 : r = (iI (m_ofJudge g9 jd 6)) := hw9
          subst hw9
          have hP := ro_P hP hk1
          generalize H1 = H at hP hS ⊢
          rw [show (m_ofJudge g9 jd 6) = 1 from hibg9]
          refine lv_iconst (v := iI 1) hx hb dL_law_1342 (by decide) ?_
          refine n_icmp_eq hx hb (by unfold RI; omega) (by unfold RI; omega) (tgt := 1603) dL_law_1343 (by decide) (fun h11 => ?_) (fun h11 => absurd h11 (by intro h11; omega))
          refine W.widen (k := cells + 1) (n := slots + 5) (by omega) (by omega) ?_
          exact kx g9 v8 paid printed called H locs ls (inv_later hivg9) hP hS (lv_sub hl [4, 5, 6, 7, 8, 9, 10, 11] rfl)
        | succ d ih1291 =>
          intro n H locs ls hn hP hS hl
          refine lv_iload hx hb dL_law_1291 (lv_at hl 0 rfl) ?_
          refine lv_iload hx hb dL_law_1293 (lv_at hl 3 rfl) ?_
          refine n_icmp_ge hx hb (by unfold RI; omega) (by unfold RI; omega) (tgt := 1322) dL_law_1295 (by decide) (fun h12 => absurd h12 (by intro h12; omega)) (fun h12 => ?_)
          refine lv_bipush (v := iI 10) hx hb dL_law_1298 (by decide) ?_
          refine lv_iload hx hb dL_law_1300 (lv_at hl 2 rfl) ?_
          refine n_mul hx hb dL_law_1302 ?_
          refine lv_iconst (v := iI 1) hx hb dL_law_1303 (by decide) ?_
          refine n_add hx hb dL_law_1304 ?_
          refine lv_iload hx hb dL_law_1305 (lv_at hl 1 rfl) ?_
          refine lv_iload hx hb dL_law_1307 (lv_at hl 0 rfl) ?_
          refine n_add hx hb dL_law_1309 ?_
          refine lv_iload hx hb dL_law_1310 (lv_at hl 3 rfl) ?_
          refine n_rem hx hb (by unfold RI; omega) (by unfold RI; omega) (by omega) dL_law_1312 ?_
          refine n_add hx hb dL_law_1313 ?_
          refine lv_istore (lv' := [(17, .int (iI (((10 * (lawOrder (m_pcn (g 0 0 13)) u5 n)) + 1) + ((u5 + ((n : Nat) : Int)).tmod (m_pcn (g 0 0 13)))))), (19, .int (iI ((n : Nat) : Int))), (18, .int (iI u5)), (16, .int (iI (m_pcn (g 0 0 13)))), (0, .ref b), (1, .ref (a 0)), (2, .int (iI hh)), (3, .int (iI jj)), (4, .int (iI paid)), (5, .int (iI printed)), (6, .int (iI called)), (7, .int (iI ((tn : Nat) : Int))), (8, .int x8), (9, .int (iI (g 0 0 4))), (10, .int (iI bk)), (11, .int (iI jd)), (12, .int (iI (g 0 0 9))), (13, .int (iI (g 0 0 8))), (14, .int (iI (m_entCount g))), (15, .int (iI (g 9 0 3)))]) hx hb dL_law_1314 hl (by decide) rfl (fun ls hl => ?_)
          refine n_inc (lv' := [(19, .int (iI (((n : Nat) : Int) + 1))), (17, .int (iI (((10 * (lawOrder (m_pcn (g 0 0 13)) u5 n)) + 1) + ((u5 + ((n : Nat) : Int)).tmod (m_pcn (g 0 0 13)))))), (18, .int (iI u5)), (16, .int (iI (m_pcn (g 0 0 13)))), (0, .ref b), (1, .ref (a 0)), (2, .int (iI hh)), (3, .int (iI jj)), (4, .int (iI paid)), (5, .int (iI printed)), (6, .int (iI called)), (7, .int (iI ((tn : Nat) : Int))), (8, .int x8), (9, .int (iI (g 0 0 4))), (10, .int (iI bk)), (11, .int (iI jd)), (12, .int (iI (g 0 0 9))), (13, .int (iI (g 0 0 8))), (14, .int (iI (m_entCount g))), (15, .int (iI (g 9 0 3)))]) hx hb dL_law_1316 hl (k := 1) rfl (by decide) rfl (fun ls hl => ?_)
          refine lv_goto (tgt := 1291) hx hb dL_law_1319 (by decide) ?_
          have hl : lv_has ls 23 [(19, .int (iI (((n : Nat) : Int) + 1))), (18, .int (iI u5)), (17, .int (iI (((10 * (lawOrder (m_pcn (g 0 0 13)) u5 n)) + 1) + ((u5 + ((n : Nat) : Int)).tmod (m_pcn (g 0 0 13)))))), (16, .int (iI (m_pcn (g 0 0 13)))), (0, .ref b), (1, .ref (a 0)), (2, .int (iI hh)), (3, .int (iI jj)), (4, .int (iI paid)), (5, .int (iI printed)), (6, .int (iI called)), (7, .int (iI ((tn : Nat) : Int))), (8, .int x8), (9, .int (iI (g 0 0 4))), (10, .int (iI bk)), (11, .int (iI jd)), (12, .int (iI (g 0 0 9))), (13, .int (iI (g 0 0 8))), (14, .int (iI (m_entCount g))), (15, .int (iI (g 9 0 3)))] := lv_sub hl [0, 2, 1, 3, 4, 5, 6, 7, 8, 9, 10, 11, 12, 13, 14, 15, 16, 17, 18, 19] rfl
          have e13 : (((n : Nat) : Int) + 1) = (((n + 1) : Nat) : Int) := by rfl
          have e14 : (((10 * (lawOrder (m_pcn (g 0 0 13)) u5 n)) + 1) + ((u5 + ((n : Nat) : Int)).tmod (m_pcn (g 0 0 13)))) = (lawOrder (m_pcn (g 0 0 13)) u5 (n + 1)) := by rfl
          have hl : lv_has ls 23 [(19, .int (iI (((n + 1) : Nat) : Int))), (18, .int (iI u5)), (17, .int (iI (lawOrder (m_pcn (g 0 0 13)) u5 (n + 1)))), (16, .int (iI (m_pcn (g 0 0 13)))), (0, .ref b), (1, .ref (a 0)), (2, .int (iI hh)), (3, .int (iI jj)), (4, .int (iI paid)), (5, .int (iI printed)), (6, .int (iI called)), (7, .int (iI ((tn : Nat) : Int))), (8, .int x8), (9, .int (iI (g 0 0 4))), (10, .int (iI bk)), (11, .int (iI jd)), (12, .int (iI (g 0 0 9))), (13, .int (iI (g 0 0 8))), (14, .int (iI (m_entCount g))), (15, .int (iI (g 9 0 3)))] := lv_cast hl (by rw [e13, e14])
          exact ih1291 (n + 1) H locs ls (by omega) hP hS hl
      have hl : lv_has ls 23 [(19, .int (iI 0)), (18, .int (iI u5)), (17, .int (iI 0)), (16, .int (iI (m_pcn (g 0 0 13)))), (0, .ref b), (1, .ref (a 0)), (2, .int (iI hh)), (3, .int (iI jj)), (4, .int (iI paid)), (5, .int (iI printed)), (6, .int (iI called)), (7, .int (iI ((tn : Nat) : Int))), (8, .int x8), (9, .int (iI (g 0 0 4))), (10, .int (iI bk)), (11, .int (iI jd)), (12, .int (iI (g 0 0 9))), (13, .int (iI (g 0 0 8))), (14, .int (iI (m_entCount g))), (15, .int (iI (g 9 0 3)))] := lv_sub hl [0, 1, 2, 3, 4, 5, 6, 7, 8, 9, 10, 11, 12, 13, 14, 15, 16, 17, 18, 19] rfl
      have hl : lv_has ls 23 [(19, .int (iI ((0 : Nat) : Int))), (18, .int (iI u5)), (17, .int (iI (lawOrder (m_pcn (g 0 0 13)) u5 0))), (16, .int (iI (m_pcn (g 0 0 13)))), (0, .ref b), (1, .ref (a 0)), (2, .int (iI hh)), (3, .int (iI jj)), (4, .int (iI paid)), (5, .int (iI printed)), (6, .int (iI called)), (7, .int (iI ((tn : Nat) : Int))), (8, .int x8), (9, .int (iI (g 0 0 4))), (10, .int (iI bk)), (11, .int (iI jd)), (12, .int (iI (g 0 0 9))), (13, .int (iI (g 0 0 8))), (14, .int (iI (m_entCount g))), (15, .int (iI (g 9 0 3)))] := hl
      exact loop1291 ((m_pcn (g 0 0 13)).toNat) 0 H locs ls (by omega) hP hS hl
    · skip
      refine lv_goto (tgt := 1603) hx hb dL_law_1271 (by decide) ?_
      refine W.widen (k := cells + 1) (n := slots + 5) (by omega) (by omega) ?_
      exact kx g vt paid printed called H locs ls (inv_later hIv) hP hS (lv_sub hl [1, 2, 3, 4, 5, 6, 7, 8] rfl)

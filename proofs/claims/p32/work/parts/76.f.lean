set_option maxHeartbeats 4000000 in
set_option maxRecDepth 100000 in
theorem law_sets {p : Program} {l : Launch} {e : Env} {s : State} {m : MethodId} {args : Array Value} {below : List Frame} {meth : Method} {c : Code} {Q : State → Prop} {b : Nat} {D : va_G} {a : Nat → Nat} {cH cB cJ cI : ClassId} {L : Nat} {xs : Nat → Int32} (hx : p.tables.exec = Jvm.exec) (hb : c.code = cL_law) (hml : c.maxLocals = 23) (hown : s.vm.findClass RL = some m.cls) (hw : ∀ w ∈ wsL_law0, w.before args s = true) (ha : pj a) (hB : ∀ k, k < 58 → s.heap.size ≤ a k) (hK : va_K D vwCl (pT cH cB cJ cI) s) (hE : ew s) (hL : L ≤ 260) (hX : va_X b L xs s s.heap) (hbl : b < s.heap.size) {g : m_St} {vt : Nat → Int32} {cells slots : Nat} (hcc : cells + 2 ≤ 600074) (hss : slots + 10 ≤ 7301550) (hIv : Iv 0 0 0 0 0 0 g) (hF : Fresh g) {H : Heap} {locs : List Loc} {ls : Array Slot} (hP : va_P D vwCl (pw a cH cB cJ cI g vt) H) (hS : va_S (fun q => s.heap.size ≤ q) s.heap H locs) (hl : lv_has ls 23 [(1, .ref (a 0)), (0, .ref b)]) (kx : ∀ (hh jj : Int) (g : m_St) (vt : Nat → Int32) (H : Heap) (locs : List Loc) (ls : Array Slot), 2 ≤ hh ∧ hh ≤ 5 → 3 ≤ jj ∧ jj ≤ 5 → Iv hh jj 0 0 0 0 g → va_P D vwCl (pw a cH cB cJ cI g vt) H → va_S (fun q => s.heap.size ≤ q) s.heap H locs → lv_has ls 23 [(0, .ref b), (1, .ref (a 0)), (2, .int (iI hh)), (3, .int (iI jj)), (4, .int (iI 0)), (5, .int (iI 0)), (6, .int (iI 0)), (7, .int (iI 0))] → W p l e room_1 s m args below meth c H locs cells slots Q (F0 m 143 ls [])) : W p l e room_1 s m args below meth c H locs cells slots Q (F0 m 8 ls []) := by
  have hWf : Wf g := hIv.1
  have hA : ∀ q : Nat, s.heap.size ≤ q → (fun q : Nat => s.heap.size ≤ q) q := fun _ h => h
  refine lv_iconst (v := iI 2) hx hb dL_law_8 (by decide) ?_
  refine lv_aload_n hx hb dL_law_9 rfl (lv_at hl 1 rfl) ?_
  refine lv_iconst (v := iI 0) hx hb dL_law_10 (by decide) ?_
  have hbH : b < H.size := Nat.lt_of_lt_of_le hbl hS.1
  have hXH : va_X b L xs s H := hX.kept (hS.2.1 b hbl (Nat.not_le.mpr hbl))
  refine va_calli (va_runS (As := [.ref b, .int (iI 0)]) (rest := [.int (iI 2)]) ⟨hx, hb, hml, hown, hw⟩ (c_cell l b L xs hL H.size 0 (by omega)) (va_cwS 2 hw (gA_S kw_59 kw_60 kw_61 kw_62) rfl rfl rfl (by decide +kernel) ⟨Nat.le_of_ble_eq_true rfl, Nat.le_of_ble_eq_true rfl⟩) (pX_s hXH hbH) rfl rfl hl.1 rfl (lv_room (Nat.le_of_ble_eq_true rfl)) dL_law_11 ⟨rm_c (by omega), rm_s (by omega)⟩) hS (fun q h1 h2 => ro_A h1 h2) (fun q h => ro_F hS hA q h) (fun r u t H1 locs ht hvm hw9 hB9 hz1 hk1 hS => ?_)
  have hw9 : r = m_cell L xs 0 := hw9
  subst hw9
  have hP := ro_P hP hk1
  generalize H1 = H at hP hS ⊢
  refine lv_iconst (v := iI 4) hx hb dL_law_14 (by decide) ?_
  refine va_calli (va_runS (As := [.int (m_cell L xs 0), .int (iI 4)]) (rest := [.int (iI 2)]) ⟨hx, hb, hml, hown, hw⟩ (c_below l D a cH cB cJ cI ha g vt H.size (m_cell L xs 0) 4 (by omega)) (va_cwS 2 hw (gA_S kw_64 kw_65 kw_61 kw_66) rfl rfl rfl (by decide +kernel) ⟨Nat.le_of_ble_eq_true rfl, Nat.le_of_ble_eq_true rfl⟩) (pS_s hP hK hE) rfl rfl hl.1 rfl (lv_room (Nat.le_of_ble_eq_true rfl)) dL_law_15 ⟨rm_c (by omega), rm_s (by omega)⟩) hS (fun q h1 h2 => ro_A h1 h2) (fun q h => ro_F hS hA q h) (fun r u t H1 locs ht hvm hw9 hB9 hz1 hk1 hS => ?_)
  have hw9 : r = (iI (m_bel (m_cell L xs 0) 4)) := hw9
  subst hw9
  have hP := ro_P hP hk1
  generalize H1 = H at hP hS ⊢
  have s2 := bel_b (m_cell L xs 0) (n := 4) (by omega)
  obtain ⟨u1, hu1⟩ : ∃ z, z = (m_bel (m_cell L xs 0) 4) := ⟨_, rfl⟩
  have hbu1 : 0 ≤ u1 ∧ u1 < 4 := by rw [hu1]; exact bel_b _ (by omega)
  rw [show (m_bel (m_cell L xs 0) 4) = u1 from hu1.symm]
  refine n_add hx hb dL_law_18 ?_
  obtain ⟨hh, hhe⟩ : ∃ z, z = (2 + u1) := ⟨_, rfl⟩
  rw [← hhe]
  have hhh : 2 ≤ hh ∧ hh ≤ 5 := by omega
  refine lv_istore_n (lv' := [(2, .int (iI hh)), (1, .ref (a 0)), (0, .ref b)]) hx hb dL_law_19 rfl hl (by decide) rfl (fun ls hl => ?_)
  refine lv_iconst (v := iI 0) hx hb dL_law_20 (by decide) ?_
  refine lv_istore_n (lv' := [(3, .int (iI 0)), (2, .int (iI hh)), (1, .ref (a 0)), (0, .ref b)]) hx hb dL_law_21 rfl hl (by decide) rfl (fun ls hl => ?_)
  have loop22 : ∀ (d n : Nat) (gq : m_St) (vq : Nat → Int32) (H : Heap) (locs : List Loc) (ls : Array Slot), n + d = hh.toNat → (Iv ((n : Nat) : Int) 0 0 0 0 0 gq ∧ Fresh gq) → va_P D vwCl (pw a cH cB cJ cI gq vq) H → va_S (fun q => s.heap.size ≤ q) s.heap H locs → lv_has ls 23 [(3, .int (iI ((n : Nat) : Int))), (2, .int (iI hh)), (1, .ref (a 0)), (0, .ref b)] → W p l e room_1 s m args below meth c H locs cells slots Q (F0 m 22 ls []) := by
    intro d
    induction d with
    | zero =>
      intro n gq vq H locs ls hn hivq hP hS hl
      obtain rfl : n = hh.toNat := by omega
      have hWq := hivq.1.1
      have hg3 := hivq.1.2.2.2.1.1
      refine lv_iload_n hx hb dL_law_22 rfl (lv_at hl 0 rfl) ?_
      refine lv_iload_n hx hb dL_law_23 rfl (lv_at hl 1 rfl) ?_
      refine n_icmp_ge hx hb (by unfold RI; omega) (by unfold RI; omega) (tgt := 43) dL_law_24 (by decide) (fun h3 => ?_) (fun h3 => absurd h3 (by intro h3; omega))
      have hivh := hivq.1
      rw [show ((hh.toNat : Nat) : Int) = hh from by omega] at hivh
      refine lv_iconst (v := iI 3) hx hb dL_law_43 (by decide) ?_
      refine lv_aload_n hx hb dL_law_44 rfl (lv_at hl 3 rfl) ?_
      refine lv_iconst (v := iI 1) hx hb dL_law_45 (by decide) ?_
      have hbH : b < H.size := Nat.lt_of_lt_of_le hbl hS.1
      have hXH : va_X b L xs s H := hX.kept (hS.2.1 b hbl (Nat.not_le.mpr hbl))
      refine va_calli (va_runS (As := [.ref b, .int (iI 1)]) (rest := [.int (iI 3)]) ⟨hx, hb, hml, hown, hw⟩ (c_cell l b L xs hL H.size 1 (by omega)) (va_cwS 2 hw (gA_S kw_59 kw_60 kw_61 kw_62) rfl rfl rfl (by decide +kernel) ⟨Nat.le_of_ble_eq_true rfl, Nat.le_of_ble_eq_true rfl⟩) (pX_s hXH hbH) rfl rfl hl.1 rfl (lv_room (Nat.le_of_ble_eq_true rfl)) dL_law_46 ⟨rm_c (by omega), rm_s (by omega)⟩) hS (fun q h1 h2 => ro_A h1 h2) (fun q h => ro_F hS hA q h) (fun r u t H1 locs ht hvm hw9 hB9 hz1 hk1 hS => ?_)
      have hw9 : r = m_cell L xs 1 := hw9
      subst hw9
      have hP := ro_P hP hk1
      generalize H1 = H at hP hS ⊢
      refine lv_iconst (v := iI 3) hx hb dL_law_49 (by decide) ?_
      refine va_calli (va_runS (As := [.int (m_cell L xs 1), .int (iI 3)]) (rest := [.int (iI 3)]) ⟨hx, hb, hml, hown, hw⟩ (c_below l D a cH cB cJ cI ha gq vq H.size (m_cell L xs 1) 3 (by omega)) (va_cwS 2 hw (gA_S kw_64 kw_65 kw_61 kw_66) rfl rfl rfl (by decide +kernel) ⟨Nat.le_of_ble_eq_true rfl, Nat.le_of_ble_eq_true rfl⟩) (pS_s hP hK hE) rfl rfl hl.1 rfl (lv_room (Nat.le_of_ble_eq_true rfl)) dL_law_50 ⟨rm_c (by omega), rm_s (by omega)⟩) hS (fun q h1 h2 => ro_A h1 h2) (fun q h => ro_F hS hA q h) (fun r u t H1 locs ht hvm hw9 hB9 hz1 hk1 hS => ?_)
      have hw9 : r = (iI (m_bel (m_cell L xs 1) 3)) := hw9
      subst hw9
      have hP := ro_P hP hk1
      generalize H1 = H at hP hS ⊢
      have s5 := bel_b (m_cell L xs 1) (n := 3) (by omega)
      obtain ⟨u4, hu4⟩ : ∃ z, z = (m_bel (m_cell L xs 1) 3) := ⟨_, rfl⟩
      have hbu4 : 0 ≤ u4 ∧ u4 < 3 := by rw [hu4]; exact bel_b _ (by omega)
      rw [show (m_bel (m_cell L xs 1) 3) = u4 from hu4.symm]
      refine n_add hx hb dL_law_53 ?_
      obtain ⟨jj, jje⟩ : ∃ z, z = (3 + u4) := ⟨_, rfl⟩
      rw [← jje]
      have hjj : 3 ≤ jj ∧ jj ≤ 5 := by omega
      refine lv_istore_n (lv' := [(3, .int (iI jj)), (2, .int (iI hh)), (1, .ref (a 0)), (0, .ref b)]) hx hb dL_law_54 rfl hl (by decide) rfl (fun ls hl => ?_)
      refine lv_iconst (v := iI 0) hx hb dL_law_55 (by decide) ?_
      refine lv_istore (lv' := [(4, .int (iI 0)), (3, .int (iI jj)), (2, .int (iI hh)), (1, .ref (a 0)), (0, .ref b)]) hx hb dL_law_56 hl (by decide) rfl (fun ls hl => ?_)
      have loop58 : ∀ (d1 n1 : Nat) (gq1 : m_St) (vq1 : Nat → Int32) (H : Heap) (locs : List Loc) (ls : Array Slot), n1 + d1 = jj.toNat → (Iv hh ((n1 : Nat) : Int) 0 0 0 0 gq1 ∧ Fresh gq1) → va_P D vwCl (pw a cH cB cJ cI gq1 vq1) H → va_S (fun q => s.heap.size ≤ q) s.heap H locs → lv_has ls 23 [(4, .int (iI ((n1 : Nat) : Int))), (3, .int (iI jj)), (2, .int (iI hh)), (1, .ref (a 0)), (0, .ref b)] → W p l e room_1 s m args below meth c H locs cells slots Q (F0 m 58 ls []) := by
        intro d1
        induction d1 with
        | zero =>
          intro n1 gq1 vq1 H locs ls hn1 hivq1 hP hS hl
          obtain rfl : n1 = jj.toNat := by omega
          have hWq1 := hivq1.1.1
          have hg5 := hivq1.1.2.2.2.1.2.1
          have hg9 := hivq1.2.2.2.1
          refine lv_iload hx hb dL_law_58 (lv_at hl 0 rfl) ?_
          refine lv_iload_n hx hb dL_law_60 rfl (lv_at hl 1 rfl) ?_
          refine n_icmp_ge hx hb (by unfold RI; omega) (by unfold RI; omega) (tgt := 131) dL_law_61 (by decide) (fun h6 => ?_) (fun h6 => absurd h6 (by intro h6; omega))
          have hivj := hivq1.1
          rw [show ((jj.toNat : Nat) : Int) = jj from by omega] at hivj
          refine lv_iconst (v := iI 0) hx hb dL_law_131 (by decide) ?_
          refine lv_istore (lv' := [(4, .int (iI 0)), (3, .int (iI jj)), (2, .int (iI hh)), (1, .ref (a 0)), (0, .ref b)]) hx hb dL_law_132 hl (by decide) rfl (fun ls hl => ?_)
          refine lv_iconst (v := iI 0) hx hb dL_law_134 (by decide) ?_
          refine lv_istore (lv' := [(5, .int (iI 0)), (4, .int (iI 0)), (3, .int (iI jj)), (2, .int (iI hh)), (1, .ref (a 0)), (0, .ref b)]) hx hb dL_law_135 hl (by decide) rfl (fun ls hl => ?_)
          refine lv_iconst (v := iI 0) hx hb dL_law_137 (by decide) ?_
          refine lv_istore (lv' := [(6, .int (iI 0)), (5, .int (iI 0)), (4, .int (iI 0)), (3, .int (iI jj)), (2, .int (iI hh)), (1, .ref (a 0)), (0, .ref b)]) hx hb dL_law_138 hl (by decide) rfl (fun ls hl => ?_)
          refine lv_iconst (v := iI 0) hx hb dL_law_140 (by decide) ?_
          refine lv_istore (lv' := [(7, .int (iI 0)), (6, .int (iI 0)), (5, .int (iI 0)), (4, .int (iI 0)), (3, .int (iI jj)), (2, .int (iI hh)), (1, .ref (a 0)), (0, .ref b)]) hx hb dL_law_141 hl (by decide) rfl (fun ls hl => ?_)
          exact kx hh jj gq1 vq1 H locs ls hhh hjj hivj hP hS (lv_sub hl [7, 6, 5, 4, 3, 2, 1, 0] rfl)
        | succ d1 ih58 =>
          intro n1 gq1 vq1 H locs ls hn1 hivq1 hP hS hl
          have hWq1 := hivq1.1.1
          have hg5 := hivq1.1.2.2.2.1.2.1
          have hg9 := hivq1.2.2.2.1
          refine lv_iload hx hb dL_law_58 (lv_at hl 0 rfl) ?_
          refine lv_iload_n hx hb dL_law_60 rfl (lv_at hl 1 rfl) ?_
          refine n_icmp_ge hx hb (by unfold RI; omega) (by unfold RI; omega) (tgt := 131) dL_law_61 (by decide) (fun h7 => absurd h7 (by intro h7; omega)) (fun h7 => ?_)
          refine lv_aload_n hx hb dL_law_64 rfl (lv_at hl 3 rfl) ?_
          refine lv_bipush (v := iI 40) hx hb dL_law_65 (by decide) ?_
          refine lv_aload_n hx hb dL_law_67 rfl (lv_at hl 4 rfl) ?_
          refine lv_iconst (v := iI 2) hx hb dL_law_68 (by decide) ?_
          refine lv_iload hx hb dL_law_69 (lv_at hl 0 rfl) ?_
          refine n_add hx hb dL_law_71 ?_
          have hbH : b < H.size := Nat.lt_of_lt_of_le hbl hS.1
          have hXH : va_X b L xs s H := hX.kept (hS.2.1 b hbl (Nat.not_le.mpr hbl))
          refine va_calli (va_runS (As := [.ref b, .int (iI (2 + ((n1 : Nat) : Int)))]) (rest := [.int (iI 40), .ref (a 0)]) ⟨hx, hb, hml, hown, hw⟩ (c_cell l b L xs hL H.size (2 + ((n1 : Nat) : Int)) (by omega)) (va_cwS 2 hw (gA_S kw_59 kw_60 kw_61 kw_62) rfl rfl rfl (by decide +kernel) ⟨Nat.le_of_ble_eq_true rfl, Nat.le_of_ble_eq_true rfl⟩) (pX_s hXH hbH) rfl rfl hl.1 rfl (lv_room (Nat.le_of_ble_eq_true rfl)) dL_law_72 ⟨rm_c (by omega), rm_s (by omega)⟩) hS (fun q h1 h2 => ro_A h1 h2) (fun q h => ro_F hS hA q h) (fun r u t H1 locs ht hvm hw9 hB9 hz1 hk1 hS => ?_)
          have hw9 : r = m_cell L xs (2 + ((n1 : Nat) : Int)) := hw9
          subst hw9
          have hP := ro_P hP hk1
          generalize H1 = H at hP hS ⊢
          refine lv_sipush (v := iI 161) hx hb dL_law_75 (by decide) ?_
          refine va_calli (va_runS (As := [.int (m_cell L xs (2 + ((n1 : Nat) : Int))), .int (iI 161)]) (rest := [.int (iI 40), .ref (a 0)]) ⟨hx, hb, hml, hown, hw⟩ (c_below l D a cH cB cJ cI ha gq1 vq1 H.size (m_cell L xs (2 + ((n1 : Nat) : Int))) 161 (by omega)) (va_cwS 2 hw (gA_S kw_64 kw_65 kw_61 kw_66) rfl rfl rfl (by decide +kernel) ⟨Nat.le_of_ble_eq_true rfl, Nat.le_of_ble_eq_true rfl⟩) (pS_s hP hK hE) rfl rfl hl.1 rfl (lv_room (Nat.le_of_ble_eq_true rfl)) dL_law_78 ⟨rm_c (by omega), rm_s (by omega)⟩) hS (fun q h1 h2 => ro_A h1 h2) (fun q h => ro_F hS hA q h) (fun r u t H1 locs ht hvm hw9 hB9 hz1 hk1 hS => ?_)
          have hw9 : r = (iI (m_bel (m_cell L xs (2 + ((n1 : Nat) : Int))) 161)) := hw9
          subst hw9
          have hP := ro_P hP hk1
          generalize H1 = H at hP hS ⊢
          have s9 := bel_b (m_cell L xs (2 + ((n1 : Nat) : Int))) (n := 161) (by omega)
          obtain ⟨u8, hu8⟩ : ∃ z, z = (m_bel (m_cell L xs (2 + ((n1 : Nat) : Int))) 161) := ⟨_, rfl⟩
          have hbu8 : 0 ≤ u8 ∧ u8 < 161 := by rw [hu8]; exact bel_b _ (by omega)
          rw [show (m_bel (m_cell L xs (2 + ((n1 : Nat) : Int))) 161) = u8 from hu8.symm]
          refine n_add hx hb dL_law_81 ?_
          refine lv_aload_n hx hb dL_law_82 rfl (lv_at hl 4 rfl) ?_
          refine lv_iconst (v := iI 2) hx hb dL_law_83 (by decide) ?_
          refine lv_iload hx hb dL_law_84 (lv_at hl 0 rfl) ?_
          refine n_add hx hb dL_law_86 ?_
          have hbH : b < H.size := Nat.lt_of_lt_of_le hbl hS.1
          have hXH : va_X b L xs s H := hX.kept (hS.2.1 b hbl (Nat.not_le.mpr hbl))
          refine va_calli (va_runS (As := [.ref b, .int (iI (2 + ((n1 : Nat) : Int)))]) (rest := [.int (iI (40 + u8)), .ref (a 0)]) ⟨hx, hb, hml, hown, hw⟩ (c_cell l b L xs hL H.size (2 + ((n1 : Nat) : Int)) (by omega)) (va_cwS 2 hw (gA_S kw_59 kw_60 kw_61 kw_62) rfl rfl rfl (by decide +kernel) ⟨Nat.le_of_ble_eq_true rfl, Nat.le_of_ble_eq_true rfl⟩) (pX_s hXH hbH) rfl rfl hl.1 rfl (lv_room (Nat.le_of_ble_eq_true rfl)) dL_law_87 ⟨rm_c (by omega), rm_s (by omega)⟩) hS (fun q h1 h2 => ro_A h1 h2) (fun q h => ro_F hS hA q h) (fun r u t H1 locs ht hvm hw9 hB9 hz1 hk1 hS => ?_)
          have hw9 : r = m_cell L xs (2 + ((n1 : Nat) : Int)) := hw9
          subst hw9
          have hP := ro_P hP hk1
          generalize H1 = H at hP hS ⊢
          refine lv_iconst (v := iI 3) hx hb dL_law_90 (by decide) ?_
          refine lv_ishr hx hb dL_law_91 ?_
          refine lv_bipush (v := iI 10) hx hb dL_law_92 (by decide) ?_
          refine va_calli (va_runS (As := [.int ((m_cell L xs (2 + ((n1 : Nat) : Int))) >>> (iI 3 &&& 31)), .int (iI 10)]) (rest := [.int (iI (40 + u8)), .ref (a 0)]) ⟨hx, hb, hml, hown, hw⟩ (c_below l D a cH cB cJ cI ha gq1 vq1 H.size ((m_cell L xs (2 + ((n1 : Nat) : Int))) >>> (iI 3 &&& 31)) 10 (by omega)) (va_cwS 2 hw (gA_S kw_64 kw_65 kw_61 kw_66) rfl rfl rfl (by decide +kernel) ⟨Nat.le_of_ble_eq_true rfl, Nat.le_of_ble_eq_true rfl⟩) (pS_s hP hK hE) rfl rfl hl.1 rfl (lv_room (Nat.le_of_ble_eq_true rfl)) dL_law_94 ⟨rm_c (by omega), rm_s (by omega)⟩) hS (fun q h1 h2 => ro_A h1 h2) (fun q h => ro_F hS hA q h) (fun r u t H1 locs ht hvm hw9 hB9 hz1 hk1 hS => ?_)
          have hw9 : r = (iI (m_bel ((m_cell L xs (2 + ((n1 : Nat) : Int))) >>> (iI 3 &&& 31)) 10)) := hw9
          subst hw9
          have hP := ro_P hP hk1
          generalize H1 = H at hP hS ⊢
          have s11 := bel_b ((m_cell L xs (2 + ((n1 : Nat) : Int))) >>> (iI 3 &&& 31)) (n := 10) (by omega)
          obtain ⟨u10, hu10⟩ : ∃ z, z = (m_bel ((m_cell L xs (2 + ((n1 : Nat) : Int))) >>> (iI 3 &&& 31)) 10) := ⟨_, rfl⟩
          have hbu10 : 0 ≤ u10 ∧ u10 < 10 := by rw [hu10]; exact bel_b _ (by omega)
          rw [show (m_bel ((m_cell L xs (2 + ((n1 : Nat) : Int))) >>> (iI 3 &&& 31)) 10) = u10 from hu10.symm]
          refine lv_aload_n hx hb dL_law_97 rfl (lv_at hl 4 rfl) ?_
          refine lv_iconst (v := iI 2) hx hb dL_law_98 (by decide) ?_
          refine lv_iload hx hb dL_law_99 (lv_at hl 0 rfl) ?_
          refine n_add hx hb dL_law_101 ?_
          have hbH : b < H.size := Nat.lt_of_lt_of_le hbl hS.1
          have hXH : va_X b L xs s H := hX.kept (hS.2.1 b hbl (Nat.not_le.mpr hbl))
          refine va_calli (va_runS (As := [.ref b, .int (iI (2 + ((n1 : Nat) : Int)))]) (rest := [.int (iI u10), .int (iI (40 + u8)), .ref (a 0)]) ⟨hx, hb, hml, hown, hw⟩ (c_cell l b L xs hL H.size (2 + ((n1 : Nat) : Int)) (by omega)) (va_cwS 2 hw (gA_S kw_59 kw_60 kw_61 kw_62) rfl rfl rfl (by decide +kernel) ⟨Nat.le_of_ble_eq_true rfl, Nat.le_of_ble_eq_true rfl⟩) (pX_s hXH hbH) rfl rfl hl.1 rfl (lv_room (Nat.le_of_ble_eq_true rfl)) dL_law_102 ⟨rm_c (by omega), rm_s (by omega)⟩) hS (fun q h1 h2 => ro_A h1 h2) (fun q h => ro_F hS hA q h) (fun r u t H1 locs ht hvm hw9 hB9 hz1 hk1 hS => ?_)
          have hw9 : r = m_cell L xs (2 + ((n1 : Nat) : Int)) := hw9
          subst hw9
          have hP := ro_P hP hk1
          generalize H1 = H at hP hS ⊢
          refine lv_iconst (v := iI 5) hx hb dL_law_105 (by decide) ?_
          refine lv_ishr hx hb dL_law_106 ?_
          refine lv_bipush (v := iI 21) hx hb dL_law_107 (by decide) ?_
          refine va_calli (va_runS (As := [.int ((m_cell L xs (2 + ((n1 : Nat) : Int))) >>> (iI 5 &&& 31)), .int (iI 21)]) (rest := [.int (iI u10), .int (iI (40 + u8)), .ref (a 0)]) ⟨hx, hb, hml, hown, hw⟩ (c_below l D a cH cB cJ cI ha gq1 vq1 H.size ((m_cell L xs (2 + ((n1 : Nat) : Int))) >>> (iI 5 &&& 31)) 21 (by omega)) (va_cwS 2 hw (gA_S kw_64 kw_65 kw_61 kw_66) rfl rfl rfl (by decide +kernel) ⟨Nat.le_of_ble_eq_true rfl, Nat.le_of_ble_eq_true rfl⟩) (pS_s hP hK hE) rfl rfl hl.1 rfl (lv_room (Nat.le_of_ble_eq_true rfl)) dL_law_109 ⟨rm_c (by omega), rm_s (by omega)⟩) hS (fun q h1 h2 => ro_A h1 h2) (fun q h => ro_F hS hA q h) (fun r u t H1 locs ht hvm hw9 hB9 hz1 hk1 hS => ?_)
          have hw9 : r = (iI (m_bel ((m_cell L xs (2 + ((n1 : Nat) : Int))) >>> (iI 5 &&& 31)) 21)) := hw9
          subst hw9
          have hP := ro_P hP hk1
          generalize H1 = H at hP hS ⊢
          have s13 := bel_b ((m_cell L xs (2 + ((n1 : Nat) : Int))) >>> (iI 5 &&& 31)) (n := 21) (by omega)
          obtain ⟨u12, hu12⟩ : ∃ z, z = (m_bel ((m_cell L xs (2 + ((n1 : Nat) : Int))) >>> (iI 5 &&& 31)) 21) := ⟨_, rfl⟩
          have hbu12 : 0 ≤ u12 ∧ u12 < 21 := by rw [hu12]; exact bel_b _ (by omega)
          rw [show (m_bel ((m_cell L xs (2 + ((n1 : Nat) : Int))) >>> (iI 5 &&& 31)) 21) = u12 from hu12.symm]
          refine lv_bipush (v := iI 10) hx hb dL_law_112 (by decide) ?_
          refine n_sub hx hb dL_law_114 ?_
          refine va_calli (va_runV (As := [.int (iI (40 + u8)), .int (iI u10), .int (iI (u12 - 10))]) (rest := []) ⟨hx, hb, hml, hown, hw⟩ (c_judge l D a cH cB cJ cI ha gq1 vq1 H.size (40 + u8) u10 (u12 - 10) hWq1 (by omega) (by omega) (by omega) (by omega) (by omega)) (cwV 3 hw (gA_V kw_75 kw_76 kw_77 kw_2 kw_78) rfl rfl rfl (by decide +kernel) ⟨Nat.le_of_ble_eq_true rfl, Nat.le_of_ble_eq_true rfl⟩) (pS_v (ci := 4) (q0 := 0) rfl pw_0 hP hK hE) rfl rfl hl.1 rfl (lv_room (Nat.le_of_ble_eq_true rfl)) dL_law_115 ⟨rm_c (by omega), rm_s (by omega)⟩) hS (fun q _ h => rw_A hS hA hB q h) (fun q h => rw_A hS hA hB q h) (fun r u t H1 locs ht hvm hw9 hB9 hz1 hk1 hS => ?_)
          have hw9 : r = (iI (gq1 0 0 5)) := hw9
          subst hw9
          obtain ⟨v14, hP1⟩ := hB9
          rw [ht] at hP1
          obtain ⟨g15, hg15⟩ : ∃ z, z = (m_judge gq1 (40 + u8) u10 (u12 - 10)) := ⟨_, rfl⟩
          rw [← hg15] at hP1
          have hP : va_P D vwCl (pw a cH cB cJ cI g15 v14) H1 := hP1
          generalize H1 = H at hP hS ⊢
          have hnx := inv_judge hivq1.1 hivq1.2 (s := 40 + u8) (t := u10) (l := u12 - 10) (by omega) (by omega) (by omega) (by omega)
          have hivg15 : Iv hh (((n1 + 1 : Nat)) : Int) 0 0 0 0 g15 := by rw [hg15]; exact hnx.1
          have hfrg15 : Fresh g15 := by rw [hg15]; exact hnx.2
          have hWg15 : Wf g15 := hivg15.1
          refine lv_iload hx hb dL_law_118 (lv_at hl 0 rfl) ?_
          refine n_icmp_eq hx hb (by unfold RI; omega) (by unfold RI; omega) (tgt := 125) dL_law_120 (by decide) (fun h16 => ?_) (fun h16 => absurd h16 (by intro h16; omega))
          refine n_inc (lv' := [(4, .int (iI (((n1 : Nat) : Int) + 1))), (3, .int (iI jj)), (2, .int (iI hh)), (1, .ref (a 0)), (0, .ref b)]) hx hb dL_law_125 hl (k := 0) rfl (by decide) rfl (fun ls hl => ?_)
          refine lv_goto (tgt := 58) hx hb dL_law_128 (by decide) ?_
          have hl : lv_has ls 23 [(4, .int (iI (((n1 : Nat) : Int) + 1))), (3, .int (iI jj)), (2, .int (iI hh)), (1, .ref (a 0)), (0, .ref b)] := lv_sub hl [0, 1, 2, 3, 4] rfl
          have e17 : (((n1 : Nat) : Int) + 1) = (((n1 + 1) : Nat) : Int) := by rfl
          have hl : lv_has ls 23 [(4, .int (iI (((n1 + 1) : Nat) : Int))), (3, .int (iI jj)), (2, .int (iI hh)), (1, .ref (a 0)), (0, .ref b)] := lv_cast hl (by rw [e17])
          exact ih58 (n1 + 1) g15 v14 H locs ls (by omega) (by exact ⟨hivg15, hfrg15⟩) hP hS hl
      have hl : lv_has ls 23 [(4, .int (iI 0)), (3, .int (iI jj)), (2, .int (iI hh)), (1, .ref (a 0)), (0, .ref b)] := lv_sub hl [0, 1, 2, 3, 4] rfl
      have hl : lv_has ls 23 [(4, .int (iI ((0 : Nat) : Int))), (3, .int (iI jj)), (2, .int (iI hh)), (1, .ref (a 0)), (0, .ref b)] := hl
      exact loop58 jj.toNat 0 gq vq H locs ls (by omega) ⟨hivh, hivq.2⟩ hP hS hl
    | succ d ih22 =>
      intro n gq vq H locs ls hn hivq hP hS hl
      have hWq := hivq.1.1
      have hg3 := hivq.1.2.2.2.1.1
      refine lv_iload_n hx hb dL_law_22 rfl (lv_at hl 0 rfl) ?_
      refine lv_iload_n hx hb dL_law_23 rfl (lv_at hl 1 rfl) ?_
      refine n_icmp_ge hx hb (by unfold RI; omega) (by unfold RI; omega) (tgt := 43) dL_law_24 (by decide) (fun h18 => absurd h18 (by intro h18; omega)) (fun h18 => ?_)
      refine lv_aload_n hx hb dL_law_27 rfl (lv_at hl 2 rfl) ?_
      refine va_calli (va_runV (As := []) (rest := []) ⟨hx, hb, hml, hown, hw⟩ (c_house l D a cH cB cJ cI ha gq vq H.size  hWq (by omega)) (cwV 0 hw (gA_V kw_68 kw_69 kw_70 kw_2 kw_71) rfl rfl rfl (by decide +kernel) ⟨Nat.le_of_ble_eq_true rfl, Nat.le_of_ble_eq_true rfl⟩) (pS_v (ci := 4) (q0 := 0) rfl pw_0 hP hK hE) rfl rfl hl.1 rfl (lv_room (Nat.le_of_ble_eq_true rfl)) dL_law_28 ⟨rm_c (by omega), rm_s (by omega)⟩) hS (fun q _ h => rw_A hS hA hB q h) (fun q h => rw_A hS hA hB q h) (fun r u t H1 locs ht hvm hw9 hB9 hz1 hk1 hS => ?_)
      have hw9 : r = (iI (gq 0 0 3)) := hw9
      subst hw9
      obtain ⟨v19, hP1⟩ := hB9
      rw [ht] at hP1
      obtain ⟨g20, hg20⟩ : ∃ z, z = (m_up gq 0 0 3 (gq 0 0 3 + 1)) := ⟨_, rfl⟩
      rw [← hg20] at hP1
      have hP : va_P D vwCl (pw a cH cB cJ cI g20 v19) H1 := hP1
      generalize H1 = H at hP hS ⊢
      have hnx := inv_house hivq.1 hivq.2 (by omega)
      have hivg20 : Iv (((n + 1 : Nat)) : Int) 0 0 0 0 0 g20 := by rw [hg20]; exact hnx.1
      have hfrg20 : Fresh g20 := by rw [hg20]; exact hnx.2
      have hWg20 : Wf g20 := hivg20.1
      refine lv_iload_n hx hb dL_law_31 rfl (lv_at hl 0 rfl) ?_
      refine n_icmp_eq hx hb (by unfold RI; omega) (by unfold RI; omega) (tgt := 37) dL_law_32 (by decide) (fun h21 => ?_) (fun h21 => absurd h21 (by intro h21; omega))
      refine n_inc (lv' := [(3, .int (iI (((n : Nat) : Int) + 1))), (2, .int (iI hh)), (1, .ref (a 0)), (0, .ref b)]) hx hb dL_law_37 hl (k := 0) rfl (by decide) rfl (fun ls hl => ?_)
      refine lv_goto (tgt := 22) hx hb dL_law_40 (by decide) ?_
      have hl : lv_has ls 23 [(3, .int (iI (((n : Nat) : Int) + 1))), (2, .int (iI hh)), (1, .ref (a 0)), (0, .ref b)] := lv_sub hl [0, 1, 2, 3] rfl
      have e22 : (((n : Nat) : Int) + 1) = (((n + 1) : Nat) : Int) := by rfl
      have hl : lv_has ls 23 [(3, .int (iI (((n + 1) : Nat) : Int))), (2, .int (iI hh)), (1, .ref (a 0)), (0, .ref b)] := lv_cast hl (by rw [e22])
      exact ih22 (n + 1) g20 v19 H locs ls (by omega) (by exact ⟨hivg20, hfrg20⟩) hP hS hl
  have hl : lv_has ls 23 [(3, .int (iI 0)), (2, .int (iI hh)), (1, .ref (a 0)), (0, .ref b)] := lv_sub hl [0, 1, 2, 3] rfl
  have hl : lv_has ls 23 [(3, .int (iI ((0 : Nat) : Int))), (2, .int (iI hh)), (1, .ref (a 0)), (0, .ref b)] := hl
  exact loop22 hh.toNat 0 g vt H locs ls (by omega) ⟨hIv, hF⟩ hP hS hl

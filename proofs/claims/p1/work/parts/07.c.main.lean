set_option maxHeartbeats 16000000 in
set_option maxRecDepth 100000 in
theorem law_main {p : Program} {l : Launch} {e : Env} {s : State} {m : MethodId} {args : Array Value} {below : List Frame} {meth : Method} {c : Code} {Q : State → Prop} {b L : Nat} {xs : Nat → Int32} {D : va_G} {eT : Nat} (hL : L ≤ 7) (hl0 : l.stackTraces = false) (hx : p.tables.exec = Jvm.exec) (hb : c.code = cL_law) (hml : c.maxLocals = 9) (hown : s.vm.findClass RL = some m.cls) (hts : ∀ w ∈ wsL_law, w.before args s = true) (hX : va_X b L xs s s.heap) (hbl : b < s.heap.size) (hE : ev eT (fun q : Nat => s.heap.size ≤ q) s s.heap) (hK : va_K D vwCl [] s) {ls : Array Slot} (hl : lv_has ls 9 [(0, .ref b)]) (kx : ∀ (H : Heap) (locs : List Loc) (ls : Array Slot), va_S (fun q : Nat => s.heap.size ≤ q) s.heap H locs → W p l e room_1 s m args below meth c H locs 2000 20000 Q (F0 m 1842 ls [.int 1])) : W p l e room_1 s m args below meth c s.heap [] 0 0 Q (F0 m 0 ls []) := by
  have hA : ∀ q : Nat, s.heap.size ≤ q → (fun q : Nat => s.heap.size ≤ q) q := fun _ h => h
  have hbA : ¬ (fun q : Nat => s.heap.size ≤ q) b := Nat.not_le.mpr hbl
  have hS : va_S (fun q : Nat => s.heap.size ≤ q) s.heap s.heap [] := va_S.rf
  have hP : va_P D vwCl [] s.heap := fun k q h => by simp at h
  have hD : va_D (fun q : Nat => s.heap.size ≤ q) [] := ⟨fun i j p q h => by simp at h, fun k q h => by simp at h⟩
  refine va_new (ci := 7) (fs := [.null, .null, .null, .int 0, .int 0, .int 0, .null, .null, .int 0, .int 0, .int 0, .int 0, .int 0, .int 0, .int 0, .int 0, .int 0, .int 0, .null]) (C := RX4) (T := TX4) (N := 19) hx hb hts (by decide +kernel) tyX4 tyX4_ok hown (hts (.classLink RL 8 RX4) (by decide +kernel)) (hts (.instantiable RX4 19) (by decide +kernel)) (hts (.initialized RX4) (by decide +kernel)) hK hP hD hS hA rfl (fun j hj => by rcases (show j = 0 ∨ j = 1 ∨ j = 2 ∨ j = 3 ∨ j = 4 ∨ j = 5 ∨ j = 6 ∨ j = 7 ∨ j = 8 ∨ j = 9 ∨ j = 10 ∨ j = 11 ∨ j = 12 ∨ j = 13 ∨ j = 14 ∨ j = 15 ∨ j = 16 ∨ j = 17 ∨ j = 18 by omega) with rfl | rfl | rfl | rfl | rfl | rfl | rfl | rfl | rfl | rfl | rfl | rfl | rfl | rfl | rfl | rfl | rfl | rfl | rfl <;> rfl) (Nat.le_of_ble_eq_true rfl) (Nat.le_of_ble_eq_true rfl) dL_law_0 (fun q_1 H hP hD hS => ?_)
  have hP : va_P D vwCl [(q_1, .inr (7, [.null, .null, .null, .int 0, .int 0, .int 0, .null, .null, .int 0, .int 0, .int 0, .int 0, .int 0, .int 0, .int 0, .int 0, .int 0, .int 0, .null]))] H := hP
  have hD : va_D (fun q : Nat => s.heap.size ≤ q) [(q_1, .inr (7, [.null, .null, .null, .int 0, .int 0, .int 0, .null, .null, .int 0, .int 0, .int 0, .int 0, .int 0, .int 0, .int 0, .int 0, .int 0, .int 0, .null]))] := hD
  refine W.widen (k := 1) (n := 19) (Nat.le_of_ble_eq_true rfl) (Nat.le_of_ble_eq_true rfl) ?_
  refine lv_dup hx hb dL_law_3 rfl ?_
  have hPc := hP.sub (ws' := [(q_1, .inr (7, [.null, .null, .null, .int 0, .int 0, .int 0, .null, .null, .int 0, .int 0, .int 0, .int 0, .int 0, .int 0, .int 0, .int 0, .int 0, .int 0, .null]))]) [0] rfl
  have hKc := hK.sub (tys' := []) [] rfl
  have hDc := hD.sub (ws' := [(q_1, .inr (7, [.null, .null, .null, .int 0, .int 0, .int 0, .null, .null, .int 0, .int 0, .int 0, .int 0, .int 0, .int 0, .int 0, .int 0, .int 0, .int 0, .null]))]) [0] (by decide) rfl
  have hFc := va_free (wc := [(q_1, .inr (7, [.null, .null, .null, .int 0, .int 0, .int 0, .null, .null, .int 0, .int 0, .int 0, .int 0, .int 0, .int 0, .int 0, .int 0, .int 0, .int 0, .null]))]) hD hS hA [0] rfl
  refine va_callv (va_runI (As := []) (rest := [.ref q_1]) ⟨hx, hb, hml, hown, hts⟩ (n_PrizeHouse l D eT q_1 H.size ) (cwI 0 hts gL_law_X4_init rfl rfl rfl (hts (.initialized RX4) (by decide +kernel)) (hts (.methodLink RL 96 yX4_init) (by decide +kernel)) (hts (.instanceMethod yX4_init) (by decide +kernel)) rfl (by decide +kernel) ⟨Nat.le_of_ble_eq_true rfl, Nat.le_of_ble_eq_true rfl⟩) (pc_s (As := [.ref q_1]) hPc hDc hKc hE hS hFc) rfl rfl hl.1 rfl (lv_room (Nat.le_of_ble_eq_true rfl)) dL_law_4 ⟨Nat.le_of_ble_eq_true rfl, Nat.le_of_ble_eq_true rfl⟩) hS (fun q _ h => hFc q h) hFc (fun u t H1 locs ht hvm hw hB hz1 hk1 hS => ?_)
  obtain ⟨aH_2, aB_3, aJ_4, rN_5, rX_6, aV_7, j0_8, c1_9, c2_10, c3_11, c4_12, c5_13, cJ_14, fJ_15, hP1, hK1, hD1, hf_16⟩ := hB
  rw [ht] at hP1
  have hK1 := va_K.moved hvm.symm hK1
  obtain ⟨hP, hD⟩ := va_join (wr := []) (w1 := [(q_1, .inr (7, [.ref aH_2, .ref aB_3, .ref aJ_4, .int 0, .int 0, .int 0, .ref rN_5, .ref rX_6, .int 0, .int 0, .int 0, .int 0, .int 0, .int 0, .int (-1), .int (-1), .int 0, .int 0, .ref aV_7])), (aJ_4, .inl (cJ_14, 5, .inr (.inr (.inr (.inr fJ_15))))), (j0_8, .inr (5, [.int 0, .int 0, .int 0, .int 0, .int 0, .ref c1_9, .ref c2_10, .int 0, .int 0, .int 0, .int 0, .ref c3_11, .int 0, .ref c4_12, .ref c5_13, .int 0])), (rN_5, .inr (6, [.int 7, .int 100, .int 800, .int 10])), (rX_6, .inr (6, [.int 7, .int 100, .int 800, .int 10]))]) hP hD [0] [] rfl rfl (by decide) (by decide) hk1 hFc hP1 hD1
  have hK := hK.app (hK1.sub (tys' := [(cJ_14, .object RX2)]) [0] rfl)
  generalize H1 = H at hP hS ⊢
  have hP : va_P D vwCl [(q_1, .inr (7, [.ref aH_2, .ref aB_3, .ref aJ_4, .int 0, .int 0, .int 0, .ref rN_5, .ref rX_6, .int 0, .int 0, .int 0, .int 0, .int 0, .int 0, .int (-1), .int (-1), .int 0, .int 0, .ref aV_7])), (aJ_4, .inl (cJ_14, 5, .inr (.inr (.inr (.inr fJ_15))))), (j0_8, .inr (5, [.int 0, .int 0, .int 0, .int 0, .int 0, .ref c1_9, .ref c2_10, .int 0, .int 0, .int 0, .int 0, .ref c3_11, .int 0, .ref c4_12, .ref c5_13, .int 0])), (rN_5, .inr (6, [.int 7, .int 100, .int 800, .int 10])), (rX_6, .inr (6, [.int 7, .int 100, .int 800, .int 10]))] H := hP
  have hD : va_D (fun q : Nat => s.heap.size ≤ q) [(q_1, .inr (7, [.ref aH_2, .ref aB_3, .ref aJ_4, .int 0, .int 0, .int 0, .ref rN_5, .ref rX_6, .int 0, .int 0, .int 0, .int 0, .int 0, .int 0, .int (-1), .int (-1), .int 0, .int 0, .ref aV_7])), (aJ_4, .inl (cJ_14, 5, .inr (.inr (.inr (.inr fJ_15))))), (j0_8, .inr (5, [.int 0, .int 0, .int 0, .int 0, .int 0, .ref c1_9, .ref c2_10, .int 0, .int 0, .int 0, .int 0, .ref c3_11, .int 0, .ref c4_12, .ref c5_13, .int 0])), (rN_5, .inr (6, [.int 7, .int 100, .int 800, .int 10])), (rX_6, .inr (6, [.int 7, .int 100, .int 800, .int 10]))] := hD
  have hK : va_K D vwCl [(cJ_14, .object RX2)] s := hK
  refine W.widen (k := 58) (n := 680) (Nat.le_of_ble_eq_true rfl) (Nat.le_of_ble_eq_true rfl) ?_
  refine lv_astore_n (lv' := [(1, .ref q_1), (0, .ref b)]) hx hb dL_law_7 rfl hl (by decide) rfl (fun ls hl => ?_)
  refine va_new (ci := 8) (fs := [.int 0, .null, .null, .null, .null, .null, .int 0, .int 0, .int 0, .null, .null, .null, .int 0, .int 0, .int 0, .int 0, .int 0, .int 0, .int 0, .long 0]) (C := RX5) (T := TX5) (N := 20) hx hb hts (by decide +kernel) tyX5 tyX5_ok hown (hts (.classLink RL 97 RX5) (by decide +kernel)) (hts (.instantiable RX5 20) (by decide +kernel)) (hts (.initialized RX5) (by decide +kernel)) hK hP hD hS hA rfl (fun j hj => by rcases (show j = 0 ∨ j = 1 ∨ j = 2 ∨ j = 3 ∨ j = 4 ∨ j = 5 ∨ j = 6 ∨ j = 7 ∨ j = 8 ∨ j = 9 ∨ j = 10 ∨ j = 11 ∨ j = 12 ∨ j = 13 ∨ j = 14 ∨ j = 15 ∨ j = 16 ∨ j = 17 ∨ j = 18 ∨ j = 19 by omega) with rfl | rfl | rfl | rfl | rfl | rfl | rfl | rfl | rfl | rfl | rfl | rfl | rfl | rfl | rfl | rfl | rfl | rfl | rfl | rfl <;> rfl) (Nat.le_of_ble_eq_true rfl) (Nat.le_of_ble_eq_true rfl) dL_law_8 (fun q_17 H hP hD hS => ?_)
  have hP : va_P D vwCl [(q_1, .inr (7, [.ref aH_2, .ref aB_3, .ref aJ_4, .int 0, .int 0, .int 0, .ref rN_5, .ref rX_6, .int 0, .int 0, .int 0, .int 0, .int 0, .int 0, .int (-1), .int (-1), .int 0, .int 0, .ref aV_7])), (aJ_4, .inl (cJ_14, 5, .inr (.inr (.inr (.inr fJ_15))))), (j0_8, .inr (5, [.int 0, .int 0, .int 0, .int 0, .int 0, .ref c1_9, .ref c2_10, .int 0, .int 0, .int 0, .int 0, .ref c3_11, .int 0, .ref c4_12, .ref c5_13, .int 0])), (rN_5, .inr (6, [.int 7, .int 100, .int 800, .int 10])), (rX_6, .inr (6, [.int 7, .int 100, .int 800, .int 10])), (q_17, .inr (8, [.int 0, .null, .null, .null, .null, .null, .int 0, .int 0, .int 0, .null, .null, .null, .int 0, .int 0, .int 0, .int 0, .int 0, .int 0, .int 0, .long 0]))] H := hP
  have hD : va_D (fun q : Nat => s.heap.size ≤ q) [(q_1, .inr (7, [.ref aH_2, .ref aB_3, .ref aJ_4, .int 0, .int 0, .int 0, .ref rN_5, .ref rX_6, .int 0, .int 0, .int 0, .int 0, .int 0, .int 0, .int (-1), .int (-1), .int 0, .int 0, .ref aV_7])), (aJ_4, .inl (cJ_14, 5, .inr (.inr (.inr (.inr fJ_15))))), (j0_8, .inr (5, [.int 0, .int 0, .int 0, .int 0, .int 0, .ref c1_9, .ref c2_10, .int 0, .int 0, .int 0, .int 0, .ref c3_11, .int 0, .ref c4_12, .ref c5_13, .int 0])), (rN_5, .inr (6, [.int 7, .int 100, .int 800, .int 10])), (rX_6, .inr (6, [.int 7, .int 100, .int 800, .int 10])), (q_17, .inr (8, [.int 0, .null, .null, .null, .null, .null, .int 0, .int 0, .int 0, .null, .null, .null, .int 0, .int 0, .int 0, .int 0, .int 0, .int 0, .int 0, .long 0]))] := hD
  refine W.widen (k := 59) (n := 700) (Nat.le_of_ble_eq_true rfl) (Nat.le_of_ble_eq_true rfl) ?_
  refine lv_dup hx hb dL_law_11 rfl ?_
  have hPc := hP.sub (ws' := [(q_17, .inr (8, [.int 0, .null, .null, .null, .null, .null, .int 0, .int 0, .int 0, .null, .null, .null, .int 0, .int 0, .int 0, .int 0, .int 0, .int 0, .int 0, .long 0]))]) [5] rfl
  have hKc := hK.sub (tys' := []) [] rfl
  have hDc := hD.sub (ws' := [(q_17, .inr (8, [.int 0, .null, .null, .null, .null, .null, .int 0, .int 0, .int 0, .null, .null, .null, .int 0, .int 0, .int 0, .int 0, .int 0, .int 0, .int 0, .long 0]))]) [5] (by decide) rfl
  have hFc := va_free (wc := [(q_17, .inr (8, [.int 0, .null, .null, .null, .null, .null, .int 0, .int 0, .int 0, .null, .null, .null, .int 0, .int 0, .int 0, .int 0, .int 0, .int 0, .int 0, .long 0]))]) hD hS hA [5] rfl
  refine va_callv (va_runI (As := []) (rest := [.ref q_17]) ⟨hx, hb, hml, hown, hts⟩ (n_Model l D eT q_17 H.size ) (cwI 0 hts gL_law_X5_init rfl rfl rfl (hts (.initialized RX5) (by decide +kernel)) (hts (.methodLink RL 99 yX5_init) (by decide +kernel)) (hts (.instanceMethod yX5_init) (by decide +kernel)) rfl (by decide +kernel) ⟨Nat.le_of_ble_eq_true rfl, Nat.le_of_ble_eq_true rfl⟩) (pc_s (As := [.ref q_17]) hPc hDc hKc hE hS hFc) rfl rfl hl.1 rfl (lv_room (Nat.le_of_ble_eq_true rfl)) dL_law_12 ⟨Nat.le_of_ble_eq_true rfl, Nat.le_of_ble_eq_true rfl⟩) hS (fun q _ h => hFc q h) hFc (fun u t H1 locs ht hvm hw hB hz1 hk1 hS => ?_)
  obtain ⟨lH_18, lB_19, lJ_20, lC_21, aR_22, aL_23, aM_24, aP_25, m0_26, m1_27, m2_28, m3_29, m4_30, cI_31, cL_32, cM_33, cR_34, fR_35, fL_36, gM_37, u0_38, u1_39, u2_40, u3_41, u4_42, hP1, hK1, hD1, hf_43, hf_44, hf_45, hf_46, hf_47, hf_48, hf_49, hf_50, hf_51, hf_52, hf_53⟩ := hB
  rw [ht] at hP1
  have hK1 := va_K.moved hvm.symm hK1
  obtain ⟨hP, hD⟩ := va_join (wr := [(q_1, .inr (7, [.ref aH_2, .ref aB_3, .ref aJ_4, .int 0, .int 0, .int 0, .ref rN_5, .ref rX_6, .int 0, .int 0, .int 0, .int 0, .int 0, .int 0, .int (-1), .int (-1), .int 0, .int 0, .ref aV_7])), (aJ_4, .inl (cJ_14, 5, .inr (.inr (.inr (.inr fJ_15))))), (j0_8, .inr (5, [.int 0, .int 0, .int 0, .int 0, .int 0, .ref c1_9, .ref c2_10, .int 0, .int 0, .int 0, .int 0, .ref c3_11, .int 0, .ref c4_12, .ref c5_13, .int 0])), (rN_5, .inr (6, [.int 7, .int 100, .int 800, .int 10])), (rX_6, .inr (6, [.int 7, .int 100, .int 800, .int 10]))]) (w1 := [(q_17, .inr (8, [.int 0, .ref lH_18, .ref lB_19, .ref lJ_20, .ref aR_22, .ref aL_23, .int 0, .int 0, .int 0, .ref lC_21, .ref aM_24, .ref aP_25, .int 0, .int 0, .int 0, .int (-1), .int (-1), .int 0, .int 0, .long 0])), (lH_18, .inr (2, [.int 0, .ref eT, .int 0])), (lB_19, .inr (2, [.int 0, .ref eT, .int 0])), (lJ_20, .inr (2, [.int 0, .ref eT, .int 0])), (lC_21, .inr (2, [.int 0, .ref eT, .int 0])), (aR_22, .inl (cI_31, 4, .inl fR_35)), (aL_23, .inl (cL_32, 4, .inl fL_36)), (aM_24, .inl (cM_33, 5, .inr (.inr (.inr (.inr gM_37))))), (m0_26, .inl (cR_34, 16, .inl u0_38)), (m1_27, .inl (cR_34, 16, .inl u1_39)), (m2_28, .inl (cR_34, 16, .inl u2_40)), (m3_29, .inl (cR_34, 16, .inl u3_41)), (m4_30, .inl (cR_34, 16, .inl u4_42))]) hP hD [5] [0, 1, 2, 3, 4] rfl rfl (by decide) (by decide) hk1 hFc hP1 hD1
  have hK := hK.app (hK1.sub (tys' := [(cI_31, .int), (cL_32, .int), (cM_33, .array .int), (cR_34, .int)]) [0, 1, 2, 3] rfl)
  generalize H1 = H at hP hS ⊢
  have hP : va_P D vwCl [(q_1, .inr (7, [.ref aH_2, .ref aB_3, .ref aJ_4, .int 0, .int 0, .int 0, .ref rN_5, .ref rX_6, .int 0, .int 0, .int 0, .int 0, .int 0, .int 0, .int (-1), .int (-1), .int 0, .int 0, .ref aV_7])), (aJ_4, .inl (cJ_14, 5, .inr (.inr (.inr (.inr fJ_15))))), (j0_8, .inr (5, [.int 0, .int 0, .int 0, .int 0, .int 0, .ref c1_9, .ref c2_10, .int 0, .int 0, .int 0, .int 0, .ref c3_11, .int 0, .ref c4_12, .ref c5_13, .int 0])), (rN_5, .inr (6, [.int 7, .int 100, .int 800, .int 10])), (rX_6, .inr (6, [.int 7, .int 100, .int 800, .int 10])), (q_17, .inr (8, [.int 0, .ref lH_18, .ref lB_19, .ref lJ_20, .ref aR_22, .ref aL_23, .int 0, .int 0, .int 0, .ref lC_21, .ref aM_24, .ref aP_25, .int 0, .int 0, .int 0, .int (-1), .int (-1), .int 0, .int 0, .long 0])), (lH_18, .inr (2, [.int 0, .ref eT, .int 0])), (lB_19, .inr (2, [.int 0, .ref eT, .int 0])), (lJ_20, .inr (2, [.int 0, .ref eT, .int 0])), (lC_21, .inr (2, [.int 0, .ref eT, .int 0])), (aR_22, .inl (cI_31, 4, .inl fR_35)), (aL_23, .inl (cL_32, 4, .inl fL_36)), (aM_24, .inl (cM_33, 5, .inr (.inr (.inr (.inr gM_37))))), (m0_26, .inl (cR_34, 16, .inl u0_38)), (m1_27, .inl (cR_34, 16, .inl u1_39)), (m2_28, .inl (cR_34, 16, .inl u2_40)), (m3_29, .inl (cR_34, 16, .inl u3_41)), (m4_30, .inl (cR_34, 16, .inl u4_42))] H := hP
  have hD : va_D (fun q : Nat => s.heap.size ≤ q) [(q_1, .inr (7, [.ref aH_2, .ref aB_3, .ref aJ_4, .int 0, .int 0, .int 0, .ref rN_5, .ref rX_6, .int 0, .int 0, .int 0, .int 0, .int 0, .int 0, .int (-1), .int (-1), .int 0, .int 0, .ref aV_7])), (aJ_4, .inl (cJ_14, 5, .inr (.inr (.inr (.inr fJ_15))))), (j0_8, .inr (5, [.int 0, .int 0, .int 0, .int 0, .int 0, .ref c1_9, .ref c2_10, .int 0, .int 0, .int 0, .int 0, .ref c3_11, .int 0, .ref c4_12, .ref c5_13, .int 0])), (rN_5, .inr (6, [.int 7, .int 100, .int 800, .int 10])), (rX_6, .inr (6, [.int 7, .int 100, .int 800, .int 10])), (q_17, .inr (8, [.int 0, .ref lH_18, .ref lB_19, .ref lJ_20, .ref aR_22, .ref aL_23, .int 0, .int 0, .int 0, .ref lC_21, .ref aM_24, .ref aP_25, .int 0, .int 0, .int 0, .int (-1), .int (-1), .int 0, .int 0, .long 0])), (lH_18, .inr (2, [.int 0, .ref eT, .int 0])), (lB_19, .inr (2, [.int 0, .ref eT, .int 0])), (lJ_20, .inr (2, [.int 0, .ref eT, .int 0])), (lC_21, .inr (2, [.int 0, .ref eT, .int 0])), (aR_22, .inl (cI_31, 4, .inl fR_35)), (aL_23, .inl (cL_32, 4, .inl fL_36)), (aM_24, .inl (cM_33, 5, .inr (.inr (.inr (.inr gM_37))))), (m0_26, .inl (cR_34, 16, .inl u0_38)), (m1_27, .inl (cR_34, 16, .inl u1_39)), (m2_28, .inl (cR_34, 16, .inl u2_40)), (m3_29, .inl (cR_34, 16, .inl u3_41)), (m4_30, .inl (cR_34, 16, .inl u4_42))] := hD
  have hK : va_K D vwCl [(cJ_14, .object RX2), (cI_31, .int), (cL_32, .int), (cM_33, .array .int), (cR_34, .int)] s := hK
  refine W.widen (k := 80) (n := 902) (Nat.le_of_ble_eq_true rfl) (Nat.le_of_ble_eq_true rfl) ?_
  refine lv_astore_n (lv' := [(2, .ref q_17), (1, .ref q_1), (0, .ref b)]) hx hb dL_law_15 rfl hl (by decide) rfl (fun ls hl => ?_)
  refine lv_iconst (v := 1) hx hb dL_law_16 (by decide) ?_
  refine va_newa (atype := .long) (ty := .long) (N' := 1) (a0 := (1, (.inr (.inl (fun _ => 0))))) hx hb (hts (.arrayClass .long) (by decide +kernel)) rfl hK hP hD hS hA (fun _ => rfl) (by decide) (by decide) (Nat.le_of_ble_eq_true rfl) (Nat.le_of_ble_eq_true rfl) (Nat.le_of_ble_eq_true rfl) dL_law_17 (fun q_54 cA_55 H hK hP hD hS => ?_)
  have hK : va_K D vwCl [(cJ_14, .object RX2), (cI_31, .int), (cL_32, .int), (cM_33, .array .int), (cR_34, .int), (cA_55, .long)] s := hK
  have hP : va_P D vwCl [(q_1, .inr (7, [.ref aH_2, .ref aB_3, .ref aJ_4, .int 0, .int 0, .int 0, .ref rN_5, .ref rX_6, .int 0, .int 0, .int 0, .int 0, .int 0, .int 0, .int (-1), .int (-1), .int 0, .int 0, .ref aV_7])), (aJ_4, .inl (cJ_14, 5, .inr (.inr (.inr (.inr fJ_15))))), (j0_8, .inr (5, [.int 0, .int 0, .int 0, .int 0, .int 0, .ref c1_9, .ref c2_10, .int 0, .int 0, .int 0, .int 0, .ref c3_11, .int 0, .ref c4_12, .ref c5_13, .int 0])), (rN_5, .inr (6, [.int 7, .int 100, .int 800, .int 10])), (rX_6, .inr (6, [.int 7, .int 100, .int 800, .int 10])), (q_17, .inr (8, [.int 0, .ref lH_18, .ref lB_19, .ref lJ_20, .ref aR_22, .ref aL_23, .int 0, .int 0, .int 0, .ref lC_21, .ref aM_24, .ref aP_25, .int 0, .int 0, .int 0, .int (-1), .int (-1), .int 0, .int 0, .long 0])), (lH_18, .inr (2, [.int 0, .ref eT, .int 0])), (lB_19, .inr (2, [.int 0, .ref eT, .int 0])), (lJ_20, .inr (2, [.int 0, .ref eT, .int 0])), (lC_21, .inr (2, [.int 0, .ref eT, .int 0])), (aR_22, .inl (cI_31, 4, .inl fR_35)), (aL_23, .inl (cL_32, 4, .inl fL_36)), (aM_24, .inl (cM_33, 5, .inr (.inr (.inr (.inr gM_37))))), (m0_26, .inl (cR_34, 16, .inl u0_38)), (m1_27, .inl (cR_34, 16, .inl u1_39)), (m2_28, .inl (cR_34, 16, .inl u2_40)), (m3_29, .inl (cR_34, 16, .inl u3_41)), (m4_30, .inl (cR_34, 16, .inl u4_42)), (q_54, .inl (cA_55, 1, .inr (.inl (fun _ => 0))))] H := hP
  have hD : va_D (fun q : Nat => s.heap.size ≤ q) [(q_1, .inr (7, [.ref aH_2, .ref aB_3, .ref aJ_4, .int 0, .int 0, .int 0, .ref rN_5, .ref rX_6, .int 0, .int 0, .int 0, .int 0, .int 0, .int 0, .int (-1), .int (-1), .int 0, .int 0, .ref aV_7])), (aJ_4, .inl (cJ_14, 5, .inr (.inr (.inr (.inr fJ_15))))), (j0_8, .inr (5, [.int 0, .int 0, .int 0, .int 0, .int 0, .ref c1_9, .ref c2_10, .int 0, .int 0, .int 0, .int 0, .ref c3_11, .int 0, .ref c4_12, .ref c5_13, .int 0])), (rN_5, .inr (6, [.int 7, .int 100, .int 800, .int 10])), (rX_6, .inr (6, [.int 7, .int 100, .int 800, .int 10])), (q_17, .inr (8, [.int 0, .ref lH_18, .ref lB_19, .ref lJ_20, .ref aR_22, .ref aL_23, .int 0, .int 0, .int 0, .ref lC_21, .ref aM_24, .ref aP_25, .int 0, .int 0, .int 0, .int (-1), .int (-1), .int 0, .int 0, .long 0])), (lH_18, .inr (2, [.int 0, .ref eT, .int 0])), (lB_19, .inr (2, [.int 0, .ref eT, .int 0])), (lJ_20, .inr (2, [.int 0, .ref eT, .int 0])), (lC_21, .inr (2, [.int 0, .ref eT, .int 0])), (aR_22, .inl (cI_31, 4, .inl fR_35)), (aL_23, .inl (cL_32, 4, .inl fL_36)), (aM_24, .inl (cM_33, 5, .inr (.inr (.inr (.inr gM_37))))), (m0_26, .inl (cR_34, 16, .inl u0_38)), (m1_27, .inl (cR_34, 16, .inl u1_39)), (m2_28, .inl (cR_34, 16, .inl u2_40)), (m3_29, .inl (cR_34, 16, .inl u3_41)), (m4_30, .inl (cR_34, 16, .inl u4_42)), (q_54, .inl (cA_55, 1, .inr (.inl (fun _ => 0))))] := hD
  refine W.widen (k := 81) (n := 903) (Nat.le_of_ble_eq_true rfl) (Nat.le_of_ble_eq_true rfl) ?_
  refine lv_astore_n (lv' := [(3, .ref q_54), (2, .ref q_17), (1, .ref q_1), (0, .ref b)]) hx hb dL_law_19 rfl hl (by decide) rfl (fun ls hl => ?_)
  refine lv_iconst (v := 0) hx hb dL_law_20 (by decide) ?_
  refine lv_istore (lv' := [(4, .int 0), (3, .ref q_54), (2, .ref q_17), (1, .ref q_1), (0, .ref b)]) hx hb dL_law_21 hl (by decide) rfl (fun ls hl => ?_)
  have kend : ∀ (H : Heap) (locs : List Loc) (ls : Array Slot), L = 7 → va_S (fun q : Nat => s.heap.size ≤ q) s.heap H locs → lv_has ls 9 [(0, .ref b), (1, .ref q_1), (2, .ref q_17), (3, .ref q_54), (4, .int 0)] → W p l e room_1 s m args below meth c H locs 2000 20000 Q (F0 m 1835 ls []) := by
    intro H locs ls h7 hS hl
    subst h7
    refine lv_iinc (v := 7) (lv' := [(4, .int 7), (0, .ref b), (1, .ref q_1), (2, .ref q_17), (3, .ref q_54)]) hx hb dL_law_1835 hl (k := 4) rfl (by decide) (by decide) rfl (fun ls hl => ?_)
    refine lv_goto (tgt := 23) hx hb dL_law_1838 (by decide) ?_
    refine lv_iload hx hb dL_law_23 (lv_at hl 0 rfl) ?_
    refine lv_aload_n hx hb dL_law_25 rfl (lv_at hl 1 rfl) ?_
    refine va_slen hx hb hX hbl hbA hS dL_law_26 ?_
    refine lv_bipush (v := 7) hx hb dL_law_27 (by decide) ?_
    refine lv_isub hx hb dL_law_29 ?_
    refine lv_icmp_gt (tgt := 1841) hx hb dL_law_30 (by decide) (fun _ => ?_) (fun h => absurd (by decide) h)
    refine lv_iconst (v := 1) hx hb dL_law_1841 (by decide) ?_
    exact kx _ _ _ hS
  rcases Nat.lt_or_ge L 7 with h7 | h7
  · skip
    refine lv_iload hx hb dL_law_23 (lv_at hl 0 rfl) ?_
    refine lv_aload_n hx hb dL_law_25 rfl (lv_at hl 4 rfl) ?_
    refine va_slen hx hb hX hbl hbA hS dL_law_26 ?_
    refine lv_bipush (v := 7) hx hb dL_law_27 (by decide) ?_
    refine lv_isub hx hb dL_law_29 ?_
    refine lv_icmp_gt (tgt := 1841) hx hb dL_law_30 (by decide) (fun _ => ?_) (fun h => absurd (sh_len h7) h)
    refine lv_iconst (v := 1) hx hb dL_law_1841 (by decide) ?_
    refine W.widen (k := 2000) (n := 20000) (Nat.le_of_ble_eq_true rfl) (Nat.le_of_ble_eq_true rfl) ?_
    exact kx _ _ _ hS
  · obtain rfl : L = 7 := Nat.le_antisymm hL h7
    refine lv_iload hx hb dL_law_23 (lv_at hl 0 rfl) ?_
    refine lv_aload_n hx hb dL_law_25 rfl (lv_at hl 4 rfl) ?_
    refine va_slen hx hb hX hbl hbA hS dL_law_26 ?_
    refine lv_bipush (v := 7) hx hb dL_law_27 (by decide) ?_
    refine lv_isub hx hb dL_law_29 ?_
    refine lv_icmp_gt (tgt := 1841) hx hb dL_law_30 (by decide) (fun h => absurd h (by decide)) (fun _ => ?_)
    refine lv_aload_n hx hb dL_law_33 rfl (lv_at hl 4 rfl) ?_
    refine lv_iload hx hb dL_law_34 (lv_at hl 0 rfl) ?_
    refine va_sld hx hb hX hbl hbA hS (show vp_in 0 7 from by unfold vp_in; decide +kernel) dL_law_36 ?_
    refine lv_topi (fun z_56 ez_56 => ?_)
    have ez_56 : z_56 = (xs 0) := ez_56
    rw [ez_56]
    refine lv_bipush (v := 31) hx hb dL_law_37 (by decide) ?_
    refine lv_iand hx hb dL_law_39 ?_
    obtain ⟨j, hj, ej⟩ := pk_andE (xs 0) (m := 31) 5 (by decide)
    rw [ej]
    have hP := hP.sub (ws' := [(q_1, .inr (7, [.ref aH_2, .ref aB_3, .ref aJ_4, .int 0, .int 0, .int 0, .ref rN_5, .ref rX_6, .int 0, .int 0, .int 0, .int 0, .int 0, .int 0, .int (-1), .int (-1), .int 0, .int 0, .ref aV_7])), (aJ_4, .inl (cJ_14, 5, .inr (.inr (.inr (.inr fJ_15))))), (j0_8, .inr (5, [.int 0, .int 0, .int 0, .int 0, .int 0, .ref c1_9, .ref c2_10, .int 0, .int 0, .int 0, .int 0, .ref c3_11, .int 0, .ref c4_12, .ref c5_13, .int 0])), (rN_5, .inr (6, [.int 7, .int 100, .int 800, .int 10])), (rX_6, .inr (6, [.int 7, .int 100, .int 800, .int 10])), (q_17, .inr (8, [.int 0, .ref lH_18, .ref lB_19, .ref lJ_20, .ref aR_22, .ref aL_23, .int 0, .int 0, .int 0, .ref lC_21, .ref aM_24, .ref aP_25, .int 0, .int 0, .int 0, .int (-1), .int (-1), .int 0, .int 0, .long 0])), (lH_18, .inr (2, [.int 0, .ref eT, .int 0])), (lB_19, .inr (2, [.int 0, .ref eT, .int 0])), (lJ_20, .inr (2, [.int 0, .ref eT, .int 0])), (lC_21, .inr (2, [.int 0, .ref eT, .int 0])), (aR_22, .inl (cI_31, 4, .inl fR_35)), (aL_23, .inl (cL_32, 4, .inl fL_36)), (aM_24, .inl (cM_33, 5, .inr (.inr (.inr (.inr gM_37))))), (m0_26, .inl (cR_34, 16, .inl u0_38)), (m1_27, .inl (cR_34, 16, .inl u1_39)), (m2_28, .inl (cR_34, 16, .inl u2_40)), (m3_29, .inl (cR_34, 16, .inl u3_41)), (m4_30, .inl (cR_34, 16, .inl u4_42)), (q_54, .inl (cA_55, 1, .inr (.inl (fun _ => 0))))]) [0, 1, 2, 3, 4, 5, 6, 7, 8, 9, 10, 11, 12, 13, 14, 15, 16, 17, 18] rfl
    have hD := hD.sub (ws' := [(q_1, .inr (7, [.ref aH_2, .ref aB_3, .ref aJ_4, .int 0, .int 0, .int 0, .ref rN_5, .ref rX_6, .int 0, .int 0, .int 0, .int 0, .int 0, .int 0, .int (-1), .int (-1), .int 0, .int 0, .ref aV_7])), (aJ_4, .inl (cJ_14, 5, .inr (.inr (.inr (.inr fJ_15))))), (j0_8, .inr (5, [.int 0, .int 0, .int 0, .int 0, .int 0, .ref c1_9, .ref c2_10, .int 0, .int 0, .int 0, .int 0, .ref c3_11, .int 0, .ref c4_12, .ref c5_13, .int 0])), (rN_5, .inr (6, [.int 7, .int 100, .int 800, .int 10])), (rX_6, .inr (6, [.int 7, .int 100, .int 800, .int 10])), (q_17, .inr (8, [.int 0, .ref lH_18, .ref lB_19, .ref lJ_20, .ref aR_22, .ref aL_23, .int 0, .int 0, .int 0, .ref lC_21, .ref aM_24, .ref aP_25, .int 0, .int 0, .int 0, .int (-1), .int (-1), .int 0, .int 0, .long 0])), (lH_18, .inr (2, [.int 0, .ref eT, .int 0])), (lB_19, .inr (2, [.int 0, .ref eT, .int 0])), (lJ_20, .inr (2, [.int 0, .ref eT, .int 0])), (lC_21, .inr (2, [.int 0, .ref eT, .int 0])), (aR_22, .inl (cI_31, 4, .inl fR_35)), (aL_23, .inl (cL_32, 4, .inl fL_36)), (aM_24, .inl (cM_33, 5, .inr (.inr (.inr (.inr gM_37))))), (m0_26, .inl (cR_34, 16, .inl u0_38)), (m1_27, .inl (cR_34, 16, .inl u1_39)), (m2_28, .inl (cR_34, 16, .inl u2_40)), (m3_29, .inl (cR_34, 16, .inl u3_41)), (m4_30, .inl (cR_34, 16, .inl u4_42)), (q_54, .inl (cA_55, 1, .inr (.inl (fun _ => 0))))]) [0, 1, 2, 3, 4, 5, 6, 7, 8, 9, 10, 11, 12, 13, 14, 15, 16, 17, 18] (by decide) rfl
    have hK := hK.sub (tys' := [(cJ_14, .object RX2), (cI_31, .int), (cL_32, .int), (cM_33, .array .int), (cR_34, .int), (cA_55, .long)]) [0, 1, 2, 3, 4, 5] rfl
    match j, hj with
    | 0, _ =>
      refine lv_tableIn (off := 132) (tgt := 172) hx hb dL_law_40 (by decide) (by decide) (by decide +kernel) (by decide) ?_
      exact law_c0 hl0 hx hb hml hown hts hX hbl hE hf_16 hf_43 hf_44 hf_45 hf_46 hf_47 hf_48 hf_49 hf_50 hf_51 hf_52 hf_53 hK hP hD hS (lv_sub hl [4, 3, 2, 1, 0] rfl) (fun H locs ls hS hl => kend H locs ls rfl hS hl)
    | 1, _ =>
      refine lv_tableIn (off := 176) (tgt := 216) hx hb dL_law_40 (by decide) (by decide) (by decide +kernel) (by decide) ?_
      exact law_c1 hl0 hx hb hml hown hts hX hbl hE hf_16 hf_43 hf_44 hf_45 hf_46 hf_47 hf_48 hf_49 hf_50 hf_51 hf_52 hf_53 hK hP hD hS (lv_sub hl [4, 3, 2, 1, 0] rfl) (fun H locs ls hS hl => kend H locs ls rfl hS hl)
    | 2, _ =>
      refine lv_tableIn (off := 294) (tgt := 334) hx hb dL_law_40 (by decide) (by decide) (by decide +kernel) (by decide) ?_
      exact law_c2 hl0 hx hb hml hown hts hX hbl hE hf_16 hf_43 hf_44 hf_45 hf_46 hf_47 hf_48 hf_49 hf_50 hf_51 hf_52 hf_53 hK hP hD hS (lv_sub hl [4, 3, 2, 1, 0] rfl) (fun H locs ls hS hl => kend H locs ls rfl hS hl)
    | 3, _ =>
      refine lv_tableIn (off := 374) (tgt := 414) hx hb dL_law_40 (by decide) (by decide) (by decide +kernel) (by decide) ?_
      exact law_c3 hl0 hx hb hml hown hts hX hbl hE hf_16 hf_43 hf_44 hf_45 hf_46 hf_47 hf_48 hf_49 hf_50 hf_51 hf_52 hf_53 hK hP hD hS (lv_sub hl [4, 3, 2, 1, 0] rfl) (fun H locs ls hS hl => kend H locs ls rfl hS hl)
    | 4, _ =>
      refine lv_tableIn (off := 442) (tgt := 482) hx hb dL_law_40 (by decide) (by decide) (by decide +kernel) (by decide) ?_
      exact law_c4 hl0 hx hb hml hown hts hX hbl hE hf_16 hf_43 hf_44 hf_45 hf_46 hf_47 hf_48 hf_49 hf_50 hf_51 hf_52 hf_53 hK hP hD hS (lv_sub hl [4, 3, 2, 1, 0] rfl) (fun H locs ls hS hl => kend H locs ls rfl hS hl)
    | 5, _ =>
      refine lv_tableIn (off := 534) (tgt := 574) hx hb dL_law_40 (by decide) (by decide) (by decide +kernel) (by decide) ?_
      exact law_c5 hl0 hx hb hml hown hts hX hbl hE hf_16 hf_43 hf_44 hf_45 hf_46 hf_47 hf_48 hf_49 hf_50 hf_51 hf_52 hf_53 hK hP hD hS (lv_sub hl [4, 3, 2, 1, 0] rfl) (fun H locs ls hS hl => kend H locs ls rfl hS hl)
    | 6, _ =>
      refine lv_tableIn (off := 590) (tgt := 630) hx hb dL_law_40 (by decide) (by decide) (by decide +kernel) (by decide) ?_
      exact law_c6 hl0 hx hb hml hown hts hX hbl hE hf_16 hf_43 hf_44 hf_45 hf_46 hf_47 hf_48 hf_49 hf_50 hf_51 hf_52 hf_53 hK hP hD hS (lv_sub hl [4, 3, 2, 1, 0] rfl) (fun H locs ls hS hl => kend H locs ls rfl hS hl)
    | 7, _ =>
      refine lv_tableIn (off := 658) (tgt := 698) hx hb dL_law_40 (by decide) (by decide) (by decide +kernel) (by decide) ?_
      exact law_c7 hl0 hx hb hml hown hts hX hbl hE hf_16 hf_43 hf_44 hf_45 hf_46 hf_47 hf_48 hf_49 hf_50 hf_51 hf_52 hf_53 hK hP hD hS (lv_sub hl [4, 3, 2, 1, 0] rfl) (fun H locs ls hS hl => kend H locs ls rfl hS hl)
    | 8, _ =>
      refine lv_tableIn (off := 702) (tgt := 742) hx hb dL_law_40 (by decide) (by decide) (by decide +kernel) (by decide) ?_
      exact law_c8 hl0 hx hb hml hown hts hX hbl hE hf_16 hf_43 hf_44 hf_45 hf_46 hf_47 hf_48 hf_49 hf_50 hf_51 hf_52 hf_53 hK hP hD hS (lv_sub hl [4, 3, 2, 1, 0] rfl) (fun H locs ls hS hl => kend H locs ls rfl hS hl)
    | 9, _ =>
      refine lv_tableIn (off := 770) (tgt := 810) hx hb dL_law_40 (by decide) (by decide) (by decide +kernel) (by decide) ?_
      exact law_c9 hl0 hx hb hml hown hts hX hbl hE hf_16 hf_43 hf_44 hf_45 hf_46 hf_47 hf_48 hf_49 hf_50 hf_51 hf_52 hf_53 hK hP hD hS (lv_sub hl [4, 3, 2, 1, 0] rfl) (fun H locs ls hS hl => kend H locs ls rfl hS hl)
    | 10, _ =>
      refine lv_tableIn (off := 826) (tgt := 866) hx hb dL_law_40 (by decide) (by decide) (by decide +kernel) (by decide) ?_
      exact law_c10 hl0 hx hb hml hown hts hX hbl hE hf_16 hf_43 hf_44 hf_45 hf_46 hf_47 hf_48 hf_49 hf_50 hf_51 hf_52 hf_53 hK hP hD hS (lv_sub hl [4, 3, 2, 1, 0] rfl) (fun H locs ls hS hl => kend H locs ls rfl hS hl)
    | 11, _ =>
      refine lv_tableIn (off := 882) (tgt := 922) hx hb dL_law_40 (by decide) (by decide) (by decide +kernel) (by decide) ?_
      exact law_c11 hl0 hx hb hml hown hts hX hbl hE hf_16 hf_43 hf_44 hf_45 hf_46 hf_47 hf_48 hf_49 hf_50 hf_51 hf_52 hf_53 hK hP hD hS (lv_sub hl [4, 3, 2, 1, 0] rfl) (fun H locs ls hS hl => kend H locs ls rfl hS hl)
    | 12, _ =>
      refine lv_tableIn (off := 962) (tgt := 1002) hx hb dL_law_40 (by decide) (by decide) (by decide +kernel) (by decide) ?_
      exact law_c12 hl0 hx hb hml hown hts hX hbl hE hf_16 hf_43 hf_44 hf_45 hf_46 hf_47 hf_48 hf_49 hf_50 hf_51 hf_52 hf_53 hK hP hD hS (lv_sub hl [4, 3, 2, 1, 0] rfl) (fun H locs ls hS hl => kend H locs ls rfl hS hl)
    | 13, _ =>
      refine lv_tableIn (off := 1018) (tgt := 1058) hx hb dL_law_40 (by decide) (by decide) (by decide +kernel) (by decide) ?_
      exact law_c13 hl0 hx hb hml hown hts hX hbl hE hf_16 hf_43 hf_44 hf_45 hf_46 hf_47 hf_48 hf_49 hf_50 hf_51 hf_52 hf_53 hK hP hD hS (lv_sub hl [4, 3, 2, 1, 0] rfl) (fun H locs ls hS hl => kend H locs ls rfl hS hl)
    | 14, _ =>
      refine lv_tableIn (off := 1086) (tgt := 1126) hx hb dL_law_40 (by decide) (by decide) (by decide +kernel) (by decide) ?_
      exact law_c14 hl0 hx hb hml hown hts hX hbl hE hf_16 hf_43 hf_44 hf_45 hf_46 hf_47 hf_48 hf_49 hf_50 hf_51 hf_52 hf_53 hK hP hD hS (lv_sub hl [4, 3, 2, 1, 0] rfl) (fun H locs ls hS hl => kend H locs ls rfl hS hl)
    | 15, _ =>
      refine lv_tableIn (off := 1130) (tgt := 1170) hx hb dL_law_40 (by decide) (by decide) (by decide +kernel) (by decide) ?_
      exact law_c15 hl0 hx hb hml hown hts hX hbl hE hf_16 hf_43 hf_44 hf_45 hf_46 hf_47 hf_48 hf_49 hf_50 hf_51 hf_52 hf_53 hK hP hD hS (lv_sub hl [4, 3, 2, 1, 0] rfl) (fun H locs ls hS hl => kend H locs ls rfl hS hl)
    | 16, _ =>
      refine lv_tableIn (off := 1174) (tgt := 1214) hx hb dL_law_40 (by decide) (by decide) (by decide +kernel) (by decide) ?_
      exact law_c16 hl0 hx hb hml hown hts hX hbl hE hf_16 hf_43 hf_44 hf_45 hf_46 hf_47 hf_48 hf_49 hf_50 hf_51 hf_52 hf_53 hK hP hD hS (lv_sub hl [4, 3, 2, 1, 0] rfl) (fun H locs ls hS hl => kend H locs ls rfl hS hl)
    | 17, _ =>
      refine lv_tableIn (off := 1218) (tgt := 1258) hx hb dL_law_40 (by decide) (by decide) (by decide +kernel) (by decide) ?_
      exact law_c17 hl0 hx hb hml hown hts hX hbl hE hf_16 hf_43 hf_44 hf_45 hf_46 hf_47 hf_48 hf_49 hf_50 hf_51 hf_52 hf_53 hK hP hD hS (lv_sub hl [4, 3, 2, 1, 0] rfl) (fun H locs ls hS hl => kend H locs ls rfl hS hl)
    | 18, _ =>
      refine lv_tableIn (off := 1286) (tgt := 1326) hx hb dL_law_40 (by decide) (by decide) (by decide +kernel) (by decide) ?_
      exact law_c18 hl0 hx hb hml hown hts hX hbl hE hf_16 hf_43 hf_44 hf_45 hf_46 hf_47 hf_48 hf_49 hf_50 hf_51 hf_52 hf_53 hK hP hD hS (lv_sub hl [4, 3, 2, 1, 0] rfl) (fun H locs ls hS hl => kend H locs ls rfl hS hl)
    | 19, _ =>
      refine lv_tableIn (off := 1354) (tgt := 1394) hx hb dL_law_40 (by decide) (by decide) (by decide +kernel) (by decide) ?_
      exact law_c19 hl0 hx hb hml hown hts hX hbl hE hf_16 hf_43 hf_44 hf_45 hf_46 hf_47 hf_48 hf_49 hf_50 hf_51 hf_52 hf_53 hK hP hD hS (lv_sub hl [4, 3, 2, 1, 0] rfl) (fun H locs ls hS hl => kend H locs ls rfl hS hl)
    | 20, _ =>
      refine lv_tableIn (off := 1422) (tgt := 1462) hx hb dL_law_40 (by decide) (by decide) (by decide +kernel) (by decide) ?_
      exact law_c20 hl0 hx hb hml hown hts hX hbl hE hf_16 hf_43 hf_44 hf_45 hf_46 hf_47 hf_48 hf_49 hf_50 hf_51 hf_52 hf_53 hK hP hD hS (lv_sub hl [4, 3, 2, 1, 0] rfl) (fun H locs ls hS hl => kend H locs ls rfl hS hl)
    | 21, _ =>
      refine lv_tableIn (off := 1490) (tgt := 1530) hx hb dL_law_40 (by decide) (by decide) (by decide +kernel) (by decide) ?_
      exact law_c21 hl0 hx hb hml hown hts hX hbl hE hf_16 hf_43 hf_44 hf_45 hf_46 hf_47 hf_48 hf_49 hf_50 hf_51 hf_52 hf_53 hK hP hD hS (lv_sub hl [4, 3, 2, 1, 0] rfl) (fun H locs ls hS hl => kend H locs ls rfl hS hl)
    | 22, _ =>
      refine lv_tableIn (off := 1546) (tgt := 1586) hx hb dL_law_40 (by decide) (by decide) (by decide +kernel) (by decide) ?_
      exact law_c22 hl0 hx hb hml hown hts hX hbl hE hf_16 hf_43 hf_44 hf_45 hf_46 hf_47 hf_48 hf_49 hf_50 hf_51 hf_52 hf_53 hK hP hD hS (lv_sub hl [4, 3, 2, 1, 0] rfl) (fun H locs ls hS hl => kend H locs ls rfl hS hl)
    | 23, _ =>
      refine lv_tableIn (off := 1587) (tgt := 1627) hx hb dL_law_40 (by decide) (by decide) (by decide +kernel) (by decide) ?_
      exact law_c23 hl0 hx hb hml hown hts hX hbl hE hf_16 hf_43 hf_44 hf_45 hf_46 hf_47 hf_48 hf_49 hf_50 hf_51 hf_52 hf_53 hK hP hD hS (lv_sub hl [4, 3, 2, 1, 0] rfl) (fun H locs ls hS hl => kend H locs ls rfl hS hl)
    | 24, _ =>
      refine lv_tableIn (off := 1643) (tgt := 1683) hx hb dL_law_40 (by decide) (by decide) (by decide +kernel) (by decide) ?_
      exact law_c24 hl0 hx hb hml hown hts hX hbl hE hf_16 hf_43 hf_44 hf_45 hf_46 hf_47 hf_48 hf_49 hf_50 hf_51 hf_52 hf_53 hK hP hD hS (lv_sub hl [4, 3, 2, 1, 0] rfl) (fun H locs ls hS hl => kend H locs ls rfl hS hl)
    | 25, _ =>
      refine lv_tableIn (off := 1656) (tgt := 1696) hx hb dL_law_40 (by decide) (by decide) (by decide +kernel) (by decide) ?_
      exact law_c25 hl0 hx hb hml hown hts hX hbl hE hf_16 hf_43 hf_44 hf_45 hf_46 hf_47 hf_48 hf_49 hf_50 hf_51 hf_52 hf_53 hK hP hD hS (lv_sub hl [4, 3, 2, 1, 0] rfl) (fun H locs ls hS hl => kend H locs ls rfl hS hl)
    | 26, _ =>
      refine lv_tableIn (off := 1712) (tgt := 1752) hx hb dL_law_40 (by decide) (by decide) (by decide +kernel) (by decide) ?_
      exact law_c26 hl0 hx hb hml hown hts hX hbl hE hf_16 hf_43 hf_44 hf_45 hf_46 hf_47 hf_48 hf_49 hf_50 hf_51 hf_52 hf_53 hK hP hD hS (lv_sub hl [4, 3, 2, 1, 0] rfl) (fun H locs ls hS hl => kend H locs ls rfl hS hl)
    | 27, _ =>
      refine lv_tableIn (off := 1725) (tgt := 1765) hx hb dL_law_40 (by decide) (by decide) (by decide +kernel) (by decide) ?_
      exact law_c27 hl0 hx hb hml hown hts hX hbl hE hf_16 hf_43 hf_44 hf_45 hf_46 hf_47 hf_48 hf_49 hf_50 hf_51 hf_52 hf_53 hK hP hD hS (lv_sub hl [4, 3, 2, 1, 0] rfl) (fun H locs ls hS hl => kend H locs ls rfl hS hl)
    | 28, _ =>
      refine lv_tableIn (off := 1781) (tgt := 1821) hx hb dL_law_40 (by decide) (by decide) (by decide +kernel) (by decide) ?_
      exact law_c28 hl0 hx hb hml hown hts hX hbl hE hf_16 hf_43 hf_44 hf_45 hf_46 hf_47 hf_48 hf_49 hf_50 hf_51 hf_52 hf_53 hK hP hD hS (lv_sub hl [4, 3, 2, 1, 0] rfl) (fun H locs ls hS hl => kend H locs ls rfl hS hl)
    | 29, _ =>
      refine lv_tableOut (tgt := 1835) hx hb dL_law_40 (by decide) (by decide) ?_
      refine W.widen (k := 2000) (n := 20000) (Nat.le_of_ble_eq_true rfl) (Nat.le_of_ble_eq_true rfl) ?_
      exact kend _ _ _ rfl hS (lv_sub hl [4, 3, 2, 1, 0] rfl)
    | 30, _ =>
      refine lv_tableOut (tgt := 1835) hx hb dL_law_40 (by decide) (by decide) ?_
      refine W.widen (k := 2000) (n := 20000) (Nat.le_of_ble_eq_true rfl) (Nat.le_of_ble_eq_true rfl) ?_
      exact kend _ _ _ rfl hS (lv_sub hl [4, 3, 2, 1, 0] rfl)
    | 31, _ =>
      refine lv_tableOut (tgt := 1835) hx hb dL_law_40 (by decide) (by decide) ?_
      refine W.widen (k := 2000) (n := 20000) (Nat.le_of_ble_eq_true rfl) (Nat.le_of_ble_eq_true rfl) ?_
      exact kend _ _ _ rfl hS (lv_sub hl [4, 3, 2, 1, 0] rfl)
    | k + 32, h => exact absurd h (by omega)

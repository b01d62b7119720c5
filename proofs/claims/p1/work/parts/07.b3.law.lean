set_option maxHeartbeats 8000000 in
set_option maxRecDepth 100000 in
theorem law_c18 {p : Program} {l : Launch} {e : Env} {s : State} {m : MethodId} {args : Array Value} {below : List Frame} {meth : Method} {c : Code} {Q : State → Prop} {b : Nat} {xs : Nat → Int32} {D : va_G} {eT : Nat} {x0 aH aB aJ rN rX aV j0 c1 c2 c3 c4 c5 y0 lH lB lJ aR aL lC aM aP m0 m1 m2 m3 m4 ho : Nat} {cJ cI cL cM cR cO : ClassId} {fJ : Nat → Option Nat} {fR : Nat → Int32} {fL : Nat → Int32} {gM : Nat → Option Nat} {f0 : Nat → Int32} {f1 : Nat → Int32} {f2 : Nat → Int32} {f3 : Nat → Int32} {f4 : Nat → Int32} {fo : Nat → Int64} (hl0 : l.stackTraces = false) (hx : p.tables.exec = Jvm.exec) (hb : c.code = cL_law) (hml : c.maxLocals = 9) (hown : s.vm.findClass RL = some m.cls) (hts : ∀ w ∈ wsL_law, w.before args s = true) (hX : va_X b 7 xs s s.heap) (hbl : b < s.heap.size) (hE : ev eT (fun q : Nat => s.heap.size ≤ q) s s.heap) (hJ : fJ 0 = some j0) (hR : fR 3 = 10) (hg0 : gM 0 = some m0) (hg1 : gM 1 = some m1) (hg2 : gM 2 = some m2) (hg3 : gM 3 = some m3) (hg4 : gM 4 = some m4) (hm0 : ∀ k, k < 16 → f0 k = -1) (hm1 : ∀ k, k < 16 → f1 k = -1) (hm2 : ∀ k, k < 16 → f2 k = -1) (hm3 : ∀ k, k < 16 → f3 k = -1) (hm4 : ∀ k, k < 16 → f4 k = -1) (hK : va_K D vwCl [(cJ, .object RX2), (cI, .int), (cL, .int), (cM, .array .int), (cR, .int), (cO, .long)] s) {H : Heap} {locs : List Loc} (hP : va_P D vwCl [(x0, .inr (7, [.ref aH, .ref aB, .ref aJ, .int 0, .int 0, .int 0, .ref rN, .ref rX, .int 0, .int 0, .int 0, .int 0, .int 0, .int 0, .int (-1), .int (-1), .int 0, .int 0, .ref aV])), (aJ, .inl (cJ, 5, .inr (.inr (.inr (.inr fJ))))), (j0, .inr (5, [.int 0, .int 0, .int 0, .int 0, .int 0, .ref c1, .ref c2, .int 0, .int 0, .int 0, .int 0, .ref c3, .int 0, .ref c4, .ref c5, .int 0])), (rN, .inr (6, [.int 7, .int 100, .int 800, .int 10])), (rX, .inr (6, [.int 7, .int 100, .int 800, .int 10])), (y0, .inr (8, [.int 0, .ref lH, .ref lB, .ref lJ, .ref aR, .ref aL, .int 0, .int 0, .int 0, .ref lC, .ref aM, .ref aP, .int 0, .int 0, .int 0, .int (-1), .int (-1), .int 0, .int 0, .long 0])), (lH, .inr (2, [.int 0, .ref eT, .int 0])), (lB, .inr (2, [.int 0, .ref eT, .int 0])), (lJ, .inr (2, [.int 0, .ref eT, .int 0])), (lC, .inr (2, [.int 0, .ref eT, .int 0])), (aR, .inl (cI, 4, .inl fR)), (aL, .inl (cL, 4, .inl fL)), (aM, .inl (cM, 5, .inr (.inr (.inr (.inr gM))))), (m0, .inl (cR, 16, .inl f0)), (m1, .inl (cR, 16, .inl f1)), (m2, .inl (cR, 16, .inl f2)), (m3, .inl (cR, 16, .inl f3)), (m4, .inl (cR, 16, .inl f4)), (ho, .inl (cO, 1, .inr (.inl fo)))] H) (hD : va_D (fun q : Nat => s.heap.size ≤ q) [(x0, .inr (7, [.ref aH, .ref aB, .ref aJ, .int 0, .int 0, .int 0, .ref rN, .ref rX, .int 0, .int 0, .int 0, .int 0, .int 0, .int 0, .int (-1), .int (-1), .int 0, .int 0, .ref aV])), (aJ, .inl (cJ, 5, .inr (.inr (.inr (.inr fJ))))), (j0, .inr (5, [.int 0, .int 0, .int 0, .int 0, .int 0, .ref c1, .ref c2, .int 0, .int 0, .int 0, .int 0, .ref c3, .int 0, .ref c4, .ref c5, .int 0])), (rN, .inr (6, [.int 7, .int 100, .int 800, .int 10])), (rX, .inr (6, [.int 7, .int 100, .int 800, .int 10])), (y0, .inr (8, [.int 0, .ref lH, .ref lB, .ref lJ, .ref aR, .ref aL, .int 0, .int 0, .int 0, .ref lC, .ref aM, .ref aP, .int 0, .int 0, .int 0, .int (-1), .int (-1), .int 0, .int 0, .long 0])), (lH, .inr (2, [.int 0, .ref eT, .int 0])), (lB, .inr (2, [.int 0, .ref eT, .int 0])), (lJ, .inr (2, [.int 0, .ref eT, .int 0])), (lC, .inr (2, [.int 0, .ref eT, .int 0])), (aR, .inl (cI, 4, .inl fR)), (aL, .inl (cL, 4, .inl fL)), (aM, .inl (cM, 5, .inr (.inr (.inr (.inr gM))))), (m0, .inl (cR, 16, .inl f0)), (m1, .inl (cR, 16, .inl f1)), (m2, .inl (cR, 16, .inl f2)), (m3, .inl (cR, 16, .inl f3)), (m4, .inl (cR, 16, .inl f4)), (ho, .inl (cO, 1, .inr (.inl fo)))]) (hS : va_S (fun q : Nat => s.heap.size ≤ q) s.heap H locs) {ls : Array Slot} (hl : lv_has ls 9 [(0, .ref b), (1, .ref x0), (2, .ref y0), (3, .ref ho), (4, .int 0)]) (kx : ∀ (H : Heap) (locs : List Loc) (ls : Array Slot), va_S (fun q : Nat => s.heap.size ≤ q) s.heap H locs → lv_has ls 9 [(0, .ref b), (1, .ref x0), (2, .ref y0), (3, .ref ho), (4, .int 0)] → W p l e room_1 s m args below meth c H locs 2000 20000 Q (F0 m 1835 ls [])) : W p l e room_1 s m args below meth c H locs 81 903 Q (F0 m 1326 ls []) := by
  have hA : ∀ q : Nat, s.heap.size ≤ q → (fun q : Nat => s.heap.size ≤ q) q := fun _ h => h
  have hbA : ¬ (fun q : Nat => s.heap.size ≤ q) b := Nat.not_le.mpr hbl
  · skip
    refine lv_aload_n hx hb dL_law_1326 rfl (lv_at hl 1 rfl) ?_
    refine lv_aload_n hx hb dL_law_1327 rfl (lv_at hl 0 rfl) ?_
    refine lv_iload hx hb dL_law_1328 (lv_at hl 4 rfl) ?_
    refine lv_iconst (v := 1) hx hb dL_law_1330 (by decide) ?_
    refine lv_iadd hx hb dL_law_1331 ?_
    refine lv_topi (fun z_1 ez_1 => ?_)
    have ez_1 : z_1 = 1 := ez_1.trans (by decide +kernel)
    rw [ez_1]
    refine va_sld hx hb hX hbl hbA hS (show vp_in 1 7 from by unfold vp_in; decide +kernel) dL_law_1332 ?_
    refine lv_topi (fun z_2 ez_2 => ?_)
    have ez_2 : z_2 = (xs 1) := ez_2
    rw [ez_2]
    refine lv_aload_n hx hb dL_law_1333 rfl (lv_at hl 0 rfl) ?_
    refine lv_iload hx hb dL_law_1334 (lv_at hl 4 rfl) ?_
    refine lv_iconst (v := 2) hx hb dL_law_1336 (by decide) ?_
    refine lv_iadd hx hb dL_law_1337 ?_
    refine lv_topi (fun z_3 ez_3 => ?_)
    have ez_3 : z_3 = 2 := ez_3.trans (by decide +kernel)
    rw [ez_3]
    refine va_sld hx hb hX hbl hbA hS (show vp_in 2 7 from by unfold vp_in; decide +kernel) dL_law_1338 ?_
    refine lv_topi (fun z_4 ez_4 => ?_)
    have ez_4 : z_4 = (xs 2) := ez_4
    rw [ez_4]
    refine lv_aload_n hx hb dL_law_1339 rfl (lv_at hl 3 rfl) ?_
    have hPc := hP.sub (ws' := [(x0, .inr (7, [.ref aH, .ref aB, .ref aJ, .int 0, .int 0, .int 0, .ref rN, .ref rX, .int 0, .int 0, .int 0, .int 0, .int 0, .int 0, .int (-1), .int (-1), .int 0, .int 0, .ref aV])), (ho, .inl (cO, 1, .inr (.inl fo)))]) [0, 18] rfl
    have hKc := hK.sub (tys' := [(cO, .long)]) [5] rfl
    have hDc := hD.sub (ws' := [(x0, .inr (7, [.ref aH, .ref aB, .ref aJ, .int 0, .int 0, .int 0, .ref rN, .ref rX, .int 0, .int 0, .int 0, .int 0, .int 0, .int 0, .int (-1), .int (-1), .int 0, .int 0, .ref aV])), (ho, .inl (cO, 1, .inr (.inl fo)))]) [0, 18] (by decide) rfl
    have hFc := va_free (wc := [(x0, .inr (7, [.ref aH, .ref aB, .ref aJ, .int 0, .int 0, .int 0, .ref rN, .ref rX, .int 0, .int 0, .int 0, .int 0, .int 0, .int 0, .int (-1), .int (-1), .int 0, .int 0, .ref aV])), (ho, .inl (cO, 1, .inr (.inl fo)))]) hD hS hA [0, 18] rfl
    refine va_calli (vx_runSW (As := [.ref x0, .int (xs 1), .int (xs 2), .ref ho]) (rest := []) ⟨hx, hb, hml, hown, hts⟩ (w_ofBook l hl0 D eT x0 aH aB aJ rN rX aV ho cO fo (xs 1) (xs 2) H.size ) (vx_cwSW 4 hts gL_law_L_ofBook rfl rfl rfl (by decide +kernel) ⟨Nat.le_of_ble_eq_true rfl, Nat.le_of_ble_eq_true rfl⟩) (pc_s hPc hDc hKc hE hS hFc) rfl rfl hl.1 rfl (lv_room (Nat.le_of_ble_eq_true rfl)) dL_law_1340 ⟨Nat.le_of_ble_eq_true rfl, Nat.le_of_ble_eq_true rfl⟩) hS (fun q _ h => hFc q h) hFc (fun r u t H1 locs ht hvm hw hB hz1 hk1 hS => ?_)
    have hw : r = 1 := hw
    rw [hw]
    obtain ⟨hP1, hK1, hD1⟩ := hB
    rw [ht] at hP1
    have hK1 := va_K.moved hvm.symm hK1
    obtain ⟨hP, hD⟩ := va_join (wr := [(aJ, .inl (cJ, 5, .inr (.inr (.inr (.inr fJ))))), (j0, .inr (5, [.int 0, .int 0, .int 0, .int 0, .int 0, .ref c1, .ref c2, .int 0, .int 0, .int 0, .int 0, .ref c3, .int 0, .ref c4, .ref c5, .int 0])), (rN, .inr (6, [.int 7, .int 100, .int 800, .int 10])), (rX, .inr (6, [.int 7, .int 100, .int 800, .int 10])), (y0, .inr (8, [.int 0, .ref lH, .ref lB, .ref lJ, .ref aR, .ref aL, .int 0, .int 0, .int 0, .ref lC, .ref aM, .ref aP, .int 0, .int 0, .int 0, .int (-1), .int (-1), .int 0, .int 0, .long 0])), (lH, .inr (2, [.int 0, .ref eT, .int 0])), (lB, .inr (2, [.int 0, .ref eT, .int 0])), (lJ, .inr (2, [.int 0, .ref eT, .int 0])), (lC, .inr (2, [.int 0, .ref eT, .int 0])), (aR, .inl (cI, 4, .inl fR)), (aL, .inl (cL, 4, .inl fL)), (aM, .inl (cM, 5, .inr (.inr (.inr (.inr gM))))), (m0, .inl (cR, 16, .inl f0)), (m1, .inl (cR, 16, .inl f1)), (m2, .inl (cR, 16, .inl f2)), (m3, .inl (cR, 16, .inl f3)), (m4, .inl (cR, 16, .inl f4))]) (w1 := [(ho, .inl (cO, 1, .inr (.inl fo)))]) hP hD [0, 18] [1, 2, 3, 4, 5, 6, 7, 8, 9, 10, 11, 12, 13, 14, 15, 16, 17] rfl rfl (by decide) (by decide) hk1 hFc hP1 hD1
    generalize H1 = H at hP hS ⊢
    have hP : va_P D vwCl [(aJ, .inl (cJ, 5, .inr (.inr (.inr (.inr fJ))))), (j0, .inr (5, [.int 0, .int 0, .int 0, .int 0, .int 0, .ref c1, .ref c2, .int 0, .int 0, .int 0, .int 0, .ref c3, .int 0, .ref c4, .ref c5, .int 0])), (rN, .inr (6, [.int 7, .int 100, .int 800, .int 10])), (rX, .inr (6, [.int 7, .int 100, .int 800, .int 10])), (y0, .inr (8, [.int 0, .ref lH, .ref lB, .ref lJ, .ref aR, .ref aL, .int 0, .int 0, .int 0, .ref lC, .ref aM, .ref aP, .int 0, .int 0, .int 0, .int (-1), .int (-1), .int 0, .int 0, .long 0])), (lH, .inr (2, [.int 0, .ref eT, .int 0])), (lB, .inr (2, [.int 0, .ref eT, .int 0])), (lJ, .inr (2, [.int 0, .ref eT, .int 0])), (lC, .inr (2, [.int 0, .ref eT, .int 0])), (aR, .inl (cI, 4, .inl fR)), (aL, .inl (cL, 4, .inl fL)), (aM, .inl (cM, 5, .inr (.inr (.inr (.inr gM))))), (m0, .inl (cR, 16, .inl f0)), (m1, .inl (cR, 16, .inl f1)), (m2, .inl (cR, 16, .inl f2)), (m3, .inl (cR, 16, .inl f3)), (m4, .inl (cR, 16, .inl f4)), (ho, .inl (cO, 1, .inr (.inl fo)))] H := hP
    have hD : va_D (fun q : Nat => s.heap.size ≤ q) [(aJ, .inl (cJ, 5, .inr (.inr (.inr (.inr fJ))))), (j0, .inr (5, [.int 0, .int 0, .int 0, .int 0, .int 0, .ref c1, .ref c2, .int 0, .int 0, .int 0, .int 0, .ref c3, .int 0, .ref c4, .ref c5, .int 0])), (rN, .inr (6, [.int 7, .int 100, .int 800, .int 10])), (rX, .inr (6, [.int 7, .int 100, .int 800, .int 10])), (y0, .inr (8, [.int 0, .ref lH, .ref lB, .ref lJ, .ref aR, .ref aL, .int 0, .int 0, .int 0, .ref lC, .ref aM, .ref aP, .int 0, .int 0, .int 0, .int (-1), .int (-1), .int 0, .int 0, .long 0])), (lH, .inr (2, [.int 0, .ref eT, .int 0])), (lB, .inr (2, [.int 0, .ref eT, .int 0])), (lJ, .inr (2, [.int 0, .ref eT, .int 0])), (lC, .inr (2, [.int 0, .ref eT, .int 0])), (aR, .inl (cI, 4, .inl fR)), (aL, .inl (cL, 4, .inl fL)), (aM, .inl (cM, 5, .inr (.inr (.inr (.inr gM))))), (m0, .inl (cR, 16, .inl f0)), (m1, .inl (cR, 16, .inl f1)), (m2, .inl (cR, 16, .inl f2)), (m3, .inl (cR, 16, .inl f3)), (m4, .inl (cR, 16, .inl f4)), (ho, .inl (cO, 1, .inr (.inl fo)))] := hD
    refine W.widen (k := 82) (n := 909) (Nat.le_of_ble_eq_true rfl) (Nat.le_of_ble_eq_true rfl) ?_
    refine lv_istore (lv' := [(5, .int 1), (0, .ref b), (1, .ref x0), (2, .ref y0), (3, .ref ho), (4, .int 0)]) hx hb dL_law_1343 hl (by decide) rfl (fun ls hl => ?_)
    refine lv_aload_n hx hb dL_law_1345 rfl (lv_at hl 3 rfl) ?_
    refine lv_aload_n hx hb dL_law_1346 rfl (lv_at hl 1 rfl) ?_
    refine lv_iload hx hb dL_law_1347 (lv_at hl 5 rfl) ?_
    refine lv_iconst (v := 1) hx hb dL_law_1349 (by decide) ?_
    refine lv_iadd hx hb dL_law_1350 ?_
    refine lv_topi (fun z_5 ez_5 => ?_)
    have ez_5 : z_5 = 1 := ez_5.trans (by decide +kernel)
    rw [ez_5]
    refine va_sld hx hb hX hbl hbA hS (show vp_in 1 7 from by unfold vp_in; decide +kernel) dL_law_1351 ?_
    refine lv_topi (fun z_6 ez_6 => ?_)
    have ez_6 : z_6 = (xs 1) := ez_6
    rw [ez_6]
    refine lv_aload_n hx hb dL_law_1352 rfl (lv_at hl 1 rfl) ?_
    refine lv_iload hx hb dL_law_1353 (lv_at hl 5 rfl) ?_
    refine lv_iconst (v := 2) hx hb dL_law_1355 (by decide) ?_
    refine lv_iadd hx hb dL_law_1356 ?_
    refine lv_topi (fun z_7 ez_7 => ?_)
    have ez_7 : z_7 = 2 := ez_7.trans (by decide +kernel)
    rw [ez_7]
    refine va_sld hx hb hX hbl hbA hS (show vp_in 2 7 from by unfold vp_in; decide +kernel) dL_law_1357 ?_
    refine lv_topi (fun z_8 ez_8 => ?_)
    have ez_8 : z_8 = (xs 2) := ez_8
    rw [ez_8]
    have hPc := hP.sub (ws' := [(y0, .inr (8, [.int 0, .ref lH, .ref lB, .ref lJ, .ref aR, .ref aL, .int 0, .int 0, .int 0, .ref lC, .ref aM, .ref aP, .int 0, .int 0, .int 0, .int (-1), .int (-1), .int 0, .int 0, .long 0])), (lB, .inr (2, [.int 0, .ref eT, .int 0]))]) [4, 6] rfl
    have hKc := hK.sub (tys' := []) [] rfl
    have hDc := hD.sub (ws' := [(y0, .inr (8, [.int 0, .ref lH, .ref lB, .ref lJ, .ref aR, .ref aL, .int 0, .int 0, .int 0, .ref lC, .ref aM, .ref aP, .int 0, .int 0, .int 0, .int (-1), .int (-1), .int 0, .int 0, .long 0])), (lB, .inr (2, [.int 0, .ref eT, .int 0]))]) [4, 6] (by decide) rfl
    have hFc := va_free (wc := [(y0, .inr (8, [.int 0, .ref lH, .ref lB, .ref lJ, .ref aR, .ref aL, .int 0, .int 0, .int 0, .ref lC, .ref aM, .ref aP, .int 0, .int 0, .int 0, .int (-1), .int (-1), .int 0, .int 0, .long 0])), (lB, .inr (2, [.int 0, .ref eT, .int 0]))]) hD hS hA [4, 6] rfl
    refine va_calli (va_runV (As := [.int (xs 1), .int (xs 2)]) (rest := []) ⟨hx, hb, hml, hown, hts⟩ (r_ofBook l D eT y0 lH lB lJ aR aL lC aM aP 0 (xs 1) (xs 2) H.size ) (cwV 2 hts gL_law_X5_ofBook rfl rfl rfl (by decide +kernel) ⟨Nat.le_of_ble_eq_true rfl, Nat.le_of_ble_eq_true rfl⟩) (pc_v (ci := 8) (q0 := 0) rfl rfl hPc hDc hKc hE hS hFc) rfl rfl hl.1 rfl (lv_room (Nat.le_of_ble_eq_true rfl)) dL_law_1358 ⟨Nat.le_of_ble_eq_true rfl, Nat.le_of_ble_eq_true rfl⟩) hS (fun q _ h => hFc q h) hFc (fun r u t H1 locs ht hvm hw hB hz1 hk1 hS => ?_)
    have hw : r = 0 := hw
    rw [hw]
    obtain ⟨hP1, hK1, hD1⟩ := hB
    rw [ht] at hP1
    have hK1 := va_K.moved hvm.symm hK1
    obtain ⟨hP, hD⟩ := va_join (wr := [(aJ, .inl (cJ, 5, .inr (.inr (.inr (.inr fJ))))), (j0, .inr (5, [.int 0, .int 0, .int 0, .int 0, .int 0, .ref c1, .ref c2, .int 0, .int 0, .int 0, .int 0, .ref c3, .int 0, .ref c4, .ref c5, .int 0])), (rN, .inr (6, [.int 7, .int 100, .int 800, .int 10])), (rX, .inr (6, [.int 7, .int 100, .int 800, .int 10])), (lH, .inr (2, [.int 0, .ref eT, .int 0])), (lJ, .inr (2, [.int 0, .ref eT, .int 0])), (lC, .inr (2, [.int 0, .ref eT, .int 0])), (aR, .inl (cI, 4, .inl fR)), (aL, .inl (cL, 4, .inl fL)), (aM, .inl (cM, 5, .inr (.inr (.inr (.inr gM))))), (m0, .inl (cR, 16, .inl f0)), (m1, .inl (cR, 16, .inl f1)), (m2, .inl (cR, 16, .inl f2)), (m3, .inl (cR, 16, .inl f3)), (m4, .inl (cR, 16, .inl f4)), (ho, .inl (cO, 1, .inr (.inl fo)))]) (w1 := [(y0, .inr (8, [.int 1, .ref lH, .ref lB, .ref lJ, .ref aR, .ref aL, .int 0, .int 0, .int 0, .ref lC, .ref aM, .ref aP, .int 0, .int 0, .int 0, .int (-1), .int (-1), .int 0, .int 0, .long 0]))]) hP hD [4, 6] [0, 1, 2, 3, 5, 7, 8, 9, 10, 11, 12, 13, 14, 15, 16, 17] rfl rfl (by decide) (by decide) hk1 hFc hP1 hD1
    generalize H1 = H at hP hS ⊢
    have hP : va_P D vwCl [(aJ, .inl (cJ, 5, .inr (.inr (.inr (.inr fJ))))), (j0, .inr (5, [.int 0, .int 0, .int 0, .int 0, .int 0, .ref c1, .ref c2, .int 0, .int 0, .int 0, .int 0, .ref c3, .int 0, .ref c4, .ref c5, .int 0])), (rN, .inr (6, [.int 7, .int 100, .int 800, .int 10])), (rX, .inr (6, [.int 7, .int 100, .int 800, .int 10])), (lH, .inr (2, [.int 0, .ref eT, .int 0])), (lJ, .inr (2, [.int 0, .ref eT, .int 0])), (lC, .inr (2, [.int 0, .ref eT, .int 0])), (aR, .inl (cI, 4, .inl fR)), (aL, .inl (cL, 4, .inl fL)), (aM, .inl (cM, 5, .inr (.inr (.inr (.inr gM))))), (m0, .inl (cR, 16, .inl f0)), (m1, .inl (cR, 16, .inl f1)), (m2, .inl (cR, 16, .inl f2)), (m3, .inl (cR, 16, .inl f3)), (m4, .inl (cR, 16, .inl f4)), (ho, .inl (cO, 1, .inr (.inl fo))), (y0, .inr (8, [.int 1, .ref lH, .ref lB, .ref lJ, .ref aR, .ref aL, .int 0, .int 0, .int 0, .ref lC, .ref aM, .ref aP, .int 0, .int 0, .int 0, .int (-1), .int (-1), .int 0, .int 0, .long 0]))] H := hP
    have hD : va_D (fun q : Nat => s.heap.size ≤ q) [(aJ, .inl (cJ, 5, .inr (.inr (.inr (.inr fJ))))), (j0, .inr (5, [.int 0, .int 0, .int 0, .int 0, .int 0, .ref c1, .ref c2, .int 0, .int 0, .int 0, .int 0, .ref c3, .int 0, .ref c4, .ref c5, .int 0])), (rN, .inr (6, [.int 7, .int 100, .int 800, .int 10])), (rX, .inr (6, [.int 7, .int 100, .int 800, .int 10])), (lH, .inr (2, [.int 0, .ref eT, .int 0])), (lJ, .inr (2, [.int 0, .ref eT, .int 0])), (lC, .inr (2, [.int 0, .ref eT, .int 0])), (aR, .inl (cI, 4, .inl fR)), (aL, .inl (cL, 4, .inl fL)), (aM, .inl (cM, 5, .inr (.inr (.inr (.inr gM))))), (m0, .inl (cR, 16, .inl f0)), (m1, .inl (cR, 16, .inl f1)), (m2, .inl (cR, 16, .inl f2)), (m3, .inl (cR, 16, .inl f3)), (m4, .inl (cR, 16, .inl f4)), (ho, .inl (cO, 1, .inr (.inl fo))), (y0, .inr (8, [.int 1, .ref lH, .ref lB, .ref lJ, .ref aR, .ref aL, .int 0, .int 0, .int 0, .ref lC, .ref aM, .ref aP, .int 0, .int 0, .int 0, .int (-1), .int (-1), .int 0, .int 0, .long 0]))] := hD
    refine lv_istore (lv' := [(6, .int 0), (5, .int 1), (0, .ref b), (1, .ref x0), (2, .ref y0), (3, .ref ho), (4, .int 0)]) hx hb dL_law_1361 hl (by decide) rfl (fun ls hl => ?_)
    refine lv_aload_n hx hb dL_law_1363 rfl (lv_at hl 4 rfl) ?_
    have hPc := hP.sub (ws' := [(y0, .inr (8, [.int 1, .ref lH, .ref lB, .ref lJ, .ref aR, .ref aL, .int 0, .int 0, .int 0, .ref lC, .ref aM, .ref aP, .int 0, .int 0, .int 0, .int (-1), .int (-1), .int 0, .int 0, .long 0]))]) [16] rfl
    have hKc := hK.sub (tys' := []) [] rfl
    refine va_calli (va_runV (As := []) (rest := []) ⟨hx, hb, hml, hown, hts⟩ (r_thrown l D eT y0 lH lB lJ aR aL lC aM aP 0 1 0 H.size ) (cwV 0 hts gL_law_X5_thrown rfl rfl rfl (by decide +kernel) ⟨Nat.le_of_ble_eq_true rfl, Nat.le_of_ble_eq_true rfl⟩) (pr_v (ci := 8) (q0 := 0) rfl rfl hPc hKc hE hS hA) rfl rfl hl.1 rfl (lv_room (Nat.le_of_ble_eq_true rfl)) dL_law_1364 ⟨Nat.le_of_ble_eq_true rfl, Nat.le_of_ble_eq_true rfl⟩) hS (fun q h1 h2 => ro_A h1 h2) (fun q h => ro_F hS hA q h) (fun r u t H1 locs ht hvm hw hB hz1 hk1 hS => ?_)
    have hw : r = 1 := hw
    rw [hw]
    have hP := ro_P hP hk1
    generalize H1 = H at hP hS ⊢
    refine lv_iload hx hb dL_law_1367 (lv_at hl 1 rfl) ?_
    refine lv_icmp_eq (tgt := 1374) hx hb dL_law_1369 (by decide) (fun _ => ?_) (fun h => absurd (by decide) h)
    refine lv_iload hx hb dL_law_1374 (lv_at hl 1 rfl) ?_
    refine lv_if_ne (tgt := 1391) hx hb dL_law_1376 (by decide) (fun _ => ?_) (fun h => absurd h (by decide))
    refine lv_goto (tgt := 1835) hx hb dL_law_1391 (by decide) ?_
    refine W.widen (k := 2000) (n := 20000) (Nat.le_of_ble_eq_true rfl) (Nat.le_of_ble_eq_true rfl) ?_
    exact kx _ _ _ hS (lv_sub hl [2, 3, 4, 5, 6] rfl)
set_option maxHeartbeats 8000000 in
set_option maxRecDepth 100000 in
theorem law_c19 {p : Program} {l : Launch} {e : Env} {s : State} {m : MethodId} {args : Array Value} {below : List Frame} {meth : Method} {c : Code} {Q : State → Prop} {b : Nat} {xs : Nat → Int32} {D : va_G} {eT : Nat} {x0 aH aB aJ rN rX aV j0 c1 c2 c3 c4 c5 y0 lH lB lJ aR aL lC aM aP m0 m1 m2 m3 m4 ho : Nat} {cJ cI cL cM cR cO : ClassId} {fJ : Nat → Option Nat} {fR : Nat → Int32} {fL : Nat → Int32} {gM : Nat → Option Nat} {f0 : Nat → Int32} {f1 : Nat → Int32} {f2 : Nat → Int32} {f3 : Nat → Int32} {f4 : Nat → Int32} {fo : Nat → Int64} (hl0 : l.stackTraces = false) (hx : p.tables.exec = Jvm.exec) (hb : c.code = cL_law) (hml : c.maxLocals = 9) (hown : s.vm.findClass RL = some m.cls) (hts : ∀ w ∈ wsL_law, w.before args s = true) (hX : va_X b 7 xs s s.heap) (hbl : b < s.heap.size) (hE : ev eT (fun q : Nat => s.heap.size ≤ q) s s.heap) (hJ : fJ 0 = some j0) (hR : fR 3 = 10) (hg0 : gM 0 = some m0) (hg1 : gM 1 = some m1) (hg2 : gM 2 = some m2) (hg3 : gM 3 = some m3) (hg4 : gM 4 = some m4) (hm0 : ∀ k, k < 16 → f0 k = -1) (hm1 : ∀ k, k < 16 → f1 k = -1) (hm2 : ∀ k, k < 16 → f2 k = -1) (hm3 : ∀ k, k < 16 → f3 k = -1) (hm4 : ∀ k, k < 16 → f4 k = -1) (hK : va_K D vwCl [(cJ, .object RX2), (cI, .int), (cL, .int), (cM, .array .int), (cR, .int), (cO, .long)] s) {H : Heap} {locs : List Loc} (hP : va_P D vwCl [(x0, .inr (7, [.ref aH, .ref aB, .ref aJ, .int 0, .int 0, .int 0, .ref rN, .ref rX, .int 0, .int 0, .int 0, .int 0, .int 0, .int 0, .int (-1), .int (-1), .int 0, .int 0, .ref aV])), (aJ, .inl (cJ, 5, .inr (.inr (.inr (.inr fJ))))), (j0, .inr (5, [.int 0, .int 0, .int 0, .int 0, .int 0, .ref c1, .ref c2, .int 0, .int 0, .int 0, .int 0, .ref c3, .int 0, .ref c4, .ref c5, .int 0])), (rN, .inr (6, [.int 7, .int 100, .int 800, .int 10])), (rX, .inr (6, [.int 7, .int 100, .int 800, .int 10])), (y0, .inr (8, [.int 0, .ref lH, .ref lB, .ref lJ, .ref aR, .ref aL, .int 0, .int 0, .int 0, .ref lC, .ref aM, .ref aP, .int 0, .int 0, .int 0, .int (-1), .int (-1), .int 0, .int 0, .long 0])), (lH, .inr (2, [.int 0, .ref eT, .int 0])), (lB, .inr (2, [.int 0, .ref eT, .int 0])), (lJ, .inr (2, [.int 0, .ref eT, .int 0])), (lC, .inr (2, [.int 0, .ref eT, .int 0])), (aR, .inl (cI, 4, .inl fR)), (aL, .inl (cL, 4, .inl fL)), (aM, .inl (cM, 5, .inr (.inr (.inr (.inr gM))))), (m0, .inl (cR, 16, .inl f0)), (m1, .inl (cR, 16, .inl f1)), (m2, .inl (cR, 16, .inl f2)), (m3, .inl (cR, 16, .inl f3)), (m4, .inl (cR, 16, .inl f4)), (ho, .inl (cO, 1, .inr (.inl fo)))] H) (hD : va_D (fun q : Nat => s.heap.size ≤ q) [(x0, .inr (7, [.ref aH, .ref aB, .ref aJ, .int 0, .int 0, .int 0, .ref rN, .ref rX, .int 0, .int 0, .int 0, .int 0, .int 0, .int 0, .int (-1), .int (-1), .int 0, .int 0, .ref aV])), (aJ, .inl (cJ, 5, .inr (.inr (.inr (.inr fJ))))), (j0, .inr (5, [.int 0, .int 0, .int 0, .int 0, .int 0, .ref c1, .ref c2, .int 0, .int 0, .int 0, .int 0, .ref c3, .int 0, .ref c4, .ref c5, .int 0])), (rN, .inr (6, [.int 7, .int 100, .int 800, .int 10])), (rX, .inr (6, [.int 7, .int 100, .int 800, .int 10])), (y0, .inr (8, [.int 0, .ref lH, .ref lB, .ref lJ, .ref aR, .ref aL, .int 0, .int 0, .int 0, .ref lC, .ref aM, .ref aP, .int 0, .int 0, .int 0, .int (-1), .int (-1), .int 0, .int 0, .long 0])), (lH, .inr (2, [.int 0, .ref eT, .int 0])), (lB, .inr (2, [.int 0, .ref eT, .int 0])), (lJ, .inr (2, [.int 0, .ref eT, .int 0])), (lC, .inr (2, [.int 0, .ref eT, .int 0])), (aR, .inl (cI, 4, .inl fR)), (aL, .inl (cL, 4, .inl fL)), (aM, .inl (cM, 5, .inr (.inr (.inr (.inr gM))))), (m0, .inl (cR, 16, .inl f0)), (m1, .inl (cR, 16, .inl f1)), (m2, .inl (cR, 16, .inl f2)), (m3, .inl (cR, 16, .inl f3)), (m4, .inl (cR, 16, .inl f4)), (ho, .inl (cO, 1, .inr (.inl fo)))]) (hS : va_S (fun q : Nat => s.heap.size ≤ q) s.heap H locs) {ls : Array Slot} (hl : lv_has ls 9 [(0, .ref b), (1, .ref x0), (2, .ref y0), (3, .ref ho), (4, .int 0)]) (kx : ∀ (H : Heap) (locs : List Loc) (ls : Array Slot), va_S (fun q : Nat => s.heap.size ≤ q) s.heap H locs → lv_has ls 9 [(0, .ref b), (1, .ref x0), (2, .ref y0), (3, .ref ho), (4, .int 0)] → W p l e room_1 s m args below meth c H locs 2000 20000 Q (F0 m 1835 ls [])) : W p l e room_1 s m args below meth c H locs 81 903 Q (F0 m 1394 ls []) := by
  have hA : ∀ q : Nat, s.heap.size ≤ q → (fun q : Nat => s.heap.size ≤ q) q := fun _ h => h
  have hbA : ¬ (fun q : Nat => s.heap.size ≤ q) b := Nat.not_le.mpr hbl
  · skip
    refine lv_aload_n hx hb dL_law_1394 rfl (lv_at hl 1 rfl) ?_
    refine lv_aload_n hx hb dL_law_1395 rfl (lv_at hl 0 rfl) ?_
    refine lv_iload hx hb dL_law_1396 (lv_at hl 4 rfl) ?_
    refine lv_iconst (v := 1) hx hb dL_law_1398 (by decide) ?_
    refine lv_iadd hx hb dL_law_1399 ?_
    refine lv_topi (fun z_1 ez_1 => ?_)
    have ez_1 : z_1 = 1 := ez_1.trans (by decide +kernel)
    rw [ez_1]
    refine va_sld hx hb hX hbl hbA hS (show vp_in 1 7 from by unfold vp_in; decide +kernel) dL_law_1400 ?_
    refine lv_topi (fun z_2 ez_2 => ?_)
    have ez_2 : z_2 = (xs 1) := ez_2
    rw [ez_2]
    refine lv_aload_n hx hb dL_law_1401 rfl (lv_at hl 0 rfl) ?_
    refine lv_iload hx hb dL_law_1402 (lv_at hl 4 rfl) ?_
    refine lv_iconst (v := 2) hx hb dL_law_1404 (by decide) ?_
    refine lv_iadd hx hb dL_law_1405 ?_
    refine lv_topi (fun z_3 ez_3 => ?_)
    have ez_3 : z_3 = 2 := ez_3.trans (by decide +kernel)
    rw [ez_3]
    refine va_sld hx hb hX hbl hbA hS (show vp_in 2 7 from by unfold vp_in; decide +kernel) dL_law_1406 ?_
    refine lv_topi (fun z_4 ez_4 => ?_)
    have ez_4 : z_4 = (xs 2) := ez_4
    rw [ez_4]
    refine lv_aload_n hx hb dL_law_1407 rfl (lv_at hl 3 rfl) ?_
    have hPc := hP.sub (ws' := [(x0, .inr (7, [.ref aH, .ref aB, .ref aJ, .int 0, .int 0, .int 0, .ref rN, .ref rX, .int 0, .int 0, .int 0, .int 0, .int 0, .int 0, .int (-1), .int (-1), .int 0, .int 0, .ref aV])), (ho, .inl (cO, 1, .inr (.inl fo)))]) [0, 18] rfl
    have hKc := hK.sub (tys' := [(cO, .long)]) [5] rfl
    have hDc := hD.sub (ws' := [(x0, .inr (7, [.ref aH, .ref aB, .ref aJ, .int 0, .int 0, .int 0, .ref rN, .ref rX, .int 0, .int 0, .int 0, .int 0, .int 0, .int 0, .int (-1), .int (-1), .int 0, .int 0, .ref aV])), (ho, .inl (cO, 1, .inr (.inl fo)))]) [0, 18] (by decide) rfl
    have hFc := va_free (wc := [(x0, .inr (7, [.ref aH, .ref aB, .ref aJ, .int 0, .int 0, .int 0, .ref rN, .ref rX, .int 0, .int 0, .int 0, .int 0, .int 0, .int 0, .int (-1), .int (-1), .int 0, .int 0, .ref aV])), (ho, .inl (cO, 1, .inr (.inl fo)))]) hD hS hA [0, 18] rfl
    refine va_calli (vx_runSW (As := [.ref x0, .int (xs 1), .int (xs 2), .ref ho]) (rest := []) ⟨hx, hb, hml, hown, hts⟩ (w_ofJudge l hl0 D eT x0 aH aB aJ rN rX aV ho cO fo (xs 1) (xs 2) H.size ) (vx_cwSW 4 hts gL_law_L_ofJudge rfl rfl rfl (by decide +kernel) ⟨Nat.le_of_ble_eq_true rfl, Nat.le_of_ble_eq_true rfl⟩) (pc_s hPc hDc hKc hE hS hFc) rfl rfl hl.1 rfl (lv_room (Nat.le_of_ble_eq_true rfl)) dL_law_1408 ⟨Nat.le_of_ble_eq_true rfl, Nat.le_of_ble_eq_true rfl⟩) hS (fun q _ h => hFc q h) hFc (fun r u t H1 locs ht hvm hw hB hz1 hk1 hS => ?_)
    have hw : r = 1 := hw
    rw [hw]
    obtain ⟨hP1, hK1, hD1⟩ := hB
    rw [ht] at hP1
    have hK1 := va_K.moved hvm.symm hK1
    obtain ⟨hP, hD⟩ := va_join (wr := [(aJ, .inl (cJ, 5, .inr (.inr (.inr (.inr fJ))))), (j0, .inr (5, [.int 0, .int 0, .int 0, .int 0, .int 0, .ref c1, .ref c2, .int 0, .int 0, .int 0, .int 0, .ref c3, .int 0, .ref c4, .ref c5, .int 0])), (rN, .inr (6, [.int 7, .int 100, .int 800, .int 10])), (rX, .inr (6, [.int 7, .int 100, .int 800, .int 10])), (y0, .inr (8, [.int 0, .ref lH, .ref lB, .ref lJ, .ref aR, .ref aL, .int 0, .int 0, .int 0, .ref lC, .ref aM, .ref aP, .int 0, .int 0, .int 0, .int (-1), .int (-1), .int 0, .int 0, .long 0])), (lH, .inr (2, [.int 0, .ref eT, .int 0])), (lB, .inr (2, [.int 0, .ref eT, .int 0])), (lJ, .inr (2, [.int 0, .ref eT, .int 0])), (lC, .inr (2, [.int 0, .ref eT, .int 0])), (aR, .inl (cI, 4, .inl fR)), (aL, .inl (cL, 4, .inl fL)), (aM, .inl (cM, 5, .inr (.inr (.inr (.inr gM))))), (m0, .inl (cR, 16, .inl f0)), (m1, .inl (cR, 16, .inl f1)), (m2, .inl (cR, 16, .inl f2)), (m3, .inl (cR, 16, .inl f3)), (m4, .inl (cR, 16, .inl f4))]) (w1 := [(ho, .inl (cO, 1, .inr (.inl fo)))]) hP hD [0, 18] [1, 2, 3, 4, 5, 6, 7, 8, 9, 10, 11, 12, 13, 14, 15, 16, 17] rfl rfl (by decide) (by decide) hk1 hFc hP1 hD1
    generalize H1 = H at hP hS ⊢
    have hP : va_P D vwCl [(aJ, .inl (cJ, 5, .inr (.inr (.inr (.inr fJ))))), (j0, .inr (5, [.int 0, .int 0, .int 0, .int 0, .int 0, .ref c1, .ref c2, .int 0, .int 0, .int 0, .int 0, .ref c3, .int 0, .ref c4, .ref c5, .int 0])), (rN, .inr (6, [.int 7, .int 100, .int 800, .int 10])), (rX, .inr (6, [.int 7, .int 100, .int 800, .int 10])), (y0, .inr (8, [.int 0, .ref lH, .ref lB, .ref lJ, .ref aR, .ref aL, .int 0, .int 0, .int 0, .ref lC, .ref aM, .ref aP, .int 0, .int 0, .int 0, .int (-1), .int (-1), .int 0, .int 0, .long 0])), (lH, .inr (2, [.int 0, .ref eT, .int 0])), (lB, .inr (2, [.int 0, .ref eT, .int 0])), (lJ, .inr (2, [.int 0, .ref eT, .int 0])), (lC, .inr (2, [.int 0, .ref eT, .int 0])), (aR, .inl (cI, 4, .inl fR)), (aL, .inl (cL, 4, .inl fL)), (aM, .inl (cM, 5, .inr (.inr (.inr (.inr gM))))), (m0, .inl (cR, 16, .inl f0)), (m1, .inl (cR, 16, .inl f1)), (m2, .inl (cR, 16, .inl f2)), (m3, .inl (cR, 16, .inl f3)), (m4, .inl (cR, 16, .inl f4)), (ho, .inl (cO, 1, .inr (.inl fo)))] H := hP
    have hD : va_D (fun q : Nat => s.heap.size ≤ q) [(aJ, .inl (cJ, 5, .inr (.inr (.inr (.inr fJ))))), (j0, .inr (5, [.int 0, .int 0, .int 0, .int 0, .int 0, .ref c1, .ref c2, .int 0, .int 0, .int 0, .int 0, .ref c3, .int 0, .ref c4, .ref c5, .int 0])), (rN, .inr (6, [.int 7, .int 100, .int 800, .int 10])), (rX, .inr (6, [.int 7, .int 100, .int 800, .int 10])), (y0, .inr (8, [.int 0, .ref lH, .ref lB, .ref lJ, .ref aR, .ref aL, .int 0, .int 0, .int 0, .ref lC, .ref aM, .ref aP, .int 0, .int 0, .int 0, .int (-1), .int (-1), .int 0, .int 0, .long 0])), (lH, .inr (2, [.int 0, .ref eT, .int 0])), (lB, .inr (2, [.int 0, .ref eT, .int 0])), (lJ, .inr (2, [.int 0, .ref eT, .int 0])), (lC, .inr (2, [.int 0, .ref eT, .int 0])), (aR, .inl (cI, 4, .inl fR)), (aL, .inl (cL, 4, .inl fL)), (aM, .inl (cM, 5, .inr (.inr (.inr (.inr gM))))), (m0, .inl (cR, 16, .inl f0)), (m1, .inl (cR, 16, .inl f1)), (m2, .inl (cR, 16, .inl f2)), (m3, .inl (cR, 16, .inl f3)), (m4, .inl (cR, 16, .inl f4)), (ho, .inl (cO, 1, .inr (.inl fo)))] := hD
    refine W.widen (k := 82) (n := 909) (Nat.le_of_ble_eq_true rfl) (Nat.le_of_ble_eq_true rfl) ?_
    refine lv_istore (lv' := [(5, .int 1), (0, .ref b), (1, .ref x0), (2, .ref y0), (3, .ref ho), (4, .int 0)]) hx hb dL_law_1411 hl (by decide) rfl (fun ls hl => ?_)
    refine lv_aload_n hx hb dL_law_1413 rfl (lv_at hl 3 rfl) ?_
    refine lv_aload_n hx hb dL_law_1414 rfl (lv_at hl 1 rfl) ?_
    refine lv_iload hx hb dL_law_1415 (lv_at hl 5 rfl) ?_
    refine lv_iconst (v := 1) hx hb dL_law_1417 (by decide) ?_
    refine lv_iadd hx hb dL_law_1418 ?_
    refine lv_topi (fun z_5 ez_5 => ?_)
    have ez_5 : z_5 = 1 := ez_5.trans (by decide +kernel)
    rw [ez_5]
    refine va_sld hx hb hX hbl hbA hS (show vp_in 1 7 from by unfold vp_in; decide +kernel) dL_law_1419 ?_
    refine lv_topi (fun z_6 ez_6 => ?_)
    have ez_6 : z_6 = (xs 1) := ez_6
    rw [ez_6]
    refine lv_aload_n hx hb dL_law_1420 rfl (lv_at hl 1 rfl) ?_
    refine lv_iload hx hb dL_law_1421 (lv_at hl 5 rfl) ?_
    refine lv_iconst (v := 2) hx hb dL_law_1423 (by decide) ?_
    refine lv_iadd hx hb dL_law_1424 ?_
    refine lv_topi (fun z_7 ez_7 => ?_)
    have ez_7 : z_7 = 2 := ez_7.trans (by decide +kernel)
    rw [ez_7]
    refine va_sld hx hb hX hbl hbA hS (show vp_in 2 7 from by unfold vp_in; decide +kernel) dL_law_1425 ?_
    refine lv_topi (fun z_8 ez_8 => ?_)
    have ez_8 : z_8 = (xs 2) := ez_8
    rw [ez_8]
    have hPc := hP.sub (ws' := [(y0, .inr (8, [.int 0, .ref lH, .ref lB, .ref lJ, .ref aR, .ref aL, .int 0, .int 0, .int 0, .ref lC, .ref aM, .ref aP, .int 0, .int 0, .int 0, .int (-1), .int (-1), .int 0, .int 0, .long 0])), (lJ, .inr (2, [.int 0, .ref eT, .int 0]))]) [4, 7] rfl
    have hKc := hK.sub (tys' := []) [] rfl
    have hDc := hD.sub (ws' := [(y0, .inr (8, [.int 0, .ref lH, .ref lB, .ref lJ, .ref aR, .ref aL, .int 0, .int 0, .int 0, .ref lC, .ref aM, .ref aP, .int 0, .int 0, .int 0, .int (-1), .int (-1), .int 0, .int 0, .long 0])), (lJ, .inr (2, [.int 0, .ref eT, .int 0]))]) [4, 7] (by decide) rfl
    have hFc := va_free (wc := [(y0, .inr (8, [.int 0, .ref lH, .ref lB, .ref lJ, .ref aR, .ref aL, .int 0, .int 0, .int 0, .ref lC, .ref aM, .ref aP, .int 0, .int 0, .int 0, .int (-1), .int (-1), .int 0, .int 0, .long 0])), (lJ, .inr (2, [.int 0, .ref eT, .int 0]))]) hD hS hA [4, 7] rfl
    refine va_calli (va_runV (As := [.int (xs 1), .int (xs 2)]) (rest := []) ⟨hx, hb, hml, hown, hts⟩ (r_ofJudge l D eT y0 lH lB lJ aR aL lC aM aP 0 (xs 1) (xs 2) H.size ) (cwV 2 hts gL_law_X5_ofJudge rfl rfl rfl (by decide +kernel) ⟨Nat.le_of_ble_eq_true rfl, Nat.le_of_ble_eq_true rfl⟩) (pc_v (ci := 8) (q0 := 0) rfl rfl hPc hDc hKc hE hS hFc) rfl rfl hl.1 rfl (lv_room (Nat.le_of_ble_eq_true rfl)) dL_law_1426 ⟨Nat.le_of_ble_eq_true rfl, Nat.le_of_ble_eq_true rfl⟩) hS (fun q _ h => hFc q h) hFc (fun r u t H1 locs ht hvm hw hB hz1 hk1 hS => ?_)
    have hw : r = 0 := hw
    rw [hw]
    obtain ⟨hP1, hK1, hD1⟩ := hB
    rw [ht] at hP1
    have hK1 := va_K.moved hvm.symm hK1
    obtain ⟨hP, hD⟩ := va_join (wr := [(aJ, .inl (cJ, 5, .inr (.inr (.inr (.inr fJ))))), (j0, .inr (5, [.int 0, .int 0, .int 0, .int 0, .int 0, .ref c1, .ref c2, .int 0, .int 0, .int 0, .int 0, .ref c3, .int 0, .ref c4, .ref c5, .int 0])), (rN, .inr (6, [.int 7, .int 100, .int 800, .int 10])), (rX, .inr (6, [.int 7, .int 100, .int 800, .int 10])), (lH, .inr (2, [.int 0, .ref eT, .int 0])), (lB, .inr (2, [.int 0, .ref eT, .int 0])), (lC, .inr (2, [.int 0, .ref eT, .int 0])), (aR, .inl (cI, 4, .inl fR)), (aL, .inl (cL, 4, .inl fL)), (aM, .inl (cM, 5, .inr (.inr (.inr (.inr gM))))), (m0, .inl (cR, 16, .inl f0)), (m1, .inl (cR, 16, .inl f1)), (m2, .inl (cR, 16, .inl f2)), (m3, .inl (cR, 16, .inl f3)), (m4, .inl (cR, 16, .inl f4)), (ho, .inl (cO, 1, .inr (.inl fo)))]) (w1 := [(y0, .inr (8, [.int 1, .ref lH, .ref lB, .ref lJ, .ref aR, .ref aL, .int 0, .int 0, .int 0, .ref lC, .ref aM, .ref aP, .int 0, .int 0, .int 0, .int (-1), .int (-1), .int 0, .int 0, .long 0]))]) hP hD [4, 7] [0, 1, 2, 3, 5, 6, 8, 9, 10, 11, 12, 13, 14, 15, 16, 17] rfl rfl (by decide) (by decide) hk1 hFc hP1 hD1
    generalize H1 = H at hP hS ⊢
    have hP : va_P D vwCl [(aJ, .inl (cJ, 5, .inr (.inr (.inr (.inr fJ))))), (j0, .inr (5, [.int 0, .int 0, .int 0, .int 0, .int 0, .ref c1, .ref c2, .int 0, .int 0, .int 0, .int 0, .ref c3, .int 0, .ref c4, .ref c5, .int 0])), (rN, .inr (6, [.int 7, .int 100, .int 800, .int 10])), (rX, .inr (6, [.int 7, .int 100, .int 800, .int 10])), (lH, .inr (2, [.int 0, .ref eT, .int 0])), (lB, .inr (2, [.int 0, .ref eT, .int 0])), (lC, .inr (2, [.int 0, .ref eT, .int 0])), (aR, .inl (cI, 4, .inl fR)), (aL, .inl (cL, 4, .inl fL)), (aM, .inl (cM, 5, .inr (.inr (.inr (.inr gM))))), (m0, .inl (cR, 16, .inl f0)), (m1, .inl (cR, 16, .inl f1)), (m2, .inl (cR, 16, .inl f2)), (m3, .inl (cR, 16, .inl f3)), (m4, .inl (cR, 16, .inl f4)), (ho, .inl (cO, 1, .inr (.inl fo))), (y0, .inr (8, [.int 1, .ref lH, .ref lB, .ref lJ, .ref aR, .ref aL, .int 0, .int 0, .int 0, .ref lC, .ref aM, .ref aP, .int 0, .int 0, .int 0, .int (-1), .int (-1), .int 0, .int 0, .long 0]))] H := hP
    have hD : va_D (fun q : Nat => s.heap.size ≤ q) [(aJ, .inl (cJ, 5, .inr (.inr (.inr (.inr fJ))))), (j0, .inr (5, [.int 0, .int 0, .int 0, .int 0, .int 0, .ref c1, .ref c2, .int 0, .int 0, .int 0, .int 0, .ref c3, .int 0, .ref c4, .ref c5, .int 0])), (rN, .inr (6, [.int 7, .int 100, .int 800, .int 10])), (rX, .inr (6, [.int 7, .int 100, .int 800, .int 10])), (lH, .inr (2, [.int 0, .ref eT, .int 0])), (lB, .inr (2, [.int 0, .ref eT, .int 0])), (lC, .inr (2, [.int 0, .ref eT, .int 0])), (aR, .inl (cI, 4, .inl fR)), (aL, .inl (cL, 4, .inl fL)), (aM, .inl (cM, 5, .inr (.inr (.inr (.inr gM))))), (m0, .inl (cR, 16, .inl f0)), (m1, .inl (cR, 16, .inl f1)), (m2, .inl (cR, 16, .inl f2)), (m3, .inl (cR, 16, .inl f3)), (m4, .inl (cR, 16, .inl f4)), (ho, .inl (cO, 1, .inr (.inl fo))), (y0, .inr (8, [.int 1, .ref lH, .ref lB, .ref lJ, .ref aR, .ref aL, .int 0, .int 0, .int 0, .ref lC, .ref aM, .ref aP, .int 0, .int 0, .int 0, .int (-1), .int (-1), .int 0, .int 0, .long 0]))] := hD
    refine lv_istore (lv' := [(6, .int 0), (5, .int 1), (0, .ref b), (1, .ref x0), (2, .ref y0), (3, .ref ho), (4, .int 0)]) hx hb dL_law_1429 hl (by decide) rfl (fun ls hl => ?_)
    refine lv_aload_n hx hb dL_law_1431 rfl (lv_at hl 4 rfl) ?_
    have hPc := hP.sub (ws' := [(y0, .inr (8, [.int 1, .ref lH, .ref lB, .ref lJ, .ref aR, .ref aL, .int 0, .int 0, .int 0, .ref lC, .ref aM, .ref aP, .int 0, .int 0, .int 0, .int (-1), .int (-1), .int 0, .int 0, .long 0]))]) [16] rfl
    have hKc := hK.sub (tys' := []) [] rfl
    refine va_calli (va_runV (As := []) (rest := []) ⟨hx, hb, hml, hown, hts⟩ (r_thrown l D eT y0 lH lB lJ aR aL lC aM aP 0 1 0 H.size ) (cwV 0 hts gL_law_X5_thrown rfl rfl rfl (by decide +kernel) ⟨Nat.le_of_ble_eq_true rfl, Nat.le_of_ble_eq_true rfl⟩) (pr_v (ci := 8) (q0 := 0) rfl rfl hPc hKc hE hS hA) rfl rfl hl.1 rfl (lv_room (Nat.le_of_ble_eq_true rfl)) dL_law_1432 ⟨Nat.le_of_ble_eq_true rfl, Nat.le_of_ble_eq_true rfl⟩) hS (fun q h1 h2 => ro_A h1 h2) (fun q h => ro_F hS hA q h) (fun r u t H1 locs ht hvm hw hB hz1 hk1 hS => ?_)
    have hw : r = 1 := hw
    rw [hw]
    have hP := ro_P hP hk1
    generalize H1 = H at hP hS ⊢
    refine lv_iload hx hb dL_law_1435 (lv_at hl 1 rfl) ?_
    refine lv_icmp_eq (tgt := 1442) hx hb dL_law_1437 (by decide) (fun _ => ?_) (fun h => absurd (by decide) h)
    refine lv_iload hx hb dL_law_1442 (lv_at hl 1 rfl) ?_
    refine lv_if_ne (tgt := 1459) hx hb dL_law_1444 (by decide) (fun _ => ?_) (fun h => absurd h (by decide))
    refine lv_goto (tgt := 1835) hx hb dL_law_1459 (by decide) ?_
    refine W.widen (k := 2000) (n := 20000) (Nat.le_of_ble_eq_true rfl) (Nat.le_of_ble_eq_true rfl) ?_
    exact kx _ _ _ hS (lv_sub hl [2, 3, 4, 5, 6] rfl)
set_option maxHeartbeats 8000000 in
set_option maxRecDepth 100000 in
theorem law_c20 {p : Program} {l : Launch} {e : Env} {s : State} {m : MethodId} {args : Array Value} {below : List Frame} {meth : Method} {c : Code} {Q : State → Prop} {b : Nat} {xs : Nat → Int32} {D : va_G} {eT : Nat} {x0 aH aB aJ rN rX aV j0 c1 c2 c3 c4 c5 y0 lH lB lJ aR aL lC aM aP m0 m1 m2 m3 m4 ho : Nat} {cJ cI cL cM cR cO : ClassId} {fJ : Nat → Option Nat} {fR : Nat → Int32} {fL : Nat → Int32} {gM : Nat → Option Nat} {f0 : Nat → Int32} {f1 : Nat → Int32} {f2 : Nat → Int32} {f3 : Nat → Int32} {f4 : Nat → Int32} {fo : Nat → Int64} (hl0 : l.stackTraces = false) (hx : p.tables.exec = Jvm.exec) (hb : c.code = cL_law) (hml : c.maxLocals = 9) (hown : s.vm.findClass RL = some m.cls) (hts : ∀ w ∈ wsL_law, w.before args s = true) (hX : va_X b 7 xs s s.heap) (hbl : b < s.heap.size) (hE : ev eT (fun q : Nat => s.heap.size ≤ q) s s.heap) (hJ : fJ 0 = some j0) (hR : fR 3 = 10) (hg0 : gM 0 = some m0) (hg1 : gM 1 = some m1) (hg2 : gM 2 = some m2) (hg3 : gM 3 = some m3) (hg4 : gM 4 = some m4) (hm0 : ∀ k, k < 16 → f0 k = -1) (hm1 : ∀ k, k < 16 → f1 k = -1) (hm2 : ∀ k, k < 16 → f2 k = -1) (hm3 : ∀ k, k < 16 → f3 k = -1) (hm4 : ∀ k, k < 16 → f4 k = -1) (hK : va_K D vwCl [(cJ, .object RX2), (cI, .int), (cL, .int), (cM, .array .int), (cR, .int), (cO, .long)] s) {H : Heap} {locs : List Loc} (hP : va_P D vwCl [(x0, .inr (7, [.ref aH, .ref aB, .ref aJ, .int 0, .int 0, .int 0, .ref rN, .ref rX, .int 0, .int 0, .int 0, .int 0, .int 0, .int 0, .int (-1), .int (-1), .int 0, .int 0, .ref aV])), (aJ, .inl (cJ, 5, .inr (.inr (.inr (.inr fJ))))), (j0, .inr (5, [.int 0, .int 0, .int 0, .int 0, .int 0, .ref c1, .ref c2, .int 0, .int 0, .int 0, .int 0, .ref c3, .int 0, .ref c4, .ref c5, .int 0])), (rN, .inr (6, [.int 7, .int 100, .int 800, .int 10])), (rX, .inr (6, [.int 7, .int 100, .int 800, .int 10])), (y0, .inr (8, [.int 0, .ref lH, .ref lB, .ref lJ, .ref aR, .ref aL, .int 0, .int 0, .int 0, .ref lC, .ref aM, .ref aP, .int 0, .int 0, .int 0, .int (-1), .int (-1), .int 0, .int 0, .long 0])), (lH, .inr (2, [.int 0, .ref eT, .int 0])), (lB, .inr (2, [.int 0, .ref eT, .int 0])), (lJ, .inr (2, [.int 0, .ref eT, .int 0])), (lC, .inr (2, [.int 0, .ref eT, .int 0])), (aR, .inl (cI, 4, .inl fR)), (aL, .inl (cL, 4, .inl fL)), (aM, .inl (cM, 5, .inr (.inr (.inr (.inr gM))))), (m0, .inl (cR, 16, .inl f0)), (m1, .inl (cR, 16, .inl f1)), (m2, .inl (cR, 16, .inl f2)), (m3, .inl (cR, 16, .inl f3)), (m4, .inl (cR, 16, .inl f4)), (ho, .inl (cO, 1, .inr (.inl fo)))] H) (hD : va_D (fun q : Nat => s.heap.size ≤ q) [(x0, .inr (7, [.ref aH, .ref aB, .ref aJ, .int 0, .int 0, .int 0, .ref rN, .ref rX, .int 0, .int 0, .int 0, .int 0, .int 0, .int 0, .int (-1), .int (-1), .int 0, .int 0, .ref aV])), (aJ, .inl (cJ, 5, .inr (.inr (.inr (.inr fJ))))), (j0, .inr (5, [.int 0, .int 0, .int 0, .int 0, .int 0, .ref c1, .ref c2, .int 0, .int 0, .int 0, .int 0, .ref c3, .int 0, .ref c4, .ref c5, .int 0])), (rN, .inr (6, [.int 7, .int 100, .int 800, .int 10])), (rX, .inr (6, [.int 7, .int 100, .int 800, .int 10])), (y0, .inr (8, [.int 0, .ref lH, .ref lB, .ref lJ, .ref aR, .ref aL, .int 0, .int 0, .int 0, .ref lC, .ref aM, .ref aP, .int 0, .int 0, .int 0, .int (-1), .int (-1), .int 0, .int 0, .long 0])), (lH, .inr (2, [.int 0, .ref eT, .int 0])), (lB, .inr (2, [.int 0, .ref eT, .int 0])), (lJ, .inr (2, [.int 0, .ref eT, .int 0])), (lC, .inr (2, [.int 0, .ref eT, .int 0])), (aR, .inl (cI, 4, .inl fR)), (aL, .inl (cL, 4, .inl fL)), (aM, .inl (cM, 5, .inr (.inr (.inr (.inr gM))))), (m0, .inl (cR, 16, .inl f0)), (m1, .inl (cR, 16, .inl f1)), (m2, .inl (cR, 16, .inl f2)), (m3, .inl (cR, 16, .inl f3)), (m4, .inl (cR, 16, .inl f4)), (ho, .inl (cO, 1, .inr (.inl fo)))]) (hS : va_S (fun q : Nat => s.heap.size ≤ q) s.heap H locs) {ls : Array Slot} (hl : lv_has ls 9 [(0, .ref b), (1, .ref x0), (2, .ref y0), (3, .ref ho), (4, .int 0)]) (kx : ∀ (H : Heap) (locs : List Loc) (ls : Array Slot), va_S (fun q : Nat => s.heap.size ≤ q) s.heap H locs → lv_has ls 9 [(0, .ref b), (1, .ref x0), (2, .ref y0), (3, .ref ho), (4, .int 0)] → W p l e room_1 s m args below meth c H locs 2000 20000 Q (F0 m 1835 ls [])) : W p l e room_1 s m args below meth c H locs 81 903 Q (F0 m 1462 ls []) := by
  have hA : ∀ q : Nat, s.heap.size ≤ q → (fun q : Nat => s.heap.size ≤ q) q := fun _ h => h
  have hbA : ¬ (fun q : Nat => s.heap.size ≤ q) b := Nat.not_le.mpr hbl
  · skip
    refine lv_aload_n hx hb dL_law_1462 rfl (lv_at hl 1 rfl) ?_
    refine lv_aload_n hx hb dL_law_1463 rfl (lv_at hl 0 rfl) ?_
    refine lv_iload hx hb dL_law_1464 (lv_at hl 4 rfl) ?_
    refine lv_iconst (v := 1) hx hb dL_law_1466 (by decide) ?_
    refine lv_iadd hx hb dL_law_1467 ?_
    refine lv_topi (fun z_1 ez_1 => ?_)
    have ez_1 : z_1 = 1 := ez_1.trans (by decide +kernel)
    rw [ez_1]
    refine va_sld hx hb hX hbl hbA hS (show vp_in 1 7 from by unfold vp_in; decide +kernel) dL_law_1468 ?_
    refine lv_topi (fun z_2 ez_2 => ?_)
    have ez_2 : z_2 = (xs 1) := ez_2
    rw [ez_2]
    refine lv_aload_n hx hb dL_law_1469 rfl (lv_at hl 0 rfl) ?_
    refine lv_iload hx hb dL_law_1470 (lv_at hl 4 rfl) ?_
    refine lv_iconst (v := 2) hx hb dL_law_1472 (by decide) ?_
    refine lv_iadd hx hb dL_law_1473 ?_
    refine lv_topi (fun z_3 ez_3 => ?_)
    have ez_3 : z_3 = 2 := ez_3.trans (by decide +kernel)
    rw [ez_3]
    refine va_sld hx hb hX hbl hbA hS (show vp_in 2 7 from by unfold vp_in; decide +kernel) dL_law_1474 ?_
    refine lv_topi (fun z_4 ez_4 => ?_)
    have ez_4 : z_4 = (xs 2) := ez_4
    rw [ez_4]
    refine lv_aload_n hx hb dL_law_1475 rfl (lv_at hl 3 rfl) ?_
    have hPc := hP.sub (ws' := [(x0, .inr (7, [.ref aH, .ref aB, .ref aJ, .int 0, .int 0, .int 0, .ref rN, .ref rX, .int 0, .int 0, .int 0, .int 0, .int 0, .int 0, .int (-1), .int (-1), .int 0, .int 0, .ref aV])), (ho, .inl (cO, 1, .inr (.inl fo)))]) [0, 18] rfl
    have hKc := hK.sub (tys' := [(cO, .long)]) [5] rfl
    have hDc := hD.sub (ws' := [(x0, .inr (7, [.ref aH, .ref aB, .ref aJ, .int 0, .int 0, .int 0, .ref rN, .ref rX, .int 0, .int 0, .int 0, .int 0, .int 0, .int 0, .int (-1), .int (-1), .int 0, .int 0, .ref aV])), (ho, .inl (cO, 1, .inr (.inl fo)))]) [0, 18] (by decide) rfl
    have hFc := va_free (wc := [(x0, .inr (7, [.ref aH, .ref aB, .ref aJ, .int 0, .int 0, .int 0, .ref rN, .ref rX, .int 0, .int 0, .int 0, .int 0, .int 0, .int 0, .int (-1), .int (-1), .int 0, .int 0, .ref aV])), (ho, .inl (cO, 1, .inr (.inl fo)))]) hD hS hA [0, 18] rfl
    refine va_calli (vx_runSW (As := [.ref x0, .int (xs 1), .int (xs 2), .ref ho]) (rest := []) ⟨hx, hb, hml, hown, hts⟩ (w_mark l hl0 D eT x0 aH aB aJ rN rX aV ho cO fo (xs 1) (xs 2) H.size ) (vx_cwSW 4 hts gL_law_L_mark rfl rfl rfl (by decide +kernel) ⟨Nat.le_of_ble_eq_true rfl, Nat.le_of_ble_eq_true rfl⟩) (pc_s hPc hDc hKc hE hS hFc) rfl rfl hl.1 rfl (lv_room (Nat.le_of_ble_eq_true rfl)) dL_law_1476 ⟨Nat.le_of_ble_eq_true rfl, Nat.le_of_ble_eq_true rfl⟩) hS (fun q _ h => hFc q h) hFc (fun r u t H1 locs ht hvm hw hB hz1 hk1 hS => ?_)
    have hw : r = 1 := hw
    rw [hw]
    obtain ⟨hP1, hK1, hD1⟩ := hB
    rw [ht] at hP1
    have hK1 := va_K.moved hvm.symm hK1
    obtain ⟨hP, hD⟩ := va_join (wr := [(aJ, .inl (cJ, 5, .inr (.inr (.inr (.inr fJ))))), (j0, .inr (5, [.int 0, .int 0, .int 0, .int 0, .int 0, .ref c1, .ref c2, .int 0, .int 0, .int 0, .int 0, .ref c3, .int 0, .ref c4, .ref c5, .int 0])), (rN, .inr (6, [.int 7, .int 100, .int 800, .int 10])), (rX, .inr (6, [.int 7, .int 100, .int 800, .int 10])), (y0, .inr (8, [.int 0, .ref lH, .ref lB, .ref lJ, .ref aR, .ref aL, .int 0, .int 0, .int 0, .ref lC, .ref aM, .ref aP, .int 0, .int 0, .int 0, .int (-1), .int (-1), .int 0, .int 0, .long 0])), (lH, .inr (2, [.int 0, .ref eT, .int 0])), (lB, .inr (2, [.int 0, .ref eT, .int 0])), (lJ, .inr (2, [.int 0, .ref eT, .int 0])), (lC, .inr (2, [.int 0, .ref eT, .int 0])), (aR, .inl (cI, 4, .inl fR)), (aL, .inl (cL, 4, .inl fL)), (aM, .inl (cM, 5, .inr (.inr (.inr (.inr gM))))), (m0, .inl (cR, 16, .inl f0)), (m1, .inl (cR, 16, .inl f1)), (m2, .inl (cR, 16, .inl f2)), (m3, .inl (cR, 16, .inl f3)), (m4, .inl (cR, 16, .inl f4))]) (w1 := [(ho, .inl (cO, 1, .inr (.inl fo)))]) hP hD [0, 18] [1, 2, 3, 4, 5, 6, 7, 8, 9, 10, 11, 12, 13, 14, 15, 16, 17] rfl rfl (by decide) (by decide) hk1 hFc hP1 hD1
    generalize H1 = H at hP hS ⊢
    have hP : va_P D vwCl [(aJ, .inl (cJ, 5, .inr (.inr (.inr (.inr fJ))))), (j0, .inr (5, [.int 0, .int 0, .int 0, .int 0, .int 0, .ref c1, .ref c2, .int 0, .int 0, .int 0, .int 0, .ref c3, .int 0, .ref c4, .ref c5, .int 0])), (rN, .inr (6, [.int 7, .int 100, .int 800, .int 10])), (rX, .inr (6, [.int 7, .int 100, .int 800, .int 10])), (y0, .inr (8, [.int 0, .ref lH, .ref lB, .ref lJ, .ref aR, .ref aL, .int 0, .int 0, .int 0, .ref lC, .ref aM, .ref aP, .int 0, .int 0, .int 0, .int (-1), .int (-1), .int 0, .int 0, .long 0])), (lH, .inr (2, [.int 0, .ref eT, .int 0])), (lB, .inr (2, [.int 0, .ref eT, .int 0])), (lJ, .inr (2, [.int 0, .ref eT, .int 0])), (lC, .inr (2, [.int 0, .ref eT, .int 0])), (aR, .inl (cI, 4, .inl fR)), (aL, .inl (cL, 4, .inl fL)), (aM, .inl (cM, 5, .inr (.inr (.inr (.inr gM))))), (m0, .inl (cR, 16, .inl f0)), (m1, .inl (cR, 16, .inl f1)), (m2, .inl (cR, 16, .inl f2)), (m3, .inl (cR, 16, .inl f3)), (m4, .inl (cR, 16, .inl f4)), (ho, .inl (cO, 1, .inr (.inl fo)))] H := hP
    have hD : va_D (fun q : Nat => s.heap.size ≤ q) [(aJ, .inl (cJ, 5, .inr (.inr (.inr (.inr fJ))))), (j0, .inr (5, [.int 0, .int 0, .int 0, .int 0, .int 0, .ref c1, .ref c2, .int 0, .int 0, .int 0, .int 0, .ref c3, .int 0, .ref c4, .ref c5, .int 0])), (rN, .inr (6, [.int 7, .int 100, .int 800, .int 10])), (rX, .inr (6, [.int 7, .int 100, .int 800, .int 10])), (y0, .inr (8, [.int 0, .ref lH, .ref lB, .ref lJ, .ref aR, .ref aL, .int 0, .int 0, .int 0, .ref lC, .ref aM, .ref aP, .int 0, .int 0, .int 0, .int (-1), .int (-1), .int 0, .int 0, .long 0])), (lH, .inr (2, [.int 0, .ref eT, .int 0])), (lB, .inr (2, [.int 0, .ref eT, .int 0])), (lJ, .inr (2, [.int 0, .ref eT, .int 0])), (lC, .inr (2, [.int 0, .ref eT, .int 0])), (aR, .inl (cI, 4, .inl fR)), (aL, .inl (cL, 4, .inl fL)), (aM, .inl (cM, 5, .inr (.inr (.inr (.inr gM))))), (m0, .inl (cR, 16, .inl f0)), (m1, .inl (cR, 16, .inl f1)), (m2, .inl (cR, 16, .inl f2)), (m3, .inl (cR, 16, .inl f3)), (m4, .inl (cR, 16, .inl f4)), (ho, .inl (cO, 1, .inr (.inl fo)))] := hD
    refine W.widen (k := 82) (n := 909) (Nat.le_of_ble_eq_true rfl) (Nat.le_of_ble_eq_true rfl) ?_
    refine lv_istore (lv' := [(5, .int 1), (0, .ref b), (1, .ref x0), (2, .ref y0), (3, .ref ho), (4, .int 0)]) hx hb dL_law_1479 hl (by decide) rfl (fun ls hl => ?_)
    refine lv_aload_n hx hb dL_law_1481 rfl (lv_at hl 3 rfl) ?_
    refine lv_aload_n hx hb dL_law_1482 rfl (lv_at hl 1 rfl) ?_
    refine lv_iload hx hb dL_law_1483 (lv_at hl 5 rfl) ?_
    refine lv_iconst (v := 1) hx hb dL_law_1485 (by decide) ?_
    refine lv_iadd hx hb dL_law_1486 ?_
    refine lv_topi (fun z_5 ez_5 => ?_)
    have ez_5 : z_5 = 1 := ez_5.trans (by decide +kernel)
    rw [ez_5]
    refine va_sld hx hb hX hbl hbA hS (show vp_in 1 7 from by unfold vp_in; decide +kernel) dL_law_1487 ?_
    refine lv_topi (fun z_6 ez_6 => ?_)
    have ez_6 : z_6 = (xs 1) := ez_6
    rw [ez_6]
    refine lv_aload_n hx hb dL_law_1488 rfl (lv_at hl 1 rfl) ?_
    refine lv_iload hx hb dL_law_1489 (lv_at hl 5 rfl) ?_
    refine lv_iconst (v := 2) hx hb dL_law_1491 (by decide) ?_
    refine lv_iadd hx hb dL_law_1492 ?_
    refine lv_topi (fun z_7 ez_7 => ?_)
    have ez_7 : z_7 = 2 := ez_7.trans (by decide +kernel)
    rw [ez_7]
    refine va_sld hx hb hX hbl hbA hS (show vp_in 2 7 from by unfold vp_in; decide +kernel) dL_law_1493 ?_
    refine lv_topi (fun z_8 ez_8 => ?_)
    have ez_8 : z_8 = (xs 2) := ez_8
    rw [ez_8]
    have hPc := hP.sub (ws' := [(y0, .inr (8, [.int 0, .ref lH, .ref lB, .ref lJ, .ref aR, .ref aL, .int 0, .int 0, .int 0, .ref lC, .ref aM, .ref aP, .int 0, .int 0, .int 0, .int (-1), .int (-1), .int 0, .int 0, .long 0])), (lJ, .inr (2, [.int 0, .ref eT, .int 0]))]) [4, 7] rfl
    have hKc := hK.sub (tys' := []) [] rfl
    have hDc := hD.sub (ws' := [(y0, .inr (8, [.int 0, .ref lH, .ref lB, .ref lJ, .ref aR, .ref aL, .int 0, .int 0, .int 0, .ref lC, .ref aM, .ref aP, .int 0, .int 0, .int 0, .int (-1), .int (-1), .int 0, .int 0, .long 0])), (lJ, .inr (2, [.int 0, .ref eT, .int 0]))]) [4, 7] (by decide) rfl
    have hFc := va_free (wc := [(y0, .inr (8, [.int 0, .ref lH, .ref lB, .ref lJ, .ref aR, .ref aL, .int 0, .int 0, .int 0, .ref lC, .ref aM, .ref aP, .int 0, .int 0, .int 0, .int (-1), .int (-1), .int 0, .int 0, .long 0])), (lJ, .inr (2, [.int 0, .ref eT, .int 0]))]) hD hS hA [4, 7] rfl
    refine va_calli (va_runV (As := [.int (xs 1), .int (xs 2)]) (rest := []) ⟨hx, hb, hml, hown, hts⟩ (r_mark l D eT y0 lH lB lJ aR aL lC aM aP 0 (xs 1) (xs 2) H.size ) (cwV 2 hts gL_law_X5_mark rfl rfl rfl (by decide +kernel) ⟨Nat.le_of_ble_eq_true rfl, Nat.le_of_ble_eq_true rfl⟩) (pc_v (ci := 8) (q0 := 0) rfl rfl hPc hDc hKc hE hS hFc) rfl rfl hl.1 rfl (lv_room (Nat.le_of_ble_eq_true rfl)) dL_law_1494 ⟨Nat.le_of_ble_eq_true rfl, Nat.le_of_ble_eq_true rfl⟩) hS (fun q _ h => hFc q h) hFc (fun r u t H1 locs ht hvm hw hB hz1 hk1 hS => ?_)
    have hw : r = 0 := hw
    rw [hw]
    obtain ⟨hP1, hK1, hD1⟩ := hB
    rw [ht] at hP1
    have hK1 := va_K.moved hvm.symm hK1
    obtain ⟨hP, hD⟩ := va_join (wr := [(aJ, .inl (cJ, 5, .inr (.inr (.inr (.inr fJ))))), (j0, .inr (5, [.int 0, .int 0, .int 0, .int 0, .int 0, .ref c1, .ref c2, .int 0, .int 0, .int 0, .int 0, .ref c3, .int 0, .ref c4, .ref c5, .int 0])), (rN, .inr (6, [.int 7, .int 100, .int 800, .int 10])), (rX, .inr (6, [.int 7, .int 100, .int 800, .int 10])), (lH, .inr (2, [.int 0, .ref eT, .int 0])), (lB, .inr (2, [.int 0, .ref eT, .int 0])), (lC, .inr (2, [.int 0, .ref eT, .int 0])), (aR, .inl (cI, 4, .inl fR)), (aL, .inl (cL, 4, .inl fL)), (aM, .inl (cM, 5, .inr (.inr (.inr (.inr gM))))), (m0, .inl (cR, 16, .inl f0)), (m1, .inl (cR, 16, .inl f1)), (m2, .inl (cR, 16, .inl f2)), (m3, .inl (cR, 16, .inl f3)), (m4, .inl (cR, 16, .inl f4)), (ho, .inl (cO, 1, .inr (.inl fo)))]) (w1 := [(y0, .inr (8, [.int 1, .ref lH, .ref lB, .ref lJ, .ref aR, .ref aL, .int 0, .int 0, .int 0, .ref lC, .ref aM, .ref aP, .int 0, .int 0, .int 0, .int (-1), .int (-1), .int 0, .int 0, .long 0]))]) hP hD [4, 7] [0, 1, 2, 3, 5, 6, 8, 9, 10, 11, 12, 13, 14, 15, 16, 17] rfl rfl (by decide) (by decide) hk1 hFc hP1 hD1
    generalize H1 = H at hP hS ⊢
    have hP : va_P D vwCl [(aJ, .inl (cJ, 5, .inr (.inr (.inr (.inr fJ))))), (j0, .inr (5, [.int 0, .int 0, .int 0, .int 0, .int 0, .ref c1, .ref c2, .int 0, .int 0, .int 0, .int 0, .ref c3, .int 0, .ref c4, .ref c5, .int 0])), (rN, .inr (6, [.int 7, .int 100, .int 800, .int 10])), (rX, .inr (6, [.int 7, .int 100, .int 800, .int 10])), (lH, .inr (2, [.int 0, .ref eT, .int 0])), (lB, .inr (2, [.int 0, .ref eT, .int 0])), (lC, .inr (2, [.int 0, .ref eT, .int 0])), (aR, .inl (cI, 4, .inl fR)), (aL, .inl (cL, 4, .inl fL)), (aM, .inl (cM, 5, .inr (.inr (.inr (.inr gM))))), (m0, .inl (cR, 16, .inl f0)), (m1, .inl (cR, 16, .inl f1)), (m2, .inl (cR, 16, .inl f2)), (m3, .inl (cR, 16, .inl f3)), (m4, .inl (cR, 16, .inl f4)), (ho, .inl (cO, 1, .inr (.inl fo))), (y0, .inr (8, [.int 1, .ref lH, .ref lB, .ref lJ, .ref aR, .ref aL, .int 0, .int 0, .int 0, .ref lC, .ref aM, .ref aP, .int 0, .int 0, .int 0, .int (-1), .int (-1), .int 0, .int 0, .long 0]))] H := hP
    have hD : va_D (fun q : Nat => s.heap.size ≤ q) [(aJ, .inl (cJ, 5, .inr (.inr (.inr (.inr fJ))))), (j0, .inr (5, [.int 0, .int 0, .int 0, .int 0, .int 0, .ref c1, .ref c2, .int 0, .int 0, .int 0, .int 0, .ref c3, .int 0, .ref c4, .ref c5, .int 0])), (rN, .inr (6, [.int 7, .int 100, .int 800, .int 10])), (rX, .inr (6, [.int 7, .int 100, .int 800, .int 10])), (lH, .inr (2, [.int 0, .ref eT, .int 0])), (lB, .inr (2, [.int 0, .ref eT, .int 0])), (lC, .inr (2, [.int 0, .ref eT, .int 0])), (aR, .inl (cI, 4, .inl fR)), (aL, .inl (cL, 4, .inl fL)), (aM, .inl (cM, 5, .inr (.inr (.inr (.inr gM))))), (m0, .inl (cR, 16, .inl f0)), (m1, .inl (cR, 16, .inl f1)), (m2, .inl (cR, 16, .inl f2)), (m3, .inl (cR, 16, .inl f3)), (m4, .inl (cR, 16, .inl f4)), (ho, .inl (cO, 1, .inr (.inl fo))), (y0, .inr (8, [.int 1, .ref lH, .ref lB, .ref lJ, .ref aR, .ref aL, .int 0, .int 0, .int 0, .ref lC, .ref aM, .ref aP, .int 0, .int 0, .int 0, .int (-1), .int (-1), .int 0, .int 0, .long 0]))] := hD
    refine lv_istore (lv' := [(6, .int 0), (5, .int 1), (0, .ref b), (1, .ref x0), (2, .ref y0), (3, .ref ho), (4, .int 0)]) hx hb dL_law_1497 hl (by decide) rfl (fun ls hl => ?_)
    refine lv_aload_n hx hb dL_law_1499 rfl (lv_at hl 4 rfl) ?_
    have hPc := hP.sub (ws' := [(y0, .inr (8, [.int 1, .ref lH, .ref lB, .ref lJ, .ref aR, .ref aL, .int 0, .int 0, .int 0, .ref lC, .ref aM, .ref aP, .int 0, .int 0, .int 0, .int (-1), .int (-1), .int 0, .int 0, .long 0]))]) [16] rfl
    have hKc := hK.sub (tys' := []) [] rfl
    refine va_calli (va_runV (As := []) (rest := []) ⟨hx, hb, hml, hown, hts⟩ (r_thrown l D eT y0 lH lB lJ aR aL lC aM aP 0 1 0 H.size ) (cwV 0 hts gL_law_X5_thrown rfl rfl rfl (by decide +kernel) ⟨Nat.le_of_ble_eq_true rfl, Nat.le_of_ble_eq_true rfl⟩) (pr_v (ci := 8) (q0 := 0) rfl rfl hPc hKc hE hS hA) rfl rfl hl.1 rfl (lv_room (Nat.le_of_ble_eq_true rfl)) dL_law_1500 ⟨Nat.le_of_ble_eq_true rfl, Nat.le_of_ble_eq_true rfl⟩) hS (fun q h1 h2 => ro_A h1 h2) (fun q h => ro_F hS hA q h) (fun r u t H1 locs ht hvm hw hB hz1 hk1 hS => ?_)
    have hw : r = 1 := hw
    rw [hw]
    have hP := ro_P hP hk1
    generalize H1 = H at hP hS ⊢
    refine lv_iload hx hb dL_law_1503 (lv_at hl 1 rfl) ?_
    refine lv_icmp_eq (tgt := 1510) hx hb dL_law_1505 (by decide) (fun _ => ?_) (fun h => absurd (by decide) h)
    refine lv_iload hx hb dL_law_1510 (lv_at hl 1 rfl) ?_
    refine lv_if_ne (tgt := 1527) hx hb dL_law_1512 (by decide) (fun _ => ?_) (fun h => absurd h (by decide))
    refine lv_goto (tgt := 1835) hx hb dL_law_1527 (by decide) ?_
    refine W.widen (k := 2000) (n := 20000) (Nat.le_of_ble_eq_true rfl) (Nat.le_of_ble_eq_true rfl) ?_
    exact kx _ _ _ hS (lv_sub hl [2, 3, 4, 5, 6] rfl)
set_option maxHeartbeats 8000000 in
set_option maxRecDepth 100000 in
theorem law_c21 {p : Program} {l : Launch} {e : Env} {s : State} {m : MethodId} {args : Array Value} {below : List Frame} {meth : Method} {c : Code} {Q : State → Prop} {b : Nat} {xs : Nat → Int32} {D : va_G} {eT : Nat} {x0 aH aB aJ rN rX aV j0 c1 c2 c3 c4 c5 y0 lH lB lJ aR aL lC aM aP m0 m1 m2 m3 m4 ho : Nat} {cJ cI cL cM cR cO : ClassId} {fJ : Nat → Option Nat} {fR : Nat → Int32} {fL : Nat → Int32} {gM : Nat → Option Nat} {f0 : Nat → Int32} {f1 : Nat → Int32} {f2 : Nat → Int32} {f3 : Nat → Int32} {f4 : Nat → Int32} {fo : Nat → Int64} (hl0 : l.stackTraces = false) (hx : p.tables.exec = Jvm.exec) (hb : c.code = cL_law) (hml : c.maxLocals = 9) (hown : s.vm.findClass RL = some m.cls) (hts : ∀ w ∈ wsL_law, w.before args s = true) (hX : va_X b 7 xs s s.heap) (hbl : b < s.heap.size) (hE : ev eT (fun q : Nat => s.heap.size ≤ q) s s.heap) (hJ : fJ 0 = some j0) (hR : fR 3 = 10) (hg0 : gM 0 = some m0) (hg1 : gM 1 = some m1) (hg2 : gM 2 = some m2) (hg3 : gM 3 = some m3) (hg4 : gM 4 = some m4) (hm0 : ∀ k, k < 16 → f0 k = -1) (hm1 : ∀ k, k < 16 → f1 k = -1) (hm2 : ∀ k, k < 16 → f2 k = -1) (hm3 : ∀ k, k < 16 → f3 k = -1) (hm4 : ∀ k, k < 16 → f4 k = -1) (hK : va_K D vwCl [(cJ, .object RX2), (cI, .int), (cL, .int), (cM, .array .int), (cR, .int), (cO, .long)] s) {H : Heap} {locs : List Loc} (hP : va_P D vwCl [(x0, .inr (7, [.ref aH, .ref aB, .ref aJ, .int 0, .int 0, .int 0, .ref rN, .ref rX, .int 0, .int 0, .int 0, .int 0, .int 0, .int 0, .int (-1), .int (-1), .int 0, .int 0, .ref aV])), (aJ, .inl (cJ, 5, .inr (.inr (.inr (.inr fJ))))), (j0, .inr (5, [.int 0, .int 0, .int 0, .int 0, .int 0, .ref c1, .ref c2, .int 0, .int 0, .int 0, .int 0, .ref c3, .int 0, .ref c4, .ref c5, .int 0])), (rN, .inr (6, [.int 7, .int 100, .int 800, .int 10])), (rX, .inr (6, [.int 7, .int 100, .int 800, .int 10])), (y0, .inr (8, [.int 0, .ref lH, .ref lB, .ref lJ, .ref aR, .ref aL, .int 0, .int 0, .int 0, .ref lC, .ref aM, .ref aP, .int 0, .int 0, .int 0, .int (-1), .int (-1), .int 0, .int 0, .long 0])), (lH, .inr (2, [.int 0, .ref eT, .int 0])), (lB, .inr (2, [.int 0, .ref eT, .int 0])), (lJ, .inr (2, [.int 0, .ref eT, .int 0])), (lC, .inr (2, [.int 0, .ref eT, .int 0])), (aR, .inl (cI, 4, .inl fR)), (aL, .inl (cL, 4, .inl fL)), (aM, .inl (cM, 5, .inr (.inr (.inr (.inr gM))))), (m0, .inl (cR, 16, .inl f0)), (m1, .inl (cR, 16, .inl f1)), (m2, .inl (cR, 16, .inl f2)), (m3, .inl (cR, 16, .inl f3)), (m4, .inl (cR, 16, .inl f4)), (ho, .inl (cO, 1, .inr (.inl fo)))] H) (hD : va_D (fun q : Nat => s.heap.size ≤ q) [(x0, .inr (7, [.ref aH, .ref aB, .ref aJ, .int 0, .int 0, .int 0, .ref rN, .ref rX, .int 0, .int 0, .int 0, .int 0, .int 0, .int 0, .int (-1), .int (-1), .int 0, .int 0, .ref aV])), (aJ, .inl (cJ, 5, .inr (.inr (.inr (.inr fJ))))), (j0, .inr (5, [.int 0, .int 0, .int 0, .int 0, .int 0, .ref c1, .ref c2, .int 0, .int 0, .int 0, .int 0, .ref c3, .int 0, .ref c4, .ref c5, .int 0])), (rN, .inr (6, [.int 7, .int 100, .int 800, .int 10])), (rX, .inr (6, [.int 7, .int 100, .int 800, .int 10])), (y0, .inr (8, [.int 0, .ref lH, .ref lB, .ref lJ, .ref aR, .ref aL, .int 0, .int 0, .int 0, .ref lC, .ref aM, .ref aP, .int 0, .int 0, .int 0, .int (-1), .int (-1), .int 0, .int 0, .long 0])), (lH, .inr (2, [.int 0, .ref eT, .int 0])), (lB, .inr (2, [.int 0, .ref eT, .int 0])), (lJ, .inr (2, [.int 0, .ref eT, .int 0])), (lC, .inr (2, [.int 0, .ref eT, .int 0])), (aR, .inl (cI, 4, .inl fR)), (aL, .inl (cL, 4, .inl fL)), (aM, .inl (cM, 5, .inr (.inr (.inr (.inr gM))))), (m0, .inl (cR, 16, .inl f0)), (m1, .inl (cR, 16, .inl f1)), (m2, .inl (cR, 16, .inl f2)), (m3, .inl (cR, 16, .inl f3)), (m4, .inl (cR, 16, .inl f4)), (ho, .inl (cO, 1, .inr (.inl fo)))]) (hS : va_S (fun q : Nat => s.heap.size ≤ q) s.heap H locs) {ls : Array Slot} (hl : lv_has ls 9 [(0, .ref b), (1, .ref x0), (2, .ref y0), (3, .ref ho), (4, .int 0)]) (kx : ∀ (H : Heap) (locs : List Loc) (ls : Array Slot), va_S (fun q : Nat => s.heap.size ≤ q) s.heap H locs → lv_has ls 9 [(0, .ref b), (1, .ref x0), (2, .ref y0), (3, .ref ho), (4, .int 0)] → W p l e room_1 s m args below meth c H locs 2000 20000 Q (F0 m 1835 ls [])) : W p l e room_1 s m args below meth c H locs 81 903 Q (F0 m 1530 ls []) := by
  have hA : ∀ q : Nat, s.heap.size ≤ q → (fun q : Nat => s.heap.size ≤ q) q := fun _ h => h
  have hbA : ¬ (fun q : Nat => s.heap.size ≤ q) b := Nat.not_le.mpr hbl
  rcases many_cases (xs 1) with (e1 | e1 | e1 | e1 | e1 | e1 | e1 | e1 | e1 | e1 | e1 | e1 | e1 | e1 | e1) | hn
  · skip
    refine lv_aload_n hx hb dL_law_1530 rfl (lv_at hl 1 rfl) ?_
    refine lv_aload_n hx hb dL_law_1531 rfl (lv_at hl 0 rfl) ?_
    refine lv_iload hx hb dL_law_1532 (lv_at hl 4 rfl) ?_
    refine lv_iconst (v := 1) hx hb dL_law_1534 (by decide) ?_
    refine lv_iadd hx hb dL_law_1535 ?_
    refine lv_topi (fun z_1 ez_1 => ?_)
    have ez_1 : z_1 = 1 := ez_1.trans (by decide +kernel)
    rw [ez_1]
    refine va_sld hx hb hX hbl hbA hS (show vp_in 1 7 from by unfold vp_in; decide +kernel) dL_law_1536 ?_
    refine lv_topi (fun z_2 ez_2 => ?_)
    have ez_2 : z_2 = 0 := ez_2.trans e1
    rw [ez_2]
    refine lv_aload_n hx hb dL_law_1537 rfl (lv_at hl 3 rfl) ?_
    have hPc := hP.sub (ws' := [(x0, .inr (7, [.ref aH, .ref aB, .ref aJ, .int 0, .int 0, .int 0, .ref rN, .ref rX, .int 0, .int 0, .int 0, .int 0, .int 0, .int 0, .int (-1), .int (-1), .int 0, .int 0, .ref aV])), (rN, .inr (6, [.int 7, .int 100, .int 800, .int 10])), (ho, .inl (cO, 1, .inr (.inl fo)))]) [0, 3, 18] rfl
    have hKc := hK.sub (tys' := [(cO, .long)]) [5] rfl
    have hDc := hD.sub (ws' := [(x0, .inr (7, [.ref aH, .ref aB, .ref aJ, .int 0, .int 0, .int 0, .ref rN, .ref rX, .int 0, .int 0, .int 0, .int 0, .int 0, .int 0, .int (-1), .int (-1), .int 0, .int 0, .ref aV])), (rN, .inr (6, [.int 7, .int 100, .int 800, .int 10])), (ho, .inl (cO, 1, .inr (.inl fo)))]) [0, 3, 18] (by decide) rfl
    have hFc := va_free (wc := [(x0, .inr (7, [.ref aH, .ref aB, .ref aJ, .int 0, .int 0, .int 0, .ref rN, .ref rX, .int 0, .int 0, .int 0, .int 0, .int 0, .int 0, .int (-1), .int (-1), .int 0, .int 0, .ref aV])), (rN, .inr (6, [.int 7, .int 100, .int 800, .int 10])), (ho, .inl (cO, 1, .inr (.inl fo)))]) hD hS hA [0, 3, 18] rfl
    refine va_calli (vx_runSW (As := [.ref x0, .int 0, .ref ho]) (rest := []) ⟨hx, hb, hml, hown, hts⟩ (w_many_0 l D eT x0 aH aB aJ rN rX aV ho cO fo H.size ) (vx_cwSW 3 hts gL_law_L_many rfl rfl rfl (by decide +kernel) ⟨Nat.le_of_ble_eq_true rfl, Nat.le_of_ble_eq_true rfl⟩) (pc_s hPc hDc hKc hE hS hFc) rfl rfl hl.1 rfl (lv_room (Nat.le_of_ble_eq_true rfl)) dL_law_1538 ⟨Nat.le_of_ble_eq_true rfl, Nat.le_of_ble_eq_true rfl⟩) hS (fun q _ h => hFc q h) hFc (fun r u t H1 locs ht hvm hw hB hz1 hk1 hS => ?_)
    have hw : r = 0 := hw
    rw [hw]
    obtain ⟨hP1, hK1, hD1⟩ := hB
    rw [ht] at hP1
    have hK1 := va_K.moved hvm.symm hK1
    obtain ⟨hP, hD⟩ := va_join (wr := [(aJ, .inl (cJ, 5, .inr (.inr (.inr (.inr fJ))))), (j0, .inr (5, [.int 0, .int 0, .int 0, .int 0, .int 0, .ref c1, .ref c2, .int 0, .int 0, .int 0, .int 0, .ref c3, .int 0, .ref c4, .ref c5, .int 0])), (rX, .inr (6, [.int 7, .int 100, .int 800, .int 10])), (y0, .inr (8, [.int 0, .ref lH, .ref lB, .ref lJ, .ref aR, .ref aL, .int 0, .int 0, .int 0, .ref lC, .ref aM, .ref aP, .int 0, .int 0, .int 0, .int (-1), .int (-1), .int 0, .int 0, .long 0])), (lH, .inr (2, [.int 0, .ref eT, .int 0])), (lB, .inr (2, [.int 0, .ref eT, .int 0])), (lJ, .inr (2, [.int 0, .ref eT, .int 0])), (lC, .inr (2, [.int 0, .ref eT, .int 0])), (aR, .inl (cI, 4, .inl fR)), (aL, .inl (cL, 4, .inl fL)), (aM, .inl (cM, 5, .inr (.inr (.inr (.inr gM))))), (m0, .inl (cR, 16, .inl f0)), (m1, .inl (cR, 16, .inl f1)), (m2, .inl (cR, 16, .inl f2)), (m3, .inl (cR, 16, .inl f3)), (m4, .inl (cR, 16, .inl f4))]) (w1 := [(ho, .inl (cO, 1, .inr (.inl (vp_updL fo (Int32.toNatClampNeg 0) 0))))]) hP hD [0, 3, 18] [1, 2, 4, 5, 6, 7, 8, 9, 10, 11, 12, 13, 14, 15, 16, 17] rfl rfl (by decide) (by decide) hk1 hFc hP1 hD1
    generalize H1 = H at hP hS ⊢
    have hP : va_P D vwCl [(aJ, .inl (cJ, 5, .inr (.inr (.inr (.inr fJ))))), (j0, .inr (5, [.int 0, .int 0, .int 0, .int 0, .int 0, .ref c1, .ref c2, .int 0, .int 0, .int 0, .int 0, .ref c3, .int 0, .ref c4, .ref c5, .int 0])), (rX, .inr (6, [.int 7, .int 100, .int 800, .int 10])), (y0, .inr (8, [.int 0, .ref lH, .ref lB, .ref lJ, .ref aR, .ref aL, .int 0, .int 0, .int 0, .ref lC, .ref aM, .ref aP, .int 0, .int 0, .int 0, .int (-1), .int (-1), .int 0, .int 0, .long 0])), (lH, .inr (2, [.int 0, .ref eT, .int 0])), (lB, .inr (2, [.int 0, .ref eT, .int 0])), (lJ, .inr (2, [.int 0, .ref eT, .int 0])), (lC, .inr (2, [.int 0, .ref eT, .int 0])), (aR, .inl (cI, 4, .inl fR)), (aL, .inl (cL, 4, .inl fL)), (aM, .inl (cM, 5, .inr (.inr (.inr (.inr gM))))), (m0, .inl (cR, 16, .inl f0)), (m1, .inl (cR, 16, .inl f1)), (m2, .inl (cR, 16, .inl f2)), (m3, .inl (cR, 16, .inl f3)), (m4, .inl (cR, 16, .inl f4)), (ho, .inl (cO, 1, .inr (.inl (vp_updL fo (Int32.toNatClampNeg 0) 0))))] H := hP
    have hD : va_D (fun q : Nat => s.heap.size ≤ q) [(aJ, .inl (cJ, 5, .inr (.inr (.inr (.inr fJ))))), (j0, .inr (5, [.int 0, .int 0, .int 0, .int 0, .int 0, .ref c1, .ref c2, .int 0, .int 0, .int 0, .int 0, .ref c3, .int 0, .ref c4, .ref c5, .int 0])), (rX, .inr (6, [.int 7, .int 100, .int 800, .int 10])), (y0, .inr (8, [.int 0, .ref lH, .ref lB, .ref lJ, .ref aR, .ref aL, .int 0, .int 0, .int 0, .ref lC, .ref aM, .ref aP, .int 0, .int 0, .int 0, .int (-1), .int (-1), .int 0, .int 0, .long 0])), (lH, .inr (2, [.int 0, .ref eT, .int 0])), (lB, .inr (2, [.int 0, .ref eT, .int 0])), (lJ, .inr (2, [.int 0, .ref eT, .int 0])), (lC, .inr (2, [.int 0, .ref eT, .int 0])), (aR, .inl (cI, 4, .inl fR)), (aL, .inl (cL, 4, .inl fL)), (aM, .inl (cM, 5, .inr (.inr (.inr (.inr gM))))), (m0, .inl (cR, 16, .inl f0)), (m1, .inl (cR, 16, .inl f1)), (m2, .inl (cR, 16, .inl f2)), (m3, .inl (cR, 16, .inl f3)), (m4, .inl (cR, 16, .inl f4)), (ho, .inl (cO, 1, .inr (.inl (vp_updL fo (Int32.toNatClampNeg 0) 0))))] := hD
    refine lv_istore (lv' := [(5, .int 0), (0, .ref b), (1, .ref x0), (2, .ref y0), (3, .ref ho), (4, .int 0)]) hx hb dL_law_1541 hl (by decide) rfl (fun ls hl => ?_)
    refine lv_aload_n hx hb dL_law_1543 rfl (lv_at hl 3 rfl) ?_
    refine lv_aload_n hx hb dL_law_1544 rfl (lv_at hl 1 rfl) ?_
    refine lv_iload hx hb dL_law_1545 (lv_at hl 5 rfl) ?_
    refine lv_iconst (v := 1) hx hb dL_law_1547 (by decide) ?_
    refine lv_iadd hx hb dL_law_1548 ?_
    refine lv_topi (fun z_3 ez_3 => ?_)
    have ez_3 : z_3 = 1 := ez_3.trans (by decide +kernel)
    rw [ez_3]
    refine va_sld hx hb hX hbl hbA hS (show vp_in 1 7 from by unfold vp_in; decide +kernel) dL_law_1549 ?_
    refine lv_topi (fun z_4 ez_4 => ?_)
    have ez_4 : z_4 = 0 := ez_4.trans e1
    rw [ez_4]
    have hPc := hP.sub (ws' := [(y0, .inr (8, [.int 0, .ref lH, .ref lB, .ref lJ, .ref aR, .ref aL, .int 0, .int 0, .int 0, .ref lC, .ref aM, .ref aP, .int 0, .int 0, .int 0, .int (-1), .int (-1), .int 0, .int 0, .long 0])), (lB, .inr (2, [.int 0, .ref eT, .int 0])), (lH, .inr (2, [.int 0, .ref eT, .int 0])), (lJ, .inr (2, [.int 0, .ref eT, .int 0])), (aR, .inl (cI, 4, .inl fR))]) [3, 5, 4, 6, 8] rfl
    have hKc := hK.sub (tys' := [(cI, .int)]) [1] rfl
    have hDc := hD.sub (ws' := [(y0, .inr (8, [.int 0, .ref lH, .ref lB, .ref lJ, .ref aR, .ref aL, .int 0, .int 0, .int 0, .ref lC, .ref aM, .ref aP, .int 0, .int 0, .int 0, .int (-1), .int (-1), .int 0, .int 0, .long 0])), (lB, .inr (2, [.int 0, .ref eT, .int 0])), (lH, .inr (2, [.int 0, .ref eT, .int 0])), (lJ, .inr (2, [.int 0, .ref eT, .int 0])), (aR, .inl (cI, 4, .inl fR))]) [3, 5, 4, 6, 8] (by decide) rfl
    have hFc := va_free (wc := [(y0, .inr (8, [.int 0, .ref lH, .ref lB, .ref lJ, .ref aR, .ref aL, .int 0, .int 0, .int 0, .ref lC, .ref aM, .ref aP, .int 0, .int 0, .int 0, .int (-1), .int (-1), .int 0, .int 0, .long 0])), (lB, .inr (2, [.int 0, .ref eT, .int 0])), (lH, .inr (2, [.int 0, .ref eT, .int 0])), (lJ, .inr (2, [.int 0, .ref eT, .int 0])), (aR, .inl (cI, 4, .inl fR))]) hD hS hA [3, 5, 4, 6, 8] rfl
    refine va_calli (va_runV (As := [.int 0]) (rest := []) ⟨hx, hb, hml, hown, hts⟩ (r_many l D eT y0 lH lB lJ aR aL lC aM aP 0 cI fR 0 H.size hR (by decide) (by decide)) (cwV 1 hts gL_law_X5_many rfl rfl rfl (by decide +kernel) ⟨Nat.le_of_ble_eq_true rfl, Nat.le_of_ble_eq_true rfl⟩) (pc_v (ci := 8) (q0 := 0) rfl rfl hPc hDc hKc hE hS hFc) rfl rfl hl.1 rfl (lv_room (Nat.le_of_ble_eq_true rfl)) dL_law_1550 ⟨Nat.le_of_ble_eq_true rfl, Nat.le_of_ble_eq_true rfl⟩) hS (fun q _ h => hFc q h) hFc (fun r u t H1 locs ht hvm hw hB hz1 hk1 hS => ?_)
    have hw : r = 0 := hw.trans (by decide)
    rw [hw]
    obtain ⟨hP1, hK1, hD1⟩ := hB
    rw [ht] at hP1
    have hK1 := va_K.moved hvm.symm hK1
    obtain ⟨hP, hD⟩ := va_join (wr := [(aJ, .inl (cJ, 5, .inr (.inr (.inr (.inr fJ))))), (j0, .inr (5, [.int 0, .int 0, .int 0, .int 0, .int 0, .ref c1, .ref c2, .int 0, .int 0, .int 0, .int 0, .ref c3, .int 0, .ref c4, .ref c5, .int 0])), (rX, .inr (6, [.int 7, .int 100, .int 800, .int 10])), (lC, .inr (2, [.int 0, .ref eT, .int 0])), (aL, .inl (cL, 4, .inl fL)), (aM, .inl (cM, 5, .inr (.inr (.inr (.inr gM))))), (m0, .inl (cR, 16, .inl f0)), (m1, .inl (cR, 16, .inl f1)), (m2, .inl (cR, 16, .inl f2)), (m3, .inl (cR, 16, .inl f3)), (m4, .inl (cR, 16, .inl f4)), (ho, .inl (cO, 1, .inr (.inl (vp_updL fo (Int32.toNatClampNeg 0) 0))))]) (w1 := [(y0, .inr (8, [.int 0, .ref lH, .ref lB, .ref lJ, .ref aR, .ref aL, .int 0, .int 0, .int 0, .ref lC, .ref aM, .ref aP, .int 0, .int 0, .int 0, .int (-1), .int (-1), .int 0, .int 0, .long 0]))]) hP hD [3, 5, 4, 6, 8] [0, 1, 2, 7, 9, 10, 11, 12, 13, 14, 15, 16] rfl rfl (by decide) (by decide) hk1 hFc hP1 hD1
    generalize H1 = H at hP hS ⊢
    have hP : va_P D vwCl [(aJ, .inl (cJ, 5, .inr (.inr (.inr (.inr fJ))))), (j0, .inr (5, [.int 0, .int 0, .int 0, .int 0, .int 0, .ref c1, .ref c2, .int 0, .int 0, .int 0, .int 0, .ref c3, .int 0, .ref c4, .ref c5, .int 0])), (rX, .inr (6, [.int 7, .int 100, .int 800, .int 10])), (lC, .inr (2, [.int 0, .ref eT, .int 0])), (aL, .inl (cL, 4, .inl fL)), (aM, .inl (cM, 5, .inr (.inr (.inr (.inr gM))))), (m0, .inl (cR, 16, .inl f0)), (m1, .inl (cR, 16, .inl f1)), (m2, .inl (cR, 16, .inl f2)), (m3, .inl (cR, 16, .inl f3)), (m4, .inl (cR, 16, .inl f4)), (ho, .inl (cO, 1, .inr (.inl (vp_updL fo (Int32.toNatClampNeg 0) 0)))), (y0, .inr (8, [.int 0, .ref lH, .ref lB, .ref lJ, .ref aR, .ref aL, .int 0, .int 0, .int 0, .ref lC, .ref aM, .ref aP, .int 0, .int 0, .int 0, .int (-1), .int (-1), .int 0, .int 0, .long 0]))] H := hP
    have hD : va_D (fun q : Nat => s.heap.size ≤ q) [(aJ, .inl (cJ, 5, .inr (.inr (.inr (.inr fJ))))), (j0, .inr (5, [.int 0, .int 0, .int 0, .int 0, .int 0, .ref c1, .ref c2, .int 0, .int 0, .int 0, .int 0, .ref c3, .int 0, .ref c4, .ref c5, .int 0])), (rX, .inr (6, [.int 7, .int 100, .int 800, .int 10])), (lC, .inr (2, [.int 0, .ref eT, .int 0])), (aL, .inl (cL, 4, .inl fL)), (aM, .inl (cM, 5, .inr (.inr (.inr (.inr gM))))), (m0, .inl (cR, 16, .inl f0)), (m1, .inl (cR, 16, .inl f1)), (m2, .inl (cR, 16, .inl f2)), (m3, .inl (cR, 16, .inl f3)), (m4, .inl (cR, 16, .inl f4)), (ho, .inl (cO, 1, .inr (.inl (vp_updL fo (Int32.toNatClampNeg 0) 0)))), (y0, .inr (8, [.int 0, .ref lH, .ref lB, .ref lJ, .ref aR, .ref aL, .int 0, .int 0, .int 0, .ref lC, .ref aM, .ref aP, .int 0, .int 0, .int 0, .int (-1), .int (-1), .int 0, .int 0, .long 0]))] := hD
    refine W.widen (k := 83) (n := 922) (Nat.le_of_ble_eq_true rfl) (Nat.le_of_ble_eq_true rfl) ?_
    refine lv_istore (lv' := [(6, .int 0), (5, .int 0), (0, .ref b), (1, .ref x0), (2, .ref y0), (3, .ref ho), (4, .int 0)]) hx hb dL_law_1553 hl (by decide) rfl (fun ls hl => ?_)
    refine lv_aload_n hx hb dL_law_1555 rfl (lv_at hl 4 rfl) ?_
    have hPc := hP.sub (ws' := [(y0, .inr (8, [.int 0, .ref lH, .ref lB, .ref lJ, .ref aR, .ref aL, .int 0, .int 0, .int 0, .ref lC, .ref aM, .ref aP, .int 0, .int 0, .int 0, .int (-1), .int (-1), .int 0, .int 0, .long 0]))]) [12] rfl
    have hKc := hK.sub (tys' := []) [] rfl
    refine va_calli (va_runV (As := []) (rest := []) ⟨hx, hb, hml, hown, hts⟩ (r_thrown l D eT y0 lH lB lJ aR aL lC aM aP 0 0 0 H.size ) (cwV 0 hts gL_law_X5_thrown rfl rfl rfl (by decide +kernel) ⟨Nat.le_of_ble_eq_true rfl, Nat.le_of_ble_eq_true rfl⟩) (pr_v (ci := 8) (q0 := 0) rfl rfl hPc hKc hE hS hA) rfl rfl hl.1 rfl (lv_room (Nat.le_of_ble_eq_true rfl)) dL_law_1556 ⟨Nat.le_of_ble_eq_true rfl, Nat.le_of_ble_eq_true rfl⟩) hS (fun q h1 h2 => ro_A h1 h2) (fun q h => ro_F hS hA q h) (fun r u t H1 locs ht hvm hw hB hz1 hk1 hS => ?_)
    have hw : r = 0 := hw
    rw [hw]
    have hP := ro_P hP hk1
    generalize H1 = H at hP hS ⊢
    refine lv_iload hx hb dL_law_1559 (lv_at hl 1 rfl) ?_
    refine lv_icmp_eq (tgt := 1566) hx hb dL_law_1561 (by decide) (fun _ => ?_) (fun h => absurd (by decide) h)
    refine lv_iload hx hb dL_law_1566 (lv_at hl 1 rfl) ?_
    refine lv_if_ne (tgt := 1583) hx hb dL_law_1568 (by decide) (fun h => absurd (by decide) h) (fun _ => ?_)
    refine lv_aload_n hx hb dL_law_1571 rfl (lv_at hl 5 rfl) ?_
    refine lv_iconst (v := 0) hx hb dL_law_1572 (by decide) ?_
    refine va_lald hx hb hK hP 11 5 rfl rfl (by unfold vp_in; decide +kernel) dL_law_1573 ?_
    refine lv_topl (fun z_5 ez_5 => ?_)
    have ez_5 : z_5 = 0 := ez_5.trans pk_uLs
    rw [ez_5]
    refine lv_iload hx hb dL_law_1574 (lv_at hl 0 rfl) ?_
    refine lv_i2l (v := 0) hx hb dL_law_1576 (by decide) ?_
    refine W.lcmp hx hb dL_law_1577 ?_
    refine lv_topi (fun z_6 ez_6 => ?_)
    have ez_6 : z_6 = 0 := ez_6.trans (by decide +kernel)
    rw [ez_6]
    refine lv_if_eq (tgt := 1583) hx hb dL_law_1578 (by decide) (fun _ => ?_) (fun h => absurd (by decide) h)
    refine lv_goto (tgt := 1835) hx hb dL_law_1583 (by decide) ?_
    refine W.widen (k := 2000) (n := 20000) (Nat.le_of_ble_eq_true rfl) (Nat.le_of_ble_eq_true rfl) ?_
    exact kx _ _ _ hS (lv_sub hl [2, 3, 4, 5, 6] rfl)
  · skip
    refine lv_aload_n hx hb dL_law_1530 rfl (lv_at hl 1 rfl) ?_
    refine lv_aload_n hx hb dL_law_1531 rfl (lv_at hl 0 rfl) ?_
    refine lv_iload hx hb dL_law_1532 (lv_at hl 4 rfl) ?_
    refine lv_iconst (v := 1) hx hb dL_law_1534 (by decide) ?_
    refine lv_iadd hx hb dL_law_1535 ?_
    refine lv_topi (fun z_7 ez_7 => ?_)
    have ez_7 : z_7 = 1 := ez_7.trans (by decide +kernel)
    rw [ez_7]
    refine va_sld hx hb hX hbl hbA hS (show vp_in 1 7 from by unfold vp_in; decide +kernel) dL_law_1536 ?_
    refine lv_topi (fun z_8 ez_8 => ?_)
    have ez_8 : z_8 = 1 := ez_8.trans e1
    rw [ez_8]
    refine lv_aload_n hx hb dL_law_1537 rfl (lv_at hl 3 rfl) ?_
    have hPc := hP.sub (ws' := [(x0, .inr (7, [.ref aH, .ref aB, .ref aJ, .int 0, .int 0, .int 0, .ref rN, .ref rX, .int 0, .int 0, .int 0, .int 0, .int 0, .int 0, .int (-1), .int (-1), .int 0, .int 0, .ref aV])), (rN, .inr (6, [.int 7, .int 100, .int 800, .int 10])), (ho, .inl (cO, 1, .inr (.inl fo)))]) [0, 3, 18] rfl
    have hKc := hK.sub (tys' := [(cO, .long)]) [5] rfl
    have hDc := hD.sub (ws' := [(x0, .inr (7, [.ref aH, .ref aB, .ref aJ, .int 0, .int 0, .int 0, .ref rN, .ref rX, .int 0, .int 0, .int 0, .int 0, .int 0, .int 0, .int (-1), .int (-1), .int 0, .int 0, .ref aV])), (rN, .inr (6, [.int 7, .int 100, .int 800, .int 10])), (ho, .inl (cO, 1, .inr (.inl fo)))]) [0, 3, 18] (by decide) rfl
    have hFc := va_free (wc := [(x0, .inr (7, [.ref aH, .ref aB, .ref aJ, .int 0, .int 0, .int 0, .ref rN, .ref rX, .int 0, .int 0, .int 0, .int 0, .int 0, .int 0, .int (-1), .int (-1), .int 0, .int 0, .ref aV])), (rN, .inr (6, [.int 7, .int 100, .int 800, .int 10])), (ho, .inl (cO, 1, .inr (.inl fo)))]) hD hS hA [0, 3, 18] rfl
    refine va_calli (vx_runSW (As := [.ref x0, .int 1, .ref ho]) (rest := []) ⟨hx, hb, hml, hown, hts⟩ (w_many_1 l D eT x0 aH aB aJ rN rX aV ho cO fo H.size ) (vx_cwSW 3 hts gL_law_L_many rfl rfl rfl (by decide +kernel) ⟨Nat.le_of_ble_eq_true rfl, Nat.le_of_ble_eq_true rfl⟩) (pc_s hPc hDc hKc hE hS hFc) rfl rfl hl.1 rfl (lv_room (Nat.le_of_ble_eq_true rfl)) dL_law_1538 ⟨Nat.le_of_ble_eq_true rfl, Nat.le_of_ble_eq_true rfl⟩) hS (fun q _ h => hFc q h) hFc (fun r u t H1 locs ht hvm hw hB hz1 hk1 hS => ?_)
    have hw : r = 0 := hw
    rw [hw]
    obtain ⟨hP1, hK1, hD1⟩ := hB
    rw [ht] at hP1
    have hK1 := va_K.moved hvm.symm hK1
    obtain ⟨hP, hD⟩ := va_join (wr := [(aJ, .inl (cJ, 5, .inr (.inr (.inr (.inr fJ))))), (j0, .inr (5, [.int 0, .int 0, .int 0, .int 0, .int 0, .ref c1, .ref c2, .int 0, .int 0, .int 0, .int 0, .ref c3, .int 0, .ref c4, .ref c5, .int 0])), (rX, .inr (6, [.int 7, .int 100, .int 800, .int 10])), (y0, .inr (8, [.int 0, .ref lH, .ref lB, .ref lJ, .ref aR, .ref aL, .int 0, .int 0, .int 0, .ref lC, .ref aM, .ref aP, .int 0, .int 0, .int 0, .int (-1), .int (-1), .int 0, .int 0, .long 0])), (lH, .inr (2, [.int 0, .ref eT, .int 0])), (lB, .inr (2, [.int 0, .ref eT, .int 0])), (lJ, .inr (2, [.int 0, .ref eT, .int 0])), (lC, .inr (2, [.int 0, .ref eT, .int 0])), (aR, .inl (cI, 4, .inl fR)), (aL, .inl (cL, 4, .inl fL)), (aM, .inl (cM, 5, .inr (.inr (.inr (.inr gM))))), (m0, .inl (cR, 16, .inl f0)), (m1, .inl (cR, 16, .inl f1)), (m2, .inl (cR, 16, .inl f2)), (m3, .inl (cR, 16, .inl f3)), (m4, .inl (cR, 16, .inl f4))]) (w1 := [(ho, .inl (cO, 1, .inr (.inl (vp_updL fo (Int32.toNatClampNeg 0) 0))))]) hP hD [0, 3, 18] [1, 2, 4, 5, 6, 7, 8, 9, 10, 11, 12, 13, 14, 15, 16, 17] rfl rfl (by decide) (by decide) hk1 hFc hP1 hD1
    generalize H1 = H at hP hS ⊢
    have hP : va_P D vwCl [(aJ, .inl (cJ, 5, .inr (.inr (.inr (.inr fJ))))), (j0, .inr (5, [.int 0, .int 0, .int 0, .int 0, .int 0, .ref c1, .ref c2, .int 0, .int 0, .int 0, .int 0, .ref c3, .int 0, .ref c4, .ref c5, .int 0])), (rX, .inr (6, [.int 7, .int 100, .int 800, .int 10])), (y0, .inr (8, [.int 0, .ref lH, .ref lB, .ref lJ, .ref aR, .ref aL, .int 0, .int 0, .int 0, .ref lC, .ref aM, .ref aP, .int 0, .int 0, .int 0, .int (-1), .int (-1), .int 0, .int 0, .long 0])), (lH, .inr (2, [.int 0, .ref eT, .int 0])), (lB, .inr (2, [.int 0, .ref eT, .int 0])), (lJ, .inr (2, [.int 0, .ref eT, .int 0])), (lC, .inr (2, [.int 0, .ref eT, .int 0])), (aR, .inl (cI, 4, .inl fR)), (aL, .inl (cL, 4, .inl fL)), (aM, .inl (cM, 5, .inr (.inr (.inr (.inr gM))))), (m0, .inl (cR, 16, .inl f0)), (m1, .inl (cR, 16, .inl f1)), (m2, .inl (cR, 16, .inl f2)), (m3, .inl (cR, 16, .inl f3)), (m4, .inl (cR, 16, .inl f4)), (ho, .inl (cO, 1, .inr (.inl (vp_updL fo (Int32.toNatClampNeg 0) 0))))] H := hP
    have hD : va_D (fun q : Nat => s.heap.size ≤ q) [(aJ, .inl (cJ, 5, .inr (.inr (.inr (.inr fJ))))), (j0, .inr (5, [.int 0, .int 0, .int 0, .int 0, .int 0, .ref c1, .ref c2, .int 0, .int 0, .int 0, .int 0, .ref c3, .int 0, .ref c4, .ref c5, .int 0])), (rX, .inr (6, [.int 7, .int 100, .int 800, .int 10])), (y0, .inr (8, [.int 0, .ref lH, .ref lB, .ref lJ, .ref aR, .ref aL, .int 0, .int 0, .int 0, .ref lC, .ref aM, .ref aP, .int 0, .int 0, .int 0, .int (-1), .int (-1), .int 0, .int 0, .long 0])), (lH, .inr (2, [.int 0, .ref eT, .int 0])), (lB, .inr (2, [.int 0, .ref eT, .int 0])), (lJ, .inr (2, [.int 0, .ref eT, .int 0])), (lC, .inr (2, [.int 0, .ref eT, .int 0])), (aR, .inl (cI, 4, .inl fR)), (aL, .inl (cL, 4, .inl fL)), (aM, .inl (cM, 5, .inr (.inr (.inr (.inr gM))))), (m0, .inl (cR, 16, .inl f0)), (m1, .inl (cR, 16, .inl f1)), (m2, .inl (cR, 16, .inl f2)), (m3, .inl (cR, 16, .inl f3)), (m4, .inl (cR, 16, .inl f4)), (ho, .inl (cO, 1, .inr (.inl (vp_updL fo (Int32.toNatClampNeg 0) 0))))] := hD
    refine lv_istore (lv' := [(5, .int 0), (0, .ref b), (1, .ref x0), (2, .ref y0), (3, .ref ho), (4, .int 0)]) hx hb dL_law_1541 hl (by decide) rfl (fun ls hl => ?_)
    refine lv_aload_n hx hb dL_law_1543 rfl (lv_at hl 3 rfl) ?_
    refine lv_aload_n hx hb dL_law_1544 rfl (lv_at hl 1 rfl) ?_
    refine lv_iload hx hb dL_law_1545 (lv_at hl 5 rfl) ?_
    refine lv_iconst (v := 1) hx hb dL_law_1547 (by decide) ?_
    refine lv_iadd hx hb dL_law_1548 ?_
    refine lv_topi (fun z_9 ez_9 => ?_)
    have ez_9 : z_9 = 1 := ez_9.trans (by decide +kernel)
    rw [ez_9]
    refine va_sld hx hb hX hbl hbA hS (show vp_in 1 7 from by unfold vp_in; decide +kernel) dL_law_1549 ?_
    refine lv_topi (fun z_10 ez_10 => ?_)
    have ez_10 : z_10 = 1 := ez_10.trans e1
    rw [ez_10]
    have hPc := hP.sub (ws' := [(y0, .inr (8, [.int 0, .ref lH, .ref lB, .ref lJ, .ref aR, .ref aL, .int 0, .int 0, .int 0, .ref lC, .ref aM, .ref aP, .int 0, .int 0, .int 0, .int (-1), .int (-1), .int 0, .int 0, .long 0])), (lB, .inr (2, [.int 0, .ref eT, .int 0])), (lH, .inr (2, [.int 0, .ref eT, .int 0])), (lJ, .inr (2, [.int 0, .ref eT, .int 0])), (aR, .inl (cI, 4, .inl fR))]) [3, 5, 4, 6, 8] rfl
    have hKc := hK.sub (tys' := [(cI, .int)]) [1] rfl
    have hDc := hD.sub (ws' := [(y0, .inr (8, [.int 0, .ref lH, .ref lB, .ref lJ, .ref aR, .ref aL, .int 0, .int 0, .int 0, .ref lC, .ref aM, .ref aP, .int 0, .int 0, .int 0, .int (-1), .int (-1), .int 0, .int 0, .long 0])), (lB, .inr (2, [.int 0, .ref eT, .int 0])), (lH, .inr (2, [.int 0, .ref eT, .int 0])), (lJ, .inr (2, [.int 0, .ref eT, .int 0])), (aR, .inl (cI, 4, .inl fR))]) [3, 5, 4, 6, 8] (by decide) rfl
    have hFc := va_free (wc := [(y0, .inr (8, [.int 0, .ref lH, .ref lB, .ref lJ, .ref aR, .ref aL, .int 0, .int 0, .int 0, .ref lC, .ref aM, .ref aP, .int 0, .int 0, .int 0, .int (-1), .int (-1), .int 0, .int 0, .long 0])), (lB, .inr (2, [.int 0, .ref eT, .int 0])), (lH, .inr (2, [.int 0, .ref eT, .int 0])), (lJ, .inr (2, [.int 0, .ref eT, .int 0])), (aR, .inl (cI, 4, .inl fR))]) hD hS hA [3, 5, 4, 6, 8] rfl
    refine va_calli (va_runV (As := [.int 1]) (rest := []) ⟨hx, hb, hml, hown, hts⟩ (r_many l D eT y0 lH lB lJ aR aL lC aM aP 0 cI fR 1 H.size hR (by decide) (by decide)) (cwV 1 hts gL_law_X5_many rfl rfl rfl (by decide +kernel) ⟨Nat.le_of_ble_eq_true rfl, Nat.le_of_ble_eq_true rfl⟩) (pc_v (ci := 8) (q0 := 0) rfl rfl hPc hDc hKc hE hS hFc) rfl rfl hl.1 rfl (lv_room (Nat.le_of_ble_eq_true rfl)) dL_law_1550 ⟨Nat.le_of_ble_eq_true rfl, Nat.le_of_ble_eq_true rfl⟩) hS (fun q _ h => hFc q h) hFc (fun r u t H1 locs ht hvm hw hB hz1 hk1 hS => ?_)
    have hw : r = 0 := hw.trans (by decide)
    rw [hw]
    obtain ⟨hP1, hK1, hD1⟩ := hB
    rw [ht] at hP1
    have hK1 := va_K.moved hvm.symm hK1
    obtain ⟨hP, hD⟩ := va_join (wr := [(aJ, .inl (cJ, 5, .inr (.inr (.inr (.inr fJ))))), (j0, .inr (5, [.int 0, .int 0, .int 0, .int 0, .int 0, .ref c1, .ref c2, .int 0, .int 0, .int 0, .int 0, .ref c3, .int 0, .ref c4, .ref c5, .int 0])), (rX, .inr (6, [.int 7, .int 100, .int 800, .int 10])), (lC, .inr (2, [.int 0, .ref eT, .int 0])), (aL, .inl (cL, 4, .inl fL)), (aM, .inl (cM, 5, .inr (.inr (.inr (.inr gM))))), (m0, .inl (cR, 16, .inl f0)), (m1, .inl (cR, 16, .inl f1)), (m2, .inl (cR, 16, .inl f2)), (m3, .inl (cR, 16, .inl f3)), (m4, .inl (cR, 16, .inl f4)), (ho, .inl (cO, 1, .inr (.inl (vp_updL fo (Int32.toNatClampNeg 0) 0))))]) (w1 := [(y0, .inr (8, [.int 0, .ref lH, .ref lB, .ref lJ, .ref aR, .ref aL, .int 0, .int 0, .int 0, .ref lC, .ref aM, .ref aP, .int 0, .int 0, .int 0, .int (-1), .int (-1), .int 0, .int 0, .long 0]))]) hP hD [3, 5, 4, 6, 8] [0, 1, 2, 7, 9, 10, 11, 12, 13, 14, 15, 16] rfl rfl (by decide) (by decide) hk1 hFc hP1 hD1
    generalize H1 = H at hP hS ⊢
    have hP : va_P D vwCl [(aJ, .inl (cJ, 5, .inr (.inr (.inr (.inr fJ))))), (j0, .inr (5, [.int 0, .int 0, .int 0, .int 0, .int 0, .ref c1, .ref c2, .int 0, .int 0, .int 0, .int 0, .ref c3, .int 0, .ref c4, .ref c5, .int 0])), (rX, .inr (6, [.int 7, .int 100, .int 800, .int 10])), (lC, .inr (2, [.int 0, .ref eT, .int 0])), (aL, .inl (cL, 4, .inl fL)), (aM, .inl (cM, 5, .inr (.inr (.inr (.inr gM))))), (m0, .inl (cR, 16, .inl f0)), (m1, .inl (cR, 16, .inl f1)), (m2, .inl (cR, 16, .inl f2)), (m3, .inl (cR, 16, .inl f3)), (m4, .inl (cR, 16, .inl f4)), (ho, .inl (cO, 1, .inr (.inl (vp_updL fo (Int32.toNatClampNeg 0) 0)))), (y0, .inr (8, [.int 0, .ref lH, .ref lB, .ref lJ, .ref aR, .ref aL, .int 0, .int 0, .int 0, .ref lC, .ref aM, .ref aP, .int 0, .int 0, .int 0, .int (-1), .int (-1), .int 0, .int 0, .long 0]))] H := hP
    have hD : va_D (fun q : Nat => s.heap.size ≤ q) [(aJ, .inl (cJ, 5, .inr (.inr (.inr (.inr fJ))))), (j0, .inr (5, [.int 0, .int 0, .int 0, .int 0, .int 0, .ref c1, .ref c2, .int 0, .int 0, .int 0, .int 0, .ref c3, .int 0, .ref c4, .ref c5, .int 0])), (rX, .inr (6, [.int 7, .int 100, .int 800, .int 10])), (lC, .inr (2, [.int 0, .ref eT, .int 0])), (aL, .inl (cL, 4, .inl fL)), (aM, .inl (cM, 5, .inr (.inr (.inr (.inr gM))))), (m0, .inl (cR, 16, .inl f0)), (m1, .inl (cR, 16, .inl f1)), (m2, .inl (cR, 16, .inl f2)), (m3, .inl (cR, 16, .inl f3)), (m4, .inl (cR, 16, .inl f4)), (ho, .inl (cO, 1, .inr (.inl (vp_updL fo (Int32.toNatClampNeg 0) 0)))), (y0, .inr (8, [.int 0, .ref lH, .ref lB, .ref lJ, .ref aR, .ref aL, .int 0, .int 0, .int 0, .ref lC, .ref aM, .ref aP, .int 0, .int 0, .int 0, .int (-1), .int (-1), .int 0, .int 0, .long 0]))] := hD
    refine W.widen (k := 83) (n := 922) (Nat.le_of_ble_eq_true rfl) (Nat.le_of_ble_eq_true rfl) ?_
    refine lv_istore (lv' := [(6, .int 0), (5, .int 0), (0, .ref b), (1, .ref x0), (2, .ref y0), (3, .ref ho), (4, .int 0)]) hx hb dL_law_1553 hl (by decide) rfl (fun ls hl => ?_)
    refine lv_aload_n hx hb dL_law_1555 rfl (lv_at hl 4 rfl) ?_
    have hPc := hP.sub (ws' := [(y0, .inr (8, [.int 0, .ref lH, .ref lB, .ref lJ, .ref aR, .ref aL, .int 0, .int 0, .int 0, .ref lC, .ref aM, .ref aP, .int 0, .int 0, .int 0, .int (-1), .int (-1), .int 0, .int 0, .long 0]))]) [12] rfl
    have hKc := hK.sub (tys' := []) [] rfl
    refine va_calli (va_runV (As := []) (rest := []) ⟨hx, hb, hml, hown, hts⟩ (r_thrown l D eT y0 lH lB lJ aR aL lC aM aP 0 0 0 H.size ) (cwV 0 hts gL_law_X5_thrown rfl rfl rfl (by decide +kernel) ⟨Nat.le_of_ble_eq_true rfl, Nat.le_of_ble_eq_true rfl⟩) (pr_v (ci := 8) (q0 := 0) rfl rfl hPc hKc hE hS hA) rfl rfl hl.1 rfl (lv_room (Nat.le_of_ble_eq_true rfl)) dL_law_1556 ⟨Nat.le_of_ble_eq_true rfl, Nat.le_of_ble_eq_true rfl⟩) hS (fun q h1 h2 => ro_A h1 h2) (fun q h => ro_F hS hA q h) (fun r u t H1 locs ht hvm hw hB hz1 hk1 hS => ?_)
    have hw : r = 0 := hw
    rw [hw]
    have hP := ro_P hP hk1
    generalize H1 = H at hP hS ⊢
    refine lv_iload hx hb dL_law_1559 (lv_at hl 1 rfl) ?_
    refine lv_icmp_eq (tgt := 1566) hx hb dL_law_1561 (by decide) (fun _ => ?_) (fun h => absurd (by decide) h)
    refine lv_iload hx hb dL_law_1566 (lv_at hl 1 rfl) ?_
    refine lv_if_ne (tgt := 1583) hx hb dL_law_1568 (by decide) (fun h => absurd (by decide) h) (fun _ => ?_)
    refine lv_aload_n hx hb dL_law_1571 rfl (lv_at hl 5 rfl) ?_
    refine lv_iconst (v := 0) hx hb dL_law_1572 (by decide) ?_
    refine va_lald hx hb hK hP 11 5 rfl rfl (by unfold vp_in; decide +kernel) dL_law_1573 ?_
    refine lv_topl (fun z_11 ez_11 => ?_)
    have ez_11 : z_11 = 0 := ez_11.trans pk_uLs
    rw [ez_11]
    refine lv_iload hx hb dL_law_1574 (lv_at hl 0 rfl) ?_
    refine lv_i2l (v := 0) hx hb dL_law_1576 (by decide) ?_
    refine W.lcmp hx hb dL_law_1577 ?_
    refine lv_topi (fun z_12 ez_12 => ?_)
    have ez_12 : z_12 = 0 := ez_12.trans (by decide +kernel)
    rw [ez_12]
    refine lv_if_eq (tgt := 1583) hx hb dL_law_1578 (by decide) (fun _ => ?_) (fun h => absurd (by decide) h)
    refine lv_goto (tgt := 1835) hx hb dL_law_1583 (by decide) ?_
    refine W.widen (k := 2000) (n := 20000) (Nat.le_of_ble_eq_true rfl) (Nat.le_of_ble_eq_true rfl) ?_
    exact kx _ _ _ hS (lv_sub hl [2, 3, 4, 5, 6] rfl)
  · skip
    refine lv_aload_n hx hb dL_law_1530 rfl (lv_at hl 1 rfl) ?_
    refine lv_aload_n hx hb dL_law_1531 rfl (lv_at hl 0 rfl) ?_
    refine lv_iload hx hb dL_law_1532 (lv_at hl 4 rfl) ?_
    refine lv_iconst (v := 1) hx hb dL_law_1534 (by decide) ?_
    refine lv_iadd hx hb dL_law_1535 ?_
    refine lv_topi (fun z_13 ez_13 => ?_)
    have ez_13 : z_13 = 1 := ez_13.trans (by decide +kernel)
    rw [ez_13]
    refine va_sld hx hb hX hbl hbA hS (show vp_in 1 7 from by unfold vp_in; decide +kernel) dL_law_1536 ?_
    refine lv_topi (fun z_14 ez_14 => ?_)
    have ez_14 : z_14 = 2 := ez_14.trans e1
    rw [ez_14]
    refine lv_aload_n hx hb dL_law_1537 rfl (lv_at hl 3 rfl) ?_
    have hPc := hP.sub (ws' := [(x0, .inr (7, [.ref aH, .ref aB, .ref aJ, .int 0, .int 0, .int 0, .ref rN, .ref rX, .int 0, .int 0, .int 0, .int 0, .int 0, .int 0, .int (-1), .int (-1), .int 0, .int 0, .ref aV])), (rN, .inr (6, [.int 7, .int 100, .int 800, .int 10])), (ho, .inl (cO, 1, .inr (.inl fo)))]) [0, 3, 18] rfl
    have hKc := hK.sub (tys' := [(cO, .long)]) [5] rfl
    have hDc := hD.sub (ws' := [(x0, .inr (7, [.ref aH, .ref aB, .ref aJ, .int 0, .int 0, .int 0, .ref rN, .ref rX, .int 0, .int 0, .int 0, .int 0, .int 0, .int 0, .int (-1), .int (-1), .int 0, .int 0, .ref aV])), (rN, .inr (6, [.int 7, .int 100, .int 800, .int 10])), (ho, .inl (cO, 1, .inr (.inl fo)))]) [0, 3, 18] (by decide) rfl
    have hFc := va_free (wc := [(x0, .inr (7, [.ref aH, .ref aB, .ref aJ, .int 0, .int 0, .int 0, .ref rN, .ref rX, .int 0, .int 0, .int 0, .int 0, .int 0, .int 0, .int (-1), .int (-1), .int 0, .int 0, .ref aV])), (rN, .inr (6, [.int 7, .int 100, .int 800, .int 10])), (ho, .inl (cO, 1, .inr (.inl fo)))]) hD hS hA [0, 3, 18] rfl
    refine va_calli (vx_runSW (As := [.ref x0, .int 2, .ref ho]) (rest := []) ⟨hx, hb, hml, hown, hts⟩ (w_many_2 l D eT x0 aH aB aJ rN rX aV ho cO fo H.size ) (vx_cwSW 3 hts gL_law_L_many rfl rfl rfl (by decide +kernel) ⟨Nat.le_of_ble_eq_true rfl, Nat.le_of_ble_eq_true rfl⟩) (pc_s hPc hDc hKc hE hS hFc) rfl rfl hl.1 rfl (lv_room (Nat.le_of_ble_eq_true rfl)) dL_law_1538 ⟨Nat.le_of_ble_eq_true rfl, Nat.le_of_ble_eq_true rfl⟩) hS (fun q _ h => hFc q h) hFc (fun r u t H1 locs ht hvm hw hB hz1 hk1 hS => ?_)
    have hw : r = 0 := hw
    rw [hw]
    obtain ⟨hP1, hK1, hD1⟩ := hB
    rw [ht] at hP1
    have hK1 := va_K.moved hvm.symm hK1
    obtain ⟨hP, hD⟩ := va_join (wr := [(aJ, .inl (cJ, 5, .inr (.inr (.inr (.inr fJ))))), (j0, .inr (5, [.int 0, .int 0, .int 0, .int 0, .int 0, .ref c1, .ref c2, .int 0, .int 0, .int 0, .int 0, .ref c3, .int 0, .ref c4, .ref c5, .int 0])), (rX, .inr (6, [.int 7, .int 100, .int 800, .int 10])), (y0, .inr (8, [.int 0, .ref lH, .ref lB, .ref lJ, .ref aR, .ref aL, .int 0, .int 0, .int 0, .ref lC, .ref aM, .ref aP, .int 0, .int 0, .int 0, .int (-1), .int (-1), .int 0, .int 0, .long 0])), (lH, .inr (2, [.int 0, .ref eT, .int 0])), (lB, .inr (2, [.int 0, .ref eT, .int 0])), (lJ, .inr (2, [.int 0, .ref eT, .int 0])), (lC, .inr (2, [.int 0, .ref eT, .int 0])), (aR, .inl (cI, 4, .inl fR)), (aL, .inl (cL, 4, .inl fL)), (aM, .inl (cM, 5, .inr (.inr (.inr (.inr gM))))), (m0, .inl (cR, 16, .inl f0)), (m1, .inl (cR, 16, .inl f1)), (m2, .inl (cR, 16, .inl f2)), (m3, .inl (cR, 16, .inl f3)), (m4, .inl (cR, 16, .inl f4))]) (w1 := [(ho, .inl (cO, 1, .inr (.inl (vp_updL fo (Int32.toNatClampNeg 0) 0))))]) hP hD [0, 3, 18] [1, 2, 4, 5, 6, 7, 8, 9, 10, 11, 12, 13, 14, 15, 16, 17] rfl rfl (by decide) (by decide) hk1 hFc hP1 hD1
    generalize H1 = H at hP hS ⊢
    have hP : va_P D vwCl [(aJ, .inl (cJ, 5, .inr (.inr (.inr (.inr fJ))))), (j0, .inr (5, [.int 0, .int 0, .int 0, .int 0, .int 0, .ref c1, .ref c2, .int 0, .int 0, .int 0, .int 0, .ref c3, .int 0, .ref c4, .ref c5, .int 0])), (rX, .inr (6, [.int 7, .int 100, .int 800, .int 10])), (y0, .inr (8, [.int 0, .ref lH, .ref lB, .ref lJ, .ref aR, .ref aL, .int 0, .int 0, .int 0, .ref lC, .ref aM, .ref aP, .int 0, .int 0, .int 0, .int (-1), .int (-1), .int 0, .int 0, .long 0])), (lH, .inr (2, [.int 0, .ref eT, .int 0])), (lB, .inr (2, [.int 0, .ref eT, .int 0])), (lJ, .inr (2, [.int 0, .ref eT, .int 0])), (lC, .inr (2, [.int 0, .ref eT, .int 0])), (aR, .inl (cI, 4, .inl fR)), (aL, .inl (cL, 4, .inl fL)), (aM, .inl (cM, 5, .inr (.inr (.inr (.inr gM))))), (m0, .inl (cR, 16, .inl f0)), (m1, .inl (cR, 16, .inl f1)), (m2, .inl (cR, 16, .inl f2)), (m3, .inl (cR, 16, .inl f3)), (m4, .inl (cR, 16, .inl f4)), (ho, .inl (cO, 1, .inr (.inl (vp_updL fo (Int32.toNatClampNeg 0) 0))))] H := hP
    have hD : va_D (fun q : Nat => s.heap.size ≤ q) [(aJ, .inl (cJ, 5, .inr (.inr (.inr (.inr fJ))))), (j0, .inr (5, [.int 0, .int 0, .int 0, .int 0, .int 0, .ref c1, .ref c2, .int 0, .int 0, .int 0, .int 0, .ref c3, .int 0, .ref c4, .ref c5, .int 0])), (rX, .inr (6, [.int 7, .int 100, .int 800, .int 10])), (y0, .inr (8, [.int 0, .ref lH, .ref lB, .ref lJ, .ref aR, .ref aL, .int 0, .int 0, .int 0, .ref lC, .ref aM, .ref aP, .int 0, .int 0, .int 0, .int (-1), .int (-1), .int 0, .int 0, .long 0])), (lH, .inr (2, [.int 0, .ref eT, .int 0])), (lB, .inr (2, [.int 0, .ref eT, .int 0])), (lJ, .inr (2, [.int 0, .ref eT, .int 0])), (lC, .inr (2, [.int 0, .ref eT, .int 0])), (aR, .inl (cI, 4, .inl fR)), (aL, .inl (cL, 4, .inl fL)), (aM, .inl (cM, 5, .inr (.inr (.inr (.inr gM))))), (m0, .inl (cR, 16, .inl f0)), (m1, .inl (cR, 16, .inl f1)), (m2, .inl (cR, 16, .inl f2)), (m3, .inl (cR, 16, .inl f3)), (m4, .inl (cR, 16, .inl f4)), (ho, .inl (cO, 1, .inr (.inl (vp_updL fo (Int32.toNatClampNeg 0) 0))))] := hD
    refine lv_istore (lv' := [(5, .int 0), (0, .ref b), (1, .ref x0), (2, .ref y0), (3, .ref ho), (4, .int 0)]) hx hb dL_law_1541 hl (by decide) rfl (fun ls hl => ?_)
    refine lv_aload_n hx hb dL_law_1543 rfl (lv_at hl 3 rfl) ?_
    refine lv_aload_n hx hb dL_law_1544 rfl (lv_at hl 1 rfl) ?_
    refine lv_iload hx hb dL_law_1545 (lv_at hl 5 rfl) ?_
    refine lv_iconst (v := 1) hx hb dL_law_1547 (by decide) ?_
    refine lv_iadd hx hb dL_law_1548 ?_
    refine lv_topi (fun z_15 ez_15 => ?_)
    have ez_15 : z_15 = 1 := ez_15.trans (by decide +kernel)
    rw [ez_15]
    refine va_sld hx hb hX hbl hbA hS (show vp_in 1 7 from by unfold vp_in; decide +kernel) dL_law_1549 ?_
    refine lv_topi (fun z_16 ez_16 => ?_)
    have ez_16 : z_16 = 2 := ez_16.trans e1
    rw [ez_16]
    have hPc := hP.sub (ws' := [(y0, .inr (8, [.int 0, .ref lH, .ref lB, .ref lJ, .ref aR, .ref aL, .int 0, .int 0, .int 0, .ref lC, .ref aM, .ref aP, .int 0, .int 0, .int 0, .int (-1), .int (-1), .int 0, .int 0, .long 0])), (lB, .inr (2, [.int 0, .ref eT, .int 0])), (lH, .inr (2, [.int 0, .ref eT, .int 0])), (lJ, .inr (2, [.int 0, .ref eT, .int 0])), (aR, .inl (cI, 4, .inl fR))]) [3, 5, 4, 6, 8] rfl
    have hKc := hK.sub (tys' := [(cI, .int)]) [1] rfl
    have hDc := hD.sub (ws' := [(y0, .inr (8, [.int 0, .ref lH, .ref lB, .ref lJ, .ref aR, .ref aL, .int 0, .int 0, .int 0, .ref lC, .ref aM, .ref aP, .int 0, .int 0, .int 0, .int (-1), .int (-1), .int 0, .int 0, .long 0])), (lB, .inr (2, [.int 0, .ref eT, .int 0])), (lH, .inr (2, [.int 0, .ref eT, .int 0])), (lJ, .inr (2, [.int 0, .ref eT, .int 0])), (aR, .inl (cI, 4, .inl fR))]) [3, 5, 4, 6, 8] (by decide) rfl
    have hFc := va_free (wc := [(y0, .inr (8, [.int 0, .ref lH, .ref lB, .ref lJ, .ref aR, .ref aL, .int 0, .int 0, .int 0, .ref lC, .ref aM, .ref aP, .int 0, .int 0, .int 0, .int (-1), .int (-1), .int 0, .int 0, .long 0])), (lB, .inr (2, [.int 0, .ref eT, .int 0])), (lH, .inr (2, [.int 0, .ref eT, .int 0])), (lJ, .inr (2, [.int 0, .ref eT, .int 0])), (aR, .inl (cI, 4, .inl fR))]) hD hS hA [3, 5, 4, 6, 8] rfl
    refine va_calli (va_runV (As := [.int 2]) (rest := []) ⟨hx, hb, hml, hown, hts⟩ (r_many l D eT y0 lH lB lJ aR aL lC aM aP 0 cI fR 2 H.size hR (by decide) (by decide)) (cwV 1 hts gL_law_X5_many rfl rfl rfl (by decide +kernel) ⟨Nat.le_of_ble_eq_true rfl, Nat.le_of_ble_eq_true rfl⟩) (pc_v (ci := 8) (q0 := 0) rfl rfl hPc hDc hKc hE hS hFc) rfl rfl hl.1 rfl (lv_room (Nat.le_of_ble_eq_true rfl)) dL_law_1550 ⟨Nat.le_of_ble_eq_true rfl, Nat.le_of_ble_eq_true rfl⟩) hS (fun q _ h => hFc q h) hFc (fun r u t H1 locs ht hvm hw hB hz1 hk1 hS => ?_)
    have hw : r = 0 := hw.trans (by decide)
    rw [hw]
    obtain ⟨hP1, hK1, hD1⟩ := hB
    rw [ht] at hP1
    have hK1 := va_K.moved hvm.symm hK1
    obtain ⟨hP, hD⟩ := va_join (wr := [(aJ, .inl (cJ, 5, .inr (.inr (.inr (.inr fJ))))), (j0, .inr (5, [.int 0, .int 0, .int 0, .int 0, .int 0, .ref c1, .ref c2, .int 0, .int 0, .int 0, .int 0, .ref c3, .int 0, .ref c4, .ref c5, .int 0])), (rX, .inr (6, [.int 7, .int 100, .int 800, .int 10])), (lC, .inr (2, [.int 0, .ref eT, .int 0])), (aL, .inl (cL, 4, .inl fL)), (aM, .inl (cM, 5, .inr (.inr (.inr (.inr gM))))), (m0, .inl (cR, 16, .inl f0)), (m1, .inl (cR, 16, .inl f1)), (m2, .inl (cR, 16, .inl f2)), (m3, .inl (cR, 16, .inl f3)), (m4, .inl (cR, 16, .inl f4)), (ho, .inl (cO, 1, .inr (.inl (vp_updL fo (Int32.toNatClampNeg 0) 0))))]) (w1 := [(y0, .inr (8, [.int 0, .ref lH, .ref lB, .ref lJ, .ref aR, .ref aL, .int 0, .int 0, .int 0, .ref lC, .ref aM, .ref aP, .int 0, .int 0, .int 0, .int (-1), .int (-1), .int 0, .int 0, .long 0]))]) hP hD [3, 5, 4, 6, 8] [0, 1, 2, 7, 9, 10, 11, 12, 13, 14, 15, 16] rfl rfl (by decide) (by decide) hk1 hFc hP1 hD1
    generalize H1 = H at hP hS ⊢
    have hP : va_P D vwCl [(aJ, .inl (cJ, 5, .inr (.inr (.inr (.inr fJ))))), (j0, .inr (5, [.int 0, .int 0, .int 0, .int 0, .int 0, .ref c1, .ref c2, .int 0, .int 0, .int 0, .int 0, .ref c3, .int 0, .ref c4, .ref c5, .int 0])), (rX, .inr (6, [.int 7, .int 100, .int 800, .int 10])), (lC, .inr (2, [.int 0, .ref eT, .int 0])), (aL, .inl (cL, 4, .inl fL)), (aM, .inl (cM, 5, .inr (.inr (.inr (.inr gM))))), (m0, .inl (cR, 16, .inl f0)), (m1, .inl (cR, 16, .inl f1)), (m2, .inl (cR, 16, .inl f2)), (m3, .inl (cR, 16, .inl f3)), (m4, .inl (cR, 16, .inl f4)), (ho, .inl (cO, 1, .inr (.inl (vp_updL fo (Int32.toNatClampNeg 0) 0)))), (y0, .inr (8, [.int 0, .ref lH, .ref lB, .ref lJ, .ref aR, .ref aL, .int 0, .int 0, .int 0, .ref lC, .ref aM, .ref aP, .int 0, .int 0, .int 0, .int (-1), .int (-1), .int 0, .int 0, .long 0]))] H := hP
    have hD : va_D (fun q : Nat => s.heap.size ≤ q) [(aJ, .inl (cJ, 5, .inr (.inr (.inr (.inr fJ))))), (j0, .inr (5, [.int 0, .int 0, .int 0, .int 0, .int 0, .ref c1, .ref c2, .int 0, .int 0, .int 0, .int 0, .ref c3, .int 0, .ref c4, .ref c5, .int 0])), (rX, .inr (6, [.int 7, .int 100, .int 800, .int 10])), (lC, .inr (2, [.int 0, .ref eT, .int 0])), (aL, .inl (cL, 4, .inl fL)), (aM, .inl (cM, 5, .inr (.inr (.inr (.inr gM))))), (m0, .inl (cR, 16, .inl f0)), (m1, .inl (cR, 16, .inl f1)), (m2, .inl (cR, 16, .inl f2)), (m3, .inl (cR, 16, .inl f3)), (m4, .inl (cR, 16, .inl f4)), (ho, .inl (cO, 1, .inr (.inl (vp_updL fo (Int32.toNatClampNeg 0) 0)))), (y0, .inr (8, [.int 0, .ref lH, .ref lB, .ref lJ, .ref aR, .ref aL, .int 0, .int 0, .int 0, .ref lC, .ref aM, .ref aP, .int 0, .int 0, .int 0, .int (-1), .int (-1), .int 0, .int 0, .long 0]))] := hD
    refine W.widen (k := 83) (n := 922) (Nat.le_of_ble_eq_true rfl) (Nat.le_of_ble_eq_true rfl) ?_
    refine lv_istore (lv' := [(6, .int 0), (5, .int 0), (0, .ref b), (1, .ref x0), (2, .ref y0), (3, .ref ho), (4, .int 0)]) hx hb dL_law_1553 hl (by decide) rfl (fun ls hl => ?_)
    refine lv_aload_n hx hb dL_law_1555 rfl (lv_at hl 4 rfl) ?_
    have hPc := hP.sub (ws' := [(y0, .inr (8, [.int 0, .ref lH, .ref lB, .ref lJ, .ref aR, .ref aL, .int 0, .int 0, .int 0, .ref lC, .ref aM, .ref aP, .int 0, .int 0, .int 0, .int (-1), .int (-1), .int 0, .int 0, .long 0]))]) [12] rfl
    have hKc := hK.sub (tys' := []) [] rfl
    refine va_calli (va_runV (As := []) (rest := []) ⟨hx, hb, hml, hown, hts⟩ (r_thrown l D eT y0 lH lB lJ aR aL lC aM aP 0 0 0 H.size ) (cwV 0 hts gL_law_X5_thrown rfl rfl rfl (by decide +kernel) ⟨Nat.le_of_ble_eq_true rfl, Nat.le_of_ble_eq_true rfl⟩) (pr_v (ci := 8) (q0 := 0) rfl rfl hPc hKc hE hS hA) rfl rfl hl.1 rfl (lv_room (Nat.le_of_ble_eq_true rfl)) dL_law_1556 ⟨Nat.le_of_ble_eq_true rfl, Nat.le_of_ble_eq_true rfl⟩) hS (fun q h1 h2 => ro_A h1 h2) (fun q h => ro_F hS hA q h) (fun r u t H1 locs ht hvm hw hB hz1 hk1 hS => ?_)
    have hw : r = 0 := hw
    rw [hw]
    have hP := ro_P hP hk1
    generalize H1 = H at hP hS ⊢
    refine lv_iload hx hb dL_law_1559 (lv_at hl 1 rfl) ?_
    refine lv_icmp_eq (tgt := 1566) hx hb dL_law_1561 (by decide) (fun _ => ?_) (fun h => absurd (by decide) h)
    refine lv_iload hx hb dL_law_1566 (lv_at hl 1 rfl) ?_
    refine lv_if_ne (tgt := 1583) hx hb dL_law_1568 (by decide) (fun h => absurd (by decide) h) (fun _ => ?_)
    refine lv_aload_n hx hb dL_law_1571 rfl (lv_at hl 5 rfl) ?_
    refine lv_iconst (v := 0) hx hb dL_law_1572 (by decide) ?_
    refine va_lald hx hb hK hP 11 5 rfl rfl (by unfold vp_in; decide +kernel) dL_law_1573 ?_
    refine lv_topl (fun z_17 ez_17 => ?_)
    have ez_17 : z_17 = 0 := ez_17.trans pk_uLs
    rw [ez_17]
    refine lv_iload hx hb dL_law_1574 (lv_at hl 0 rfl) ?_
    refine lv_i2l (v := 0) hx hb dL_law_1576 (by decide) ?_
    refine W.lcmp hx hb dL_law_1577 ?_
    refine lv_topi (fun z_18 ez_18 => ?_)
    have ez_18 : z_18 = 0 := ez_18.trans (by decide +kernel)
    rw [ez_18]
    refine lv_if_eq (tgt := 1583) hx hb dL_law_1578 (by decide) (fun _ => ?_) (fun h => absurd (by decide) h)
    refine lv_goto (tgt := 1835) hx hb dL_law_1583 (by decide) ?_
    refine W.widen (k := 2000) (n := 20000) (Nat.le_of_ble_eq_true rfl) (Nat.le_of_ble_eq_true rfl) ?_
    exact kx _ _ _ hS (lv_sub hl [2, 3, 4, 5, 6] rfl)
  · skip
    refine lv_aload_n hx hb dL_law_1530 rfl (lv_at hl 1 rfl) ?_
    refine lv_aload_n hx hb dL_law_1531 rfl (lv_at hl 0 rfl) ?_
    refine lv_iload hx hb dL_law_1532 (lv_at hl 4 rfl) ?_
    refine lv_iconst (v := 1) hx hb dL_law_1534 (by decide) ?_
    refine lv_iadd hx hb dL_law_1535 ?_
    refine lv_topi (fun z_19 ez_19 => ?_)
    have ez_19 : z_19 = 1 := ez_19.trans (by decide +kernel)
    rw [ez_19]
    refine va_sld hx hb hX hbl hbA hS (show vp_in 1 7 from by unfold vp_in; decide +kernel) dL_law_1536 ?_
    refine lv_topi (fun z_20 ez_20 => ?_)
    have ez_20 : z_20 = 3 := ez_20.trans e1
    rw [ez_20]
    refine lv_aload_n hx hb dL_law_1537 rfl (lv_at hl 3 rfl) ?_
    have hPc := hP.sub (ws' := [(x0, .inr (7, [.ref aH, .ref aB, .ref aJ, .int 0, .int 0, .int 0, .ref rN, .ref rX, .int 0, .int 0, .int 0, .int 0, .int 0, .int 0, .int (-1), .int (-1), .int 0, .int 0, .ref aV])), (rN, .inr (6, [.int 7, .int 100, .int 800, .int 10])), (ho, .inl (cO, 1, .inr (.inl fo)))]) [0, 3, 18] rfl
    have hKc := hK.sub (tys' := [(cO, .long)]) [5] rfl
    have hDc := hD.sub (ws' := [(x0, .inr (7, [.ref aH, .ref aB, .ref aJ, .int 0, .int 0, .int 0, .ref rN, .ref rX, .int 0, .int 0, .int 0, .int 0, .int 0, .int 0, .int (-1), .int (-1), .int 0, .int 0, .ref aV])), (rN, .inr (6, [.int 7, .int 100, .int 800, .int 10])), (ho, .inl (cO, 1, .inr (.inl fo)))]) [0, 3, 18] (by decide) rfl
    have hFc := va_free (wc := [(x0, .inr (7, [.ref aH, .ref aB, .ref aJ, .int 0, .int 0, .int 0, .ref rN, .ref rX, .int 0, .int 0, .int 0, .int 0, .int 0, .int 0, .int (-1), .int (-1), .int 0, .int 0, .ref aV])), (rN, .inr (6, [.int 7, .int 100, .int 800, .int 10])), (ho, .inl (cO, 1, .inr (.inl fo)))]) hD hS hA [0, 3, 18] rfl
    refine va_calli (vx_runSW (As := [.ref x0, .int 3, .ref ho]) (rest := []) ⟨hx, hb, hml, hown, hts⟩ (w_many_3 l D eT x0 aH aB aJ rN rX aV ho cO fo H.size ) (vx_cwSW 3 hts gL_law_L_many rfl rfl rfl (by decide +kernel) ⟨Nat.le_of_ble_eq_true rfl, Nat.le_of_ble_eq_true rfl⟩) (pc_s hPc hDc hKc hE hS hFc) rfl rfl hl.1 rfl (lv_room (Nat.le_of_ble_eq_true rfl)) dL_law_1538 ⟨Nat.le_of_ble_eq_true rfl, Nat.le_of_ble_eq_true rfl⟩) hS (fun q _ h => hFc q h) hFc (fun r u t H1 locs ht hvm hw hB hz1 hk1 hS => ?_)
    have hw : r = 0 := hw
    rw [hw]
    obtain ⟨hP1, hK1, hD1⟩ := hB
    rw [ht] at hP1
    have hK1 := va_K.moved hvm.symm hK1
    obtain ⟨hP, hD⟩ := va_join (wr := [(aJ, .inl (cJ, 5, .inr (.inr (.inr (.inr fJ))))), (j0, .inr (5, [.int 0, .int 0, .int 0, .int 0, .int 0, .ref c1, .ref c2, .int 0, .int 0, .int 0, .int 0, .ref c3, .int 0, .ref c4, .ref c5, .int 0])), (rX, .inr (6, [.int 7, .int 100, .int 800, .int 10])), (y0, .inr (8, [.int 0, .ref lH, .ref lB, .ref lJ, .ref aR, .ref aL, .int 0, .int 0, .int 0, .ref lC, .ref aM, .ref aP, .int 0, .int 0, .int 0, .int (-1), .int (-1), .int 0, .int 0, .long 0])), (lH, .inr (2, [.int 0, .ref eT, .int 0])), (lB, .inr (2, [.int 0, .ref eT, .int 0])), (lJ, .inr (2, [.int 0, .ref eT, .int 0])), (lC, .inr (2, [.int 0, .ref eT, .int 0])), (aR, .inl (cI, 4, .inl fR)), (aL, .inl (cL, 4, .inl fL)), (aM, .inl (cM, 5, .inr (.inr (.inr (.inr gM))))), (m0, .inl (cR, 16, .inl f0)), (m1, .inl (cR, 16, .inl f1)), (m2, .inl (cR, 16, .inl f2)), (m3, .inl (cR, 16, .inl f3)), (m4, .inl (cR, 16, .inl f4))]) (w1 := [(ho, .inl (cO, 1, .inr (.inl (vp_updL fo (Int32.toNatClampNeg 0) 0))))]) hP hD [0, 3, 18] [1, 2, 4, 5, 6, 7, 8, 9, 10, 11, 12, 13, 14, 15, 16, 17] rfl rfl (by decide) (by decide) hk1 hFc hP1 hD1
    generalize H1 = H at hP hS ⊢
    have hP : va_P D vwCl [(aJ, .inl (cJ, 5, .inr (.inr (.inr (.inr fJ))))), (j0, .inr (5, [.int 0, .int 0, .int 0, .int 0, .int 0, .ref c1, .ref c2, .int 0, .int 0, .int 0, .int 0, .ref c3, .int 0, .ref c4, .ref c5, .int 0])), (rX, .inr (6, [.int 7, .int 100, .int 800, .int 10])), (y0, .inr (8, [.int 0, .ref lH, .ref lB, .ref lJ, .ref aR, .ref aL, .int 0, .int 0, .int 0, .ref lC, .ref aM, .ref aP, .int 0, .int 0, .int 0, .int (-1), .int (-1), .int 0, .int 0, .long 0])), (lH, .inr (2, [.int 0, .ref eT, .int 0])), (lB, .inr (2, [.int 0, .ref eT, .int 0])), (lJ, .inr (2, [.int 0, .ref eT, .int 0])), (lC, .inr (2, [.int 0, .ref eT, .int 0])), (aR, .inl (cI, 4, .inl fR)), (aL, .inl (cL, 4, .inl fL)), (aM, .inl (cM, 5, .inr (.inr (.inr (.inr gM))))), (m0, .inl (cR, 16, .inl f0)), (m1, .inl (cR, 16, .inl f1)), (m2, .inl (cR, 16, .inl f2)), (m3, .inl (cR, 16, .inl f3)), (m4, .inl (cR, 16, .inl f4)), (ho, .inl (cO, 1, .inr (.inl (vp_updL fo (Int32.toNatClampNeg 0) 0))))] H := hP
    have hD : va_D (fun q : Nat => s.heap.size ≤ q) [(aJ, .inl (cJ, 5, .inr (.inr (.inr (.inr fJ))))), (j0, .inr (5, [.int 0, .int 0, .int 0, .int 0, .int 0, .ref c1, .ref c2, .int 0, .int 0, .int 0, .int 0, .ref c3, .int 0, .ref c4, .ref c5, .int 0])), (rX, .inr (6, [.int 7, .int 100, .int 800, .int 10])), (y0, .inr (8, [.int 0, .ref lH, .ref lB, .ref lJ, .ref aR, .ref aL, .int 0, .int 0, .int 0, .ref lC, .ref aM, .ref aP, .int 0, .int 0, .int 0, .int (-1), .int (-1), .int 0, .int 0, .long 0])), (lH, .inr (2, [.int 0, .ref eT, .int 0])), (lB, .inr (2, [.int 0, .ref eT, .int 0])), (lJ, .inr (2, [.int 0, .ref eT, .int 0])), (lC, .inr (2, [.int 0, .ref eT, .int 0])), (aR, .inl (cI, 4, .inl fR)), (aL, .inl (cL, 4, .inl fL)), (aM, .inl (cM, 5, .inr (.inr (.inr (.inr gM))))), (m0, .inl (cR, 16, .inl f0)), (m1, .inl (cR, 16, .inl f1)), (m2, .inl (cR, 16, .inl f2)), (m3, .inl (cR, 16, .inl f3)), (m4, .inl (cR, 16, .inl f4)), (ho, .inl (cO, 1, .inr (.inl (vp_updL fo (Int32.toNatClampNeg 0) 0))))] := hD
    refine lv_istore (lv' := [(5, .int 0), (0, .ref b), (1, .ref x0), (2, .ref y0), (3, .ref ho), (4, .int 0)]) hx hb dL_law_1541 hl (by decide) rfl (fun ls hl => ?_)
    refine lv_aload_n hx hb dL_law_1543 rfl (lv_at hl 3 rfl) ?_
    refine lv_aload_n hx hb dL_law_1544 rfl (lv_at hl 1 rfl) ?_
    refine lv_iload hx hb dL_law_1545 (lv_at hl 5 rfl) ?_
    refine lv_iconst (v := 1) hx hb dL_law_1547 (by decide) ?_
    refine lv_iadd hx hb dL_law_1548 ?_
    refine lv_topi (fun z_21 ez_21 => ?_)
    have ez_21 : z_21 = 1 := ez_21.trans (by decide +kernel)
    rw [ez_21]
    refine va_sld hx hb hX hbl hbA hS (show vp_in 1 7 from by unfold vp_in; decide +kernel) dL_law_1549 ?_
    refine lv_topi (fun z_22 ez_22 => ?_)
    have ez_22 : z_22 = 3 := ez_22.trans e1
    rw [ez_22]
    have hPc := hP.sub (ws' := [(y0, .inr (8, [.int 0, .ref lH, .ref lB, .ref lJ, .ref aR, .ref aL, .int 0, .int 0, .int 0, .ref lC, .ref aM, .ref aP, .int 0, .int 0, .int 0, .int (-1), .int (-1), .int 0, .int 0, .long 0])), (lB, .inr (2, [.int 0, .ref eT, .int 0])), (lH, .inr (2, [.int 0, .ref eT, .int 0])), (lJ, .inr (2, [.int 0, .ref eT, .int 0])), (aR, .inl (cI, 4, .inl fR))]) [3, 5, 4, 6, 8] rfl
    have hKc := hK.sub (tys' := [(cI, .int)]) [1] rfl
    have hDc := hD.sub (ws' := [(y0, .inr (8, [.int 0, .ref lH, .ref lB, .ref lJ, .ref aR, .ref aL, .int 0, .int 0, .int 0, .ref lC, .ref aM, .ref aP, .int 0, .int 0, .int 0, .int (-1), .int (-1), .int 0, .int 0, .long 0])), (lB, .inr (2, [.int 0, .ref eT, .int 0])), (lH, .inr (2, [.int 0, .ref eT, .int 0])), (lJ, .inr (2, [.int 0, .ref eT, .int 0])), (aR, .inl (cI, 4, .inl fR))]) [3, 5, 4, 6, 8] (by decide) rfl
    have hFc := va_free (wc := [(y0, .inr (8, [.int 0, .ref lH, .ref lB, .ref lJ, .ref aR, .ref aL, .int 0, .int 0, .int 0, .ref lC, .ref aM, .ref aP, .int 0, .int 0, .int 0, .int (-1), .int (-1), .int 0, .int 0, .long 0])), (lB, .inr (2, [.int 0, .ref eT, .int 0])), (lH, .inr (2, [.int 0, .ref eT, .int 0])), (lJ, .inr (2, [.int 0, .ref eT, .int 0])), (aR, .inl (cI, 4, .inl fR))]) hD hS hA [3, 5, 4, 6, 8] rfl
    refine va_calli (va_runV (As := [.int 3]) (rest := []) ⟨hx, hb, hml, hown, hts⟩ (r_many l D eT y0 lH lB lJ aR aL lC aM aP 0 cI fR 3 H.size hR (by decide) (by decide)) (cwV 1 hts gL_law_X5_many rfl rfl rfl (by decide +kernel) ⟨Nat.le_of_ble_eq_true rfl, Nat.le_of_ble_eq_true rfl⟩) (pc_v (ci := 8) (q0 := 0) rfl rfl hPc hDc hKc hE hS hFc) rfl rfl hl.1 rfl (lv_room (Nat.le_of_ble_eq_true rfl)) dL_law_1550 ⟨Nat.le_of_ble_eq_true rfl, Nat.le_of_ble_eq_true rfl⟩) hS (fun q _ h => hFc q h) hFc (fun r u t H1 locs ht hvm hw hB hz1 hk1 hS => ?_)
    have hw : r = 0 := hw.trans (by decide)
    rw [hw]
    obtain ⟨hP1, hK1, hD1⟩ := hB
    rw [ht] at hP1
    have hK1 := va_K.moved hvm.symm hK1
    obtain ⟨hP, hD⟩ := va_join (wr := [(aJ, .inl (cJ, 5, .inr (.inr (.inr (.inr fJ))))), (j0, .inr (5, [.int 0, .int 0, .int 0, .int 0, .int 0, .ref c1, .ref c2, .int 0, .int 0, .int 0, .int 0, .ref c3, .int 0, .ref c4, .ref c5, .int 0])), (rX, .inr (6, [.int 7, .int 100, .int 800, .int 10])), (lC, .inr (2, [.int 0, .ref eT, .int 0])), (aL, .inl (cL, 4, .inl fL)), (aM, .inl (cM, 5, .inr (.inr (.inr (.inr gM))))), (m0, .inl (cR, 16, .inl f0)), (m1, .inl (cR, 16, .inl f1)), (m2, .inl (cR, 16, .inl f2)), (m3, .inl (cR, 16, .inl f3)), (m4, .inl (cR, 16, .inl f4)), (ho, .inl (cO, 1, .inr (.inl (vp_updL fo (Int32.toNatClampNeg 0) 0))))]) (w1 := [(y0, .inr (8, [.int 0, .ref lH, .ref lB, .ref lJ, .ref aR, .ref aL, .int 0, .int 0, .int 0, .ref lC, .ref aM, .ref aP, .int 0, .int 0, .int 0, .int (-1), .int (-1), .int 0, .int 0, .long 0]))]) hP hD [3, 5, 4, 6, 8] [0, 1, 2, 7, 9, 10, 11, 12, 13, 14, 15, 16] rfl rfl (by decide) (by decide) hk1 hFc hP1 hD1
    generalize H1 = H at hP hS ⊢
    have hP : va_P D vwCl [(aJ, .inl (cJ, 5, .inr (.inr (.inr (.inr fJ))))), (j0, .inr (5, [.int 0, .int 0, .int 0, .int 0, .int 0, .ref c1, .ref c2, .int 0, .int 0, .int 0, .int 0, .ref c3, .int 0, .ref c4, .ref c5, .int 0])), (rX, .inr (6, [.int 7, .int 100, .int 800, .int 10])), (lC, .inr (2, [.int 0, .ref eT, .int 0])), (aL, .inl (cL, 4, .inl fL)), (aM, .inl (cM, 5, .inr (.inr (.inr (.inr gM))))), (m0, .inl (cR, 16, .inl f0)), (m1, .inl (cR, 16, .inl f1)), (m2, .inl (cR, 16, .inl f2)), (m3, .inl (cR, 16, .inl f3)), (m4, .inl (cR, 16, .inl f4)), (ho, .inl (cO, 1, .inr (.inl (vp_updL fo (Int32.toNatClampNeg 0) 0)))), (y0, .inr (8, [.int 0, .ref lH, .ref lB, .ref lJ, .ref aR, .ref aL, .int 0, .int 0, .int 0, .ref lC, .ref aM, .ref aP, .int 0, .int 0, .int 0, .int (-1), .int (-1), .int 0, .int 0, .long 0]))] H := hP
    have hD : va_D (fun q : Nat => s.heap.size ≤ q) [(aJ, .inl (cJ, 5, .inr (.inr (.inr (.inr fJ))))), (j0, .inr (5, [.int 0, .int 0, .int 0, .int 0, .int 0, .ref c1, .ref c2, .int 0, .int 0, .int 0, .int 0, .ref c3, .int 0, .ref c4, .ref c5, .int 0])), (rX, .inr (6, [.int 7, .int 100, .int 800, .int 10])), (lC, .inr (2, [.int 0, .ref eT, .int 0])), (aL, .inl (cL, 4, .inl fL)), (aM, .inl (cM, 5, .inr (.inr (.inr (.inr gM))))), (m0, .inl (cR, 16, .inl f0)), (m1, .inl (cR, 16, .inl f1)), (m2, .inl (cR, 16, .inl f2)), (m3, .inl (cR, 16, .inl f3)), (m4, .inl (cR, 16, .inl f4)), (ho, .inl (cO, 1, .inr (.inl (vp_updL fo (Int32.toNatClampNeg 0) 0)))), (y0, .inr (8, [.int 0, .ref lH, .ref lB, .ref lJ, .ref aR, .ref aL, .int 0, .int 0, .int 0, .ref lC, .ref aM, .ref aP, .int 0, .int 0, .int 0, .int (-1), .int (-1), .int 0, .int 0, .long 0]))] := hD
    refine W.widen (k := 83) (n := 922) (Nat.le_of_ble_eq_true rfl) (Nat.le_of_ble_eq_true rfl) ?_
    refine lv_istore (lv' := [(6, .int 0), (5, .int 0), (0, .ref b), (1, .ref x0), (2, .ref y0), (3, .ref ho), (4, .int 0)]) hx hb dL_law_1553 hl (by decide) rfl (fun ls hl => ?_)
    refine lv_aload_n hx hb dL_law_1555 rfl (lv_at hl 4 rfl) ?_
    have hPc := hP.sub (ws' := [(y0, .inr (8, [.int 0, .ref lH, .ref lB, .ref lJ, .ref aR, .ref aL, .int 0, .int 0, .int 0, .ref lC, .ref aM, .ref aP, .int 0, .int 0, .int 0, .int (-1), .int (-1), .int 0, .int 0, .long 0]))]) [12] rfl
    have hKc := hK.sub (tys' := []) [] rfl
    refine va_calli (va_runV (As := []) (rest := []) ⟨hx, hb, hml, hown, hts⟩ (r_thrown l D eT y0 lH lB lJ aR aL lC aM aP 0 0 0 H.size ) (cwV 0 hts gL_law_X5_thrown rfl rfl rfl (by decide +kernel) ⟨Nat.le_of_ble_eq_true rfl, Nat.le_of_ble_eq_true rfl⟩) (pr_v (ci := 8) (q0 := 0) rfl rfl hPc hKc hE hS hA) rfl rfl hl.1 rfl (lv_room (Nat.le_of_ble_eq_true rfl)) dL_law_1556 ⟨Nat.le_of_ble_eq_true rfl, Nat.le_of_ble_eq_true rfl⟩) hS (fun q h1 h2 => ro_A h1 h2) (fun q h => ro_F hS hA q h) (fun r u t H1 locs ht hvm hw hB hz1 hk1 hS => ?_)
    have hw : r = 0 := hw
    rw [hw]
    have hP := ro_P hP hk1
    generalize H1 = H at hP hS ⊢
    refine lv_iload hx hb dL_law_1559 (lv_at hl 1 rfl) ?_
    refine lv_icmp_eq (tgt := 1566) hx hb dL_law_1561 (by decide) (fun _ => ?_) (fun h => absurd (by decide) h)
    refine lv_iload hx hb dL_law_1566 (lv_at hl 1 rfl) ?_
    refine lv_if_ne (tgt := 1583) hx hb dL_law_1568 (by decide) (fun h => absurd (by decide) h) (fun _ => ?_)
    refine lv_aload_n hx hb dL_law_1571 rfl (lv_at hl 5 rfl) ?_
    refine lv_iconst (v := 0) hx hb dL_law_1572 (by decide) ?_
    refine va_lald hx hb hK hP 11 5 rfl rfl (by unfold vp_in; decide +kernel) dL_law_1573 ?_
    refine lv_topl (fun z_23 ez_23 => ?_)
    have ez_23 : z_23 = 0 := ez_23.trans pk_uLs
    rw [ez_23]
    refine lv_iload hx hb dL_law_1574 (lv_at hl 0 rfl) ?_
    refine lv_i2l (v := 0) hx hb dL_law_1576 (by decide) ?_
    refine W.lcmp hx hb dL_law_1577 ?_
    refine lv_topi (fun z_24 ez_24 => ?_)
    have ez_24 : z_24 = 0 := ez_24.trans (by decide +kernel)
    rw [ez_24]
    refine lv_if_eq (tgt := 1583) hx hb dL_law_1578 (by decide) (fun _ => ?_) (fun h => absurd (by decide) h)
    refine lv_goto (tgt := 1835) hx hb dL_law_1583 (by decide) ?_
    refine W.widen (k := 2000) (n := 20000) (Nat.le_of_ble_eq_true rfl) (Nat.le_of_ble_eq_true rfl) ?_
    exact kx _ _ _ hS (lv_sub hl [2, 3, 4, 5, 6] rfl)
  · skip
    refine lv_aload_n hx hb dL_law_1530 rfl (lv_at hl 1 rfl) ?_
    refine lv_aload_n hx hb dL_law_1531 rfl (lv_at hl 0 rfl) ?_
    refine lv_iload hx hb dL_law_1532 (lv_at hl 4 rfl) ?_
    refine lv_iconst (v := 1) hx hb dL_law_1534 (by decide) ?_
    refine lv_iadd hx hb dL_law_1535 ?_
    refine lv_topi (fun z_25 ez_25 => ?_)
    have ez_25 : z_25 = 1 := ez_25.trans (by decide +kernel)
    rw [ez_25]
    refine va_sld hx hb hX hbl hbA hS (show vp_in 1 7 from by unfold vp_in; decide +kernel) dL_law_1536 ?_
    refine lv_topi (fun z_26 ez_26 => ?_)
    have ez_26 : z_26 = 4 := ez_26.trans e1
    rw [ez_26]
    refine lv_aload_n hx hb dL_law_1537 rfl (lv_at hl 3 rfl) ?_
    have hPc := hP.sub (ws' := [(x0, .inr (7, [.ref aH, .ref aB, .ref aJ, .int 0, .int 0, .int 0, .ref rN, .ref rX, .int 0, .int 0, .int 0, .int 0, .int 0, .int 0, .int (-1), .int (-1), .int 0, .int 0, .ref aV])), (rN, .inr (6, [.int 7, .int 100, .int 800, .int 10])), (ho, .inl (cO, 1, .inr (.inl fo)))]) [0, 3, 18] rfl
    have hKc := hK.sub (tys' := [(cO, .long)]) [5] rfl
    have hDc := hD.sub (ws' := [(x0, .inr (7, [.ref aH, .ref aB, .ref aJ, .int 0, .int 0, .int 0, .ref rN, .ref rX, .int 0, .int 0, .int 0, .int 0, .int 0, .int 0, .int (-1), .int (-1), .int 0, .int 0, .ref aV])), (rN, .inr (6, [.int 7, .int 100, .int 800, .int 10])), (ho, .inl (cO, 1, .inr (.inl fo)))]) [0, 3, 18] (by decide) rfl
    have hFc := va_free (wc := [(x0, .inr (7, [.ref aH, .ref aB, .ref aJ, .int 0, .int 0, .int 0, .ref rN, .ref rX, .int 0, .int 0, .int 0, .int 0, .int 0, .int 0, .int (-1), .int (-1), .int 0, .int 0, .ref aV])), (rN, .inr (6, [.int 7, .int 100, .int 800, .int 10])), (ho, .inl (cO, 1, .inr (.inl fo)))]) hD hS hA [0, 3, 18] rfl
    refine va_calli (vx_runSW (As := [.ref x0, .int 4, .ref ho]) (rest := []) ⟨hx, hb, hml, hown, hts⟩ (w_many_4 l D eT x0 aH aB aJ rN rX aV ho cO fo H.size ) (vx_cwSW 3 hts gL_law_L_many rfl rfl rfl (by decide +kernel) ⟨Nat.le_of_ble_eq_true rfl, Nat.le_of_ble_eq_true rfl⟩) (pc_s hPc hDc hKc hE hS hFc) rfl rfl hl.1 rfl (lv_room (Nat.le_of_ble_eq_true rfl)) dL_law_1538 ⟨Nat.le_of_ble_eq_true rfl, Nat.le_of_ble_eq_true rfl⟩) hS (fun q _ h => hFc q h) hFc (fun r u t H1 locs ht hvm hw hB hz1 hk1 hS => ?_)
    have hw : r = 0 := hw
    rw [hw]
    obtain ⟨hP1, hK1, hD1⟩ := hB
    rw [ht] at hP1
    have hK1 := va_K.moved hvm.symm hK1
    obtain ⟨hP, hD⟩ := va_join (wr := [(aJ, .inl (cJ, 5, .inr (.inr (.inr (.inr fJ))))), (j0, .inr (5, [.int 0, .int 0, .int 0, .int 0, .int 0, .ref c1, .ref c2, .int 0, .int 0, .int 0, .int 0, .ref c3, .int 0, .ref c4, .ref c5, .int 0])), (rX, .inr (6, [.int 7, .int 100, .int 800, .int 10])), (y0, .inr (8, [.int 0, .ref lH, .ref lB, .ref lJ, .ref aR, .ref aL, .int 0, .int 0, .int 0, .ref lC, .ref aM, .ref aP, .int 0, .int 0, .int 0, .int (-1), .int (-1), .int 0, .int 0, .long 0])), (lH, .inr (2, [.int 0, .ref eT, .int 0])), (lB, .inr (2, [.int 0, .ref eT, .int 0])), (lJ, .inr (2, [.int 0, .ref eT, .int 0])), (lC, .inr (2, [.int 0, .ref eT, .int 0])), (aR, .inl (cI, 4, .inl fR)), (aL, .inl (cL, 4, .inl fL)), (aM, .inl (cM, 5, .inr (.inr (.inr (.inr gM))))), (m0, .inl (cR, 16, .inl f0)), (m1, .inl (cR, 16, .inl f1)), (m2, .inl (cR, 16, .inl f2)), (m3, .inl (cR, 16, .inl f3)), (m4, .inl (cR, 16, .inl f4))]) (w1 := [(ho, .inl (cO, 1, .inr (.inl (vp_updL fo (Int32.toNatClampNeg 0) 0))))]) hP hD [0, 3, 18] [1, 2, 4, 5, 6, 7, 8, 9, 10, 11, 12, 13, 14, 15, 16, 17] rfl rfl (by decide) (by decide) hk1 hFc hP1 hD1
    generalize H1 = H at hP hS ⊢
    have hP : va_P D vwCl [(aJ, .inl (cJ, 5, .inr (.inr (.inr (.inr fJ))))), (j0, .inr (5, [.int 0, .int 0, .int 0, .int 0, .int 0, .ref c1, .ref c2, .int 0, .int 0, .int 0, .int 0, .ref c3, .int 0, .ref c4, .ref c5, .int 0])), (rX, .inr (6, [.int 7, .int 100, .int 800, .int 10])), (y0, .inr (8, [.int 0, .ref lH, .ref lB, .ref lJ, .ref aR, .ref aL, .int 0, .int 0, .int 0, .ref lC, .ref aM, .ref aP, .int 0, .int 0, .int 0, .int (-1), .int (-1), .int 0, .int 0, .long 0])), (lH, .inr (2, [.int 0, .ref eT, .int 0])), (lB, .inr (2, [.int 0, .ref eT, .int 0])), (lJ, .inr (2, [.int 0, .ref eT, .int 0])), (lC, .inr (2, [.int 0, .ref eT, .int 0])), (aR, .inl (cI, 4, .inl fR)), (aL, .inl (cL, 4, .inl fL)), (aM, .inl (cM, 5, .inr (.inr (.inr (.inr gM))))), (m0, .inl (cR, 16, .inl f0)), (m1, .inl (cR, 16, .inl f1)), (m2, .inl (cR, 16, .inl f2)), (m3, .inl (cR, 16, .inl f3)), (m4, .inl (cR, 16, .inl f4)), (ho, .inl (cO, 1, .inr (.inl (vp_updL fo (Int32.toNatClampNeg 0) 0))))] H := hP
    have hD : va_D (fun q : Nat => s.heap.size ≤ q) [(aJ, .inl (cJ, 5, .inr (.inr (.inr (.inr fJ))))), (j0, .inr (5, [.int 0, .int 0, .int 0, .int 0, .int 0, .ref c1, .ref c2, .int 0, .int 0, .int 0, .int 0, .ref c3, .int 0, .ref c4, .ref c5, .int 0])), (rX, .inr (6, [.int 7, .int 100, .int 800, .int 10])), (y0, .inr (8, [.int 0, .ref lH, .ref lB, .ref lJ, .ref aR, .ref aL, .int 0, .int 0, .int 0, .ref lC, .ref aM, .ref aP, .int 0, .int 0, .int 0, .int (-1), .int (-1), .int 0, .int 0, .long 0])), (lH, .inr (2, [.int 0, .ref eT, .int 0])), (lB, .inr (2, [.int 0, .ref eT, .int 0])), (lJ, .inr (2, [.int 0, .ref eT, .int 0])), (lC, .inr (2, [.int 0, .ref eT, .int 0])), (aR, .inl (cI, 4, .inl fR)), (aL, .inl (cL, 4, .inl fL)), (aM, .inl (cM, 5, .inr (.inr (.inr (.inr gM))))), (m0, .inl (cR, 16, .inl f0)), (m1, .inl (cR, 16, .inl f1)), (m2, .inl (cR, 16, .inl f2)), (m3, .inl (cR, 16, .inl f3)), (m4, .inl (cR, 16, .inl f4)), (ho, .inl (cO, 1, .inr (.inl (vp_updL fo (Int32.toNatClampNeg 0) 0))))] := hD
    refine lv_istore (lv' := [(5, .int 0), (0, .ref b), (1, .ref x0), (2, .ref y0), (3, .ref ho), (4, .int 0)]) hx hb dL_law_1541 hl (by decide) rfl (fun ls hl => ?_)
    refine lv_aload_n hx hb dL_law_1543 rfl (lv_at hl 3 rfl) ?_
    refine lv_aload_n hx hb dL_law_1544 rfl (lv_at hl 1 rfl) ?_
    refine lv_iload hx hb dL_law_1545 (lv_at hl 5 rfl) ?_
    refine lv_iconst (v := 1) hx hb dL_law_1547 (by decide) ?_
    refine lv_iadd hx hb dL_law_1548 ?_
    refine lv_topi (fun z_27 ez_27 => ?_)
    have ez_27 : z_27 = 1 := ez_27.trans (by decide +kernel)
    rw [ez_27]
    refine va_sld hx hb hX hbl hbA hS (show vp_in 1 7 from by unfold vp_in; decide +kernel) dL_law_1549 ?_
    refine lv_topi (fun z_28 ez_28 => ?_)
    have ez_28 : z_28 = 4 := ez_28.trans e1
    rw [ez_28]
    have hPc := hP.sub (ws' := [(y0, .inr (8, [.int 0, .ref lH, .ref lB, .ref lJ, .ref aR, .ref aL, .int 0, .int 0, .int 0, .ref lC, .ref aM, .ref aP, .int 0, .int 0, .int 0, .int (-1), .int (-1), .int 0, .int 0, .long 0])), (lB, .inr (2, [.int 0, .ref eT, .int 0])), (lH, .inr (2, [.int 0, .ref eT, .int 0])), (lJ, .inr (2, [.int 0, .ref eT, .int 0])), (aR, .inl (cI, 4, .inl fR))]) [3, 5, 4, 6, 8] rfl
    have hKc := hK.sub (tys' := [(cI, .int)]) [1] rfl
    have hDc := hD.sub (ws' := [(y0, .inr (8, [.int 0, .ref lH, .ref lB, .ref lJ, .ref aR, .ref aL, .int 0, .int 0, .int 0, .ref lC, .ref aM, .ref aP, .int 0, .int 0, .int 0, .int (-1), .int (-1), .int 0, .int 0, .long 0])), (lB, .inr (2, [.int 0, .ref eT, .int 0])), (lH, .inr (2, [.int 0, .ref eT, .int 0])), (lJ, .inr (2, [.int 0, .ref eT, .int 0])), (aR, .inl (cI, 4, .inl fR))]) [3, 5, 4, 6, 8] (by decide) rfl
    have hFc := va_free (wc := [(y0, .inr (8, [.int 0, .ref lH, .ref lB, .ref lJ, .ref aR, .ref aL, .int 0, .int 0, .int 0, .ref lC, .ref aM, .ref aP, .int 0, .int 0, .int 0, .int (-1), .int (-1), .int 0, .int 0, .long 0])), (lB, .inr (2, [.int 0, .ref eT, .int 0])), (lH, .inr (2, [.int 0, .ref eT, .int 0])), (lJ, .inr (2, [.int 0, .ref eT, .int 0])), (aR, .inl (cI, 4, .inl fR))]) hD hS hA [3, 5, 4, 6, 8] rfl
    refine va_calli (va_runV (As := [.int 4]) (rest := []) ⟨hx, hb, hml, hown, hts⟩ (r_many l D eT y0 lH lB lJ aR aL lC aM aP 0 cI fR 4 H.size hR (by decide) (by decide)) (cwV 1 hts gL_law_X5_many rfl rfl rfl (by decide +kernel) ⟨Nat.le_of_ble_eq_true rfl, Nat.le_of_ble_eq_true rfl⟩) (pc_v (ci := 8) (q0 := 0) rfl rfl hPc hDc hKc hE hS hFc) rfl rfl hl.1 rfl (lv_room (Nat.le_of_ble_eq_true rfl)) dL_law_1550 ⟨Nat.le_of_ble_eq_true rfl, Nat.le_of_ble_eq_true rfl⟩) hS (fun q _ h => hFc q h) hFc (fun r u t H1 locs ht hvm hw hB hz1 hk1 hS => ?_)
    have hw : r = 0 := hw.trans (by decide)
    rw [hw]
    obtain ⟨hP1, hK1, hD1⟩ := hB
    rw [ht] at hP1
    have hK1 := va_K.moved hvm.symm hK1
    obtain ⟨hP, hD⟩ := va_join (wr := [(aJ, .inl (cJ, 5, .inr (.inr (.inr (.inr fJ))))), (j0, .inr (5, [.int 0, .int 0, .int 0, .int 0, .int 0, .ref c1, .ref c2, .int 0, .int 0, .int 0, .int 0, .ref c3, .int 0, .ref c4, .ref c5, .int 0])), (rX, .inr (6, [.int 7, .int 100, .int 800, .int 10])), (lC, .inr (2, [.int 0, .ref eT, .int 0])), (aL, .inl (cL, 4, .inl fL)), (aM, .inl (cM, 5, .inr (.inr (.inr (.inr gM))))), (m0, .inl (cR, 16, .inl f0)), (m1, .inl (cR, 16, .inl f1)), (m2, .inl (cR, 16, .inl f2)), (m3, .inl (cR, 16, .inl f3)), (m4, .inl (cR, 16, .inl f4)), (ho, .inl (cO, 1, .inr (.inl (vp_updL fo (Int32.toNatClampNeg 0) 0))))]) (w1 := [(y0, .inr (8, [.int 0, .ref lH, .ref lB, .ref lJ, .ref aR, .ref aL, .int 0, .int 0, .int 0, .ref lC, .ref aM, .ref aP, .int 0, .int 0, .int 0, .int (-1), .int (-1), .int 0, .int 0, .long 0]))]) hP hD [3, 5, 4, 6, 8] [0, 1, 2, 7, 9, 10, 11, 12, 13, 14, 15, 16] rfl rfl (by decide) (by decide) hk1 hFc hP1 hD1
    generalize H1 = H at hP hS ⊢
    have hP : va_P D vwCl [(aJ, .inl (cJ, 5, .inr (.inr (.inr (.inr fJ))))), (j0, .inr (5, [.int 0, .int 0, .int 0, .int 0, .int 0, .ref c1, .ref c2, .int 0, .int 0, .int 0, .int 0, .ref c3, .int 0, .ref c4, .ref c5, .int 0])), (rX, .inr (6, [.int 7, .int 100, .int 800, .int 10])), (lC, .inr (2, [.int 0, .ref eT, .int 0])), (aL, .inl (cL, 4, .inl fL)), (aM, .inl (cM, 5, .inr (.inr (.inr (.inr gM))))), (m0, .inl (cR, 16, .inl f0)), (m1, .inl (cR, 16, .inl f1)), (m2, .inl (cR, 16, .inl f2)), (m3, .inl (cR, 16, .inl f3)), (m4, .inl (cR, 16, .inl f4)), (ho, .inl (cO, 1, .inr (.inl (vp_updL fo (Int32.toNatClampNeg 0) 0)))), (y0, .inr (8, [.int 0, .ref lH, .ref lB, .ref lJ, .ref aR, .ref aL, .int 0, .int 0, .int 0, .ref lC, .ref aM, .ref aP, .int 0, .int 0, .int 0, .int (-1), .int (-1), .int 0, .int 0, .long 0]))] H := hP
    have hD : va_D (fun q : Nat => s.heap.size ≤ q) [(aJ, .inl (cJ, 5, .inr (.inr (.inr (.inr fJ))))), (j0, .inr (5, [.int 0, .int 0, .int 0, .int 0, .int 0, .ref c1, .ref c2, .int 0, .int 0, .int 0, .int 0, .ref c3, .int 0, .ref c4, .ref c5, .int 0])), (rX, .inr (6, [.int 7, .int 100, .int 800, .int 10])), (lC, .inr (2, [.int 0, .ref eT, .int 0])), (aL, .inl (cL, 4, .inl fL)), (aM, .inl (cM, 5, .inr (.inr (.inr (.inr gM))))), (m0, .inl (cR, 16, .inl f0)), (m1, .inl (cR, 16, .inl f1)), (m2, .inl (cR, 16, .inl f2)), (m3, .inl (cR, 16, .inl f3)), (m4, .inl (cR, 16, .inl f4)), (ho, .inl (cO, 1, .inr (.inl (vp_updL fo (Int32.toNatClampNeg 0) 0)))), (y0, .inr (8, [.int 0, .ref lH, .ref lB, .ref lJ, .ref aR, .ref aL, .int 0, .int 0, .int 0, .ref lC, .ref aM, .ref aP, .int 0, .int 0, .int 0, .int (-1), .int (-1), .int 0, .int 0, .long 0]))] := hD
    refine W.widen (k := 83) (n := 922) (Nat.le_of_ble_eq_true rfl) (Nat.le_of_ble_eq_true rfl) ?_
    refine lv_istore (lv' := [(6, .int 0), (5, .int 0), (0, .ref b), (1, .ref x0), (2, .ref y0), (3, .ref ho), (4, .int 0)]) hx hb dL_law_1553 hl (by decide) rfl (fun ls hl => ?_)
    refine lv_aload_n hx hb dL_law_1555 rfl (lv_at hl 4 rfl) ?_
    have hPc := hP.sub (ws' := [(y0, .inr (8, [.int 0, .ref lH, .ref lB, .ref lJ, .ref aR, .ref aL, .int 0, .int 0, .int 0, .ref lC, .ref aM, .ref aP, .int 0, .int 0, .int 0, .int (-1), .int (-1), .int 0, .int 0, .long 0]))]) [12] rfl
    have hKc := hK.sub (tys' := []) [] rfl
    refine va_calli (va_runV (As := []) (rest := []) ⟨hx, hb, hml, hown, hts⟩ (r_thrown l D eT y0 lH lB lJ aR aL lC aM aP 0 0 0 H.size ) (cwV 0 hts gL_law_X5_thrown rfl rfl rfl (by decide +kernel) ⟨Nat.le_of_ble_eq_true rfl, Nat.le_of_ble_eq_true rfl⟩) (pr_v (ci := 8) (q0 := 0) rfl rfl hPc hKc hE hS hA) rfl rfl hl.1 rfl (lv_room (Nat.le_of_ble_eq_true rfl)) dL_law_1556 ⟨Nat.le_of_ble_eq_true rfl, Nat.le_of_ble_eq_true rfl⟩) hS (fun q h1 h2 => ro_A h1 h2) (fun q h => ro_F hS hA q h) (fun r u t H1 locs ht hvm hw hB hz1 hk1 hS => ?_)
    have hw : r = 0 := hw
    rw [hw]
    have hP := ro_P hP hk1
    generalize H1 = H at hP hS ⊢
    refine lv_iload hx hb dL_law_1559 (lv_at hl 1 rfl) ?_
    refine lv_icmp_eq (tgt := 1566) hx hb dL_law_1561 (by decide) (fun _ => ?_) (fun h => absurd (by decide) h)
    refine lv_iload hx hb dL_law_1566 (lv_at hl 1 rfl) ?_
    refine lv_if_ne (tgt := 1583) hx hb dL_law_1568 (by decide) (fun h => absurd (by decide) h) (fun _ => ?_)
    refine lv_aload_n hx hb dL_law_1571 rfl (lv_at hl 5 rfl) ?_
    refine lv_iconst (v := 0) hx hb dL_law_1572 (by decide) ?_
    refine va_lald hx hb hK hP 11 5 rfl rfl (by unfold vp_in; decide +kernel) dL_law_1573 ?_
    refine lv_topl (fun z_29 ez_29 => ?_)
    have ez_29 : z_29 = 0 := ez_29.trans pk_uLs
    rw [ez_29]
    refine lv_iload hx hb dL_law_1574 (lv_at hl 0 rfl) ?_
    refine lv_i2l (v := 0) hx hb dL_law_1576 (by decide) ?_
    refine W.lcmp hx hb dL_law_1577 ?_
    refine lv_topi (fun z_30 ez_30 => ?_)
    have ez_30 : z_30 = 0 := ez_30.trans (by decide +kernel)
    rw [ez_30]
    refine lv_if_eq (tgt := 1583) hx hb dL_law_1578 (by decide) (fun _ => ?_) (fun h => absurd (by decide) h)
    refine lv_goto (tgt := 1835) hx hb dL_law_1583 (by decide) ?_
    refine W.widen (k := 2000) (n := 20000) (Nat.le_of_ble_eq_true rfl) (Nat.le_of_ble_eq_true rfl) ?_
    exact kx _ _ _ hS (lv_sub hl [2, 3, 4, 5, 6] rfl)
  · skip
    refine lv_aload_n hx hb dL_law_1530 rfl (lv_at hl 1 rfl) ?_
    refine lv_aload_n hx hb dL_law_1531 rfl (lv_at hl 0 rfl) ?_
    refine lv_iload hx hb dL_law_1532 (lv_at hl 4 rfl) ?_
    refine lv_iconst (v := 1) hx hb dL_law_1534 (by decide) ?_
    refine lv_iadd hx hb dL_law_1535 ?_
    refine lv_topi (fun z_31 ez_31 => ?_)
    have ez_31 : z_31 = 1 := ez_31.trans (by decide +kernel)
    rw [ez_31]
    refine va_sld hx hb hX hbl hbA hS (show vp_in 1 7 from by unfold vp_in; decide +kernel) dL_law_1536 ?_
    refine lv_topi (fun z_32 ez_32 => ?_)
    have ez_32 : z_32 = 5 := ez_32.trans e1
    rw [ez_32]
    refine lv_aload_n hx hb dL_law_1537 rfl (lv_at hl 3 rfl) ?_
    have hPc := hP.sub (ws' := [(x0, .inr (7, [.ref aH, .ref aB, .ref aJ, .int 0, .int 0, .int 0, .ref rN, .ref rX, .int 0, .int 0, .int 0, .int 0, .int 0, .int 0, .int (-1), .int (-1), .int 0, .int 0, .ref aV])), (rN, .inr (6, [.int 7, .int 100, .int 800, .int 10])), (ho, .inl (cO, 1, .inr (.inl fo)))]) [0, 3, 18] rfl
    have hKc := hK.sub (tys' := [(cO, .long)]) [5] rfl
    have hDc := hD.sub (ws' := [(x0, .inr (7, [.ref aH, .ref aB, .ref aJ, .int 0, .int 0, .int 0, .ref rN, .ref rX, .int 0, .int 0, .int 0, .int 0, .int 0, .int 0, .int (-1), .int (-1), .int 0, .int 0, .ref aV])), (rN, .inr (6, [.int 7, .int 100, .int 800, .int 10])), (ho, .inl (cO, 1, .inr (.inl fo)))]) [0, 3, 18] (by decide) rfl
    have hFc := va_free (wc := [(x0, .inr (7, [.ref aH, .ref aB, .ref aJ, .int 0, .int 0, .int 0, .ref rN, .ref rX, .int 0, .int 0, .int 0, .int 0, .int 0, .int 0, .int (-1), .int (-1), .int 0, .int 0, .ref aV])), (rN, .inr (6, [.int 7, .int 100, .int 800, .int 10])), (ho, .inl (cO, 1, .inr (.inl fo)))]) hD hS hA [0, 3, 18] rfl
    refine va_calli (vx_runSW (As := [.ref x0, .int 5, .ref ho]) (rest := []) ⟨hx, hb, hml, hown, hts⟩ (w_many_5 l D eT x0 aH aB aJ rN rX aV ho cO fo H.size ) (vx_cwSW 3 hts gL_law_L_many rfl rfl rfl (by decide +kernel) ⟨Nat.le_of_ble_eq_true rfl, Nat.le_of_ble_eq_true rfl⟩) (pc_s hPc hDc hKc hE hS hFc) rfl rfl hl.1 rfl (lv_room (Nat.le_of_ble_eq_true rfl)) dL_law_1538 ⟨Nat.le_of_ble_eq_true rfl, Nat.le_of_ble_eq_true rfl⟩) hS (fun q _ h => hFc q h) hFc (fun r u t H1 locs ht hvm hw hB hz1 hk1 hS => ?_)
    have hw : r = 0 := hw
    rw [hw]
    obtain ⟨hP1, hK1, hD1⟩ := hB
    rw [ht] at hP1
    have hK1 := va_K.moved hvm.symm hK1
    obtain ⟨hP, hD⟩ := va_join (wr := [(aJ, .inl (cJ, 5, .inr (.inr (.inr (.inr fJ))))), (j0, .inr (5, [.int 0, .int 0, .int 0, .int 0, .int 0, .ref c1, .ref c2, .int 0, .int 0, .int 0, .int 0, .ref c3, .int 0, .ref c4, .ref c5, .int 0])), (rX, .inr (6, [.int 7, .int 100, .int 800, .int 10])), (y0, .inr (8, [.int 0, .ref lH, .ref lB, .ref lJ, .ref aR, .ref aL, .int 0, .int 0, .int 0, .ref lC, .ref aM, .ref aP, .int 0, .int 0, .int 0, .int (-1), .int (-1), .int 0, .int 0, .long 0])), (lH, .inr (2, [.int 0, .ref eT, .int 0])), (lB, .inr (2, [.int 0, .ref eT, .int 0])), (lJ, .inr (2, [.int 0, .ref eT, .int 0])), (lC, .inr (2, [.int 0, .ref eT, .int 0])), (aR, .inl (cI, 4, .inl fR)), (aL, .inl (cL, 4, .inl fL)), (aM, .inl (cM, 5, .inr (.inr (.inr (.inr gM))))), (m0, .inl (cR, 16, .inl f0)), (m1, .inl (cR, 16, .inl f1)), (m2, .inl (cR, 16, .inl f2)), (m3, .inl (cR, 16, .inl f3)), (m4, .inl (cR, 16, .inl f4))]) (w1 := [(ho, .inl (cO, 1, .inr (.inl (vp_updL fo (Int32.toNatClampNeg 0) 0))))]) hP hD [0, 3, 18] [1, 2, 4, 5, 6, 7, 8, 9, 10, 11, 12, 13, 14, 15, 16, 17] rfl rfl (by decide) (by decide) hk1 hFc hP1 hD1
    generalize H1 = H at hP hS ⊢
    have hP : va_P D vwCl [(aJ, .inl (cJ, 5, .inr (.inr (.inr (.inr fJ))))), (j0, .inr (5, [.int 0, .int 0, .int 0, .int 0, .int 0, .ref c1, .ref c2, .int 0, .int 0, .int 0, .int 0, .ref c3, .int 0, .ref c4, .ref c5, .int 0])), (rX, .inr (6, [.int 7, .int 100, .int 800, .int 10])), (y0, .inr (8, [.int 0, .ref lH, .ref lB, .ref lJ, .ref aR, .ref aL, .int 0, .int 0, .int 0, .ref lC, .ref aM, .ref aP, .int 0, .int 0, .int 0, .int (-1), .int (-1), .int 0, .int 0, .long 0])), (lH, .inr (2, [.int 0, .ref eT, .int 0])), (lB, .inr (2, [.int 0, .ref eT, .int 0])), (lJ, .inr (2, [.int 0, .ref eT, .int 0])), (lC, .inr (2, [.int 0, .ref eT, .int 0])), (aR, .inl (cI, 4, .inl fR)), (aL, .inl (cL, 4, .inl fL)), (aM, .inl (cM, 5, .inr (.inr (.inr (.inr gM))))), (m0, .inl (cR, 16, .inl f0)), (m1, .inl (cR, 16, .inl f1)), (m2, .inl (cR, 16, .inl f2)), (m3, .inl (cR, 16, .inl f3)), (m4, .inl (cR, 16, .inl f4)), (ho, .inl (cO, 1, .inr (.inl (vp_updL fo (Int32.toNatClampNeg 0) 0))))] H := hP
    have hD : va_D (fun q : Nat => s.heap.size ≤ q) [(aJ, .inl (cJ, 5, .inr (.inr (.inr (.inr fJ))))), (j0, .inr (5, [.int 0, .int 0, .int 0, .int 0, .int 0, .ref c1, .ref c2, .int 0, .int 0, .int 0, .int 0, .ref c3, .int 0, .ref c4, .ref c5, .int 0])), (rX, .inr (6, [.int 7, .int 100, .int 800, .int 10])), (y0, .inr (8, [.int 0, .ref lH, .ref lB, .ref lJ, .ref aR, .ref aL, .int 0, .int 0, .int 0, .ref lC, .ref aM, .ref aP, .int 0, .int 0, .int 0, .int (-1), .int (-1), .int 0, .int 0, .long 0])), (lH, .inr (2, [.int 0, .ref eT, .int 0])), (lB, .inr (2, [.int 0, .ref eT, .int 0])), (lJ, .inr (2, [.int 0, .ref eT, .int 0])), (lC, .inr (2, [.int 0, .ref eT, .int 0])), (aR, .inl (cI, 4, .inl fR)), (aL, .inl (cL, 4, .inl fL)), (aM, .inl (cM, 5, .inr (.inr (.inr (.inr gM))))), (m0, .inl (cR, 16, .inl f0)), (m1, .inl (cR, 16, .inl f1)), (m2, .inl (cR, 16, .inl f2)), (m3, .inl (cR, 16, .inl f3)), (m4, .inl (cR, 16, .inl f4)), (ho, .inl (cO, 1, .inr (.inl (vp_updL fo (Int32.toNatClampNeg 0) 0))))] := hD
    refine lv_istore (lv' := [(5, .int 0), (0, .ref b), (1, .ref x0), (2, .ref y0), (3, .ref ho), (4, .int 0)]) hx hb dL_law_1541 hl (by decide) rfl (fun ls hl => ?_)
    refine lv_aload_n hx hb dL_law_1543 rfl (lv_at hl 3 rfl) ?_
    refine lv_aload_n hx hb dL_law_1544 rfl (lv_at hl 1 rfl) ?_
    refine lv_iload hx hb dL_law_1545 (lv_at hl 5 rfl) ?_
    refine lv_iconst (v := 1) hx hb dL_law_1547 (by decide) ?_
    refine lv_iadd hx hb dL_law_1548 ?_
    refine lv_topi (fun z_33 ez_33 => ?_)
    have ez_33 : z_33 = 1 := ez_33.trans (by decide +kernel)
    rw [ez_33]
    refine va_sld hx hb hX hbl hbA hS (show vp_in 1 7 from by unfold vp_in; decide +kernel) dL_law_1549 ?_
    refine lv_topi (fun z_34 ez_34 => ?_)
    have ez_34 : z_34 = 5 := ez_34.trans e1
    rw [ez_34]
    have hPc := hP.sub (ws' := [(y0, .inr (8, [.int 0, .ref lH, .ref lB, .ref lJ, .ref aR, .ref aL, .int 0, .int 0, .int 0, .ref lC, .ref aM, .ref aP, .int 0, .int 0, .int 0, .int (-1), .int (-1), .int 0, .int 0, .long 0])), (lB, .inr (2, [.int 0, .ref eT, .int 0])), (lH, .inr (2, [.int 0, .ref eT, .int 0])), (lJ, .inr (2, [.int 0, .ref eT, .int 0])), (aR, .inl (cI, 4, .inl fR))]) [3, 5, 4, 6, 8] rfl
    have hKc := hK.sub (tys' := [(cI, .int)]) [1] rfl
    have hDc := hD.sub (ws' := [(y0, .inr (8, [.int 0, .ref lH, .ref lB, .ref lJ, .ref aR, .ref aL, .int 0, .int 0, .int 0, .ref lC, .ref aM, .ref aP, .int 0, .int 0, .int 0, .int (-1), .int (-1), .int 0, .int 0, .long 0])), (lB, .inr (2, [.int 0, .ref eT, .int 0])), (lH, .inr (2, [.int 0, .ref eT, .int 0])), (lJ, .inr (2, [.int 0, .ref eT, .int 0])), (aR, .inl (cI, 4, .inl fR))]) [3, 5, 4, 6, 8] (by decide) rfl
    have hFc := va_free (wc := [(y0, .inr (8, [.int 0, .ref lH, .ref lB, .ref lJ, .ref aR, .ref aL, .int 0, .int 0, .int 0, .ref lC, .ref aM, .ref aP, .int 0, .int 0, .int 0, .int (-1), .int (-1), .int 0, .int 0, .long 0])), (lB, .inr (2, [.int 0, .ref eT, .int 0])), (lH, .inr (2, [.int 0, .ref eT, .int 0])), (lJ, .inr (2, [.int 0, .ref eT, .int 0])), (aR, .inl (cI, 4, .inl fR))]) hD hS hA [3, 5, 4, 6, 8] rfl
    refine va_calli (va_runV (As := [.int 5]) (rest := []) ⟨hx, hb, hml, hown, hts⟩ (r_many l D eT y0 lH lB lJ aR aL lC aM aP 0 cI fR 5 H.size hR (by decide) (by decide)) (cwV 1 hts gL_law_X5_many rfl rfl rfl (by decide +kernel) ⟨Nat.le_of_ble_eq_true rfl, Nat.le_of_ble_eq_true rfl⟩) (pc_v (ci := 8) (q0 := 0) rfl rfl hPc hDc hKc hE hS hFc) rfl rfl hl.1 rfl (lv_room (Nat.le_of_ble_eq_true rfl)) dL_law_1550 ⟨Nat.le_of_ble_eq_true rfl, Nat.le_of_ble_eq_true rfl⟩) hS (fun q _ h => hFc q h) hFc (fun r u t H1 locs ht hvm hw hB hz1 hk1 hS => ?_)
    have hw : r = 0 := hw.trans (by decide)
    rw [hw]
    obtain ⟨hP1, hK1, hD1⟩ := hB
    rw [ht] at hP1
    have hK1 := va_K.moved hvm.symm hK1
    obtain ⟨hP, hD⟩ := va_join (wr := [(aJ, .inl (cJ, 5, .inr (.inr (.inr (.inr fJ))))), (j0, .inr (5, [.int 0, .int 0, .int 0, .int 0, .int 0, .ref c1, .ref c2, .int 0, .int 0, .int 0, .int 0, .ref c3, .int 0, .ref c4, .ref c5, .int 0])), (rX, .inr (6, [.int 7, .int 100, .int 800, .int 10])), (lC, .inr (2, [.int 0, .ref eT, .int 0])), (aL, .inl (cL, 4, .inl fL)), (aM, .inl (cM, 5, .inr (.inr (.inr (.inr gM))))), (m0, .inl (cR, 16, .inl f0)), (m1, .inl (cR, 16, .inl f1)), (m2, .inl (cR, 16, .inl f2)), (m3, .inl (cR, 16, .inl f3)), (m4, .inl (cR, 16, .inl f4)), (ho, .inl (cO, 1, .inr (.inl (vp_updL fo (Int32.toNatClampNeg 0) 0))))]) (w1 := [(y0, .inr (8, [.int 0, .ref lH, .ref lB, .ref lJ, .ref aR, .ref aL, .int 0, .int 0, .int 0, .ref lC, .ref aM, .ref aP, .int 0, .int 0, .int 0, .int (-1), .int (-1), .int 0, .int 0, .long 0]))]) hP hD [3, 5, 4, 6, 8] [0, 1, 2, 7, 9, 10, 11, 12, 13, 14, 15, 16] rfl rfl (by decide) (by decide) hk1 hFc hP1 hD1
    generalize H1 = H at hP hS ⊢
    have hP : va_P D vwCl [(aJ, .inl (cJ, 5, .inr (.inr (.inr (.inr fJ))))), (j0, .inr (5, [.int 0, .int 0, .int 0, .int 0, .int 0, .ref c1, .ref c2, .int 0, .int 0, .int 0, .int 0, .ref c3, .int 0, .ref c4, .ref c5, .int 0])), (rX, .inr (6, [.int 7, .int 100, .int 800, .int 10])), (lC, .inr (2, [.int 0, .ref eT, .int 0])), (aL, .inl (cL, 4, .inl fL)), (aM, .inl (cM, 5, .inr (.inr (.inr (.inr gM))))), (m0, .inl (cR, 16, .inl f0)), (m1, .inl (cR, 16, .inl f1)), (m2, .inl (cR, 16, .inl f2)), (m3, .inl (cR, 16, .inl f3)), (m4, .inl (cR, 16, .inl f4)), (ho, .inl (cO, 1, .inr (.inl (vp_updL fo (Int32.toNatClampNeg 0) 0)))), (y0, .inr (8, [.int 0, .ref lH, .ref lB, .ref lJ, .ref aR, .ref aL, .int 0, .int 0, .int 0, .ref lC, .ref aM, .ref aP, .int 0, .int 0, .int 0, .int (-1), .int (-1), .int 0, .int 0, .long 0]))] H := hP
    have hD : va_D (fun q : Nat => s.heap.size ≤ q) [(aJ, .inl (cJ, 5, .inr (.inr (.inr (.inr fJ))))), (j0, .inr (5, [.int 0, .int 0, .int 0, .int 0, .int 0, .ref c1, .ref c2, .int 0, .int 0, .int 0, .int 0, .ref c3, .int 0, .ref c4, .ref c5, .int 0])), (rX, .inr (6, [.int 7, .int 100, .int 800, .int 10])), (lC, .inr (2, [.int 0, .ref eT, .int 0])), (aL, .inl (cL, 4, .inl fL)), (aM, .inl (cM, 5, .inr (.inr (.inr (.inr gM))))), (m0, .inl (cR, 16, .inl f0)), (m1, .inl (cR, 16, .inl f1)), (m2, .inl (cR, 16, .inl f2)), (m3, .inl (cR, 16, .inl f3)), (m4, .inl (cR, 16, .inl f4)), (ho, .inl (cO, 1, .inr (.inl (vp_updL fo (Int32.toNatClampNeg 0) 0)))), (y0, .inr (8, [.int 0, .ref lH, .ref lB, .ref lJ, .ref aR, .ref aL, .int 0, .int 0, .int 0, .ref lC, .ref aM, .ref aP, .int 0, .int 0, .int 0, .int (-1), .int (-1), .int 0, .int 0, .long 0]))] := hD
    refine W.widen (k := 83) (n := 922) (Nat.le_of_ble_eq_true rfl) (Nat.le_of_ble_eq_true rfl) ?_
    refine lv_istore (lv' := [(6, .int 0), (5, .int 0), (0, .ref b), (1, .ref x0), (2, .ref y0), (3, .ref ho), (4, .int 0)]) hx hb dL_law_1553 hl (by decide) rfl (fun ls hl => ?_)
    refine lv_aload_n hx hb dL_law_1555 rfl (lv_at hl 4 rfl) ?_
    have hPc := hP.sub (ws' := [(y0, .inr (8, [.int 0, .ref lH, .ref lB, .ref lJ, .ref aR, .ref aL, .int 0, .int 0, .int 0, .ref lC, .ref aM, .ref aP, .int 0, .int 0, .int 0, .int (-1), .int (-1), .int 0, .int 0, .long 0]))]) [12] rfl
    have hKc := hK.sub (tys' := []) [] rfl
    refine va_calli (va_runV (As := []) (rest := []) ⟨hx, hb, hml, hown, hts⟩ (r_thrown l D eT y0 lH lB lJ aR aL lC aM aP 0 0 0 H.size ) (cwV 0 hts gL_law_X5_thrown rfl rfl rfl (by decide +kernel) ⟨Nat.le_of_ble_eq_true rfl, Nat.le_of_ble_eq_true rfl⟩) (pr_v (ci := 8) (q0 := 0) rfl rfl hPc hKc hE hS hA) rfl rfl hl.1 rfl (lv_room (Nat.le_of_ble_eq_true rfl)) dL_law_1556 ⟨Nat.le_of_ble_eq_true rfl, Nat.le_of_ble_eq_true rfl⟩) hS (fun q h1 h2 => ro_A h1 h2) (fun q h => ro_F hS hA q h) (fun r u t H1 locs ht hvm hw hB hz1 hk1 hS => ?_)
    have hw : r = 0 := hw
    rw [hw]
    have hP := ro_P hP hk1
    generalize H1 = H at hP hS ⊢
    refine lv_iload hx hb dL_law_1559 (lv_at hl 1 rfl) ?_
    refine lv_icmp_eq (tgt := 1566) hx hb dL_law_1561 (by decide) (fun _ => ?_) (fun h => absurd (by decide) h)
    refine lv_iload hx hb dL_law_1566 (lv_at hl 1 rfl) ?_
    refine lv_if_ne (tgt := 1583) hx hb dL_law_1568 (by decide) (fun h => absurd (by decide) h) (fun _ => ?_)
    refine lv_aload_n hx hb dL_law_1571 rfl (lv_at hl 5 rfl) ?_
    refine lv_iconst (v := 0) hx hb dL_law_1572 (by decide) ?_
    refine va_lald hx hb hK hP 11 5 rfl rfl (by unfold vp_in; decide +kernel) dL_law_1573 ?_
    refine lv_topl (fun z_35 ez_35 => ?_)
    have ez_35 : z_35 = 0 := ez_35.trans pk_uLs
    rw [ez_35]
    refine lv_iload hx hb dL_law_1574 (lv_at hl 0 rfl) ?_
    refine lv_i2l (v := 0) hx hb dL_law_1576 (by decide) ?_
    refine W.lcmp hx hb dL_law_1577 ?_
    refine lv_topi (fun z_36 ez_36 => ?_)
    have ez_36 : z_36 = 0 := ez_36.trans (by decide +kernel)
    rw [ez_36]
    refine lv_if_eq (tgt := 1583) hx hb dL_law_1578 (by decide) (fun _ => ?_) (fun h => absurd (by decide) h)
    refine lv_goto (tgt := 1835) hx hb dL_law_1583 (by decide) ?_
    refine W.widen (k := 2000) (n := 20000) (Nat.le_of_ble_eq_true rfl) (Nat.le_of_ble_eq_true rfl) ?_
    exact kx _ _ _ hS (lv_sub hl [2, 3, 4, 5, 6] rfl)
  · skip
    refine lv_aload_n hx hb dL_law_1530 rfl (lv_at hl 1 rfl) ?_
    refine lv_aload_n hx hb dL_law_1531 rfl (lv_at hl 0 rfl) ?_
    refine lv_iload hx hb dL_law_1532 (lv_at hl 4 rfl) ?_
    refine lv_iconst (v := 1) hx hb dL_law_1534 (by decide) ?_
    refine lv_iadd hx hb dL_law_1535 ?_
    refine lv_topi (fun z_37 ez_37 => ?_)
    have ez_37 : z_37 = 1 := ez_37.trans (by decide +kernel)
    rw [ez_37]
    refine va_sld hx hb hX hbl hbA hS (show vp_in 1 7 from by unfold vp_in; decide +kernel) dL_law_1536 ?_
    refine lv_topi (fun z_38 ez_38 => ?_)
    have ez_38 : z_38 = 6 := ez_38.trans e1
    rw [ez_38]
    refine lv_aload_n hx hb dL_law_1537 rfl (lv_at hl 3 rfl) ?_
    have hPc := hP.sub (ws' := [(x0, .inr (7, [.ref aH, .ref aB, .ref aJ, .int 0, .int 0, .int 0, .ref rN, .ref rX, .int 0, .int 0, .int 0, .int 0, .int 0, .int 0, .int (-1), .int (-1), .int 0, .int 0, .ref aV])), (rN, .inr (6, [.int 7, .int 100, .int 800, .int 10])), (ho, .inl (cO, 1, .inr (.inl fo)))]) [0, 3, 18] rfl
    have hKc := hK.sub (tys' := [(cO, .long)]) [5] rfl
    have hDc := hD.sub (ws' := [(x0, .inr (7, [.ref aH, .ref aB, .ref aJ, .int 0, .int 0, .int 0, .ref rN, .ref rX, .int 0, .int 0, .int 0, .int 0, .int 0, .int 0, .int (-1), .int (-1), .int 0, .int 0, .ref aV])), (rN, .inr (6, [.int 7, .int 100, .int 800, .int 10])), (ho, .inl (cO, 1, .inr (.inl fo)))]) [0, 3, 18] (by decide) rfl
    have hFc := va_free (wc := [(x0, .inr (7, [.ref aH, .ref aB, .ref aJ, .int 0, .int 0, .int 0, .ref rN, .ref rX, .int 0, .int 0, .int 0, .int 0, .int 0, .int 0, .int (-1), .int (-1), .int 0, .int 0, .ref aV])), (rN, .inr (6, [.int 7, .int 100, .int 800, .int 10])), (ho, .inl (cO, 1, .inr (.inl fo)))]) hD hS hA [0, 3, 18] rfl
    refine va_calli (vx_runSW (As := [.ref x0, .int 6, .ref ho]) (rest := []) ⟨hx, hb, hml, hown, hts⟩ (w_many_6 l D eT x0 aH aB aJ rN rX aV ho cO fo H.size ) (vx_cwSW 3 hts gL_law_L_many rfl rfl rfl (by decide +kernel) ⟨Nat.le_of_ble_eq_true rfl, Nat.le_of_ble_eq_true rfl⟩) (pc_s hPc hDc hKc hE hS hFc) rfl rfl hl.1 rfl (lv_room (Nat.le_of_ble_eq_true rfl)) dL_law_1538 ⟨Nat.le_of_ble_eq_true rfl, Nat.le_of_ble_eq_true rfl⟩) hS (fun q _ h => hFc q h) hFc (fun r u t H1 locs ht hvm hw hB hz1 hk1 hS => ?_)
    have hw : r = 0 := hw
    rw [hw]
    obtain ⟨hP1, hK1, hD1⟩ := hB
    rw [ht] at hP1
    have hK1 := va_K.moved hvm.symm hK1
    obtain ⟨hP, hD⟩ := va_join (wr := [(aJ, .inl (cJ, 5, .inr (.inr (.inr (.inr fJ))))), (j0, .inr (5, [.int 0, .int 0, .int 0, .int 0, .int 0, .ref c1, .ref c2, .int 0, .int 0, .int 0, .int 0, .ref c3, .int 0, .ref c4, .ref c5, .int 0])), (rX, .inr (6, [.int 7, .int 100, .int 800, .int 10])), (y0, .inr (8, [.int 0, .ref lH, .ref lB, .ref lJ, .ref aR, .ref aL, .int 0, .int 0, .int 0, .ref lC, .ref aM, .ref aP, .int 0, .int 0, .int 0, .int (-1), .int (-1), .int 0, .int 0, .long 0])), (lH, .inr (2, [.int 0, .ref eT, .int 0])), (lB, .inr (2, [.int 0, .ref eT, .int 0])), (lJ, .inr (2, [.int 0, .ref eT, .int 0])), (lC, .inr (2, [.int 0, .ref eT, .int 0])), (aR, .inl (cI, 4, .inl fR)), (aL, .inl (cL, 4, .inl fL)), (aM, .inl (cM, 5, .inr (.inr (.inr (.inr gM))))), (m0, .inl (cR, 16, .inl f0)), (m1, .inl (cR, 16, .inl f1)), (m2, .inl (cR, 16, .inl f2)), (m3, .inl (cR, 16, .inl f3)), (m4, .inl (cR, 16, .inl f4))]) (w1 := [(ho, .inl (cO, 1, .inr (.inl (vp_updL fo (Int32.toNatClampNeg 0) 0))))]) hP hD [0, 3, 18] [1, 2, 4, 5, 6, 7, 8, 9, 10, 11, 12, 13, 14, 15, 16, 17] rfl rfl (by decide) (by decide) hk1 hFc hP1 hD1
    generalize H1 = H at hP hS ⊢
    have hP : va_P D vwCl [(aJ, .inl (cJ, 5, .inr (.inr (.inr (.inr fJ))))), (j0, .inr (5, [.int 0, .int 0, .int 0, .int 0, .int 0, .ref c1, .ref c2, .int 0, .int 0, .int 0, .int 0, .ref c3, .int 0, .ref c4, .ref c5, .int 0])), (rX, .inr (6, [.int 7, .int 100, .int 800, .int 10])), (y0, .inr (8, [.int 0, .ref lH, .ref lB, .ref lJ, .ref aR, .ref aL, .int 0, .int 0, .int 0, .ref lC, .ref aM, .ref aP, .int 0, .int 0, .int 0, .int (-1), .int (-1), .int 0, .int 0, .long 0])), (lH, .inr (2, [.int 0, .ref eT, .int 0])), (lB, .inr (2, [.int 0, .ref eT, .int 0])), (lJ, .inr (2, [.int 0, .ref eT, .int 0])), (lC, .inr (2, [.int 0, .ref eT, .int 0])), (aR, .inl (cI, 4, .inl fR)), (aL, .inl (cL, 4, .inl fL)), (aM, .inl (cM, 5, .inr (.inr (.inr (.inr gM))))), (m0, .inl (cR, 16, .inl f0)), (m1, .inl (cR, 16, .inl f1)), (m2, .inl (cR, 16, .inl f2)), (m3, .inl (cR, 16, .inl f3)), (m4, .inl (cR, 16, .inl f4)), (ho, .inl (cO, 1, .inr (.inl (vp_updL fo (Int32.toNatClampNeg 0) 0))))] H := hP
    have hD : va_D (fun q : Nat => s.heap.size ≤ q) [(aJ, .inl (cJ, 5, .inr (.inr (.inr (.inr fJ))))), (j0, .inr (5, [.int 0, .int 0, .int 0, .int 0, .int 0, .ref c1, .ref c2, .int 0, .int 0, .int 0, .int 0, .ref c3, .int 0, .ref c4, .ref c5, .int 0])), (rX, .inr (6, [.int 7, .int 100, .int 800, .int 10])), (y0, .inr (8, [.int 0, .ref lH, .ref lB, .ref lJ, .ref aR, .ref aL, .int 0, .int 0, .int 0, .ref lC, .ref aM, .ref aP, .int 0, .int 0, .int 0, .int (-1), .int (-1), .int 0, .int 0, .long 0])), (lH, .inr (2, [.int 0, .ref eT, .int 0])), (lB, .inr (2, [.int 0, .ref eT, .int 0])), (lJ, .inr (2, [.int 0, .ref eT, .int 0])), (lC, .inr (2, [.int 0, .ref eT, .int 0])), (aR, .inl (cI, 4, .inl fR)), (aL, .inl (cL, 4, .inl fL)), (aM, .inl (cM, 5, .inr (.inr (.inr (.inr gM))))), (m0, .inl (cR, 16, .inl f0)), (m1, .inl (cR, 16, .inl f1)), (m2, .inl (cR, 16, .inl f2)), (m3, .inl (cR, 16, .inl f3)), (m4, .inl (cR, 16, .inl f4)), (ho, .inl (cO, 1, .inr (.inl (vp_updL fo (Int32.toNatClampNeg 0) 0))))] := hD
    refine lv_istore (lv' := [(5, .int 0), (0, .ref b), (1, .ref x0), (2, .ref y0), (3, .ref ho), (4, .int 0)]) hx hb dL_law_1541 hl (by decide) rfl (fun ls hl => ?_)
    refine lv_aload_n hx hb dL_law_1543 rfl (lv_at hl 3 rfl) ?_
    refine lv_aload_n hx hb dL_law_1544 rfl (lv_at hl 1 rfl) ?_
    refine lv_iload hx hb dL_law_1545 (lv_at hl 5 rfl) ?_
    refine lv_iconst (v := 1) hx hb dL_law_1547 (by decide) ?_
    refine lv_iadd hx hb dL_law_1548 ?_
    refine lv_topi (fun z_39 ez_39 => ?_)
    have ez_39 : z_39 = 1 := ez_39.trans (by decide +kernel)
    rw [ez_39]
    refine va_sld hx hb hX hbl hbA hS (show vp_in 1 7 from by unfold vp_in; decide +kernel) dL_law_1549 ?_
    refine lv_topi (fun z_40 ez_40 => ?_)
    have ez_40 : z_40 = 6 := ez_40.trans e1
    rw [ez_40]
    have hPc := hP.sub (ws' := [(y0, .inr (8, [.int 0, .ref lH, .ref lB, .ref lJ, .ref aR, .ref aL, .int 0, .int 0, .int 0, .ref lC, .ref aM, .ref aP, .int 0, .int 0, .int 0, .int (-1), .int (-1), .int 0, .int 0, .long 0])), (lB, .inr (2, [.int 0, .ref eT, .int 0])), (lH, .inr (2, [.int 0, .ref eT, .int 0])), (lJ, .inr (2, [.int 0, .ref eT, .int 0])), (aR, .inl (cI, 4, .inl fR))]) [3, 5, 4, 6, 8] rfl
    have hKc := hK.sub (tys' := [(cI, .int)]) [1] rfl
    have hDc := hD.sub (ws' := [(y0, .inr (8, [.int 0, .ref lH, .ref lB, .ref lJ, .ref aR, .ref aL, .int 0, .int 0, .int 0, .ref lC, .ref aM, .ref aP, .int 0, .int 0, .int 0, .int (-1), .int (-1), .int 0, .int 0, .long 0])), (lB, .inr (2, [.int 0, .ref eT, .int 0])), (lH, .inr (2, [.int 0, .ref eT, .int 0])), (lJ, .inr (2, [.int 0, .ref eT, .int 0])), (aR, .inl (cI, 4, .inl fR))]) [3, 5, 4, 6, 8] (by decide) rfl
    have hFc := va_free (wc := [(y0, .inr (8, [.int 0, .ref lH, .ref lB, .ref lJ, .ref aR, .ref aL, .int 0, .int 0, .int 0, .ref lC, .ref aM, .ref aP, .int 0, .int 0, .int 0, .int (-1), .int (-1), .int 0, .int 0, .long 0])), (lB, .inr (2, [.int 0, .ref eT, .int 0])), (lH, .inr (2, [.int 0, .ref eT, .int 0])), (lJ, .inr (2, [.int 0, .ref eT, .int 0])), (aR, .inl (cI, 4, .inl fR))]) hD hS hA [3, 5, 4, 6, 8] rfl
    refine va_calli (va_runV (As := [.int 6]) (rest := []) ⟨hx, hb, hml, hown, hts⟩ (r_many l D eT y0 lH lB lJ aR aL lC aM aP 0 cI fR 6 H.size hR (by decide) (by decide)) (cwV 1 hts gL_law_X5_many rfl rfl rfl (by decide +kernel) ⟨Nat.le_of_ble_eq_true rfl, Nat.le_of_ble_eq_true rfl⟩) (pc_v (ci := 8) (q0 := 0) rfl rfl hPc hDc hKc hE hS hFc) rfl rfl hl.1 rfl (lv_room (Nat.le_of_ble_eq_true rfl)) dL_law_1550 ⟨Nat.le_of_ble_eq_true rfl, Nat.le_of_ble_eq_true rfl⟩) hS (fun q _ h => hFc q h) hFc (fun r u t H1 locs ht hvm hw hB hz1 hk1 hS => ?_)
    have hw : r = 0 := hw.trans (by decide)
    rw [hw]
    obtain ⟨hP1, hK1, hD1⟩ := hB
    rw [ht] at hP1
    have hK1 := va_K.moved hvm.symm hK1
    obtain ⟨hP, hD⟩ := va_join (wr := [(aJ, .inl (cJ, 5, .inr (.inr (.inr (.inr fJ))))), (j0, .inr (5, [.int 0, .int 0, .int 0, .int 0, .int 0, .ref c1, .ref c2, .int 0, .int 0, .int 0, .int 0, .ref c3, .int 0, .ref c4, .ref c5, .int 0])), (rX, .inr (6, [.int 7, .int 100, .int 800, .int 10])), (lC, .inr (2, [.int 0, .ref eT, .int 0])), (aL, .inl (cL, 4, .inl fL)), (aM, .inl (cM, 5, .inr (.inr (.inr (.inr gM))))), (m0, .inl (cR, 16, .inl f0)), (m1, .inl (cR, 16, .inl f1)), (m2, .inl (cR, 16, .inl f2)), (m3, .inl (cR, 16, .inl f3)), (m4, .inl (cR, 16, .inl f4)), (ho, .inl (cO, 1, .inr (.inl (vp_updL fo (Int32.toNatClampNeg 0) 0))))]) (w1 := [(y0, .inr (8, [.int 0, .ref lH, .ref lB, .ref lJ, .ref aR, .ref aL, .int 0, .int 0, .int 0, .ref lC, .ref aM, .ref aP, .int 0, .int 0, .int 0, .int (-1), .int (-1), .int 0, .int 0, .long 0]))]) hP hD [3, 5, 4, 6, 8] [0, 1, 2, 7, 9, 10, 11, 12, 13, 14, 15, 16] rfl rfl (by decide) (by decide) hk1 hFc hP1 hD1
    generalize H1 = H at hP hS ⊢
    have hP : va_P D vwCl [(aJ, .inl (cJ, 5, .inr (.inr (.inr (.inr fJ))))), (j0, .inr (5, [.int 0, .int 0, .int 0, .int 0, .int 0, .ref c1, .ref c2, .int 0, .int 0, .int 0, .int 0, .ref c3, .int 0, .ref c4, .ref c5, .int 0])), (rX, .inr (6, [.int 7, .int 100, .int 800, .int 10])), (lC, .inr (2, [.int 0, .ref eT, .int 0])), (aL, .inl (cL, 4, .inl fL)), (aM, .inl (cM, 5, .inr (.inr (.inr (.inr gM))))), (m0, .inl (cR, 16, .inl f0)), (m1, .inl (cR, 16, .inl f1)), (m2, .inl (cR, 16, .inl f2)), (m3, .inl (cR, 16, .inl f3)), (m4, .inl (cR, 16, .inl f4)), (ho, .inl (cO, 1, .inr (.inl (vp_updL fo (Int32.toNatClampNeg 0) 0)))), (y0, .inr (8, [.int 0, .ref lH, .ref lB, .ref lJ, .ref aR, .ref aL, .int 0, .int 0, .int 0, .ref lC, .ref aM, .ref aP, .int 0, .int 0, .int 0, .int (-1), .int (-1), .int 0, .int 0, .long 0]))] H := hP
    have hD : va_D (fun q : Nat => s.heap.size ≤ q) [(aJ, .inl (cJ, 5, .inr (.inr (.inr (.inr fJ))))), (j0, .inr (5, [.int 0, .int 0, .int 0, .int 0, .int 0, .ref c1, .ref c2, .int 0, .int 0, .int 0, .int 0, .ref c3, .int 0, .ref c4, .ref c5, .int 0])), (rX, .inr (6, [.int 7, .int 100, .int 800, .int 10])), (lC, .inr (2, [.int 0, .ref eT, .int 0])), (aL, .inl (cL, 4, .inl fL)), (aM, .inl (cM, 5, .inr (.inr (.inr (.inr gM))))), (m0, .inl (cR, 16, .inl f0)), (m1, .inl (cR, 16, .inl f1)), (m2, .inl (cR, 16, .inl f2)), (m3, .inl (cR, 16, .inl f3)), (m4, .inl (cR, 16, .inl f4)), (ho, .inl (cO, 1, .inr (.inl (vp_updL fo (Int32.toNatClampNeg 0) 0)))), (y0, .inr (8, [.int 0, .ref lH, .ref lB, .ref lJ, .ref aR, .ref aL, .int 0, .int 0, .int 0, .ref lC, .ref aM, .ref aP, .int 0, .int 0, .int 0, .int (-1), .int (-1), .int 0, .int 0, .long 0]))] := hD
    refine W.widen (k := 83) (n := 922) (Nat.le_of_ble_eq_true rfl) (Nat.le_of_ble_eq_true rfl) ?_
    refine lv_istore (lv' := [(6, .int 0), (5, .int 0), (0, .ref b), (1, .ref x0), (2, .ref y0), (3, .ref ho), (4, .int 0)]) hx hb dL_law_1553 hl (by decide) rfl (fun ls hl => ?_)
    refine lv_aload_n hx hb dL_law_1555 rfl (lv_at hl 4 rfl) ?_
    have hPc := hP.sub (ws' := [(y0, .inr (8, [.int 0, .ref lH, .ref lB, .ref lJ, .ref aR, .ref aL, .int 0, .int 0, .int 0, .ref lC, .ref aM, .ref aP, .int 0, .int 0, .int 0, .int (-1), .int (-1), .int 0, .int 0, .long 0]))]) [12] rfl
    have hKc := hK.sub (tys' := []) [] rfl
    refine va_calli (va_runV (As := []) (rest := []) ⟨hx, hb, hml, hown, hts⟩ (r_thrown l D eT y0 lH lB lJ aR aL lC aM aP 0 0 0 H.size ) (cwV 0 hts gL_law_X5_thrown rfl rfl rfl (by decide +kernel) ⟨Nat.le_of_ble_eq_true rfl, Nat.le_of_ble_eq_true rfl⟩) (pr_v (ci := 8) (q0 := 0) rfl rfl hPc hKc hE hS hA) rfl rfl hl.1 rfl (lv_room (Nat.le_of_ble_eq_true rfl)) dL_law_1556 ⟨Nat.le_of_ble_eq_true rfl, Nat.le_of_ble_eq_true rfl⟩) hS (fun q h1 h2 => ro_A h1 h2) (fun q h => ro_F hS hA q h) (fun r u t H1 locs ht hvm hw hB hz1 hk1 hS => ?_)
    have hw : r = 0 := hw
    rw [hw]
    have hP := ro_P hP hk1
    generalize H1 = H at hP hS ⊢
    refine lv_iload hx hb dL_law_1559 (lv_at hl 1 rfl) ?_
    refine lv_icmp_eq (tgt := 1566) hx hb dL_law_1561 (by decide) (fun _ => ?_) (fun h => absurd (by decide) h)
    refine lv_iload hx hb dL_law_1566 (lv_at hl 1 rfl) ?_
    refine lv_if_ne (tgt := 1583) hx hb dL_law_1568 (by decide) (fun h => absurd (by decide) h) (fun _ => ?_)
    refine lv_aload_n hx hb dL_law_1571 rfl (lv_at hl 5 rfl) ?_
    refine lv_iconst (v := 0) hx hb dL_law_1572 (by decide) ?_
    refine va_lald hx hb hK hP 11 5 rfl rfl (by unfold vp_in; decide +kernel) dL_law_1573 ?_
    refine lv_topl (fun z_41 ez_41 => ?_)
    have ez_41 : z_41 = 0 := ez_41.trans pk_uLs
    rw [ez_41]
    refine lv_iload hx hb dL_law_1574 (lv_at hl 0 rfl) ?_
    refine lv_i2l (v := 0) hx hb dL_law_1576 (by decide) ?_
    refine W.lcmp hx hb dL_law_1577 ?_
    refine lv_topi (fun z_42 ez_42 => ?_)
    have ez_42 : z_42 = 0 := ez_42.trans (by decide +kernel)
    rw [ez_42]
    refine lv_if_eq (tgt := 1583) hx hb dL_law_1578 (by decide) (fun _ => ?_) (fun h => absurd (by decide) h)
    refine lv_goto (tgt := 1835) hx hb dL_law_1583 (by decide) ?_
    refine W.widen (k := 2000) (n := 20000) (Nat.le_of_ble_eq_true rfl) (Nat.le_of_ble_eq_true rfl) ?_
    exact kx _ _ _ hS (lv_sub hl [2, 3, 4, 5, 6] rfl)
  · skip
    refine lv_aload_n hx hb dL_law_1530 rfl (lv_at hl 1 rfl) ?_
    refine lv_aload_n hx hb dL_law_1531 rfl (lv_at hl 0 rfl) ?_
    refine lv_iload hx hb dL_law_1532 (lv_at hl 4 rfl) ?_
    refine lv_iconst (v := 1) hx hb dL_law_1534 (by decide) ?_
    refine lv_iadd hx hb dL_law_1535 ?_
    refine lv_topi (fun z_43 ez_43 => ?_)
    have ez_43 : z_43 = 1 := ez_43.trans (by decide +kernel)
    rw [ez_43]
    refine va_sld hx hb hX hbl hbA hS (show vp_in 1 7 from by unfold vp_in; decide +kernel) dL_law_1536 ?_
    refine lv_topi (fun z_44 ez_44 => ?_)
    have ez_44 : z_44 = 7 := ez_44.trans e1
    rw [ez_44]
    refine lv_aload_n hx hb dL_law_1537 rfl (lv_at hl 3 rfl) ?_
    have hPc := hP.sub (ws' := [(x0, .inr (7, [.ref aH, .ref aB, .ref aJ, .int 0, .int 0, .int 0, .ref rN, .ref rX, .int 0, .int 0, .int 0, .int 0, .int 0, .int 0, .int (-1), .int (-1), .int 0, .int 0, .ref aV])), (rN, .inr (6, [.int 7, .int 100, .int 800, .int 10])), (ho, .inl (cO, 1, .inr (.inl fo)))]) [0, 3, 18] rfl
    have hKc := hK.sub (tys' := [(cO, .long)]) [5] rfl
    have hDc := hD.sub (ws' := [(x0, .inr (7, [.ref aH, .ref aB, .ref aJ, .int 0, .int 0, .int 0, .ref rN, .ref rX, .int 0, .int 0, .int 0, .int 0, .int 0, .int 0, .int (-1), .int (-1), .int 0, .int 0, .ref aV])), (rN, .inr (6, [.int 7, .int 100, .int 800, .int 10])), (ho, .inl (cO, 1, .inr (.inl fo)))]) [0, 3, 18] (by decide) rfl
    have hFc := va_free (wc := [(x0, .inr (7, [.ref aH, .ref aB, .ref aJ, .int 0, .int 0, .int 0, .ref rN, .ref rX, .int 0, .int 0, .int 0, .int 0, .int 0, .int 0, .int (-1), .int (-1), .int 0, .int 0, .ref aV])), (rN, .inr (6, [.int 7, .int 100, .int 800, .int 10])), (ho, .inl (cO, 1, .inr (.inl fo)))]) hD hS hA [0, 3, 18] rfl
    refine va_calli (vx_runSW (As := [.ref x0, .int 7, .ref ho]) (rest := []) ⟨hx, hb, hml, hown, hts⟩ (w_many_7 l D eT x0 aH aB aJ rN rX aV ho cO fo H.size ) (vx_cwSW 3 hts gL_law_L_many rfl rfl rfl (by decide +kernel) ⟨Nat.le_of_ble_eq_true rfl, Nat.le_of_ble_eq_true rfl⟩) (pc_s hPc hDc hKc hE hS hFc) rfl rfl hl.1 rfl (lv_room (Nat.le_of_ble_eq_true rfl)) dL_law_1538 ⟨Nat.le_of_ble_eq_true rfl, Nat.le_of_ble_eq_true rfl⟩) hS (fun q _ h => hFc q h) hFc (fun r u t H1 locs ht hvm hw hB hz1 hk1 hS => ?_)
    have hw : r = 0 := hw
    rw [hw]
    obtain ⟨hP1, hK1, hD1⟩ := hB
    rw [ht] at hP1
    have hK1 := va_K.moved hvm.symm hK1
    obtain ⟨hP, hD⟩ := va_join (wr := [(aJ, .inl (cJ, 5, .inr (.inr (.inr (.inr fJ))))), (j0, .inr (5, [.int 0, .int 0, .int 0, .int 0, .int 0, .ref c1, .ref c2, .int 0, .int 0, .int 0, .int 0, .ref c3, .int 0, .ref c4, .ref c5, .int 0])), (rX, .inr (6, [.int 7, .int 100, .int 800, .int 10])), (y0, .inr (8, [.int 0, .ref lH, .ref lB, .ref lJ, .ref aR, .ref aL, .int 0, .int 0, .int 0, .ref lC, .ref aM, .ref aP, .int 0, .int 0, .int 0, .int (-1), .int (-1), .int 0, .int 0, .long 0])), (lH, .inr (2, [.int 0, .ref eT, .int 0])), (lB, .inr (2, [.int 0, .ref eT, .int 0])), (lJ, .inr (2, [.int 0, .ref eT, .int 0])), (lC, .inr (2, [.int 0, .ref eT, .int 0])), (aR, .inl (cI, 4, .inl fR)), (aL, .inl (cL, 4, .inl fL)), (aM, .inl (cM, 5, .inr (.inr (.inr (.inr gM))))), (m0, .inl (cR, 16, .inl f0)), (m1, .inl (cR, 16, .inl f1)), (m2, .inl (cR, 16, .inl f2)), (m3, .inl (cR, 16, .inl f3)), (m4, .inl (cR, 16, .inl f4))]) (w1 := [(ho, .inl (cO, 1, .inr (.inl (vp_updL fo (Int32.toNatClampNeg 0) 0))))]) hP hD [0, 3, 18] [1, 2, 4, 5, 6, 7, 8, 9, 10, 11, 12, 13, 14, 15, 16, 17] rfl rfl (by decide) (by decide) hk1 hFc hP1 hD1
    generalize H1 = H at hP hS ⊢
    have hP : va_P D vwCl [(aJ, .inl (cJ, 5, .inr (.inr (.inr (.inr fJ))))), (j0, .inr (5, [.int 0, .int 0, .int 0, .int 0, .int 0, .ref c1, .ref c2, .int 0, .int 0, .int 0, .int 0, .ref c3, .int 0, .ref c4, .ref c5, .int 0])), (rX, .inr (6, [.int 7, .int 100, .int 800, .int 10])), (y0, .inr (8, [.int 0, .ref lH, .ref lB, .ref lJ, .ref aR, .ref aL, .int 0, .int 0, .int 0, .ref lC, .ref aM, .ref aP, .int 0, .int 0, .int 0, .int (-1), .int (-1), .int 0, .int 0, .long 0])), (lH, .inr (2, [.int 0, .ref eT, .int 0])), (lB, .inr (2, [.int 0, .ref eT, .int 0])), (lJ, .inr (2, [.int 0, .ref eT, .int 0])), (lC, .inr (2, [.int 0, .ref eT, .int 0])), (aR, .inl (cI, 4, .inl fR)), (aL, .inl (cL, 4, .inl fL)), (aM, .inl (cM, 5, .inr (.inr (.inr (.inr gM))))), (m0, .inl (cR, 16, .inl f0)), (m1, .inl (cR, 16, .inl f1)), (m2, .inl (cR, 16, .inl f2)), (m3, .inl (cR, 16, .inl f3)), (m4, .inl (cR, 16, .inl f4)), (ho, .inl (cO, 1, .inr (.inl (vp_updL fo (Int32.toNatClampNeg 0) 0))))] H := hP
    have hD : va_D (fun q : Nat => s.heap.size ≤ q) [(aJ, .inl (cJ, 5, .inr (.inr (.inr (.inr fJ))))), (j0, .inr (5, [.int 0, .int 0, .int 0, .int 0, .int 0, .ref c1, .ref c2, .int 0, .int 0, .int 0, .int 0, .ref c3, .int 0, .ref c4, .ref c5, .int 0])), (rX, .inr (6, [.int 7, .int 100, .int 800, .int 10])), (y0, .inr (8, [.int 0, .ref lH, .ref lB, .ref lJ, .ref aR, .ref aL, .int 0, .int 0, .int 0, .ref lC, .ref aM, .ref aP, .int 0, .int 0, .int 0, .int (-1), .int (-1), .int 0, .int 0, .long 0])), (lH, .inr (2, [.int 0, .ref eT, .int 0])), (lB, .inr (2, [.int 0, .ref eT, .int 0])), (lJ, .inr (2, [.int 0, .ref eT, .int 0])), (lC, .inr (2, [.int 0, .ref eT, .int 0])), (aR, .inl (cI, 4, .inl fR)), (aL, .inl (cL, 4, .inl fL)), (aM, .inl (cM, 5, .inr (.inr (.inr (.inr gM))))), (m0, .inl (cR, 16, .inl f0)), (m1, .inl (cR, 16, .inl f1)), (m2, .inl (cR, 16, .inl f2)), (m3, .inl (cR, 16, .inl f3)), (m4, .inl (cR, 16, .inl f4)), (ho, .inl (cO, 1, .inr (.inl (vp_updL fo (Int32.toNatClampNeg 0) 0))))] := hD
    refine lv_istore (lv' := [(5, .int 0), (0, .ref b), (1, .ref x0), (2, .ref y0), (3, .ref ho), (4, .int 0)]) hx hb dL_law_1541 hl (by decide) rfl (fun ls hl => ?_)
    refine lv_aload_n hx hb dL_law_1543 rfl (lv_at hl 3 rfl) ?_
    refine lv_aload_n hx hb dL_law_1544 rfl (lv_at hl 1 rfl) ?_
    refine lv_iload hx hb dL_law_1545 (lv_at hl 5 rfl) ?_
    refine lv_iconst (v := 1) hx hb dL_law_1547 (by decide) ?_
    refine lv_iadd hx hb dL_law_1548 ?_
    refine lv_topi (fun z_45 ez_45 => ?_)
    have ez_45 : z_45 = 1 := ez_45.trans (by decide +kernel)
    rw [ez_45]
    refine va_sld hx hb hX hbl hbA hS (show vp_in 1 7 from by unfold vp_in; decide +kernel) dL_law_1549 ?_
    refine lv_topi (fun z_46 ez_46 => ?_)
    have ez_46 : z_46 = 7 := ez_46.trans e1
    rw [ez_46]
    have hPc := hP.sub (ws' := [(y0, .inr (8, [.int 0, .ref lH, .ref lB, .ref lJ, .ref aR, .ref aL, .int 0, .int 0, .int 0, .ref lC, .ref aM, .ref aP, .int 0, .int 0, .int 0, .int (-1), .int (-1), .int 0, .int 0, .long 0])), (lB, .inr (2, [.int 0, .ref eT, .int 0])), (lH, .inr (2, [.int 0, .ref eT, .int 0])), (lJ, .inr (2, [.int 0, .ref eT, .int 0])), (aR, .inl (cI, 4, .inl fR))]) [3, 5, 4, 6, 8] rfl
    have hKc := hK.sub (tys' := [(cI, .int)]) [1] rfl
    have hDc := hD.sub (ws' := [(y0, .inr (8, [.int 0, .ref lH, .ref lB, .ref lJ, .ref aR, .ref aL, .int 0, .int 0, .int 0, .ref lC, .ref aM, .ref aP, .int 0, .int 0, .int 0, .int (-1), .int (-1), .int 0, .int 0, .long 0])), (lB, .inr (2, [.int 0, .ref eT, .int 0])), (lH, .inr (2, [.int 0, .ref eT, .int 0])), (lJ, .inr (2, [.int 0, .ref eT, .int 0])), (aR, .inl (cI, 4, .inl fR))]) [3, 5, 4, 6, 8] (by decide) rfl
    have hFc := va_free (wc := [(y0, .inr (8, [.int 0, .ref lH, .ref lB, .ref lJ, .ref aR, .ref aL, .int 0, .int 0, .int 0, .ref lC, .ref aM, .ref aP, .int 0, .int 0, .int 0, .int (-1), .int (-1), .int 0, .int 0, .long 0])), (lB, .inr (2, [.int 0, .ref eT, .int 0])), (lH, .inr (2, [.int 0, .ref eT, .int 0])), (lJ, .inr (2, [.int 0, .ref eT, .int 0])), (aR, .inl (cI, 4, .inl fR))]) hD hS hA [3, 5, 4, 6, 8] rfl
    refine va_calli (va_runV (As := [.int 7]) (rest := []) ⟨hx, hb, hml, hown, hts⟩ (r_many l D eT y0 lH lB lJ aR aL lC aM aP 0 cI fR 7 H.size hR (by decide) (by decide)) (cwV 1 hts gL_law_X5_many rfl rfl rfl (by decide +kernel) ⟨Nat.le_of_ble_eq_true rfl, Nat.le_of_ble_eq_true rfl⟩) (pc_v (ci := 8) (q0 := 0) rfl rfl hPc hDc hKc hE hS hFc) rfl rfl hl.1 rfl (lv_room (Nat.le_of_ble_eq_true rfl)) dL_law_1550 ⟨Nat.le_of_ble_eq_true rfl, Nat.le_of_ble_eq_true rfl⟩) hS (fun q _ h => hFc q h) hFc (fun r u t H1 locs ht hvm hw hB hz1 hk1 hS => ?_)
    have hw : r = 0 := hw.trans (by decide)
    rw [hw]
    obtain ⟨hP1, hK1, hD1⟩ := hB
    rw [ht] at hP1
    have hK1 := va_K.moved hvm.symm hK1
    obtain ⟨hP, hD⟩ := va_join (wr := [(aJ, .inl (cJ, 5, .inr (.inr (.inr (.inr fJ))))), (j0, .inr (5, [.int 0, .int 0, .int 0, .int 0, .int 0, .ref c1, .ref c2, .int 0, .int 0, .int 0, .int 0, .ref c3, .int 0, .ref c4, .ref c5, .int 0])), (rX, .inr (6, [.int 7, .int 100, .int 800, .int 10])), (lC, .inr (2, [.int 0, .ref eT, .int 0])), (aL, .inl (cL, 4, .inl fL)), (aM, .inl (cM, 5, .inr (.inr (.inr (.inr gM))))), (m0, .inl (cR, 16, .inl f0)), (m1, .inl (cR, 16, .inl f1)), (m2, .inl (cR, 16, .inl f2)), (m3, .inl (cR, 16, .inl f3)), (m4, .inl (cR, 16, .inl f4)), (ho, .inl (cO, 1, .inr (.inl (vp_updL fo (Int32.toNatClampNeg 0) 0))))]) (w1 := [(y0, .inr (8, [.int 0, .ref lH, .ref lB, .ref lJ, .ref aR, .ref aL, .int 0, .int 0, .int 0, .ref lC, .ref aM, .ref aP, .int 0, .int 0, .int 0, .int (-1), .int (-1), .int 0, .int 0, .long 0]))]) hP hD [3, 5, 4, 6, 8] [0, 1, 2, 7, 9, 10, 11, 12, 13, 14, 15, 16] rfl rfl (by decide) (by decide) hk1 hFc hP1 hD1
    generalize H1 = H at hP hS ⊢
    have hP : va_P D vwCl [(aJ, .inl (cJ, 5, .inr (.inr (.inr (.inr fJ))))), (j0, .inr (5, [.int 0, .int 0, .int 0, .int 0, .int 0, .ref c1, .ref c2, .int 0, .int 0, .int 0, .int 0, .ref c3, .int 0, .ref c4, .ref c5, .int 0])), (rX, .inr (6, [.int 7, .int 100, .int 800, .int 10])), (lC, .inr (2, [.int 0, .ref eT, .int 0])), (aL, .inl (cL, 4, .inl fL)), (aM, .inl (cM, 5, .inr (.inr (.inr (.inr gM))))), (m0, .inl (cR, 16, .inl f0)), (m1, .inl (cR, 16, .inl f1)), (m2, .inl (cR, 16, .inl f2)), (m3, .inl (cR, 16, .inl f3)), (m4, .inl (cR, 16, .inl f4)), (ho, .inl (cO, 1, .inr (.inl (vp_updL fo (Int32.toNatClampNeg 0) 0)))), (y0, .inr (8, [.int 0, .ref lH, .ref lB, .ref lJ, .ref aR, .ref aL, .int 0, .int 0, .int 0, .ref lC, .ref aM, .ref aP, .int 0, .int 0, .int 0, .int (-1), .int (-1), .int 0, .int 0, .long 0]))] H := hP
    have hD : va_D (fun q : Nat => s.heap.size ≤ q) [(aJ, .inl (cJ, 5, .inr (.inr (.inr (.inr fJ))))), (j0, .inr (5, [.int 0, .int 0, .int 0, .int 0, .int 0, .ref c1, .ref c2, .int 0, .int 0, .int 0, .int 0, .ref c3, .int 0, .ref c4, .ref c5, .int 0])), (rX, .inr (6, [.int 7, .int 100, .int 800, .int 10])), (lC, .inr (2, [.int 0, .ref eT, .int 0])), (aL, .inl (cL, 4, .inl fL)), (aM, .inl (cM, 5, .inr (.inr (.inr (.inr gM))))), (m0, .inl (cR, 16, .inl f0)), (m1, .inl (cR, 16, .inl f1)), (m2, .inl (cR, 16, .inl f2)), (m3, .inl (cR, 16, .inl f3)), (m4, .inl (cR, 16, .inl f4)), (ho, .inl (cO, 1, .inr (.inl (vp_updL fo (Int32.toNatClampNeg 0) 0)))), (y0, .inr (8, [.int 0, .ref lH, .ref lB, .ref lJ, .ref aR, .ref aL, .int 0, .int 0, .int 0, .ref lC, .ref aM, .ref aP, .int 0, .int 0, .int 0, .int (-1), .int (-1), .int 0, .int 0, .long 0]))] := hD
    refine W.widen (k := 83) (n := 922) (Nat.le_of_ble_eq_true rfl) (Nat.le_of_ble_eq_true rfl) ?_
    refine lv_istore (lv' := [(6, .int 0), (5, .int 0), (0, .ref b), (1, .ref x0), (2, .ref y0), (3, .ref ho), (4, .int 0)]) hx hb dL_law_1553 hl (by decide) rfl (fun ls hl => ?_)
    refine lv_aload_n hx hb dL_law_1555 rfl (lv_at hl 4 rfl) ?_
    have hPc := hP.sub (ws' := [(y0, .inr (8, [.int 0, .ref lH, .ref lB, .ref lJ, .ref aR, .ref aL, .int 0, .int 0, .int 0, .ref lC, .ref aM, .ref aP, .int 0, .int 0, .int 0, .int (-1), .int (-1), .int 0, .int 0, .long 0]))]) [12] rfl
    have hKc := hK.sub (tys' := []) [] rfl
    refine va_calli (va_runV (As := []) (rest := []) ⟨hx, hb, hml, hown, hts⟩ (r_thrown l D eT y0 lH lB lJ aR aL lC aM aP 0 0 0 H.size ) (cwV 0 hts gL_law_X5_thrown rfl rfl rfl (by decide +kernel) ⟨Nat.le_of_ble_eq_true rfl, Nat.le_of_ble_eq_true rfl⟩) (pr_v (ci := 8) (q0 := 0) rfl rfl hPc hKc hE hS hA) rfl rfl hl.1 rfl (lv_room (Nat.le_of_ble_eq_true rfl)) dL_law_1556 ⟨Nat.le_of_ble_eq_true rfl, Nat.le_of_ble_eq_true rfl⟩) hS (fun q h1 h2 => ro_A h1 h2) (fun q h => ro_F hS hA q h) (fun r u t H1 locs ht hvm hw hB hz1 hk1 hS => ?_)
    have hw : r = 0 := hw
    rw [hw]
    have hP := ro_P hP hk1
    generalize H1 = H at hP hS ⊢
    refine lv_iload hx hb dL_law_1559 (lv_at hl 1 rfl) ?_
    refine lv_icmp_eq (tgt := 1566) hx hb dL_law_1561 (by decide) (fun _ => ?_) (fun h => absurd (by decide) h)
    refine lv_iload hx hb dL_law_1566 (lv_at hl 1 rfl) ?_
    refine lv_if_ne (tgt := 1583) hx hb dL_law_1568 (by decide) (fun h => absurd (by decide) h) (fun _ => ?_)
    refine lv_aload_n hx hb dL_law_1571 rfl (lv_at hl 5 rfl) ?_
    refine lv_iconst (v := 0) hx hb dL_law_1572 (by decide) ?_
    refine va_lald hx hb hK hP 11 5 rfl rfl (by unfold vp_in; decide +kernel) dL_law_1573 ?_
    refine lv_topl (fun z_47 ez_47 => ?_)
    have ez_47 : z_47 = 0 := ez_47.trans pk_uLs
    rw [ez_47]
    refine lv_iload hx hb dL_law_1574 (lv_at hl 0 rfl) ?_
    refine lv_i2l (v := 0) hx hb dL_law_1576 (by decide) ?_
    refine W.lcmp hx hb dL_law_1577 ?_
    refine lv_topi (fun z_48 ez_48 => ?_)
    have ez_48 : z_48 = 0 := ez_48.trans (by decide +kernel)
    rw [ez_48]
    refine lv_if_eq (tgt := 1583) hx hb dL_law_1578 (by decide) (fun _ => ?_) (fun h => absurd (by decide) h)
    refine lv_goto (tgt := 1835) hx hb dL_law_1583 (by decide) ?_
    refine W.widen (k := 2000) (n := 20000) (Nat.le_of_ble_eq_true rfl) (Nat.le_of_ble_eq_true rfl) ?_
    exact kx _ _ _ hS (lv_sub hl [2, 3, 4, 5, 6] rfl)
  · skip
    refine lv_aload_n hx hb dL_law_1530 rfl (lv_at hl 1 rfl) ?_
    refine lv_aload_n hx hb dL_law_1531 rfl (lv_at hl 0 rfl) ?_
    refine lv_iload hx hb dL_law_1532 (lv_at hl 4 rfl) ?_
    refine lv_iconst (v := 1) hx hb dL_law_1534 (by decide) ?_
    refine lv_iadd hx hb dL_law_1535 ?_
    refine lv_topi (fun z_49 ez_49 => ?_)
    have ez_49 : z_49 = 1 := ez_49.trans (by decide +kernel)
    rw [ez_49]
    refine va_sld hx hb hX hbl hbA hS (show vp_in 1 7 from by unfold vp_in; decide +kernel) dL_law_1536 ?_
    refine lv_topi (fun z_50 ez_50 => ?_)
    have ez_50 : z_50 = 8 := ez_50.trans e1
    rw [ez_50]
    refine lv_aload_n hx hb dL_law_1537 rfl (lv_at hl 3 rfl) ?_
    have hPc := hP.sub (ws' := [(x0, .inr (7, [.ref aH, .ref aB, .ref aJ, .int 0, .int 0, .int 0, .ref rN, .ref rX, .int 0, .int 0, .int 0, .int 0, .int 0, .int 0, .int (-1), .int (-1), .int 0, .int 0, .ref aV])), (rN, .inr (6, [.int 7, .int 100, .int 800, .int 10])), (ho, .inl (cO, 1, .inr (.inl fo)))]) [0, 3, 18] rfl
    have hKc := hK.sub (tys' := [(cO, .long)]) [5] rfl
    have hDc := hD.sub (ws' := [(x0, .inr (7, [.ref aH, .ref aB, .ref aJ, .int 0, .int 0, .int 0, .ref rN, .ref rX, .int 0, .int 0, .int 0, .int 0, .int 0, .int 0, .int (-1), .int (-1), .int 0, .int 0, .ref aV])), (rN, .inr (6, [.int 7, .int 100, .int 800, .int 10])), (ho, .inl (cO, 1, .inr (.inl fo)))]) [0, 3, 18] (by decide) rfl
    have hFc := va_free (wc := [(x0, .inr (7, [.ref aH, .ref aB, .ref aJ, .int 0, .int 0, .int 0, .ref rN, .ref rX, .int 0, .int 0, .int 0, .int 0, .int 0, .int 0, .int (-1), .int (-1), .int 0, .int 0, .ref aV])), (rN, .inr (6, [.int 7, .int 100, .int 800, .int 10])), (ho, .inl (cO, 1, .inr (.inl fo)))]) hD hS hA [0, 3, 18] rfl
    refine va_calli (vx_runSW (As := [.ref x0, .int 8, .ref ho]) (rest := []) ⟨hx, hb, hml, hown, hts⟩ (w_many_8 l D eT x0 aH aB aJ rN rX aV ho cO fo H.size ) (vx_cwSW 3 hts gL_law_L_many rfl rfl rfl (by decide +kernel) ⟨Nat.le_of_ble_eq_true rfl, Nat.le_of_ble_eq_true rfl⟩) (pc_s hPc hDc hKc hE hS hFc) rfl rfl hl.1 rfl (lv_room (Nat.le_of_ble_eq_true rfl)) dL_law_1538 ⟨Nat.le_of_ble_eq_true rfl, Nat.le_of_ble_eq_true rfl⟩) hS (fun q _ h => hFc q h) hFc (fun r u t H1 locs ht hvm hw hB hz1 hk1 hS => ?_)
    have hw : r = 0 := hw
    rw [hw]
    obtain ⟨hP1, hK1, hD1⟩ := hB
    rw [ht] at hP1
    have hK1 := va_K.moved hvm.symm hK1
    obtain ⟨hP, hD⟩ := va_join (wr := [(aJ, .inl (cJ, 5, .inr (.inr (.inr (.inr fJ))))), (j0, .inr (5, [.int 0, .int 0, .int 0, .int 0, .int 0, .ref c1, .ref c2, .int 0, .int 0, .int 0, .int 0, .ref c3, .int 0, .ref c4, .ref c5, .int 0])), (rX, .inr (6, [.int 7, .int 100, .int 800, .int 10])), (y0, .inr (8, [.int 0, .ref lH, .ref lB, .ref lJ, .ref aR, .ref aL, .int 0, .int 0, .int 0, .ref lC, .ref aM, .ref aP, .int 0, .int 0, .int 0, .int (-1), .int (-1), .int 0, .int 0, .long 0])), (lH, .inr (2, [.int 0, .ref eT, .int 0])), (lB, .inr (2, [.int 0, .ref eT, .int 0])), (lJ, .inr (2, [.int 0, .ref eT, .int 0])), (lC, .inr (2, [.int 0, .ref eT, .int 0])), (aR, .inl (cI, 4, .inl fR)), (aL, .inl (cL, 4, .inl fL)), (aM, .inl (cM, 5, .inr (.inr (.inr (.inr gM))))), (m0, .inl (cR, 16, .inl f0)), (m1, .inl (cR, 16, .inl f1)), (m2, .inl (cR, 16, .inl f2)), (m3, .inl (cR, 16, .inl f3)), (m4, .inl (cR, 16, .inl f4))]) (w1 := [(ho, .inl (cO, 1, .inr (.inl (vp_updL fo (Int32.toNatClampNeg 0) 0))))]) hP hD [0, 3, 18] [1, 2, 4, 5, 6, 7, 8, 9, 10, 11, 12, 13, 14, 15, 16, 17] rfl rfl (by decide) (by decide) hk1 hFc hP1 hD1
    generalize H1 = H at hP hS ⊢
    have hP : va_P D vwCl [(aJ, .inl (cJ, 5, .inr (.inr (.inr (.inr fJ))))), (j0, .inr (5, [.int 0, .int 0, .int 0, .int 0, .int 0, .ref c1, .ref c2, .int 0, .int 0, .int 0, .int 0, .ref c3, .int 0, .ref c4, .ref c5, .int 0])), (rX, .inr (6, [.int 7, .int 100, .int 800, .int 10])), (y0, .inr (8, [.int 0, .ref lH, .ref lB, .ref lJ, .ref aR, .ref aL, .int 0, .int 0, .int 0, .ref lC, .ref aM, .ref aP, .int 0, .int 0, .int 0, .int (-1), .int (-1), .int 0, .int 0, .long 0])), (lH, .inr (2, [.int 0, .ref eT, .int 0])), (lB, .inr (2, [.int 0, .ref eT, .int 0])), (lJ, .inr (2, [.int 0, .ref eT, .int 0])), (lC, .inr (2, [.int 0, .ref eT, .int 0])), (aR, .inl (cI, 4, .inl fR)), (aL, .inl (cL, 4, .inl fL)), (aM, .inl (cM, 5, .inr (.inr (.inr (.inr gM))))), (m0, .inl (cR, 16, .inl f0)), (m1, .inl (cR, 16, .inl f1)), (m2, .inl (cR, 16, .inl f2)), (m3, .inl (cR, 16, .inl f3)), (m4, .inl (cR, 16, .inl f4)), (ho, .inl (cO, 1, .inr (.inl (vp_updL fo (Int32.toNatClampNeg 0) 0))))] H := hP
    have hD : va_D (fun q : Nat => s.heap.size ≤ q) [(aJ, .inl (cJ, 5, .inr (.inr (.inr (.inr fJ))))), (j0, .inr (5, [.int 0, .int 0, .int 0, .int 0, .int 0, .ref c1, .ref c2, .int 0, .int 0, .int 0, .int 0, .ref c3, .int 0, .ref c4, .ref c5, .int 0])), (rX, .inr (6, [.int 7, .int 100, .int 800, .int 10])), (y0, .inr (8, [.int 0, .ref lH, .ref lB, .ref lJ, .ref aR, .ref aL, .int 0, .int 0, .int 0, .ref lC, .ref aM, .ref aP, .int 0, .int 0, .int 0, .int (-1), .int (-1), .int 0, .int 0, .long 0])), (lH, .inr (2, [.int 0, .ref eT, .int 0])), (lB, .inr (2, [.int 0, .ref eT, .int 0])), (lJ, .inr (2, [.int 0, .ref eT, .int 0])), (lC, .inr (2, [.int 0, .ref eT, .int 0])), (aR, .inl (cI, 4, .inl fR)), (aL, .inl (cL, 4, .inl fL)), (aM, .inl (cM, 5, .inr (.inr (.inr (.inr gM))))), (m0, .inl (cR, 16, .inl f0)), (m1, .inl (cR, 16, .inl f1)), (m2, .inl (cR, 16, .inl f2)), (m3, .inl (cR, 16, .inl f3)), (m4, .inl (cR, 16, .inl f4)), (ho, .inl (cO, 1, .inr (.inl (vp_updL fo (Int32.toNatClampNeg 0) 0))))] := hD
    refine lv_istore (lv' := [(5, .int 0), (0, .ref b), (1, .ref x0), (2, .ref y0), (3, .ref ho), (4, .int 0)]) hx hb dL_law_1541 hl (by decide) rfl (fun ls hl => ?_)
    refine lv_aload_n hx hb dL_law_1543 rfl (lv_at hl 3 rfl) ?_
    refine lv_aload_n hx hb dL_law_1544 rfl (lv_at hl 1 rfl) ?_
    refine lv_iload hx hb dL_law_1545 (lv_at hl 5 rfl) ?_
    refine lv_iconst (v := 1) hx hb dL_law_1547 (by decide) ?_
    refine lv_iadd hx hb dL_law_1548 ?_
    refine lv_topi (fun z_51 ez_51 => ?_)
    have ez_51 : z_51 = 1 := ez_51.trans (by decide +kernel)
    rw [ez_51]
    refine va_sld hx hb hX hbl hbA hS (show vp_in 1 7 from by unfold vp_in; decide +kernel) dL_law_1549 ?_
    refine lv_topi (fun z_52 ez_52 => ?_)
    have ez_52 : z_52 = 8 := ez_52.trans e1
    rw [ez_52]
    have hPc := hP.sub (ws' := [(y0, .inr (8, [.int 0, .ref lH, .ref lB, .ref lJ, .ref aR, .ref aL, .int 0, .int 0, .int 0, .ref lC, .ref aM, .ref aP, .int 0, .int 0, .int 0, .int (-1), .int (-1), .int 0, .int 0, .long 0])), (lB, .inr (2, [.int 0, .ref eT, .int 0])), (lH, .inr (2, [.int 0, .ref eT, .int 0])), (lJ, .inr (2, [.int 0, .ref eT, .int 0])), (aR, .inl (cI, 4, .inl fR))]) [3, 5, 4, 6, 8] rfl
    have hKc := hK.sub (tys' := [(cI, .int)]) [1] rfl
    have hDc := hD.sub (ws' := [(y0, .inr (8, [.int 0, .ref lH, .ref lB, .ref lJ, .ref aR, .ref aL, .int 0, .int 0, .int 0, .ref lC, .ref aM, .ref aP, .int 0, .int 0, .int 0, .int (-1), .int (-1), .int 0, .int 0, .long 0])), (lB, .inr (2, [.int 0, .ref eT, .int 0])), (lH, .inr (2, [.int 0, .ref eT, .int 0])), (lJ, .inr (2, [.int 0, .ref eT, .int 0])), (aR, .inl (cI, 4, .inl fR))]) [3, 5, 4, 6, 8] (by decide) rfl
    have hFc := va_free (wc := [(y0, .inr (8, [.int 0, .ref lH, .ref lB, .ref lJ, .ref aR, .ref aL, .int 0, .int 0, .int 0, .ref lC, .ref aM, .ref aP, .int 0, .int 0, .int 0, .int (-1), .int (-1), .int 0, .int 0, .long 0])), (lB, .inr (2, [.int 0, .ref eT, .int 0])), (lH, .inr (2, [.int 0, .ref eT, .int 0])), (lJ, .inr (2, [.int 0, .ref eT, .int 0])), (aR, .inl (cI, 4, .inl fR))]) hD hS hA [3, 5, 4, 6, 8] rfl
    refine va_calli (va_runV (As := [.int 8]) (rest := []) ⟨hx, hb, hml, hown, hts⟩ (r_many l D eT y0 lH lB lJ aR aL lC aM aP 0 cI fR 8 H.size hR (by decide) (by decide)) (cwV 1 hts gL_law_X5_many rfl rfl rfl (by decide +kernel) ⟨Nat.le_of_ble_eq_true rfl, Nat.le_of_ble_eq_true rfl⟩) (pc_v (ci := 8) (q0 := 0) rfl rfl hPc hDc hKc hE hS hFc) rfl rfl hl.1 rfl (lv_room (Nat.le_of_ble_eq_true rfl)) dL_law_1550 ⟨Nat.le_of_ble_eq_true rfl, Nat.le_of_ble_eq_true rfl⟩) hS (fun q _ h => hFc q h) hFc (fun r u t H1 locs ht hvm hw hB hz1 hk1 hS => ?_)
    have hw : r = 0 := hw.trans (by decide)
    rw [hw]
    obtain ⟨hP1, hK1, hD1⟩ := hB
    rw [ht] at hP1
    have hK1 := va_K.moved hvm.symm hK1
    obtain ⟨hP, hD⟩ := va_join (wr := [(aJ, .inl (cJ, 5, .inr (.inr (.inr (.inr fJ))))), (j0, .inr (5, [.int 0, .int 0, .int 0, .int 0, .int 0, .ref c1, .ref c2, .int 0, .int 0, .int 0, .int 0, .ref c3, .int 0, .ref c4, .ref c5, .int 0])), (rX, .inr (6, [.int 7, .int 100, .int 800, .int 10])), (lC, .inr (2, [.int 0, .ref eT, .int 0])), (aL, .inl (cL, 4, .inl fL)), (aM, .inl (cM, 5, .inr (.inr (.inr (.inr gM))))), (m0, .inl (cR, 16, .inl f0)), (m1, .inl (cR, 16, .inl f1)), (m2, .inl (cR, 16, .inl f2)), (m3, .inl (cR, 16, .inl f3)), (m4, .inl (cR, 16, .inl f4)), (ho, .inl (cO, 1, .inr (.inl (vp_updL fo (Int32.toNatClampNeg 0) 0))))]) (w1 := [(y0, .inr (8, [.int 0, .ref lH, .ref lB, .ref lJ, .ref aR, .ref aL, .int 0, .int 0, .int 0, .ref lC, .ref aM, .ref aP, .int 0, .int 0, .int 0, .int (-1), .int (-1), .int 0, .int 0, .long 0]))]) hP hD [3, 5, 4, 6, 8] [0, 1, 2, 7, 9, 10, 11, 12, 13, 14, 15, 16] rfl rfl (by decide) (by decide) hk1 hFc hP1 hD1
    generalize H1 = H at hP hS ⊢
    have hP : va_P D vwCl [(aJ, .inl (cJ, 5, .inr (.inr (.inr (.inr fJ))))), (j0, .inr (5, [.int 0, .int 0, .int 0, .int 0, .int 0, .ref c1, .ref c2, .int 0, .int 0, .int 0, .int 0, .ref c3, .int 0, .ref c4, .ref c5, .int 0])), (rX, .inr (6, [.int 7, .int 100, .int 800, .int 10])), (lC, .inr (2, [.int 0, .ref eT, .int 0])), (aL, .inl (cL, 4, .inl fL)), (aM, .inl (cM, 5, .inr (.inr (.inr (.inr gM))))), (m0, .inl (cR, 16, .inl f0)), (m1, .inl (cR, 16, .inl f1)), (m2, .inl (cR, 16, .inl f2)), (m3, .inl (cR, 16, .inl f3)), (m4, .inl (cR, 16, .inl f4)), (ho, .inl (cO, 1, .inr (.inl (vp_updL fo (Int32.toNatClampNeg 0) 0)))), (y0, .inr (8, [.int 0, .ref lH, .ref lB, .ref lJ, .ref aR, .ref aL, .int 0, .int 0, .int 0, .ref lC, .ref aM, .ref aP, .int 0, .int 0, .int 0, .int (-1), .int (-1), .int 0, .int 0, .long 0]))] H := hP
    have hD : va_D (fun q : Nat => s.heap.size ≤ q) [(aJ, .inl (cJ, 5, .inr (.inr (.inr (.inr fJ))))), (j0, .inr (5, [.int 0, .int 0, .int 0, .int 0, .int 0, .ref c1, .ref c2, .int 0, .int 0, .int 0, .int 0, .ref c3, .int 0, .ref c4, .ref c5, .int 0])), (rX, .inr (6, [.int 7, .int 100, .int 800, .int 10])), (lC, .inr (2, [.int 0, .ref eT, .int 0])), (aL, .inl (cL, 4, .inl fL)), (aM, .inl (cM, 5, .inr (.inr (.inr (.inr gM))))), (m0, .inl (cR, 16, .inl f0)), (m1, .inl (cR, 16, .inl f1)), (m2, .inl (cR, 16, .inl f2)), (m3, .inl (cR, 16, .inl f3)), (m4, .inl (cR, 16, .inl f4)), (ho, .inl (cO, 1, .inr (.inl (vp_updL fo (Int32.toNatClampNeg 0) 0)))), (y0, .inr (8, [.int 0, .ref lH, .ref lB, .ref lJ, .ref aR, .ref aL, .int 0, .int 0, .int 0, .ref lC, .ref aM, .ref aP, .int 0, .int 0, .int 0, .int (-1), .int (-1), .int 0, .int 0, .long 0]))] := hD
    refine W.widen (k := 83) (n := 922) (Nat.le_of_ble_eq_true rfl) (Nat.le_of_ble_eq_true rfl) ?_
    refine lv_istore (lv' := [(6, .int 0), (5, .int 0), (0, .ref b), (1, .ref x0), (2, .ref y0), (3, .ref ho), (4, .int 0)]) hx hb dL_law_1553 hl (by decide) rfl (fun ls hl => ?_)
    refine lv_aload_n hx hb dL_law_1555 rfl (lv_at hl 4 rfl) ?_
    have hPc := hP.sub (ws' := [(y0, .inr (8, [.int 0, .ref lH, .ref lB, .ref lJ, .ref aR, .ref aL, .int 0, .int 0, .int 0, .ref lC, .ref aM, .ref aP, .int 0, .int 0, .int 0, .int (-1), .int (-1), .int 0, .int 0, .long 0]))]) [12] rfl
    have hKc := hK.sub (tys' := []) [] rfl
    refine va_calli (va_runV (As := []) (rest := []) ⟨hx, hb, hml, hown, hts⟩ (r_thrown l D eT y0 lH lB lJ aR aL lC aM aP 0 0 0 H.size ) (cwV 0 hts gL_law_X5_thrown rfl rfl rfl (by decide +kernel) ⟨Nat.le_of_ble_eq_true rfl, Nat.le_of_ble_eq_true rfl⟩) (pr_v (ci := 8) (q0 := 0) rfl rfl hPc hKc hE hS hA) rfl rfl hl.1 rfl (lv_room (Nat.le_of_ble_eq_true rfl)) dL_law_1556 ⟨Nat.le_of_ble_eq_true rfl, Nat.le_of_ble_eq_true rfl⟩) hS (fun q h1 h2 => ro_A h1 h2) (fun q h => ro_F hS hA q h) (fun r u t H1 locs ht hvm hw hB hz1 hk1 hS => ?_)
    have hw : r = 0 := hw
    rw [hw]
    have hP := ro_P hP hk1
    generalize H1 = H at hP hS ⊢
    refine lv_iload hx hb dL_law_1559 (lv_at hl 1 rfl) ?_
    refine lv_icmp_eq (tgt := 1566) hx hb dL_law_1561 (by decide) (fun _ => ?_) (fun h => absurd (by decide) h)
    refine lv_iload hx hb dL_law_1566 (lv_at hl 1 rfl) ?_
    refine lv_if_ne (tgt := 1583) hx hb dL_law_1568 (by decide) (fun h => absurd (by decide) h) (fun _ => ?_)
    refine lv_aload_n hx hb dL_law_1571 rfl (lv_at hl 5 rfl) ?_
    refine lv_iconst (v := 0) hx hb dL_law_1572 (by decide) ?_
    refine va_lald hx hb hK hP 11 5 rfl rfl (by unfold vp_in; decide +kernel) dL_law_1573 ?_
    refine lv_topl (fun z_53 ez_53 => ?_)
    have ez_53 : z_53 = 0 := ez_53.trans pk_uLs
    rw [ez_53]
    refine lv_iload hx hb dL_law_1574 (lv_at hl 0 rfl) ?_
    refine lv_i2l (v := 0) hx hb dL_law_1576 (by decide) ?_
    refine W.lcmp hx hb dL_law_1577 ?_
    refine lv_topi (fun z_54 ez_54 => ?_)
    have ez_54 : z_54 = 0 := ez_54.trans (by decide +kernel)
    rw [ez_54]
    refine lv_if_eq (tgt := 1583) hx hb dL_law_1578 (by decide) (fun _ => ?_) (fun h => absurd (by decide) h)
    refine lv_goto (tgt := 1835) hx hb dL_law_1583 (by decide) ?_
    refine W.widen (k := 2000) (n := 20000) (Nat.le_of_ble_eq_true rfl) (Nat.le_of_ble_eq_true rfl) ?_
    exact kx _ _ _ hS (lv_sub hl [2, 3, 4, 5, 6] rfl)
  · skip
    refine lv_aload_n hx hb dL_law_1530 rfl (lv_at hl 1 rfl) ?_
    refine lv_aload_n hx hb dL_law_1531 rfl (lv_at hl 0 rfl) ?_
    refine lv_iload hx hb dL_law_1532 (lv_at hl 4 rfl) ?_
    refine lv_iconst (v := 1) hx hb dL_law_1534 (by decide) ?_
    refine lv_iadd hx hb dL_law_1535 ?_
    refine lv_topi (fun z_55 ez_55 => ?_)
    have ez_55 : z_55 = 1 := ez_55.trans (by decide +kernel)
    rw [ez_55]
    refine va_sld hx hb hX hbl hbA hS (show vp_in 1 7 from by unfold vp_in; decide +kernel) dL_law_1536 ?_
    refine lv_topi (fun z_56 ez_56 => ?_)
    have ez_56 : z_56 = 9 := ez_56.trans e1
    rw [ez_56]
    refine lv_aload_n hx hb dL_law_1537 rfl (lv_at hl 3 rfl) ?_
    have hPc := hP.sub (ws' := [(x0, .inr (7, [.ref aH, .ref aB, .ref aJ, .int 0, .int 0, .int 0, .ref rN, .ref rX, .int 0, .int 0, .int 0, .int 0, .int 0, .int 0, .int (-1), .int (-1), .int 0, .int 0, .ref aV])), (rN, .inr (6, [.int 7, .int 100, .int 800, .int 10])), (ho, .inl (cO, 1, .inr (.inl fo)))]) [0, 3, 18] rfl
    have hKc := hK.sub (tys' := [(cO, .long)]) [5] rfl
    have hDc := hD.sub (ws' := [(x0, .inr (7, [.ref aH, .ref aB, .ref aJ, .int 0, .int 0, .int 0, .ref rN, .ref rX, .int 0, .int 0, .int 0, .int 0, .int 0, .int 0, .int (-1), .int (-1), .int 0, .int 0, .ref aV])), (rN, .inr (6, [.int 7, .int 100, .int 800, .int 10])), (ho, .inl (cO, 1, .inr (.inl fo)))]) [0, 3, 18] (by decide) rfl
    have hFc := va_free (wc := [(x0, .inr (7, [.ref aH, .ref aB, .ref aJ, .int 0, .int 0, .int 0, .ref rN, .ref rX, .int 0, .int 0, .int 0, .int 0, .int 0, .int 0, .int (-1), .int (-1), .int 0, .int 0, .ref aV])), (rN, .inr (6, [.int 7, .int 100, .int 800, .int 10])), (ho, .inl (cO, 1, .inr (.inl fo)))]) hD hS hA [0, 3, 18] rfl
    refine va_calli (vx_runSW (As := [.ref x0, .int 9, .ref ho]) (rest := []) ⟨hx, hb, hml, hown, hts⟩ (w_many_9 l D eT x0 aH aB aJ rN rX aV ho cO fo H.size ) (vx_cwSW 3 hts gL_law_L_many rfl rfl rfl (by decide +kernel) ⟨Nat.le_of_ble_eq_true rfl, Nat.le_of_ble_eq_true rfl⟩) (pc_s hPc hDc hKc hE hS hFc) rfl rfl hl.1 rfl (lv_room (Nat.le_of_ble_eq_true rfl)) dL_law_1538 ⟨Nat.le_of_ble_eq_true rfl, Nat.le_of_ble_eq_true rfl⟩) hS (fun q _ h => hFc q h) hFc (fun r u t H1 locs ht hvm hw hB hz1 hk1 hS => ?_)
    have hw : r = 0 := hw
    rw [hw]
    obtain ⟨hP1, hK1, hD1⟩ := hB
    rw [ht] at hP1
    have hK1 := va_K.moved hvm.symm hK1
    obtain ⟨hP, hD⟩ := va_join (wr := [(aJ, .inl (cJ, 5, .inr (.inr (.inr (.inr fJ))))), (j0, .inr (5, [.int 0, .int 0, .int 0, .int 0, .int 0, .ref c1, .ref c2, .int 0, .int 0, .int 0, .int 0, .ref c3, .int 0, .ref c4, .ref c5, .int 0])), (rX, .inr (6, [.int 7, .int 100, .int 800, .int 10])), (y0, .inr (8, [.int 0, .ref lH, .ref lB, .ref lJ, .ref aR, .ref aL, .int 0, .int 0, .int 0, .ref lC, .ref aM, .ref aP, .int 0, .int 0, .int 0, .int (-1), .int (-1), .int 0, .int 0, .long 0])), (lH, .inr (2, [.int 0, .ref eT, .int 0])), (lB, .inr (2, [.int 0, .ref eT, .int 0])), (lJ, .inr (2, [.int 0, .ref eT, .int 0])), (lC, .inr (2, [.int 0, .ref eT, .int 0])), (aR, .inl (cI, 4, .inl fR)), (aL, .inl (cL, 4, .inl fL)), (aM, .inl (cM, 5, .inr (.inr (.inr (.inr gM))))), (m0, .inl (cR, 16, .inl f0)), (m1, .inl (cR, 16, .inl f1)), (m2, .inl (cR, 16, .inl f2)), (m3, .inl (cR, 16, .inl f3)), (m4, .inl (cR, 16, .inl f4))]) (w1 := [(ho, .inl (cO, 1, .inr (.inl (vp_updL fo (Int32.toNatClampNeg 0) (-1)))))]) hP hD [0, 3, 18] [1, 2, 4, 5, 6, 7, 8, 9, 10, 11, 12, 13, 14, 15, 16, 17] rfl rfl (by decide) (by decide) hk1 hFc hP1 hD1
    generalize H1 = H at hP hS ⊢
    have hP : va_P D vwCl [(aJ, .inl (cJ, 5, .inr (.inr (.inr (.inr fJ))))), (j0, .inr (5, [.int 0, .int 0, .int 0, .int 0, .int 0, .ref c1, .ref c2, .int 0, .int 0, .int 0, .int 0, .ref c3, .int 0, .ref c4, .ref c5, .int 0])), (rX, .inr (6, [.int 7, .int 100, .int 800, .int 10])), (y0, .inr (8, [.int 0, .ref lH, .ref lB, .ref lJ, .ref aR, .ref aL, .int 0, .int 0, .int 0, .ref lC, .ref aM, .ref aP, .int 0, .int 0, .int 0, .int (-1), .int (-1), .int 0, .int 0, .long 0])), (lH, .inr (2, [.int 0, .ref eT, .int 0])), (lB, .inr (2, [.int 0, .ref eT, .int 0])), (lJ, .inr (2, [.int 0, .ref eT, .int 0])), (lC, .inr (2, [.int 0, .ref eT, .int 0])), (aR, .inl (cI, 4, .inl fR)), (aL, .inl (cL, 4, .inl fL)), (aM, .inl (cM, 5, .inr (.inr (.inr (.inr gM))))), (m0, .inl (cR, 16, .inl f0)), (m1, .inl (cR, 16, .inl f1)), (m2, .inl (cR, 16, .inl f2)), (m3, .inl (cR, 16, .inl f3)), (m4, .inl (cR, 16, .inl f4)), (ho, .inl (cO, 1, .inr (.inl (vp_updL fo (Int32.toNatClampNeg 0) (-1)))))] H := hP
    have hD : va_D (fun q : Nat => s.heap.size ≤ q) [(aJ, .inl (cJ, 5, .inr (.inr (.inr (.inr fJ))))), (j0, .inr (5, [.int 0, .int 0, .int 0, .int 0, .int 0, .ref c1, .ref c2, .int 0, .int 0, .int 0, .int 0, .ref c3, .int 0, .ref c4, .ref c5, .int 0])), (rX, .inr (6, [.int 7, .int 100, .int 800, .int 10])), (y0, .inr (8, [.int 0, .ref lH, .ref lB, .ref lJ, .ref aR, .ref aL, .int 0, .int 0, .int 0, .ref lC, .ref aM, .ref aP, .int 0, .int 0, .int 0, .int (-1), .int (-1), .int 0, .int 0, .long 0])), (lH, .inr (2, [.int 0, .ref eT, .int 0])), (lB, .inr (2, [.int 0, .ref eT, .int 0])), (lJ, .inr (2, [.int 0, .ref eT, .int 0])), (lC, .inr (2, [.int 0, .ref eT, .int 0])), (aR, .inl (cI, 4, .inl fR)), (aL, .inl (cL, 4, .inl fL)), (aM, .inl (cM, 5, .inr (.inr (.inr (.inr gM))))), (m0, .inl (cR, 16, .inl f0)), (m1, .inl (cR, 16, .inl f1)), (m2, .inl (cR, 16, .inl f2)), (m3, .inl (cR, 16, .inl f3)), (m4, .inl (cR, 16, .inl f4)), (ho, .inl (cO, 1, .inr (.inl (vp_updL fo (Int32.toNatClampNeg 0) (-1)))))] := hD
    refine lv_istore (lv' := [(5, .int 0), (0, .ref b), (1, .ref x0), (2, .ref y0), (3, .ref ho), (4, .int 0)]) hx hb dL_law_1541 hl (by decide) rfl (fun ls hl => ?_)
    refine lv_aload_n hx hb dL_law_1543 rfl (lv_at hl 3 rfl) ?_
    refine lv_aload_n hx hb dL_law_1544 rfl (lv_at hl 1 rfl) ?_
    refine lv_iload hx hb dL_law_1545 (lv_at hl 5 rfl) ?_
    refine lv_iconst (v := 1) hx hb dL_law_1547 (by decide) ?_
    refine lv_iadd hx hb dL_law_1548 ?_
    refine lv_topi (fun z_57 ez_57 => ?_)
    have ez_57 : z_57 = 1 := ez_57.trans (by decide +kernel)
    rw [ez_57]
    refine va_sld hx hb hX hbl hbA hS (show vp_in 1 7 from by unfold vp_in; decide +kernel) dL_law_1549 ?_
    refine lv_topi (fun z_58 ez_58 => ?_)
    have ez_58 : z_58 = 9 := ez_58.trans e1
    rw [ez_58]
    have hPc := hP.sub (ws' := [(y0, .inr (8, [.int 0, .ref lH, .ref lB, .ref lJ, .ref aR, .ref aL, .int 0, .int 0, .int 0, .ref lC, .ref aM, .ref aP, .int 0, .int 0, .int 0, .int (-1), .int (-1), .int 0, .int 0, .long 0])), (lB, .inr (2, [.int 0, .ref eT, .int 0])), (lH, .inr (2, [.int 0, .ref eT, .int 0])), (lJ, .inr (2, [.int 0, .ref eT, .int 0])), (aR, .inl (cI, 4, .inl fR))]) [3, 5, 4, 6, 8] rfl
    have hKc := hK.sub (tys' := [(cI, .int)]) [1] rfl
    have hDc := hD.sub (ws' := [(y0, .inr (8, [.int 0, .ref lH, .ref lB, .ref lJ, .ref aR, .ref aL, .int 0, .int 0, .int 0, .ref lC, .ref aM, .ref aP, .int 0, .int 0, .int 0, .int (-1), .int (-1), .int 0, .int 0, .long 0])), (lB, .inr (2, [.int 0, .ref eT, .int 0])), (lH, .inr (2, [.int 0, .ref eT, .int 0])), (lJ, .inr (2, [.int 0, .ref eT, .int 0])), (aR, .inl (cI, 4, .inl fR))]) [3, 5, 4, 6, 8] (by decide) rfl
    have hFc := va_free (wc := [(y0, .inr (8, [.int 0, .ref lH, .ref lB, .ref lJ, .ref aR, .ref aL, .int 0, .int 0, .int 0, .ref lC, .ref aM, .ref aP, .int 0, .int 0, .int 0, .int (-1), .int (-1), .int 0, .int 0, .long 0])), (lB, .inr (2, [.int 0, .ref eT, .int 0])), (lH, .inr (2, [.int 0, .ref eT, .int 0])), (lJ, .inr (2, [.int 0, .ref eT, .int 0])), (aR, .inl (cI, 4, .inl fR))]) hD hS hA [3, 5, 4, 6, 8] rfl
    refine va_calli (va_runV (As := [.int 9]) (rest := []) ⟨hx, hb, hml, hown, hts⟩ (r_many l D eT y0 lH lB lJ aR aL lC aM aP 0 cI fR 9 H.size hR (by decide) (by decide)) (cwV 1 hts gL_law_X5_many rfl rfl rfl (by decide +kernel) ⟨Nat.le_of_ble_eq_true rfl, Nat.le_of_ble_eq_true rfl⟩) (pc_v (ci := 8) (q0 := 0) rfl rfl hPc hDc hKc hE hS hFc) rfl rfl hl.1 rfl (lv_room (Nat.le_of_ble_eq_true rfl)) dL_law_1550 ⟨Nat.le_of_ble_eq_true rfl, Nat.le_of_ble_eq_true rfl⟩) hS (fun q _ h => hFc q h) hFc (fun r u t H1 locs ht hvm hw hB hz1 hk1 hS => ?_)
    have hw : r = (-1) := hw.trans (by decide)
    rw [hw]
    obtain ⟨hP1, hK1, hD1⟩ := hB
    rw [ht] at hP1
    have hK1 := va_K.moved hvm.symm hK1
    obtain ⟨hP, hD⟩ := va_join (wr := [(aJ, .inl (cJ, 5, .inr (.inr (.inr (.inr fJ))))), (j0, .inr (5, [.int 0, .int 0, .int 0, .int 0, .int 0, .ref c1, .ref c2, .int 0, .int 0, .int 0, .int 0, .ref c3, .int 0, .ref c4, .ref c5, .int 0])), (rX, .inr (6, [.int 7, .int 100, .int 800, .int 10])), (lC, .inr (2, [.int 0, .ref eT, .int 0])), (aL, .inl (cL, 4, .inl fL)), (aM, .inl (cM, 5, .inr (.inr (.inr (.inr gM))))), (m0, .inl (cR, 16, .inl f0)), (m1, .inl (cR, 16, .inl f1)), (m2, .inl (cR, 16, .inl f2)), (m3, .inl (cR, 16, .inl f3)), (m4, .inl (cR, 16, .inl f4)), (ho, .inl (cO, 1, .inr (.inl (vp_updL fo (Int32.toNatClampNeg 0) (-1)))))]) (w1 := [(y0, .inr (8, [.int 0, .ref lH, .ref lB, .ref lJ, .ref aR, .ref aL, .int 0, .int 0, .int 0, .ref lC, .ref aM, .ref aP, .int 0, .int 0, .int 0, .int (-1), .int (-1), .int 0, .int 0, .long 0]))]) hP hD [3, 5, 4, 6, 8] [0, 1, 2, 7, 9, 10, 11, 12, 13, 14, 15, 16] rfl rfl (by decide) (by decide) hk1 hFc hP1 hD1
    generalize H1 = H at hP hS ⊢
    have hP : va_P D vwCl [(aJ, .inl (cJ, 5, .inr (.inr (.inr (.inr fJ))))), (j0, .inr (5, [.int 0, .int 0, .int 0, .int 0, .int 0, .ref c1, .ref c2, .int 0, .int 0, .int 0, .int 0, .ref c3, .int 0, .ref c4, .ref c5, .int 0])), (rX, .inr (6, [.int 7, .int 100, .int 800, .int 10])), (lC, .inr (2, [.int 0, .ref eT, .int 0])), (aL, .inl (cL, 4, .inl fL)), (aM, .inl (cM, 5, .inr (.inr (.inr (.inr gM))))), (m0, .inl (cR, 16, .inl f0)), (m1, .inl (cR, 16, .inl f1)), (m2, .inl (cR, 16, .inl f2)), (m3, .inl (cR, 16, .inl f3)), (m4, .inl (cR, 16, .inl f4)), (ho, .inl (cO, 1, .inr (.inl (vp_updL fo (Int32.toNatClampNeg 0) (-1))))), (y0, .inr (8, [.int 0, .ref lH, .ref lB, .ref lJ, .ref aR, .ref aL, .int 0, .int 0, .int 0, .ref lC, .ref aM, .ref aP, .int 0, .int 0, .int 0, .int (-1), .int (-1), .int 0, .int 0, .long 0]))] H := hP
    have hD : va_D (fun q : Nat => s.heap.size ≤ q) [(aJ, .inl (cJ, 5, .inr (.inr (.inr (.inr fJ))))), (j0, .inr (5, [.int 0, .int 0, .int 0, .int 0, .int 0, .ref c1, .ref c2, .int 0, .int 0, .int 0, .int 0, .ref c3, .int 0, .ref c4, .ref c5, .int 0])), (rX, .inr (6, [.int 7, .int 100, .int 800, .int 10])), (lC, .inr (2, [.int 0, .ref eT, .int 0])), (aL, .inl (cL, 4, .inl fL)), (aM, .inl (cM, 5, .inr (.inr (.inr (.inr gM))))), (m0, .inl (cR, 16, .inl f0)), (m1, .inl (cR, 16, .inl f1)), (m2, .inl (cR, 16, .inl f2)), (m3, .inl (cR, 16, .inl f3)), (m4, .inl (cR, 16, .inl f4)), (ho, .inl (cO, 1, .inr (.inl (vp_updL fo (Int32.toNatClampNeg 0) (-1))))), (y0, .inr (8, [.int 0, .ref lH, .ref lB, .ref lJ, .ref aR, .ref aL, .int 0, .int 0, .int 0, .ref lC, .ref aM, .ref aP, .int 0, .int 0, .int 0, .int (-1), .int (-1), .int 0, .int 0, .long 0]))] := hD
    refine W.widen (k := 83) (n := 922) (Nat.le_of_ble_eq_true rfl) (Nat.le_of_ble_eq_true rfl) ?_
    refine lv_istore (lv' := [(6, .int (-1)), (5, .int 0), (0, .ref b), (1, .ref x0), (2, .ref y0), (3, .ref ho), (4, .int 0)]) hx hb dL_law_1553 hl (by decide) rfl (fun ls hl => ?_)
    refine lv_aload_n hx hb dL_law_1555 rfl (lv_at hl 4 rfl) ?_
    have hPc := hP.sub (ws' := [(y0, .inr (8, [.int 0, .ref lH, .ref lB, .ref lJ, .ref aR, .ref aL, .int 0, .int 0, .int 0, .ref lC, .ref aM, .ref aP, .int 0, .int 0, .int 0, .int (-1), .int (-1), .int 0, .int 0, .long 0]))]) [12] rfl
    have hKc := hK.sub (tys' := []) [] rfl
    refine va_calli (va_runV (As := []) (rest := []) ⟨hx, hb, hml, hown, hts⟩ (r_thrown l D eT y0 lH lB lJ aR aL lC aM aP 0 0 0 H.size ) (cwV 0 hts gL_law_X5_thrown rfl rfl rfl (by decide +kernel) ⟨Nat.le_of_ble_eq_true rfl, Nat.le_of_ble_eq_true rfl⟩) (pr_v (ci := 8) (q0 := 0) rfl rfl hPc hKc hE hS hA) rfl rfl hl.1 rfl (lv_room (Nat.le_of_ble_eq_true rfl)) dL_law_1556 ⟨Nat.le_of_ble_eq_true rfl, Nat.le_of_ble_eq_true rfl⟩) hS (fun q h1 h2 => ro_A h1 h2) (fun q h => ro_F hS hA q h) (fun r u t H1 locs ht hvm hw hB hz1 hk1 hS => ?_)
    have hw : r = 0 := hw
    rw [hw]
    have hP := ro_P hP hk1
    generalize H1 = H at hP hS ⊢
    refine lv_iload hx hb dL_law_1559 (lv_at hl 1 rfl) ?_
    refine lv_icmp_eq (tgt := 1566) hx hb dL_law_1561 (by decide) (fun _ => ?_) (fun h => absurd (by decide) h)
    refine lv_iload hx hb dL_law_1566 (lv_at hl 1 rfl) ?_
    refine lv_if_ne (tgt := 1583) hx hb dL_law_1568 (by decide) (fun h => absurd (by decide) h) (fun _ => ?_)
    refine lv_aload_n hx hb dL_law_1571 rfl (lv_at hl 5 rfl) ?_
    refine lv_iconst (v := 0) hx hb dL_law_1572 (by decide) ?_
    refine va_lald hx hb hK hP 11 5 rfl rfl (by unfold vp_in; decide +kernel) dL_law_1573 ?_
    refine lv_topl (fun z_59 ez_59 => ?_)
    have ez_59 : z_59 = (-1) := ez_59.trans pk_uLs
    rw [ez_59]
    refine lv_iload hx hb dL_law_1574 (lv_at hl 0 rfl) ?_
    refine lv_i2l (v := (-1)) hx hb dL_law_1576 (by decide) ?_
    refine W.lcmp hx hb dL_law_1577 ?_
    refine lv_topi (fun z_60 ez_60 => ?_)
    have ez_60 : z_60 = 0 := ez_60.trans (by decide +kernel)
    rw [ez_60]
    refine lv_if_eq (tgt := 1583) hx hb dL_law_1578 (by decide) (fun _ => ?_) (fun h => absurd (by decide) h)
    refine lv_goto (tgt := 1835) hx hb dL_law_1583 (by decide) ?_
    refine W.widen (k := 2000) (n := 20000) (Nat.le_of_ble_eq_true rfl) (Nat.le_of_ble_eq_true rfl) ?_
    exact kx _ _ _ hS (lv_sub hl [2, 3, 4, 5, 6] rfl)
  · skip
    refine lv_aload_n hx hb dL_law_1530 rfl (lv_at hl 1 rfl) ?_
    refine lv_aload_n hx hb dL_law_1531 rfl (lv_at hl 0 rfl) ?_
    refine lv_iload hx hb dL_law_1532 (lv_at hl 4 rfl) ?_
    refine lv_iconst (v := 1) hx hb dL_law_1534 (by decide) ?_
    refine lv_iadd hx hb dL_law_1535 ?_
    refine lv_topi (fun z_61 ez_61 => ?_)
    have ez_61 : z_61 = 1 := ez_61.trans (by decide +kernel)
    rw [ez_61]
    refine va_sld hx hb hX hbl hbA hS (show vp_in 1 7 from by unfold vp_in; decide +kernel) dL_law_1536 ?_
    refine lv_topi (fun z_62 ez_62 => ?_)
    have ez_62 : z_62 = 10 := ez_62.trans e1
    rw [ez_62]
    refine lv_aload_n hx hb dL_law_1537 rfl (lv_at hl 3 rfl) ?_
    have hPc := hP.sub (ws' := [(x0, .inr (7, [.ref aH, .ref aB, .ref aJ, .int 0, .int 0, .int 0, .ref rN, .ref rX, .int 0, .int 0, .int 0, .int 0, .int 0, .int 0, .int (-1), .int (-1), .int 0, .int 0, .ref aV])), (rN, .inr (6, [.int 7, .int 100, .int 800, .int 10])), (ho, .inl (cO, 1, .inr (.inl fo)))]) [0, 3, 18] rfl
    have hKc := hK.sub (tys' := [(cO, .long)]) [5] rfl
    have hDc := hD.sub (ws' := [(x0, .inr (7, [.ref aH, .ref aB, .ref aJ, .int 0, .int 0, .int 0, .ref rN, .ref rX, .int 0, .int 0, .int 0, .int 0, .int 0, .int 0, .int (-1), .int (-1), .int 0, .int 0, .ref aV])), (rN, .inr (6, [.int 7, .int 100, .int 800, .int 10])), (ho, .inl (cO, 1, .inr (.inl fo)))]) [0, 3, 18] (by decide) rfl
    have hFc := va_free (wc := [(x0, .inr (7, [.ref aH, .ref aB, .ref aJ, .int 0, .int 0, .int 0, .ref rN, .ref rX, .int 0, .int 0, .int 0, .int 0, .int 0, .int 0, .int (-1), .int (-1), .int 0, .int 0, .ref aV])), (rN, .inr (6, [.int 7, .int 100, .int 800, .int 10])), (ho, .inl (cO, 1, .inr (.inl fo)))]) hD hS hA [0, 3, 18] rfl
    refine va_calli (vx_runSW (As := [.ref x0, .int 10, .ref ho]) (rest := []) ⟨hx, hb, hml, hown, hts⟩ (w_many_10 l D eT x0 aH aB aJ rN rX aV ho cO fo H.size ) (vx_cwSW 3 hts gL_law_L_many rfl rfl rfl (by decide +kernel) ⟨Nat.le_of_ble_eq_true rfl, Nat.le_of_ble_eq_true rfl⟩) (pc_s hPc hDc hKc hE hS hFc) rfl rfl hl.1 rfl (lv_room (Nat.le_of_ble_eq_true rfl)) dL_law_1538 ⟨Nat.le_of_ble_eq_true rfl, Nat.le_of_ble_eq_true rfl⟩) hS (fun q _ h => hFc q h) hFc (fun r u t H1 locs ht hvm hw hB hz1 hk1 hS => ?_)
    have hw : r = 0 := hw
    rw [hw]
    obtain ⟨hP1, hK1, hD1⟩ := hB
    rw [ht] at hP1
    have hK1 := va_K.moved hvm.symm hK1
    obtain ⟨hP, hD⟩ := va_join (wr := [(aJ, .inl (cJ, 5, .inr (.inr (.inr (.inr fJ))))), (j0, .inr (5, [.int 0, .int 0, .int 0, .int 0, .int 0, .ref c1, .ref c2, .int 0, .int 0, .int 0, .int 0, .ref c3, .int 0, .ref c4, .ref c5, .int 0])), (rX, .inr (6, [.int 7, .int 100, .int 800, .int 10])), (y0, .inr (8, [.int 0, .ref lH, .ref lB, .ref lJ, .ref aR, .ref aL, .int 0, .int 0, .int 0, .ref lC, .ref aM, .ref aP, .int 0, .int 0, .int 0, .int (-1), .int (-1), .int 0, .int 0, .long 0])), (lH, .inr (2, [.int 0, .ref eT, .int 0])), (lB, .inr (2, [.int 0, .ref eT, .int 0])), (lJ, .inr (2, [.int 0, .ref eT, .int 0])), (lC, .inr (2, [.int 0, .ref eT, .int 0])), (aR, .inl (cI, 4, .inl fR)), (aL, .inl (cL, 4, .inl fL)), (aM, .inl (cM, 5, .inr (.inr (.inr (.inr gM))))), (m0, .inl (cR, 16, .inl f0)), (m1, .inl (cR, 16, .inl f1)), (m2, .inl (cR, 16, .inl f2)), (m3, .inl (cR, 16, .inl f3)), (m4, .inl (cR, 16, .inl f4))]) (w1 := [(ho, .inl (cO, 1, .inr (.inl (vp_updL fo (Int32.toNatClampNeg 0) (-1)))))]) hP hD [0, 3, 18] [1, 2, 4, 5, 6, 7, 8, 9, 10, 11, 12, 13, 14, 15, 16, 17] rfl rfl (by decide) (by decide) hk1 hFc hP1 hD1
    generalize H1 = H at hP hS ⊢
    have hP : va_P D vwCl [(aJ, .inl (cJ, 5, .inr (.inr (.inr (.inr fJ))))), (j0, .inr (5, [.int 0, .int 0, .int 0, .int 0, .int 0, .ref c1, .ref c2, .int 0, .int 0, .int 0, .int 0, .ref c3, .int 0, .ref c4, .ref c5, .int 0])), (rX, .inr (6, [.int 7, .int 100, .int 800, .int 10])), (y0, .inr (8, [.int 0, .ref lH, .ref lB, .ref lJ, .ref aR, .ref aL, .int 0, .int 0, .int 0, .ref lC, .ref aM, .ref aP, .int 0, .int 0, .int 0, .int (-1), .int (-1), .int 0, .int 0, .long 0])), (lH, .inr (2, [.int 0, .ref eT, .int 0])), (lB, .inr (2, [.int 0, .ref eT, .int 0])), (lJ, .inr (2, [.int 0, .ref eT, .int 0])), (lC, .inr (2, [.int 0, .ref eT, .int 0])), (aR, .inl (cI, 4, .inl fR)), (aL, .inl (cL, 4, .inl fL)), (aM, .inl (cM, 5, .inr (.inr (.inr (.inr gM))))), (m0, .inl (cR, 16, .inl f0)), (m1, .inl (cR, 16, .inl f1)), (m2, .inl (cR, 16, .inl f2)), (m3, .inl (cR, 16, .inl f3)), (m4, .inl (cR, 16, .inl f4)), (ho, .inl (cO, 1, .inr (.inl (vp_updL fo (Int32.toNatClampNeg 0) (-1)))))] H := hP
    have hD : va_D (fun q : Nat => s.heap.size ≤ q) [(aJ, .inl (cJ, 5, .inr (.inr (.inr (.inr fJ))))), (j0, .inr (5, [.int 0, .int 0, .int 0, .int 0, .int 0, .ref c1, .ref c2, .int 0, .int 0, .int 0, .int 0, .ref c3, .int 0, .ref c4, .ref c5, .int 0])), (rX, .inr (6, [.int 7, .int 100, .int 800, .int 10])), (y0, .inr (8, [.int 0, .ref lH, .ref lB, .ref lJ, .ref aR, .ref aL, .int 0, .int 0, .int 0, .ref lC, .ref aM, .ref aP, .int 0, .int 0, .int 0, .int (-1), .int (-1), .int 0, .int 0, .long 0])), (lH, .inr (2, [.int 0, .ref eT, .int 0])), (lB, .inr (2, [.int 0, .ref eT, .int 0])), (lJ, .inr (2, [.int 0, .ref eT, .int 0])), (lC, .inr (2, [.int 0, .ref eT, .int 0])), (aR, .inl (cI, 4, .inl fR)), (aL, .inl (cL, 4, .inl fL)), (aM, .inl (cM, 5, .inr (.inr (.inr (.inr gM))))), (m0, .inl (cR, 16, .inl f0)), (m1, .inl (cR, 16, .inl f1)), (m2, .inl (cR, 16, .inl f2)), (m3, .inl (cR, 16, .inl f3)), (m4, .inl (cR, 16, .inl f4)), (ho, .inl (cO, 1, .inr (.inl (vp_updL fo (Int32.toNatClampNeg 0) (-1)))))] := hD
    refine lv_istore (lv' := [(5, .int 0), (0, .ref b), (1, .ref x0), (2, .ref y0), (3, .ref ho), (4, .int 0)]) hx hb dL_law_1541 hl (by decide) rfl (fun ls hl => ?_)
    refine lv_aload_n hx hb dL_law_1543 rfl (lv_at hl 3 rfl) ?_
    refine lv_aload_n hx hb dL_law_1544 rfl (lv_at hl 1 rfl) ?_
    refine lv_iload hx hb dL_law_1545 (lv_at hl 5 rfl) ?_
    refine lv_iconst (v := 1) hx hb dL_law_1547 (by decide) ?_
    refine lv_iadd hx hb dL_law_1548 ?_
    refine lv_topi (fun z_63 ez_63 => ?_)
    have ez_63 : z_63 = 1 := ez_63.trans (by decide +kernel)
    rw [ez_63]
    refine va_sld hx hb hX hbl hbA hS (show vp_in 1 7 from by unfold vp_in; decide +kernel) dL_law_1549 ?_
    refine lv_topi (fun z_64 ez_64 => ?_)
    have ez_64 : z_64 = 10 := ez_64.trans e1
    rw [ez_64]
    have hPc := hP.sub (ws' := [(y0, .inr (8, [.int 0, .ref lH, .ref lB, .ref lJ, .ref aR, .ref aL, .int 0, .int 0, .int 0, .ref lC, .ref aM, .ref aP, .int 0, .int 0, .int 0, .int (-1), .int (-1), .int 0, .int 0, .long 0])), (lB, .inr (2, [.int 0, .ref eT, .int 0])), (lH, .inr (2, [.int 0, .ref eT, .int 0])), (lJ, .inr (2, [.int 0, .ref eT, .int 0])), (aR, .inl (cI, 4, .inl fR))]) [3, 5, 4, 6, 8] rfl
    have hKc := hK.sub (tys' := [(cI, .int)]) [1] rfl
    have hDc := hD.sub (ws' := [(y0, .inr (8, [.int 0, .ref lH, .ref lB, .ref lJ, .ref aR, .ref aL, .int 0, .int 0, .int 0, .ref lC, .ref aM, .ref aP, .int 0, .int 0, .int 0, .int (-1), .int (-1), .int 0, .int 0, .long 0])), (lB, .inr (2, [.int 0, .ref eT, .int 0])), (lH, .inr (2, [.int 0, .ref eT, .int 0])), (lJ, .inr (2, [.int 0, .ref eT, .int 0])), (aR, .inl (cI, 4, .inl fR))]) [3, 5, 4, 6, 8] (by decide) rfl
    have hFc := va_free (wc := [(y0, .inr (8, [.int 0, .ref lH, .ref lB, .ref lJ, .ref aR, .ref aL, .int 0, .int 0, .int 0, .ref lC, .ref aM, .ref aP, .int 0, .int 0, .int 0, .int (-1), .int (-1), .int 0, .int 0, .long 0])), (lB, .inr (2, [.int 0, .ref eT, .int 0])), (lH, .inr (2, [.int 0, .ref eT, .int 0])), (lJ, .inr (2, [.int 0, .ref eT, .int 0])), (aR, .inl (cI, 4, .inl fR))]) hD hS hA [3, 5, 4, 6, 8] rfl
    refine va_calli (va_runV (As := [.int 10]) (rest := []) ⟨hx, hb, hml, hown, hts⟩ (r_many l D eT y0 lH lB lJ aR aL lC aM aP 0 cI fR 10 H.size hR (by decide) (by decide)) (cwV 1 hts gL_law_X5_many rfl rfl rfl (by decide +kernel) ⟨Nat.le_of_ble_eq_true rfl, Nat.le_of_ble_eq_true rfl⟩) (pc_v (ci := 8) (q0 := 0) rfl rfl hPc hDc hKc hE hS hFc) rfl rfl hl.1 rfl (lv_room (Nat.le_of_ble_eq_true rfl)) dL_law_1550 ⟨Nat.le_of_ble_eq_true rfl, Nat.le_of_ble_eq_true rfl⟩) hS (fun q _ h => hFc q h) hFc (fun r u t H1 locs ht hvm hw hB hz1 hk1 hS => ?_)
    have hw : r = (-1) := hw.trans (by decide)
    rw [hw]
    obtain ⟨hP1, hK1, hD1⟩ := hB
    rw [ht] at hP1
    have hK1 := va_K.moved hvm.symm hK1
    obtain ⟨hP, hD⟩ := va_join (wr := [(aJ, .inl (cJ, 5, .inr (.inr (.inr (.inr fJ))))), (j0, .inr (5, [.int 0, .int 0, .int 0, .int 0, .int 0, .ref c1, .ref c2, .int 0, .int 0, .int 0, .int 0, .ref c3, .int 0, .ref c4, .ref c5, .int 0])), (rX, .inr (6, [.int 7, .int 100, .int 800, .int 10])), (lC, .inr (2, [.int 0, .ref eT, .int 0])), (aL, .inl (cL, 4, .inl fL)), (aM, .inl (cM, 5, .inr (.inr (.inr (.inr gM))))), (m0, .inl (cR, 16, .inl f0)), (m1, .inl (cR, 16, .inl f1)), (m2, .inl (cR, 16, .inl f2)), (m3, .inl (cR, 16, .inl f3)), (m4, .inl (cR, 16, .inl f4)), (ho, .inl (cO, 1, .inr (.inl (vp_updL fo (Int32.toNatClampNeg 0) (-1)))))]) (w1 := [(y0, .inr (8, [.int 0, .ref lH, .ref lB, .ref lJ, .ref aR, .ref aL, .int 0, .int 0, .int 0, .ref lC, .ref aM, .ref aP, .int 0, .int 0, .int 0, .int (-1), .int (-1), .int 0, .int 0, .long 0]))]) hP hD [3, 5, 4, 6, 8] [0, 1, 2, 7, 9, 10, 11, 12, 13, 14, 15, 16] rfl rfl (by decide) (by decide) hk1 hFc hP1 hD1
    generalize H1 = H at hP hS ⊢
    have hP : va_P D vwCl [(aJ, .inl (cJ, 5, .inr (.inr (.inr (.inr fJ))))), (j0, .inr (5, [.int 0, .int 0, .int 0, .int 0, .int 0, .ref c1, .ref c2, .int 0, .int 0, .int 0, .int 0, .ref c3, .int 0, .ref c4, .ref c5, .int 0])), (rX, .inr (6, [.int 7, .int 100, .int 800, .int 10])), (lC, .inr (2, [.int 0, .ref eT, .int 0])), (aL, .inl (cL, 4, .inl fL)), (aM, .inl (cM, 5, .inr (.inr (.inr (.inr gM))))), (m0, .inl (cR, 16, .inl f0)), (m1, .inl (cR, 16, .inl f1)), (m2, .inl (cR, 16, .inl f2)), (m3, .inl (cR, 16, .inl f3)), (m4, .inl (cR, 16, .inl f4)), (ho, .inl (cO, 1, .inr (.inl (vp_updL fo (Int32.toNatClampNeg 0) (-1))))), (y0, .inr (8, [.int 0, .ref lH, .ref lB, .ref lJ, .ref aR, .ref aL, .int 0, .int 0, .int 0, .ref lC, .ref aM, .ref aP, .int 0, .int 0, .int 0, .int (-1), .int (-1), .int 0, .int 0, .long 0]))] H := hP
    have hD : va_D (fun q : Nat => s.heap.size ≤ q) [(aJ, .inl (cJ, 5, .inr (.inr (.inr (.inr fJ))))), (j0, .inr (5, [.int 0, .int 0, .int 0, .int 0, .int 0, .ref c1, .ref c2, .int 0, .int 0, .int 0, .int 0, .ref c3, .int 0, .ref c4, .ref c5, .int 0])), (rX, .inr (6, [.int 7, .int 100, .int 800, .int 10])), (lC, .inr (2, [.int 0, .ref eT, .int 0])), (aL, .inl (cL, 4, .inl fL)), (aM, .inl (cM, 5, .inr (.inr (.inr (.inr gM))))), (m0, .inl (cR, 16, .inl f0)), (m1, .inl (cR, 16, .inl f1)), (m2, .inl (cR, 16, .inl f2)), (m3, .inl (cR, 16, .inl f3)), (m4, .inl (cR, 16, .inl f4)), (ho, .inl (cO, 1, .inr (.inl (vp_updL fo (Int32.toNatClampNeg 0) (-1))))), (y0, .inr (8, [.int 0, .ref lH, .ref lB, .ref lJ, .ref aR, .ref aL, .int 0, .int 0, .int 0, .ref lC, .ref aM, .ref aP, .int 0, .int 0, .int 0, .int (-1), .int (-1), .int 0, .int 0, .long 0]))] := hD
    refine W.widen (k := 83) (n := 922) (Nat.le_of_ble_eq_true rfl) (Nat.le_of_ble_eq_true rfl) ?_
    refine lv_istore (lv' := [(6, .int (-1)), (5, .int 0), (0, .ref b), (1, .ref x0), (2, .ref y0), (3, .ref ho), (4, .int 0)]) hx hb dL_law_1553 hl (by decide) rfl (fun ls hl => ?_)
    refine lv_aload_n hx hb dL_law_1555 rfl (lv_at hl 4 rfl) ?_
    have hPc := hP.sub (ws' := [(y0, .inr (8, [.int 0, .ref lH, .ref lB, .ref lJ, .ref aR, .ref aL, .int 0, .int 0, .int 0, .ref lC, .ref aM, .ref aP, .int 0, .int 0, .int 0, .int (-1), .int (-1), .int 0, .int 0, .long 0]))]) [12] rfl
    have hKc := hK.sub (tys' := []) [] rfl
    refine va_calli (va_runV (As := []) (rest := []) ⟨hx, hb, hml, hown, hts⟩ (r_thrown l D eT y0 lH lB lJ aR aL lC aM aP 0 0 0 H.size ) (cwV 0 hts gL_law_X5_thrown rfl rfl rfl (by decide +kernel) ⟨Nat.le_of_ble_eq_true rfl, Nat.le_of_ble_eq_true rfl⟩) (pr_v (ci := 8) (q0 := 0) rfl rfl hPc hKc hE hS hA) rfl rfl hl.1 rfl (lv_room (Nat.le_of_ble_eq_true rfl)) dL_law_1556 ⟨Nat.le_of_ble_eq_true rfl, Nat.le_of_ble_eq_true rfl⟩) hS (fun q h1 h2 => ro_A h1 h2) (fun q h => ro_F hS hA q h) (fun r u t H1 locs ht hvm hw hB hz1 hk1 hS => ?_)
    have hw : r = 0 := hw
    rw [hw]
    have hP := ro_P hP hk1
    generalize H1 = H at hP hS ⊢
    refine lv_iload hx hb dL_law_1559 (lv_at hl 1 rfl) ?_
    refine lv_icmp_eq (tgt := 1566) hx hb dL_law_1561 (by decide) (fun _ => ?_) (fun h => absurd (by decide) h)
    refine lv_iload hx hb dL_law_1566 (lv_at hl 1 rfl) ?_
    refine lv_if_ne (tgt := 1583) hx hb dL_law_1568 (by decide) (fun h => absurd (by decide) h) (fun _ => ?_)
    refine lv_aload_n hx hb dL_law_1571 rfl (lv_at hl 5 rfl) ?_
    refine lv_iconst (v := 0) hx hb dL_law_1572 (by decide) ?_
    refine va_lald hx hb hK hP 11 5 rfl rfl (by unfold vp_in; decide +kernel) dL_law_1573 ?_
    refine lv_topl (fun z_65 ez_65 => ?_)
    have ez_65 : z_65 = (-1) := ez_65.trans pk_uLs
    rw [ez_65]
    refine lv_iload hx hb dL_law_1574 (lv_at hl 0 rfl) ?_
    refine lv_i2l (v := (-1)) hx hb dL_law_1576 (by decide) ?_
    refine W.lcmp hx hb dL_law_1577 ?_
    refine lv_topi (fun z_66 ez_66 => ?_)
    have ez_66 : z_66 = 0 := ez_66.trans (by decide +kernel)
    rw [ez_66]
    refine lv_if_eq (tgt := 1583) hx hb dL_law_1578 (by decide) (fun _ => ?_) (fun h => absurd (by decide) h)
    refine lv_goto (tgt := 1835) hx hb dL_law_1583 (by decide) ?_
    refine W.widen (k := 2000) (n := 20000) (Nat.le_of_ble_eq_true rfl) (Nat.le_of_ble_eq_true rfl) ?_
    exact kx _ _ _ hS (lv_sub hl [2, 3, 4, 5, 6] rfl)
  · skip
    refine lv_aload_n hx hb dL_law_1530 rfl (lv_at hl 1 rfl) ?_
    refine lv_aload_n hx hb dL_law_1531 rfl (lv_at hl 0 rfl) ?_
    refine lv_iload hx hb dL_law_1532 (lv_at hl 4 rfl) ?_
    refine lv_iconst (v := 1) hx hb dL_law_1534 (by decide) ?_
    refine lv_iadd hx hb dL_law_1535 ?_
    refine lv_topi (fun z_67 ez_67 => ?_)
    have ez_67 : z_67 = 1 := ez_67.trans (by decide +kernel)
    rw [ez_67]
    refine va_sld hx hb hX hbl hbA hS (show vp_in 1 7 from by unfold vp_in; decide +kernel) dL_law_1536 ?_
    refine lv_topi (fun z_68 ez_68 => ?_)
    have ez_68 : z_68 = 11 := ez_68.trans e1
    rw [ez_68]
    refine lv_aload_n hx hb dL_law_1537 rfl (lv_at hl 3 rfl) ?_
    have hPc := hP.sub (ws' := [(x0, .inr (7, [.ref aH, .ref aB, .ref aJ, .int 0, .int 0, .int 0, .ref rN, .ref rX, .int 0, .int 0, .int 0, .int 0, .int 0, .int 0, .int (-1), .int (-1), .int 0, .int 0, .ref aV])), (rN, .inr (6, [.int 7, .int 100, .int 800, .int 10])), (ho, .inl (cO, 1, .inr (.inl fo)))]) [0, 3, 18] rfl
    have hKc := hK.sub (tys' := [(cO, .long)]) [5] rfl
    have hDc := hD.sub (ws' := [(x0, .inr (7, [.ref aH, .ref aB, .ref aJ, .int 0, .int 0, .int 0, .ref rN, .ref rX, .int 0, .int 0, .int 0, .int 0, .int 0, .int 0, .int (-1), .int (-1), .int 0, .int 0, .ref aV])), (rN, .inr (6, [.int 7, .int 100, .int 800, .int 10])), (ho, .inl (cO, 1, .inr (.inl fo)))]) [0, 3, 18] (by decide) rfl
    have hFc := va_free (wc := [(x0, .inr (7, [.ref aH, .ref aB, .ref aJ, .int 0, .int 0, .int 0, .ref rN, .ref rX, .int 0, .int 0, .int 0, .int 0, .int 0, .int 0, .int (-1), .int (-1), .int 0, .int 0, .ref aV])), (rN, .inr (6, [.int 7, .int 100, .int 800, .int 10])), (ho, .inl (cO, 1, .inr (.inl fo)))]) hD hS hA [0, 3, 18] rfl
    refine va_calli (vx_runSW (As := [.ref x0, .int 11, .ref ho]) (rest := []) ⟨hx, hb, hml, hown, hts⟩ (w_many_11 l D eT x0 aH aB aJ rN rX aV ho cO fo H.size ) (vx_cwSW 3 hts gL_law_L_many rfl rfl rfl (by decide +kernel) ⟨Nat.le_of_ble_eq_true rfl, Nat.le_of_ble_eq_true rfl⟩) (pc_s hPc hDc hKc hE hS hFc) rfl rfl hl.1 rfl (lv_room (Nat.le_of_ble_eq_true rfl)) dL_law_1538 ⟨Nat.le_of_ble_eq_true rfl, Nat.le_of_ble_eq_true rfl⟩) hS (fun q _ h => hFc q h) hFc (fun r u t H1 locs ht hvm hw hB hz1 hk1 hS => ?_)
    have hw : r = 0 := hw
    rw [hw]
    obtain ⟨hP1, hK1, hD1⟩ := hB
    rw [ht] at hP1
    have hK1 := va_K.moved hvm.symm hK1
    obtain ⟨hP, hD⟩ := va_join (wr := [(aJ, .inl (cJ, 5, .inr (.inr (.inr (.inr fJ))))), (j0, .inr (5, [.int 0, .int 0, .int 0, .int 0, .int 0, .ref c1, .ref c2, .int 0, .int 0, .int 0, .int 0, .ref c3, .int 0, .ref c4, .ref c5, .int 0])), (rX, .inr (6, [.int 7, .int 100, .int 800, .int 10])), (y0, .inr (8, [.int 0, .ref lH, .ref lB, .ref lJ, .ref aR, .ref aL, .int 0, .int 0, .int 0, .ref lC, .ref aM, .ref aP, .int 0, .int 0, .int 0, .int (-1), .int (-1), .int 0, .int 0, .long 0])), (lH, .inr (2, [.int 0, .ref eT, .int 0])), (lB, .inr (2, [.int 0, .ref eT, .int 0])), (lJ, .inr (2, [.int 0, .ref eT, .int 0])), (lC, .inr (2, [.int 0, .ref eT, .int 0])), (aR, .inl (cI, 4, .inl fR)), (aL, .inl (cL, 4, .inl fL)), (aM, .inl (cM, 5, .inr (.inr (.inr (.inr gM))))), (m0, .inl (cR, 16, .inl f0)), (m1, .inl (cR, 16, .inl f1)), (m2, .inl (cR, 16, .inl f2)), (m3, .inl (cR, 16, .inl f3)), (m4, .inl (cR, 16, .inl f4))]) (w1 := [(ho, .inl (cO, 1, .inr (.inl (vp_updL fo (Int32.toNatClampNeg 0) 0))))]) hP hD [0, 3, 18] [1, 2, 4, 5, 6, 7, 8, 9, 10, 11, 12, 13, 14, 15, 16, 17] rfl rfl (by decide) (by decide) hk1 hFc hP1 hD1
    generalize H1 = H at hP hS ⊢
    have hP : va_P D vwCl [(aJ, .inl (cJ, 5, .inr (.inr (.inr (.inr fJ))))), (j0, .inr (5, [.int 0, .int 0, .int 0, .int 0, .int 0, .ref c1, .ref c2, .int 0, .int 0, .int 0, .int 0, .ref c3, .int 0, .ref c4, .ref c5, .int 0])), (rX, .inr (6, [.int 7, .int 100, .int 800, .int 10])), (y0, .inr (8, [.int 0, .ref lH, .ref lB, .ref lJ, .ref aR, .ref aL, .int 0, .int 0, .int 0, .ref lC, .ref aM, .ref aP, .int 0, .int 0, .int 0, .int (-1), .int (-1), .int 0, .int 0, .long 0])), (lH, .inr (2, [.int 0, .ref eT, .int 0])), (lB, .inr (2, [.int 0, .ref eT, .int 0])), (lJ, .inr (2, [.int 0, .ref eT, .int 0])), (lC, .inr (2, [.int 0, .ref eT, .int 0])), (aR, .inl (cI, 4, .inl fR)), (aL, .inl (cL, 4, .inl fL)), (aM, .inl (cM, 5, .inr (.inr (.inr (.inr gM))))), (m0, .inl (cR, 16, .inl f0)), (m1, .inl (cR, 16, .inl f1)), (m2, .inl (cR, 16, .inl f2)), (m3, .inl (cR, 16, .inl f3)), (m4, .inl (cR, 16, .inl f4)), (ho, .inl (cO, 1, .inr (.inl (vp_updL fo (Int32.toNatClampNeg 0) 0))))] H := hP
    have hD : va_D (fun q : Nat => s.heap.size ≤ q) [(aJ, .inl (cJ, 5, .inr (.inr (.inr (.inr fJ))))), (j0, .inr (5, [.int 0, .int 0, .int 0, .int 0, .int 0, .ref c1, .ref c2, .int 0, .int 0, .int 0, .int 0, .ref c3, .int 0, .ref c4, .ref c5, .int 0])), (rX, .inr (6, [.int 7, .int 100, .int 800, .int 10])), (y0, .inr (8, [.int 0, .ref lH, .ref lB, .ref lJ, .ref aR, .ref aL, .int 0, .int 0, .int 0, .ref lC, .ref aM, .ref aP, .int 0, .int 0, .int 0, .int (-1), .int (-1), .int 0, .int 0, .long 0])), (lH, .inr (2, [.int 0, .ref eT, .int 0])), (lB, .inr (2, [.int 0, .ref eT, .int 0])), (lJ, .inr (2, [.int 0, .ref eT, .int 0])), (lC, .inr (2, [.int 0, .ref eT, .int 0])), (aR, .inl (cI, 4, .inl fR)), (aL, .inl (cL, 4, .inl fL)), (aM, .inl (cM, 5, .inr (.inr (.inr (.inr gM))))), (m0, .inl (cR, 16, .inl f0)), (m1, .inl (cR, 16, .inl f1)), (m2, .inl (cR, 16, .inl f2)), (m3, .inl (cR, 16, .inl f3)), (m4, .inl (cR, 16, .inl f4)), (ho, .inl (cO, 1, .inr (.inl (vp_updL fo (Int32.toNatClampNeg 0) 0))))] := hD
    refine lv_istore (lv' := [(5, .int 0), (0, .ref b), (1, .ref x0), (2, .ref y0), (3, .ref ho), (4, .int 0)]) hx hb dL_law_1541 hl (by decide) rfl (fun ls hl => ?_)
    refine lv_aload_n hx hb dL_law_1543 rfl (lv_at hl 3 rfl) ?_
    refine lv_aload_n hx hb dL_law_1544 rfl (lv_at hl 1 rfl) ?_
    refine lv_iload hx hb dL_law_1545 (lv_at hl 5 rfl) ?_
    refine lv_iconst (v := 1) hx hb dL_law_1547 (by decide) ?_
    refine lv_iadd hx hb dL_law_1548 ?_
    refine lv_topi (fun z_69 ez_69 => ?_)
    have ez_69 : z_69 = 1 := ez_69.trans (by decide +kernel)
    rw [ez_69]
    refine va_sld hx hb hX hbl hbA hS (show vp_in 1 7 from by unfold vp_in; decide +kernel) dL_law_1549 ?_
    refine lv_topi (fun z_70 ez_70 => ?_)
    have ez_70 : z_70 = 11 := ez_70.trans e1
    rw [ez_70]
    have hPc := hP.sub (ws' := [(y0, .inr (8, [.int 0, .ref lH, .ref lB, .ref lJ, .ref aR, .ref aL, .int 0, .int 0, .int 0, .ref lC, .ref aM, .ref aP, .int 0, .int 0, .int 0, .int (-1), .int (-1), .int 0, .int 0, .long 0])), (lB, .inr (2, [.int 0, .ref eT, .int 0])), (lH, .inr (2, [.int 0, .ref eT, .int 0])), (lJ, .inr (2, [.int 0, .ref eT, .int 0])), (aR, .inl (cI, 4, .inl fR))]) [3, 5, 4, 6, 8] rfl
    have hKc := hK.sub (tys' := [(cI, .int)]) [1] rfl
    have hDc := hD.sub (ws' := [(y0, .inr (8, [.int 0, .ref lH, .ref lB, .ref lJ, .ref aR, .ref aL, .int 0, .int 0, .int 0, .ref lC, .ref aM, .ref aP, .int 0, .int 0, .int 0, .int (-1), .int (-1), .int 0, .int 0, .long 0])), (lB, .inr (2, [.int 0, .ref eT, .int 0])), (lH, .inr (2, [.int 0, .ref eT, .int 0])), (lJ, .inr (2, [.int 0, .ref eT, .int 0])), (aR, .inl (cI, 4, .inl fR))]) [3, 5, 4, 6, 8] (by decide) rfl
    have hFc := va_free (wc := [(y0, .inr (8, [.int 0, .ref lH, .ref lB, .ref lJ, .ref aR, .ref aL, .int 0, .int 0, .int 0, .ref lC, .ref aM, .ref aP, .int 0, .int 0, .int 0, .int (-1), .int (-1), .int 0, .int 0, .long 0])), (lB, .inr (2, [.int 0, .ref eT, .int 0])), (lH, .inr (2, [.int 0, .ref eT, .int 0])), (lJ, .inr (2, [.int 0, .ref eT, .int 0])), (aR, .inl (cI, 4, .inl fR))]) hD hS hA [3, 5, 4, 6, 8] rfl
    refine va_calli (va_runV (As := [.int 11]) (rest := []) ⟨hx, hb, hml, hown, hts⟩ (r_many l D eT y0 lH lB lJ aR aL lC aM aP 0 cI fR 11 H.size hR (by decide) (by decide)) (cwV 1 hts gL_law_X5_many rfl rfl rfl (by decide +kernel) ⟨Nat.le_of_ble_eq_true rfl, Nat.le_of_ble_eq_true rfl⟩) (pc_v (ci := 8) (q0 := 0) rfl rfl hPc hDc hKc hE hS hFc) rfl rfl hl.1 rfl (lv_room (Nat.le_of_ble_eq_true rfl)) dL_law_1550 ⟨Nat.le_of_ble_eq_true rfl, Nat.le_of_ble_eq_true rfl⟩) hS (fun q _ h => hFc q h) hFc (fun r u t H1 locs ht hvm hw hB hz1 hk1 hS => ?_)
    have hw : r = 0 := hw.trans (by decide)
    rw [hw]
    obtain ⟨hP1, hK1, hD1⟩ := hB
    rw [ht] at hP1
    have hK1 := va_K.moved hvm.symm hK1
    obtain ⟨hP, hD⟩ := va_join (wr := [(aJ, .inl (cJ, 5, .inr (.inr (.inr (.inr fJ))))), (j0, .inr (5, [.int 0, .int 0, .int 0, .int 0, .int 0, .ref c1, .ref c2, .int 0, .int 0, .int 0, .int 0, .ref c3, .int 0, .ref c4, .ref c5, .int 0])), (rX, .inr (6, [.int 7, .int 100, .int 800, .int 10])), (lC, .inr (2, [.int 0, .ref eT, .int 0])), (aL, .inl (cL, 4, .inl fL)), (aM, .inl (cM, 5, .inr (.inr (.inr (.inr gM))))), (m0, .inl (cR, 16, .inl f0)), (m1, .inl (cR, 16, .inl f1)), (m2, .inl (cR, 16, .inl f2)), (m3, .inl (cR, 16, .inl f3)), (m4, .inl (cR, 16, .inl f4)), (ho, .inl (cO, 1, .inr (.inl (vp_updL fo (Int32.toNatClampNeg 0) 0))))]) (w1 := [(y0, .inr (8, [.int 0, .ref lH, .ref lB, .ref lJ, .ref aR, .ref aL, .int 0, .int 0, .int 0, .ref lC, .ref aM, .ref aP, .int 0, .int 0, .int 0, .int (-1), .int (-1), .int 0, .int 0, .long 0]))]) hP hD [3, 5, 4, 6, 8] [0, 1, 2, 7, 9, 10, 11, 12, 13, 14, 15, 16] rfl rfl (by decide) (by decide) hk1 hFc hP1 hD1
    generalize H1 = H at hP hS ⊢
    have hP : va_P D vwCl [(aJ, .inl (cJ, 5, .inr (.inr (.inr (.inr fJ))))), (j0, .inr (5, [.int 0, .int 0, .int 0, .int 0, .int 0, .ref c1, .ref c2, .int 0, .int 0, .int 0, .int 0, .ref c3, .int 0, .ref c4, .ref c5, .int 0])), (rX, .inr (6, [.int 7, .int 100, .int 800, .int 10])), (lC, .inr (2, [.int 0, .ref eT, .int 0])), (aL, .inl (cL, 4, .inl fL)), (aM, .inl (cM, 5, .inr (.inr (.inr (.inr gM))))), (m0, .inl (cR, 16, .inl f0)), (m1, .inl (cR, 16, .inl f1)), (m2, .inl (cR, 16, .inl f2)), (m3, .inl (cR, 16, .inl f3)), (m4, .inl (cR, 16, .inl f4)), (ho, .inl (cO, 1, .inr (.inl (vp_updL fo (Int32.toNatClampNeg 0) 0)))), (y0, .inr (8, [.int 0, .ref lH, .ref lB, .ref lJ, .ref aR, .ref aL, .int 0, .int 0, .int 0, .ref lC, .ref aM, .ref aP, .int 0, .int 0, .int 0, .int (-1), .int (-1), .int 0, .int 0, .long 0]))] H := hP
    have hD : va_D (fun q : Nat => s.heap.size ≤ q) [(aJ, .inl (cJ, 5, .inr (.inr (.inr (.inr fJ))))), (j0, .inr (5, [.int 0, .int 0, .int 0, .int 0, .int 0, .ref c1, .ref c2, .int 0, .int 0, .int 0, .int 0, .ref c3, .int 0, .ref c4, .ref c5, .int 0])), (rX, .inr (6, [.int 7, .int 100, .int 800, .int 10])), (lC, .inr (2, [.int 0, .ref eT, .int 0])), (aL, .inl (cL, 4, .inl fL)), (aM, .inl (cM, 5, .inr (.inr (.inr (.inr gM))))), (m0, .inl (cR, 16, .inl f0)), (m1, .inl (cR, 16, .inl f1)), (m2, .inl (cR, 16, .inl f2)), (m3, .inl (cR, 16, .inl f3)), (m4, .inl (cR, 16, .inl f4)), (ho, .inl (cO, 1, .inr (.inl (vp_updL fo (Int32.toNatClampNeg 0) 0)))), (y0, .inr (8, [.int 0, .ref lH, .ref lB, .ref lJ, .ref aR, .ref aL, .int 0, .int 0, .int 0, .ref lC, .ref aM, .ref aP, .int 0, .int 0, .int 0, .int (-1), .int (-1), .int 0, .int 0, .long 0]))] := hD
    refine W.widen (k := 83) (n := 922) (Nat.le_of_ble_eq_true rfl) (Nat.le_of_ble_eq_true rfl) ?_
    refine lv_istore (lv' := [(6, .int 0), (5, .int 0), (0, .ref b), (1, .ref x0), (2, .ref y0), (3, .ref ho), (4, .int 0)]) hx hb dL_law_1553 hl (by decide) rfl (fun ls hl => ?_)
    refine lv_aload_n hx hb dL_law_1555 rfl (lv_at hl 4 rfl) ?_
    have hPc := hP.sub (ws' := [(y0, .inr (8, [.int 0, .ref lH, .ref lB, .ref lJ, .ref aR, .ref aL, .int 0, .int 0, .int 0, .ref lC, .ref aM, .ref aP, .int 0, .int 0, .int 0, .int (-1), .int (-1), .int 0, .int 0, .long 0]))]) [12] rfl
    have hKc := hK.sub (tys' := []) [] rfl
    refine va_calli (va_runV (As := []) (rest := []) ⟨hx, hb, hml, hown, hts⟩ (r_thrown l D eT y0 lH lB lJ aR aL lC aM aP 0 0 0 H.size ) (cwV 0 hts gL_law_X5_thrown rfl rfl rfl (by decide +kernel) ⟨Nat.le_of_ble_eq_true rfl, Nat.le_of_ble_eq_true rfl⟩) (pr_v (ci := 8) (q0 := 0) rfl rfl hPc hKc hE hS hA) rfl rfl hl.1 rfl (lv_room (Nat.le_of_ble_eq_true rfl)) dL_law_1556 ⟨Nat.le_of_ble_eq_true rfl, Nat.le_of_ble_eq_true rfl⟩) hS (fun q h1 h2 => ro_A h1 h2) (fun q h => ro_F hS hA q h) (fun r u t H1 locs ht hvm hw hB hz1 hk1 hS => ?_)
    have hw : r = 0 := hw
    rw [hw]
    have hP := ro_P hP hk1
    generalize H1 = H at hP hS ⊢
    refine lv_iload hx hb dL_law_1559 (lv_at hl 1 rfl) ?_
    refine lv_icmp_eq (tgt := 1566) hx hb dL_law_1561 (by decide) (fun _ => ?_) (fun h => absurd (by decide) h)
    refine lv_iload hx hb dL_law_1566 (lv_at hl 1 rfl) ?_
    refine lv_if_ne (tgt := 1583) hx hb dL_law_1568 (by decide) (fun h => absurd (by decide) h) (fun _ => ?_)
    refine lv_aload_n hx hb dL_law_1571 rfl (lv_at hl 5 rfl) ?_
    refine lv_iconst (v := 0) hx hb dL_law_1572 (by decide) ?_
    refine va_lald hx hb hK hP 11 5 rfl rfl (by unfold vp_in; decide +kernel) dL_law_1573 ?_
    refine lv_topl (fun z_71 ez_71 => ?_)
    have ez_71 : z_71 = 0 := ez_71.trans pk_uLs
    rw [ez_71]
    refine lv_iload hx hb dL_law_1574 (lv_at hl 0 rfl) ?_
    refine lv_i2l (v := 0) hx hb dL_law_1576 (by decide) ?_
    refine W.lcmp hx hb dL_law_1577 ?_
    refine lv_topi (fun z_72 ez_72 => ?_)
    have ez_72 : z_72 = 0 := ez_72.trans (by decide +kernel)
    rw [ez_72]
    refine lv_if_eq (tgt := 1583) hx hb dL_law_1578 (by decide) (fun _ => ?_) (fun h => absurd (by decide) h)
    refine lv_goto (tgt := 1835) hx hb dL_law_1583 (by decide) ?_
    refine W.widen (k := 2000) (n := 20000) (Nat.le_of_ble_eq_true rfl) (Nat.le_of_ble_eq_true rfl) ?_
    exact kx _ _ _ hS (lv_sub hl [2, 3, 4, 5, 6] rfl)
  · skip
    refine lv_aload_n hx hb dL_law_1530 rfl (lv_at hl 1 rfl) ?_
    refine lv_aload_n hx hb dL_law_1531 rfl (lv_at hl 0 rfl) ?_
    refine lv_iload hx hb dL_law_1532 (lv_at hl 4 rfl) ?_
    refine lv_iconst (v := 1) hx hb dL_law_1534 (by decide) ?_
    refine lv_iadd hx hb dL_law_1535 ?_
    refine lv_topi (fun z_73 ez_73 => ?_)
    have ez_73 : z_73 = 1 := ez_73.trans (by decide +kernel)
    rw [ez_73]
    refine va_sld hx hb hX hbl hbA hS (show vp_in 1 7 from by unfold vp_in; decide +kernel) dL_law_1536 ?_
    refine lv_topi (fun z_74 ez_74 => ?_)
    have ez_74 : z_74 = 12 := ez_74.trans e1
    rw [ez_74]
    refine lv_aload_n hx hb dL_law_1537 rfl (lv_at hl 3 rfl) ?_
    have hPc := hP.sub (ws' := [(x0, .inr (7, [.ref aH, .ref aB, .ref aJ, .int 0, .int 0, .int 0, .ref rN, .ref rX, .int 0, .int 0, .int 0, .int 0, .int 0, .int 0, .int (-1), .int (-1), .int 0, .int 0, .ref aV])), (rN, .inr (6, [.int 7, .int 100, .int 800, .int 10])), (ho, .inl (cO, 1, .inr (.inl fo)))]) [0, 3, 18] rfl
    have hKc := hK.sub (tys' := [(cO, .long)]) [5] rfl
    have hDc := hD.sub (ws' := [(x0, .inr (7, [.ref aH, .ref aB, .ref aJ, .int 0, .int 0, .int 0, .ref rN, .ref rX, .int 0, .int 0, .int 0, .int 0, .int 0, .int 0, .int (-1), .int (-1), .int 0, .int 0, .ref aV])), (rN, .inr (6, [.int 7, .int 100, .int 800, .int 10])), (ho, .inl (cO, 1, .inr (.inl fo)))]) [0, 3, 18] (by decide) rfl
    have hFc := va_free (wc := [(x0, .inr (7, [.ref aH, .ref aB, .ref aJ, .int 0, .int 0, .int 0, .ref rN, .ref rX, .int 0, .int 0, .int 0, .int 0, .int 0, .int 0, .int (-1), .int (-1), .int 0, .int 0, .ref aV])), (rN, .inr (6, [.int 7, .int 100, .int 800, .int 10])), (ho, .inl (cO, 1, .inr (.inl fo)))]) hD hS hA [0, 3, 18] rfl
    refine va_calli (vx_runSW (As := [.ref x0, .int 12, .ref ho]) (rest := []) ⟨hx, hb, hml, hown, hts⟩ (w_many_12 l D eT x0 aH aB aJ rN rX aV ho cO fo H.size ) (vx_cwSW 3 hts gL_law_L_many rfl rfl rfl (by decide +kernel) ⟨Nat.le_of_ble_eq_true rfl, Nat.le_of_ble_eq_true rfl⟩) (pc_s hPc hDc hKc hE hS hFc) rfl rfl hl.1 rfl (lv_room (Nat.le_of_ble_eq_true rfl)) dL_law_1538 ⟨Nat.le_of_ble_eq_true rfl, Nat.le_of_ble_eq_true rfl⟩) hS (fun q _ h => hFc q h) hFc (fun r u t H1 locs ht hvm hw hB hz1 hk1 hS => ?_)
    have hw : r = 0 := hw
    rw [hw]
    obtain ⟨hP1, hK1, hD1⟩ := hB
    rw [ht] at hP1
    have hK1 := va_K.moved hvm.symm hK1
    obtain ⟨hP, hD⟩ := va_join (wr := [(aJ, .inl (cJ, 5, .inr (.inr (.inr (.inr fJ))))), (j0, .inr (5, [.int 0, .int 0, .int 0, .int 0, .int 0, .ref c1, .ref c2, .int 0, .int 0, .int 0, .int 0, .ref c3, .int 0, .ref c4, .ref c5, .int 0])), (rX, .inr (6, [.int 7, .int 100, .int 800, .int 10])), (y0, .inr (8, [.int 0, .ref lH, .ref lB, .ref lJ, .ref aR, .ref aL, .int 0, .int 0, .int 0, .ref lC, .ref aM, .ref aP, .int 0, .int 0, .int 0, .int (-1), .int (-1), .int 0, .int 0, .long 0])), (lH, .inr (2, [.int 0, .ref eT, .int 0])), (lB, .inr (2, [.int 0, .ref eT, .int 0])), (lJ, .inr (2, [.int 0, .ref eT, .int 0])), (lC, .inr (2, [.int 0, .ref eT, .int 0])), (aR, .inl (cI, 4, .inl fR)), (aL, .inl (cL, 4, .inl fL)), (aM, .inl (cM, 5, .inr (.inr (.inr (.inr gM))))), (m0, .inl (cR, 16, .inl f0)), (m1, .inl (cR, 16, .inl f1)), (m2, .inl (cR, 16, .inl f2)), (m3, .inl (cR, 16, .inl f3)), (m4, .inl (cR, 16, .inl f4))]) (w1 := [(ho, .inl (cO, 1, .inr (.inl (vp_updL fo (Int32.toNatClampNeg 0) 0))))]) hP hD [0, 3, 18] [1, 2, 4, 5, 6, 7, 8, 9, 10, 11, 12, 13, 14, 15, 16, 17] rfl rfl (by decide) (by decide) hk1 hFc hP1 hD1
    generalize H1 = H at hP hS ⊢
    have hP : va_P D vwCl [(aJ, .inl (cJ, 5, .inr (.inr (.inr (.inr fJ))))), (j0, .inr (5, [.int 0, .int 0, .int 0, .int 0, .int 0, .ref c1, .ref c2, .int 0, .int 0, .int 0, .int 0, .ref c3, .int 0, .ref c4, .ref c5, .int 0])), (rX, .inr (6, [.int 7, .int 100, .int 800, .int 10])), (y0, .inr (8, [.int 0, .ref lH, .ref lB, .ref lJ, .ref aR, .ref aL, .int 0, .int 0, .int 0, .ref lC, .ref aM, .ref aP, .int 0, .int 0, .int 0, .int (-1), .int (-1), .int 0, .int 0, .long 0])), (lH, .inr (2, [.int 0, .ref eT, .int 0])), (lB, .inr (2, [.int 0, .ref eT, .int 0])), (lJ, .inr (2, [.int 0, .ref eT, .int 0])), (lC, .inr (2, [.int 0, .ref eT, .int 0])), (aR, .inl (cI, 4, .inl fR)), (aL, .inl (cL, 4, .inl fL)), (aM, .inl (cM, 5, .inr (.inr (.inr (.inr gM))))), (m0, .inl (cR, 16, .inl f0)), (m1, .inl (cR, 16, .inl f1)), (m2, .inl (cR, 16, .inl f2)), (m3, .inl (cR, 16, .inl f3)), (m4, .inl (cR, 16, .inl f4)), (ho, .inl (cO, 1, .inr (.inl (vp_updL fo (Int32.toNatClampNeg 0) 0))))] H := hP
    have hD : va_D (fun q : Nat => s.heap.size ≤ q) [(aJ, .inl (cJ, 5, .inr (.inr (.inr (.inr fJ))))), (j0, .inr (5, [.int 0, .int 0, .int 0, .int 0, .int 0, .ref c1, .ref c2, .int 0, .int 0, .int 0, .int 0, .ref c3, .int 0, .ref c4, .ref c5, .int 0])), (rX, .inr (6, [.int 7, .int 100, .int 800, .int 10])), (y0, .inr (8, [.int 0, .ref lH, .ref lB, .ref lJ, .ref aR, .ref aL, .int 0, .int 0, .int 0, .ref lC, .ref aM, .ref aP, .int 0, .int 0, .int 0, .int (-1), .int (-1), .int 0, .int 0, .long 0])), (lH, .inr (2, [.int 0, .ref eT, .int 0])), (lB, .inr (2, [.int 0, .ref eT, .int 0])), (lJ, .inr (2, [.int 0, .ref eT, .int 0])), (lC, .inr (2, [.int 0, .ref eT, .int 0])), (aR, .inl (cI, 4, .inl fR)), (aL, .inl (cL, 4, .inl fL)), (aM, .inl (cM, 5, .inr (.inr (.inr (.inr gM))))), (m0, .inl (cR, 16, .inl f0)), (m1, .inl (cR, 16, .inl f1)), (m2, .inl (cR, 16, .inl f2)), (m3, .inl (cR, 16, .inl f3)), (m4, .inl (cR, 16, .inl f4)), (ho, .inl (cO, 1, .inr (.inl (vp_updL fo (Int32.toNatClampNeg 0) 0))))] := hD
    refine lv_istore (lv' := [(5, .int 0), (0, .ref b), (1, .ref x0), (2, .ref y0), (3, .ref ho), (4, .int 0)]) hx hb dL_law_1541 hl (by decide) rfl (fun ls hl => ?_)
    refine lv_aload_n hx hb dL_law_1543 rfl (lv_at hl 3 rfl) ?_
    refine lv_aload_n hx hb dL_law_1544 rfl (lv_at hl 1 rfl) ?_
    refine lv_iload hx hb dL_law_1545 (lv_at hl 5 rfl) ?_
    refine lv_iconst (v := 1) hx hb dL_law_1547 (by decide) ?_
    refine lv_iadd hx hb dL_law_1548 ?_
    refine lv_topi (fun z_75 ez_75 => ?_)
    have ez_75 : z_75 = 1 := ez_75.trans (by decide +kernel)
    rw [ez_75]
    refine va_sld hx hb hX hbl hbA hS (show vp_in 1 7 from by unfold vp_in; decide +kernel) dL_law_1549 ?_
    refine lv_topi (fun z_76 ez_76 => ?_)
    have ez_76 : z_76 = 12 := ez_76.trans e1
    rw [ez_76]
    have hPc := hP.sub (ws' := [(y0, .inr (8, [.int 0, .ref lH, .ref lB, .ref lJ, .ref aR, .ref aL, .int 0, .int 0, .int 0, .ref lC, .ref aM, .ref aP, .int 0, .int 0, .int 0, .int (-1), .int (-1), .int 0, .int 0, .long 0])), (lB, .inr (2, [.int 0, .ref eT, .int 0])), (lH, .inr (2, [.int 0, .ref eT, .int 0])), (lJ, .inr (2, [.int 0, .ref eT, .int 0])), (aR, .inl (cI, 4, .inl fR))]) [3, 5, 4, 6, 8] rfl
    have hKc := hK.sub (tys' := [(cI, .int)]) [1] rfl
    have hDc := hD.sub (ws' := [(y0, .inr (8, [.int 0, .ref lH, .ref lB, .ref lJ, .ref aR, .ref aL, .int 0, .int 0, .int 0, .ref lC, .ref aM, .ref aP, .int 0, .int 0, .int 0, .int (-1), .int (-1), .int 0, .int 0, .long 0])), (lB, .inr (2, [.int 0, .ref eT, .int 0])), (lH, .inr (2, [.int 0, .ref eT, .int 0])), (lJ, .inr (2, [.int 0, .ref eT, .int 0])), (aR, .inl (cI, 4, .inl fR))]) [3, 5, 4, 6, 8] (by decide) rfl
    have hFc := va_free (wc := [(y0, .inr (8, [.int 0, .ref lH, .ref lB, .ref lJ, .ref aR, .ref aL, .int 0, .int 0, .int 0, .ref lC, .ref aM, .ref aP, .int 0, .int 0, .int 0, .int (-1), .int (-1), .int 0, .int 0, .long 0])), (lB, .inr (2, [.int 0, .ref eT, .int 0])), (lH, .inr (2, [.int 0, .ref eT, .int 0])), (lJ, .inr (2, [.int 0, .ref eT, .int 0])), (aR, .inl (cI, 4, .inl fR))]) hD hS hA [3, 5, 4, 6, 8] rfl
    refine va_calli (va_runV (As := [.int 12]) (rest := []) ⟨hx, hb, hml, hown, hts⟩ (r_many l D eT y0 lH lB lJ aR aL lC aM aP 0 cI fR 12 H.size hR (by decide) (by decide)) (cwV 1 hts gL_law_X5_many rfl rfl rfl (by decide +kernel) ⟨Nat.le_of_ble_eq_true rfl, Nat.le_of_ble_eq_true rfl⟩) (pc_v (ci := 8) (q0 := 0) rfl rfl hPc hDc hKc hE hS hFc) rfl rfl hl.1 rfl (lv_room (Nat.le_of_ble_eq_true rfl)) dL_law_1550 ⟨Nat.le_of_ble_eq_true rfl, Nat.le_of_ble_eq_true rfl⟩) hS (fun q _ h => hFc q h) hFc (fun r u t H1 locs ht hvm hw hB hz1 hk1 hS => ?_)
    have hw : r = 0 := hw.trans (by decide)
    rw [hw]
    obtain ⟨hP1, hK1, hD1⟩ := hB
    rw [ht] at hP1
    have hK1 := va_K.moved hvm.symm hK1
    obtain ⟨hP, hD⟩ := va_join (wr := [(aJ, .inl (cJ, 5, .inr (.inr (.inr (.inr fJ))))), (j0, .inr (5, [.int 0, .int 0, .int 0, .int 0, .int 0, .ref c1, .ref c2, .int 0, .int 0, .int 0, .int 0, .ref c3, .int 0, .ref c4, .ref c5, .int 0])), (rX, .inr (6, [.int 7, .int 100, .int 800, .int 10])), (lC, .inr (2, [.int 0, .ref eT, .int 0])), (aL, .inl (cL, 4, .inl fL)), (aM, .inl (cM, 5, .inr (.inr (.inr (.inr gM))))), (m0, .inl (cR, 16, .inl f0)), (m1, .inl (cR, 16, .inl f1)), (m2, .inl (cR, 16, .inl f2)), (m3, .inl (cR, 16, .inl f3)), (m4, .inl (cR, 16, .inl f4)), (ho, .inl (cO, 1, .inr (.inl (vp_updL fo (Int32.toNatClampNeg 0) 0))))]) (w1 := [(y0, .inr (8, [.int 0, .ref lH, .ref lB, .ref lJ, .ref aR, .ref aL, .int 0, .int 0, .int 0, .ref lC, .ref aM, .ref aP, .int 0, .int 0, .int 0, .int (-1), .int (-1), .int 0, .int 0, .long 0]))]) hP hD [3, 5, 4, 6, 8] [0, 1, 2, 7, 9, 10, 11, 12, 13, 14, 15, 16] rfl rfl (by decide) (by decide) hk1 hFc hP1 hD1
    generalize H1 = H at hP hS ⊢
    have hP : va_P D vwCl [(aJ, .inl (cJ, 5, .inr (.inr (.inr (.inr fJ))))), (j0, .inr (5, [.int 0, .int 0, .int 0, .int 0, .int 0, .ref c1, .ref c2, .int 0, .int 0, .int 0, .int 0, .ref c3, .int 0, .ref c4, .ref c5, .int 0])), (rX, .inr (6, [.int 7, .int 100, .int 800, .int 10])), (lC, .inr (2, [.int 0, .ref eT, .int 0])), (aL, .inl (cL, 4, .inl fL)), (aM, .inl (cM, 5, .inr (.inr (.inr (.inr gM))))), (m0, .inl (cR, 16, .inl f0)), (m1, .inl (cR, 16, .inl f1)), (m2, .inl (cR, 16, .inl f2)), (m3, .inl (cR, 16, .inl f3)), (m4, .inl (cR, 16, .inl f4)), (ho, .inl (cO, 1, .inr (.inl (vp_updL fo (Int32.toNatClampNeg 0) 0)))), (y0, .inr (8, [.int 0, .ref lH, .ref lB, .ref lJ, .ref aR, .ref aL, .int 0, .int 0, .int 0, .ref lC, .ref aM, .ref aP, .int 0, .int 0, .int 0, .int (-1), .int (-1), .int 0, .int 0, .long 0]))] H := hP
    have hD : va_D (fun q : Nat => s.heap.size ≤ q) [(aJ, .inl (cJ, 5, .inr (.inr (.inr (.inr fJ))))), (j0, .inr (5, [.int 0, .int 0, .int 0, .int 0, .int 0, .ref c1, .ref c2, .int 0, .int 0, .int 0, .int 0, .ref c3, .int 0, .ref c4, .ref c5, .int 0])), (rX, .inr (6, [.int 7, .int 100, .int 800, .int 10])), (lC, .inr (2, [.int 0, .ref eT, .int 0])), (aL, .inl (cL, 4, .inl fL)), (aM, .inl (cM, 5, .inr (.inr (.inr (.inr gM))))), (m0, .inl (cR, 16, .inl f0)), (m1, .inl (cR, 16, .inl f1)), (m2, .inl (cR, 16, .inl f2)), (m3, .inl (cR, 16, .inl f3)), (m4, .inl (cR, 16, .inl f4)), (ho, .inl (cO, 1, .inr (.inl (vp_updL fo (Int32.toNatClampNeg 0) 0)))), (y0, .inr (8, [.int 0, .ref lH, .ref lB, .ref lJ, .ref aR, .ref aL, .int 0, .int 0, .int 0, .ref lC, .ref aM, .ref aP, .int 0, .int 0, .int 0, .int (-1), .int (-1), .int 0, .int 0, .long 0]))] := hD
    refine W.widen (k := 83) (n := 922) (Nat.le_of_ble_eq_true rfl) (Nat.le_of_ble_eq_true rfl) ?_
    refine lv_istore (lv' := [(6, .int 0), (5, .int 0), (0, .ref b), (1, .ref x0), (2, .ref y0), (3, .ref ho), (4, .int 0)]) hx hb dL_law_1553 hl (by decide) rfl (fun ls hl => ?_)
    refine lv_aload_n hx hb dL_law_1555 rfl (lv_at hl 4 rfl) ?_
    have hPc := hP.sub (ws' := [(y0, .inr (8, [.int 0, .ref lH, .ref lB, .ref lJ, .ref aR, .ref aL, .int 0, .int 0, .int 0, .ref lC, .ref aM, .ref aP, .int 0, .int 0, .int 0, .int (-1), .int (-1), .int 0, .int 0, .long 0]))]) [12] rfl
    have hKc := hK.sub (tys' := []) [] rfl
    refine va_calli (va_runV (As := []) (rest := []) ⟨hx, hb, hml, hown, hts⟩ (r_thrown l D eT y0 lH lB lJ aR aL lC aM aP 0 0 0 H.size ) (cwV 0 hts gL_law_X5_thrown rfl rfl rfl (by decide +kernel) ⟨Nat.le_of_ble_eq_true rfl, Nat.le_of_ble_eq_true rfl⟩) (pr_v (ci := 8) (q0 := 0) rfl rfl hPc hKc hE hS hA) rfl rfl hl.1 rfl (lv_room (Nat.le_of_ble_eq_true rfl)) dL_law_1556 ⟨Nat.le_of_ble_eq_true rfl, Nat.le_of_ble_eq_true rfl⟩) hS (fun q h1 h2 => ro_A h1 h2) (fun q h => ro_F hS hA q h) (fun r u t H1 locs ht hvm hw hB hz1 hk1 hS => ?_)
    have hw : r = 0 := hw
    rw [hw]
    have hP := ro_P hP hk1
    generalize H1 = H at hP hS ⊢
    refine lv_iload hx hb dL_law_1559 (lv_at hl 1 rfl) ?_
    refine lv_icmp_eq (tgt := 1566) hx hb dL_law_1561 (by decide) (fun _ => ?_) (fun h => absurd (by decide) h)
    refine lv_iload hx hb dL_law_1566 (lv_at hl 1 rfl) ?_
    refine lv_if_ne (tgt := 1583) hx hb dL_law_1568 (by decide) (fun h => absurd (by decide) h) (fun _ => ?_)
    refine lv_aload_n hx hb dL_law_1571 rfl (lv_at hl 5 rfl) ?_
    refine lv_iconst (v := 0) hx hb dL_law_1572 (by decide) ?_
    refine va_lald hx hb hK hP 11 5 rfl rfl (by unfold vp_in; decide +kernel) dL_law_1573 ?_
    refine lv_topl (fun z_77 ez_77 => ?_)
    have ez_77 : z_77 = 0 := ez_77.trans pk_uLs
    rw [ez_77]
    refine lv_iload hx hb dL_law_1574 (lv_at hl 0 rfl) ?_
    refine lv_i2l (v := 0) hx hb dL_law_1576 (by decide) ?_
    refine W.lcmp hx hb dL_law_1577 ?_
    refine lv_topi (fun z_78 ez_78 => ?_)
    have ez_78 : z_78 = 0 := ez_78.trans (by decide +kernel)
    rw [ez_78]
    refine lv_if_eq (tgt := 1583) hx hb dL_law_1578 (by decide) (fun _ => ?_) (fun h => absurd (by decide) h)
    refine lv_goto (tgt := 1835) hx hb dL_law_1583 (by decide) ?_
    refine W.widen (k := 2000) (n := 20000) (Nat.le_of_ble_eq_true rfl) (Nat.le_of_ble_eq_true rfl) ?_
    exact kx _ _ _ hS (lv_sub hl [2, 3, 4, 5, 6] rfl)
  · skip
    refine lv_aload_n hx hb dL_law_1530 rfl (lv_at hl 1 rfl) ?_
    refine lv_aload_n hx hb dL_law_1531 rfl (lv_at hl 0 rfl) ?_
    refine lv_iload hx hb dL_law_1532 (lv_at hl 4 rfl) ?_
    refine lv_iconst (v := 1) hx hb dL_law_1534 (by decide) ?_
    refine lv_iadd hx hb dL_law_1535 ?_
    refine lv_topi (fun z_79 ez_79 => ?_)
    have ez_79 : z_79 = 1 := ez_79.trans (by decide +kernel)
    rw [ez_79]
    refine va_sld hx hb hX hbl hbA hS (show vp_in 1 7 from by unfold vp_in; decide +kernel) dL_law_1536 ?_
    refine lv_topi (fun z_80 ez_80 => ?_)
    have ez_80 : z_80 = 13 := ez_80.trans e1
    rw [ez_80]
    refine lv_aload_n hx hb dL_law_1537 rfl (lv_at hl 3 rfl) ?_
    have hPc := hP.sub (ws' := [(x0, .inr (7, [.ref aH, .ref aB, .ref aJ, .int 0, .int 0, .int 0, .ref rN, .ref rX, .int 0, .int 0, .int 0, .int 0, .int 0, .int 0, .int (-1), .int (-1), .int 0, .int 0, .ref aV])), (rN, .inr (6, [.int 7, .int 100, .int 800, .int 10])), (ho, .inl (cO, 1, .inr (.inl fo)))]) [0, 3, 18] rfl
    have hKc := hK.sub (tys' := [(cO, .long)]) [5] rfl
    have hDc := hD.sub (ws' := [(x0, .inr (7, [.ref aH, .ref aB, .ref aJ, .int 0, .int 0, .int 0, .ref rN, .ref rX, .int 0, .int 0, .int 0, .int 0, .int 0, .int 0, .int (-1), .int (-1), .int 0, .int 0, .ref aV])), (rN, .inr (6, [.int 7, .int 100, .int 800, .int 10])), (ho, .inl (cO, 1, .inr (.inl fo)))]) [0, 3, 18] (by decide) rfl
    have hFc := va_free (wc := [(x0, .inr (7, [.ref aH, .ref aB, .ref aJ, .int 0, .int 0, .int 0, .ref rN, .ref rX, .int 0, .int 0, .int 0, .int 0, .int 0, .int 0, .int (-1), .int (-1), .int 0, .int 0, .ref aV])), (rN, .inr (6, [.int 7, .int 100, .int 800, .int 10])), (ho, .inl (cO, 1, .inr (.inl fo)))]) hD hS hA [0, 3, 18] rfl
    refine va_calli (vx_runSW (As := [.ref x0, .int 13, .ref ho]) (rest := []) ⟨hx, hb, hml, hown, hts⟩ (w_many_13 l D eT x0 aH aB aJ rN rX aV ho cO fo H.size ) (vx_cwSW 3 hts gL_law_L_many rfl rfl rfl (by decide +kernel) ⟨Nat.le_of_ble_eq_true rfl, Nat.le_of_ble_eq_true rfl⟩) (pc_s hPc hDc hKc hE hS hFc) rfl rfl hl.1 rfl (lv_room (Nat.le_of_ble_eq_true rfl)) dL_law_1538 ⟨Nat.le_of_ble_eq_true rfl, Nat.le_of_ble_eq_true rfl⟩) hS (fun q _ h => hFc q h) hFc (fun r u t H1 locs ht hvm hw hB hz1 hk1 hS => ?_)
    have hw : r = 0 := hw
    rw [hw]
    obtain ⟨hP1, hK1, hD1⟩ := hB
    rw [ht] at hP1
    have hK1 := va_K.moved hvm.symm hK1
    obtain ⟨hP, hD⟩ := va_join (wr := [(aJ, .inl (cJ, 5, .inr (.inr (.inr (.inr fJ))))), (j0, .inr (5, [.int 0, .int 0, .int 0, .int 0, .int 0, .ref c1, .ref c2, .int 0, .int 0, .int 0, .int 0, .ref c3, .int 0, .ref c4, .ref c5, .int 0])), (rX, .inr (6, [.int 7, .int 100, .int 800, .int 10])), (y0, .inr (8, [.int 0, .ref lH, .ref lB, .ref lJ, .ref aR, .ref aL, .int 0, .int 0, .int 0, .ref lC, .ref aM, .ref aP, .int 0, .int 0, .int 0, .int (-1), .int (-1), .int 0, .int 0, .long 0])), (lH, .inr (2, [.int 0, .ref eT, .int 0])), (lB, .inr (2, [.int 0, .ref eT, .int 0])), (lJ, .inr (2, [.int 0, .ref eT, .int 0])), (lC, .inr (2, [.int 0, .ref eT, .int 0])), (aR, .inl (cI, 4, .inl fR)), (aL, .inl (cL, 4, .inl fL)), (aM, .inl (cM, 5, .inr (.inr (.inr (.inr gM))))), (m0, .inl (cR, 16, .inl f0)), (m1, .inl (cR, 16, .inl f1)), (m2, .inl (cR, 16, .inl f2)), (m3, .inl (cR, 16, .inl f3)), (m4, .inl (cR, 16, .inl f4))]) (w1 := [(ho, .inl (cO, 1, .inr (.inl (vp_updL fo (Int32.toNatClampNeg 0) 0))))]) hP hD [0, 3, 18] [1, 2, 4, 5, 6, 7, 8, 9, 10, 11, 12, 13, 14, 15, 16, 17] rfl rfl (by decide) (by decide) hk1 hFc hP1 hD1
    generalize H1 = H at hP hS ⊢
    have hP : va_P D vwCl [(aJ, .inl (cJ, 5, .inr (.inr (.inr (.inr fJ))))), (j0, .inr (5, [.int 0, .int 0, .int 0, .int 0, .int 0, .ref c1, .ref c2, .int 0, .int 0, .int 0, .int 0, .ref c3, .int 0, .ref c4, .ref c5, .int 0])), (rX, .inr (6, [.int 7, .int 100, .int 800, .int 10])), (y0, .inr (8, [.int 0, .ref lH, .ref lB, .ref lJ, .ref aR, .ref aL, .int 0, .int 0, .int 0, .ref lC, .ref aM, .ref aP, .int 0, .int 0, .int 0, .int (-1), .int (-1), .int 0, .int 0, .long 0])), (lH, .inr (2, [.int 0, .ref eT, .int 0])), (lB, .inr (2, [.int 0, .ref eT, .int 0])), (lJ, .inr (2, [.int 0, .ref eT, .int 0])), (lC, .inr (2, [.int 0, .ref eT, .int 0])), (aR, .inl (cI, 4, .inl fR)), (aL, .inl (cL, 4, .inl fL)), (aM, .inl (cM, 5, .inr (.inr (.inr (.inr gM))))), (m0, .inl (cR, 16, .inl f0)), (m1, .inl (cR, 16, .inl f1)), (m2, .inl (cR, 16, .inl f2)), (m3, .inl (cR, 16, .inl f3)), (m4, .inl (cR, 16, .inl f4)), (ho, .inl (cO, 1, .inr (.inl (vp_updL fo (Int32.toNatClampNeg 0) 0))))] H := hP
    have hD : va_D (fun q : Nat => s.heap.size ≤ q) [(aJ, .inl (cJ, 5, .inr (.inr (.inr (.inr fJ))))), (j0, .inr (5, [.int 0, .int 0, .int 0, .int 0, .int 0, .ref c1, .ref c2, .int 0, .int 0, .int 0, .int 0, .ref c3, .int 0, .ref c4, .ref c5, .int 0])), (rX, .inr (6, [.int 7, .int 100, .int 800, .int 10])), (y0, .inr (8, [.int 0, .ref lH, .ref lB, .ref lJ, .ref aR, .ref aL, .int 0, .int 0, .int 0, .ref lC, .ref aM, .ref aP, .int 0, .int 0, .int 0, .int (-1), .int (-1), .int 0, .int 0, .long 0])), (lH, .inr (2, [.int 0, .ref eT, .int 0])), (lB, .inr (2, [.int 0, .ref eT, .int 0])), (lJ, .inr (2, [.int 0, .ref eT, .int 0])), (lC, .inr (2, [.int 0, .ref eT, .int 0])), (aR, .inl (cI, 4, .inl fR)), (aL, .inl (cL, 4, .inl fL)), (aM, .inl (cM, 5, .inr (.inr (.inr (.inr gM))))), (m0, .inl (cR, 16, .inl f0)), (m1, .inl (cR, 16, .inl f1)), (m2, .inl (cR, 16, .inl f2)), (m3, .inl (cR, 16, .inl f3)), (m4, .inl (cR, 16, .inl f4)), (ho, .inl (cO, 1, .inr (.inl (vp_updL fo (Int32.toNatClampNeg 0) 0))))] := hD
    refine lv_istore (lv' := [(5, .int 0), (0, .ref b), (1, .ref x0), (2, .ref y0), (3, .ref ho), (4, .int 0)]) hx hb dL_law_1541 hl (by decide) rfl (fun ls hl => ?_)
    refine lv_aload_n hx hb dL_law_1543 rfl (lv_at hl 3 rfl) ?_
    refine lv_aload_n hx hb dL_law_1544 rfl (lv_at hl 1 rfl) ?_
    refine lv_iload hx hb dL_law_1545 (lv_at hl 5 rfl) ?_
    refine lv_iconst (v := 1) hx hb dL_law_1547 (by decide) ?_
    refine lv_iadd hx hb dL_law_1548 ?_
    refine lv_topi (fun z_81 ez_81 => ?_)
    have ez_81 : z_81 = 1 := ez_81.trans (by decide +kernel)
    rw [ez_81]
    refine va_sld hx hb hX hbl hbA hS (show vp_in 1 7 from by unfold vp_in; decide +kernel) dL_law_1549 ?_
    refine lv_topi (fun z_82 ez_82 => ?_)
    have ez_82 : z_82 = 13 := ez_82.trans e1
    rw [ez_82]
    have hPc := hP.sub (ws' := [(y0, .inr (8, [.int 0, .ref lH, .ref lB, .ref lJ, .ref aR, .ref aL, .int 0, .int 0, .int 0, .ref lC, .ref aM, .ref aP, .int 0, .int 0, .int 0, .int (-1), .int (-1), .int 0, .int 0, .long 0])), (lB, .inr (2, [.int 0, .ref eT, .int 0])), (lH, .inr (2, [.int 0, .ref eT, .int 0])), (lJ, .inr (2, [.int 0, .ref eT, .int 0])), (aR, .inl (cI, 4, .inl fR))]) [3, 5, 4, 6, 8] rfl
    have hKc := hK.sub (tys' := [(cI, .int)]) [1] rfl
    have hDc := hD.sub (ws' := [(y0, .inr (8, [.int 0, .ref lH, .ref lB, .ref lJ, .ref aR, .ref aL, .int 0, .int 0, .int 0, .ref lC, .ref aM, .ref aP, .int 0, .int 0, .int 0, .int (-1), .int (-1), .int 0, .int 0, .long 0])), (lB, .inr (2, [.int 0, .ref eT, .int 0])), (lH, .inr (2, [.int 0, .ref eT, .int 0])), (lJ, .inr (2, [.int 0, .ref eT, .int 0])), (aR, .inl (cI, 4, .inl fR))]) [3, 5, 4, 6, 8] (by decide) rfl
    have hFc := va_free (wc := [(y0, .inr (8, [.int 0, .ref lH, .ref lB, .ref lJ, .ref aR, .ref aL, .int 0, .int 0, .int 0, .ref lC, .ref aM, .ref aP, .int 0, .int 0, .int 0, .int (-1), .int (-1), .int 0, .int 0, .long 0])), (lB, .inr (2, [.int 0, .ref eT, .int 0])), (lH, .inr (2, [.int 0, .ref eT, .int 0])), (lJ, .inr (2, [.int 0, .ref eT, .int 0])), (aR, .inl (cI, 4, .inl fR))]) hD hS hA [3, 5, 4, 6, 8] rfl
    refine va_calli (va_runV (As := [.int 13]) (rest := []) ⟨hx, hb, hml, hown, hts⟩ (r_many l D eT y0 lH lB lJ aR aL lC aM aP 0 cI fR 13 H.size hR (by decide) (by decide)) (cwV 1 hts gL_law_X5_many rfl rfl rfl (by decide +kernel) ⟨Nat.le_of_ble_eq_true rfl, Nat.le_of_ble_eq_true rfl⟩) (pc_v (ci := 8) (q0 := 0) rfl rfl hPc hDc hKc hE hS hFc) rfl rfl hl.1 rfl (lv_room (Nat.le_of_ble_eq_true rfl)) dL_law_1550 ⟨Nat.le_of_ble_eq_true rfl, Nat.le_of_ble_eq_true rfl⟩) hS (fun q _ h => hFc q h) hFc (fun r u t H1 locs ht hvm hw hB hz1 hk1 hS => ?_)
    have hw : r = 0 := hw.trans (by decide)
    rw [hw]
    obtain ⟨hP1, hK1, hD1⟩ := hB
    rw [ht] at hP1
    have hK1 := va_K.moved hvm.symm hK1
    obtain ⟨hP, hD⟩ := va_join (wr := [(aJ, .inl (cJ, 5, .inr (.inr (.inr (.inr fJ))))), (j0, .inr (5, [.int 0, .int 0, .int 0, .int 0, .int 0, .ref c1, .ref c2, .int 0, .int 0, .int 0, .int 0, .ref c3, .int 0, .ref c4, .ref c5, .int 0])), (rX, .inr (6, [.int 7, .int 100, .int 800, .int 10])), (lC, .inr (2, [.int 0, .ref eT, .int 0])), (aL, .inl (cL, 4, .inl fL)), (aM, .inl (cM, 5, .inr (.inr (.inr (.inr gM))))), (m0, .inl (cR, 16, .inl f0)), (m1, .inl (cR, 16, .inl f1)), (m2, .inl (cR, 16, .inl f2)), (m3, .inl (cR, 16, .inl f3)), (m4, .inl (cR, 16, .inl f4)), (ho, .inl (cO, 1, .inr (.inl (vp_updL fo (Int32.toNatClampNeg 0) 0))))]) (w1 := [(y0, .inr (8, [.int 0, .ref lH, .ref lB, .ref lJ, .ref aR, .ref aL, .int 0, .int 0, .int 0, .ref lC, .ref aM, .ref aP, .int 0, .int 0, .int 0, .int (-1), .int (-1), .int 0, .int 0, .long 0]))]) hP hD [3, 5, 4, 6, 8] [0, 1, 2, 7, 9, 10, 11, 12, 13, 14, 15, 16] rfl rfl (by decide) (by decide) hk1 hFc hP1 hD1
    generalize H1 = H at hP hS ⊢
    have hP : va_P D vwCl [(aJ, .inl (cJ, 5, .inr (.inr (.inr (.inr fJ))))), (j0, .inr (5, [.int 0, .int 0, .int 0, .int 0, .int 0, .ref c1, .ref c2, .int 0, .int 0, .int 0, .int 0, .ref c3, .int 0, .ref c4, .ref c5, .int 0])), (rX, .inr (6, [.int 7, .int 100, .int 800, .int 10])), (lC, .inr (2, [.int 0, .ref eT, .int 0])), (aL, .inl (cL, 4, .inl fL)), (aM, .inl (cM, 5, .inr (.inr (.inr (.inr gM))))), (m0, .inl (cR, 16, .inl f0)), (m1, .inl (cR, 16, .inl f1)), (m2, .inl (cR, 16, .inl f2)), (m3, .inl (cR, 16, .inl f3)), (m4, .inl (cR, 16, .inl f4)), (ho, .inl (cO, 1, .inr (.inl (vp_updL fo (Int32.toNatClampNeg 0) 0)))), (y0, .inr (8, [.int 0, .ref lH, .ref lB, .ref lJ, .ref aR, .ref aL, .int 0, .int 0, .int 0, .ref lC, .ref aM, .ref aP, .int 0, .int 0, .int 0, .int (-1), .int (-1), .int 0, .int 0, .long 0]))] H := hP
    have hD : va_D (fun q : Nat => s.heap.size ≤ q) [(aJ, .inl (cJ, 5, .inr (.inr (.inr (.inr fJ))))), (j0, .inr (5, [.int 0, .int 0, .int 0, .int 0, .int 0, .ref c1, .ref c2, .int 0, .int 0, .int 0, .int 0, .ref c3, .int 0, .ref c4, .ref c5, .int 0])), (rX, .inr (6, [.int 7, .int 100, .int 800, .int 10])), (lC, .inr (2, [.int 0, .ref eT, .int 0])), (aL, .inl (cL, 4, .inl fL)), (aM, .inl (cM, 5, .inr (.inr (.inr (.inr gM))))), (m0, .inl (cR, 16, .inl f0)), (m1, .inl (cR, 16, .inl f1)), (m2, .inl (cR, 16, .inl f2)), (m3, .inl (cR, 16, .inl f3)), (m4, .inl (cR, 16, .inl f4)), (ho, .inl (cO, 1, .inr (.inl (vp_updL fo (Int32.toNatClampNeg 0) 0)))), (y0, .inr (8, [.int 0, .ref lH, .ref lB, .ref lJ, .ref aR, .ref aL, .int 0, .int 0, .int 0, .ref lC, .ref aM, .ref aP, .int 0, .int 0, .int 0, .int (-1), .int (-1), .int 0, .int 0, .long 0]))] := hD
    refine W.widen (k := 83) (n := 922) (Nat.le_of_ble_eq_true rfl) (Nat.le_of_ble_eq_true rfl) ?_
    refine lv_istore (lv' := [(6, .int 0), (5, .int 0), (0, .ref b), (1, .ref x0), (2, .ref y0), (3, .ref ho), (4, .int 0)]) hx hb dL_law_1553 hl (by decide) rfl (fun ls hl => ?_)
    refine lv_aload_n hx hb dL_law_1555 rfl (lv_at hl 4 rfl) ?_
    have hPc := hP.sub (ws' := [(y0, .inr (8, [.int 0, .ref lH, .ref lB, .ref lJ, .ref aR, .ref aL, .int 0, .int 0, .int 0, .ref lC, .ref aM, .ref aP, .int 0, .int 0, .int 0, .int (-1), .int (-1), .int 0, .int 0, .long 0]))]) [12] rfl
    have hKc := hK.sub (tys' := []) [] rfl
    refine va_calli (va_runV (As := []) (rest := []) ⟨hx, hb, hml, hown, hts⟩ (r_thrown l D eT y0 lH lB lJ aR aL lC aM aP 0 0 0 H.size ) (cwV 0 hts gL_law_X5_thrown rfl rfl rfl (by decide +kernel) ⟨Nat.le_of_ble_eq_true rfl, Nat.le_of_ble_eq_true rfl⟩) (pr_v (ci := 8) (q0 := 0) rfl rfl hPc hKc hE hS hA) rfl rfl hl.1 rfl (lv_room (Nat.le_of_ble_eq_true rfl)) dL_law_1556 ⟨Nat.le_of_ble_eq_true rfl, Nat.le_of_ble_eq_true rfl⟩) hS (fun q h1 h2 => ro_A h1 h2) (fun q h => ro_F hS hA q h) (fun r u t H1 locs ht hvm hw hB hz1 hk1 hS => ?_)
    have hw : r = 0 := hw
    rw [hw]
    have hP := ro_P hP hk1
    generalize H1 = H at hP hS ⊢
    refine lv_iload hx hb dL_law_1559 (lv_at hl 1 rfl) ?_
    refine lv_icmp_eq (tgt := 1566) hx hb dL_law_1561 (by decide) (fun _ => ?_) (fun h => absurd (by decide) h)
    refine lv_iload hx hb dL_law_1566 (lv_at hl 1 rfl) ?_
    refine lv_if_ne (tgt := 1583) hx hb dL_law_1568 (by decide) (fun h => absurd (by decide) h) (fun _ => ?_)
    refine lv_aload_n hx hb dL_law_1571 rfl (lv_at hl 5 rfl) ?_
    refine lv_iconst (v := 0) hx hb dL_law_1572 (by decide) ?_
    refine va_lald hx hb hK hP 11 5 rfl rfl (by unfold vp_in; decide +kernel) dL_law_1573 ?_
    refine lv_topl (fun z_83 ez_83 => ?_)
    have ez_83 : z_83 = 0 := ez_83.trans pk_uLs
    rw [ez_83]
    refine lv_iload hx hb dL_law_1574 (lv_at hl 0 rfl) ?_
    refine lv_i2l (v := 0) hx hb dL_law_1576 (by decide) ?_
    refine W.lcmp hx hb dL_law_1577 ?_
    refine lv_topi (fun z_84 ez_84 => ?_)
    have ez_84 : z_84 = 0 := ez_84.trans (by decide +kernel)
    rw [ez_84]
    refine lv_if_eq (tgt := 1583) hx hb dL_law_1578 (by decide) (fun _ => ?_) (fun h => absurd (by decide) h)
    refine lv_goto (tgt := 1835) hx hb dL_law_1583 (by decide) ?_
    refine W.widen (k := 2000) (n := 20000) (Nat.le_of_ble_eq_true rfl) (Nat.le_of_ble_eq_true rfl) ?_
    exact kx _ _ _ hS (lv_sub hl [2, 3, 4, 5, 6] rfl)
  · skip
    refine lv_aload_n hx hb dL_law_1530 rfl (lv_at hl 1 rfl) ?_
    refine lv_aload_n hx hb dL_law_1531 rfl (lv_at hl 0 rfl) ?_
    refine lv_iload hx hb dL_law_1532 (lv_at hl 4 rfl) ?_
    refine lv_iconst (v := 1) hx hb dL_law_1534 (by decide) ?_
    refine lv_iadd hx hb dL_law_1535 ?_
    refine lv_topi (fun z_85 ez_85 => ?_)
    have ez_85 : z_85 = 1 := ez_85.trans (by decide +kernel)
    rw [ez_85]
    refine va_sld hx hb hX hbl hbA hS (show vp_in 1 7 from by unfold vp_in; decide +kernel) dL_law_1536 ?_
    refine lv_topi (fun z_86 ez_86 => ?_)
    have ez_86 : z_86 = 14 := ez_86.trans e1
    rw [ez_86]
    refine lv_aload_n hx hb dL_law_1537 rfl (lv_at hl 3 rfl) ?_
    have hPc := hP.sub (ws' := [(x0, .inr (7, [.ref aH, .ref aB, .ref aJ, .int 0, .int 0, .int 0, .ref rN, .ref rX, .int 0, .int 0, .int 0, .int 0, .int 0, .int 0, .int (-1), .int (-1), .int 0, .int 0, .ref aV])), (rN, .inr (6, [.int 7, .int 100, .int 800, .int 10])), (ho, .inl (cO, 1, .inr (.inl fo)))]) [0, 3, 18] rfl
    have hKc := hK.sub (tys' := [(cO, .long)]) [5] rfl
    have hDc := hD.sub (ws' := [(x0, .inr (7, [.ref aH, .ref aB, .ref aJ, .int 0, .int 0, .int 0, .ref rN, .ref rX, .int 0, .int 0, .int 0, .int 0, .int 0, .int 0, .int (-1), .int (-1), .int 0, .int 0, .ref aV])), (rN, .inr (6, [.int 7, .int 100, .int 800, .int 10])), (ho, .inl (cO, 1, .inr (.inl fo)))]) [0, 3, 18] (by decide) rfl
    have hFc := va_free (wc := [(x0, .inr (7, [.ref aH, .ref aB, .ref aJ, .int 0, .int 0, .int 0, .ref rN, .ref rX, .int 0, .int 0, .int 0, .int 0, .int 0, .int 0, .int (-1), .int (-1), .int 0, .int 0, .ref aV])), (rN, .inr (6, [.int 7, .int 100, .int 800, .int 10])), (ho, .inl (cO, 1, .inr (.inl fo)))]) hD hS hA [0, 3, 18] rfl
    refine va_calli (vx_runSW (As := [.ref x0, .int 14, .ref ho]) (rest := []) ⟨hx, hb, hml, hown, hts⟩ (w_many_14 l D eT x0 aH aB aJ rN rX aV ho cO fo H.size ) (vx_cwSW 3 hts gL_law_L_many rfl rfl rfl (by decide +kernel) ⟨Nat.le_of_ble_eq_true rfl, Nat.le_of_ble_eq_true rfl⟩) (pc_s hPc hDc hKc hE hS hFc) rfl rfl hl.1 rfl (lv_room (Nat.le_of_ble_eq_true rfl)) dL_law_1538 ⟨Nat.le_of_ble_eq_true rfl, Nat.le_of_ble_eq_true rfl⟩) hS (fun q _ h => hFc q h) hFc (fun r u t H1 locs ht hvm hw hB hz1 hk1 hS => ?_)
    have hw : r = 0 := hw
    rw [hw]
    obtain ⟨hP1, hK1, hD1⟩ := hB
    rw [ht] at hP1
    have hK1 := va_K.moved hvm.symm hK1
    obtain ⟨hP, hD⟩ := va_join (wr := [(aJ, .inl (cJ, 5, .inr (.inr (.inr (.inr fJ))))), (j0, .inr (5, [.int 0, .int 0, .int 0, .int 0, .int 0, .ref c1, .ref c2, .int 0, .int 0, .int 0, .int 0, .ref c3, .int 0, .ref c4, .ref c5, .int 0])), (rX, .inr (6, [.int 7, .int 100, .int 800, .int 10])), (y0, .inr (8, [.int 0, .ref lH, .ref lB, .ref lJ, .ref aR, .ref aL, .int 0, .int 0, .int 0, .ref lC, .ref aM, .ref aP, .int 0, .int 0, .int 0, .int (-1), .int (-1), .int 0, .int 0, .long 0])), (lH, .inr (2, [.int 0, .ref eT, .int 0])), (lB, .inr (2, [.int 0, .ref eT, .int 0])), (lJ, .inr (2, [.int 0, .ref eT, .int 0])), (lC, .inr (2, [.int 0, .ref eT, .int 0])), (aR, .inl (cI, 4, .inl fR)), (aL, .inl (cL, 4, .inl fL)), (aM, .inl (cM, 5, .inr (.inr (.inr (.inr gM))))), (m0, .inl (cR, 16, .inl f0)), (m1, .inl (cR, 16, .inl f1)), (m2, .inl (cR, 16, .inl f2)), (m3, .inl (cR, 16, .inl f3)), (m4, .inl (cR, 16, .inl f4))]) (w1 := [(ho, .inl (cO, 1, .inr (.inl (vp_updL fo (Int32.toNatClampNeg 0) 10))))]) hP hD [0, 3, 18] [1, 2, 4, 5, 6, 7, 8, 9, 10, 11, 12, 13, 14, 15, 16, 17] rfl rfl (by decide) (by decide) hk1 hFc hP1 hD1
    generalize H1 = H at hP hS ⊢
    have hP : va_P D vwCl [(aJ, .inl (cJ, 5, .inr (.inr (.inr (.inr fJ))))), (j0, .inr (5, [.int 0, .int 0, .int 0, .int 0, .int 0, .ref c1, .ref c2, .int 0, .int 0, .int 0, .int 0, .ref c3, .int 0, .ref c4, .ref c5, .int 0])), (rX, .inr (6, [.int 7, .int 100, .int 800, .int 10])), (y0, .inr (8, [.int 0, .ref lH, .ref lB, .ref lJ, .ref aR, .ref aL, .int 0, .int 0, .int 0, .ref lC, .ref aM, .ref aP, .int 0, .int 0, .int 0, .int (-1), .int (-1), .int 0, .int 0, .long 0])), (lH, .inr (2, [.int 0, .ref eT, .int 0])), (lB, .inr (2, [.int 0, .ref eT, .int 0])), (lJ, .inr (2, [.int 0, .ref eT, .int 0])), (lC, .inr (2, [.int 0, .ref eT, .int 0])), (aR, .inl (cI, 4, .inl fR)), (aL, .inl (cL, 4, .inl fL)), (aM, .inl (cM, 5, .inr (.inr (.inr (.inr gM))))), (m0, .inl (cR, 16, .inl f0)), (m1, .inl (cR, 16, .inl f1)), (m2, .inl (cR, 16, .inl f2)), (m3, .inl (cR, 16, .inl f3)), (m4, .inl (cR, 16, .inl f4)), (ho, .inl (cO, 1, .inr (.inl (vp_updL fo (Int32.toNatClampNeg 0) 10))))] H := hP
    have hD : va_D (fun q : Nat => s.heap.size ≤ q) [(aJ, .inl (cJ, 5, .inr (.inr (.inr (.inr fJ))))), (j0, .inr (5, [.int 0, .int 0, .int 0, .int 0, .int 0, .ref c1, .ref c2, .int 0, .int 0, .int 0, .int 0, .ref c3, .int 0, .ref c4, .ref c5, .int 0])), (rX, .inr (6, [.int 7, .int 100, .int 800, .int 10])), (y0, .inr (8, [.int 0, .ref lH, .ref lB, .ref lJ, .ref aR, .ref aL, .int 0, .int 0, .int 0, .ref lC, .ref aM, .ref aP, .int 0, .int 0, .int 0, .int (-1), .int (-1), .int 0, .int 0, .long 0])), (lH, .inr (2, [.int 0, .ref eT, .int 0])), (lB, .inr (2, [.int 0, .ref eT, .int 0])), (lJ, .inr (2, [.int 0, .ref eT, .int 0])), (lC, .inr (2, [.int 0, .ref eT, .int 0])), (aR, .inl (cI, 4, .inl fR)), (aL, .inl (cL, 4, .inl fL)), (aM, .inl (cM, 5, .inr (.inr (.inr (.inr gM))))), (m0, .inl (cR, 16, .inl f0)), (m1, .inl (cR, 16, .inl f1)), (m2, .inl (cR, 16, .inl f2)), (m3, .inl (cR, 16, .inl f3)), (m4, .inl (cR, 16, .inl f4)), (ho, .inl (cO, 1, .inr (.inl (vp_updL fo (Int32.toNatClampNeg 0) 10))))] := hD
    refine lv_istore (lv' := [(5, .int 0), (0, .ref b), (1, .ref x0), (2, .ref y0), (3, .ref ho), (4, .int 0)]) hx hb dL_law_1541 hl (by decide) rfl (fun ls hl => ?_)
    refine lv_aload_n hx hb dL_law_1543 rfl (lv_at hl 3 rfl) ?_
    refine lv_aload_n hx hb dL_law_1544 rfl (lv_at hl 1 rfl) ?_
    refine lv_iload hx hb dL_law_1545 (lv_at hl 5 rfl) ?_
    refine lv_iconst (v := 1) hx hb dL_law_1547 (by decide) ?_
    refine lv_iadd hx hb dL_law_1548 ?_
    refine lv_topi (fun z_87 ez_87 => ?_)
    have ez_87 : z_87 = 1 := ez_87.trans (by decide +kernel)
    rw [ez_87]
    refine va_sld hx hb hX hbl hbA hS (show vp_in 1 7 from by unfold vp_in; decide +kernel) dL_law_1549 ?_
    refine lv_topi (fun z_88 ez_88 => ?_)
    have ez_88 : z_88 = 14 := ez_88.trans e1
    rw [ez_88]
    have hPc := hP.sub (ws' := [(y0, .inr (8, [.int 0, .ref lH, .ref lB, .ref lJ, .ref aR, .ref aL, .int 0, .int 0, .int 0, .ref lC, .ref aM, .ref aP, .int 0, .int 0, .int 0, .int (-1), .int (-1), .int 0, .int 0, .long 0])), (lB, .inr (2, [.int 0, .ref eT, .int 0])), (lH, .inr (2, [.int 0, .ref eT, .int 0])), (lJ, .inr (2, [.int 0, .ref eT, .int 0])), (aR, .inl (cI, 4, .inl fR))]) [3, 5, 4, 6, 8] rfl
    have hKc := hK.sub (tys' := [(cI, .int)]) [1] rfl
    have hDc := hD.sub (ws' := [(y0, .inr (8, [.int 0, .ref lH, .ref lB, .ref lJ, .ref aR, .ref aL, .int 0, .int 0, .int 0, .ref lC, .ref aM, .ref aP, .int 0, .int 0, .int 0, .int (-1), .int (-1), .int 0, .int 0, .long 0])), (lB, .inr (2, [.int 0, .ref eT, .int 0])), (lH, .inr (2, [.int 0, .ref eT, .int 0])), (lJ, .inr (2, [.int 0, .ref eT, .int 0])), (aR, .inl (cI, 4, .inl fR))]) [3, 5, 4, 6, 8] (by decide) rfl
    have hFc := va_free (wc := [(y0, .inr (8, [.int 0, .ref lH, .ref lB, .ref lJ, .ref aR, .ref aL, .int 0, .int 0, .int 0, .ref lC, .ref aM, .ref aP, .int 0, .int 0, .int 0, .int (-1), .int (-1), .int 0, .int 0, .long 0])), (lB, .inr (2, [.int 0, .ref eT, .int 0])), (lH, .inr (2, [.int 0, .ref eT, .int 0])), (lJ, .inr (2, [.int 0, .ref eT, .int 0])), (aR, .inl (cI, 4, .inl fR))]) hD hS hA [3, 5, 4, 6, 8] rfl
    refine va_calli (va_runV (As := [.int 14]) (rest := []) ⟨hx, hb, hml, hown, hts⟩ (r_many l D eT y0 lH lB lJ aR aL lC aM aP 0 cI fR 14 H.size hR (by decide) (by decide)) (cwV 1 hts gL_law_X5_many rfl rfl rfl (by decide +kernel) ⟨Nat.le_of_ble_eq_true rfl, Nat.le_of_ble_eq_true rfl⟩) (pc_v (ci := 8) (q0 := 0) rfl rfl hPc hDc hKc hE hS hFc) rfl rfl hl.1 rfl (lv_room (Nat.le_of_ble_eq_true rfl)) dL_law_1550 ⟨Nat.le_of_ble_eq_true rfl, Nat.le_of_ble_eq_true rfl⟩) hS (fun q _ h => hFc q h) hFc (fun r u t H1 locs ht hvm hw hB hz1 hk1 hS => ?_)
    have hw : r = 10 := hw.trans (by decide)
    rw [hw]
    obtain ⟨hP1, hK1, hD1⟩ := hB
    rw [ht] at hP1
    have hK1 := va_K.moved hvm.symm hK1
    obtain ⟨hP, hD⟩ := va_join (wr := [(aJ, .inl (cJ, 5, .inr (.inr (.inr (.inr fJ))))), (j0, .inr (5, [.int 0, .int 0, .int 0, .int 0, .int 0, .ref c1, .ref c2, .int 0, .int 0, .int 0, .int 0, .ref c3, .int 0, .ref c4, .ref c5, .int 0])), (rX, .inr (6, [.int 7, .int 100, .int 800, .int 10])), (lC, .inr (2, [.int 0, .ref eT, .int 0])), (aL, .inl (cL, 4, .inl fL)), (aM, .inl (cM, 5, .inr (.inr (.inr (.inr gM))))), (m0, .inl (cR, 16, .inl f0)), (m1, .inl (cR, 16, .inl f1)), (m2, .inl (cR, 16, .inl f2)), (m3, .inl (cR, 16, .inl f3)), (m4, .inl (cR, 16, .inl f4)), (ho, .inl (cO, 1, .inr (.inl (vp_updL fo (Int32.toNatClampNeg 0) 10))))]) (w1 := [(y0, .inr (8, [.int 0, .ref lH, .ref lB, .ref lJ, .ref aR, .ref aL, .int 0, .int 0, .int 0, .ref lC, .ref aM, .ref aP, .int 0, .int 0, .int 0, .int (-1), .int (-1), .int 0, .int 0, .long 0]))]) hP hD [3, 5, 4, 6, 8] [0, 1, 2, 7, 9, 10, 11, 12, 13, 14, 15, 16] rfl rfl (by decide) (by decide) hk1 hFc hP1 hD1
    generalize H1 = H at hP hS ⊢
    have hP : va_P D vwCl [(aJ, .inl (cJ, 5, .inr (.inr (.inr (.inr fJ))))), (j0, .inr (5, [.int 0, .int 0, .int 0, .int 0, .int 0, .ref c1, .ref c2, .int 0, .int 0, .int 0, .int 0, .ref c3, .int 0, .ref c4, .ref c5, .int 0])), (rX, .inr (6, [.int 7, .int 100, .int 800, .int 10])), (lC, .inr (2, [.int 0, .ref eT, .int 0])), (aL, .inl (cL, 4, .inl fL)), (aM, .inl (cM, 5, .inr (.inr (.inr (.inr gM))))), (m0, .inl (cR, 16, .inl f0)), (m1, .inl (cR, 16, .inl f1)), (m2, .inl (cR, 16, .inl f2)), (m3, .inl (cR, 16, .inl f3)), (m4, .inl (cR, 16, .inl f4)), (ho, .inl (cO, 1, .inr (.inl (vp_updL fo (Int32.toNatClampNeg 0) 10)))), (y0, .inr (8, [.int 0, .ref lH, .ref lB, .ref lJ, .ref aR, .ref aL, .int 0, .int 0, .int 0, .ref lC, .ref aM, .ref aP, .int 0, .int 0, .int 0, .int (-1), .int (-1), .int 0, .int 0, .long 0]))] H := hP
    have hD : va_D (fun q : Nat => s.heap.size ≤ q) [(aJ, .inl (cJ, 5, .inr (.inr (.inr (.inr fJ))))), (j0, .inr (5, [.int 0, .int 0, .int 0, .int 0, .int 0, .ref c1, .ref c2, .int 0, .int 0, .int 0, .int 0, .ref c3, .int 0, .ref c4, .ref c5, .int 0])), (rX, .inr (6, [.int 7, .int 100, .int 800, .int 10])), (lC, .inr (2, [.int 0, .ref eT, .int 0])), (aL, .inl (cL, 4, .inl fL)), (aM, .inl (cM, 5, .inr (.inr (.inr (.inr gM))))), (m0, .inl (cR, 16, .inl f0)), (m1, .inl (cR, 16, .inl f1)), (m2, .inl (cR, 16, .inl f2)), (m3, .inl (cR, 16, .inl f3)), (m4, .inl (cR, 16, .inl f4)), (ho, .inl (cO, 1, .inr (.inl (vp_updL fo (Int32.toNatClampNeg 0) 10)))), (y0, .inr (8, [.int 0, .ref lH, .ref lB, .ref lJ, .ref aR, .ref aL, .int 0, .int 0, .int 0, .ref lC, .ref aM, .ref aP, .int 0, .int 0, .int 0, .int (-1), .int (-1), .int 0, .int 0, .long 0]))] := hD
    refine W.widen (k := 83) (n := 922) (Nat.le_of_ble_eq_true rfl) (Nat.le_of_ble_eq_true rfl) ?_
    refine lv_istore (lv' := [(6, .int 10), (5, .int 0), (0, .ref b), (1, .ref x0), (2, .ref y0), (3, .ref ho), (4, .int 0)]) hx hb dL_law_1553 hl (by decide) rfl (fun ls hl => ?_)
    refine lv_aload_n hx hb dL_law_1555 rfl (lv_at hl 4 rfl) ?_
    have hPc := hP.sub (ws' := [(y0, .inr (8, [.int 0, .ref lH, .ref lB, .ref lJ, .ref aR, .ref aL, .int 0, .int 0, .int 0, .ref lC, .ref aM, .ref aP, .int 0, .int 0, .int 0, .int (-1), .int (-1), .int 0, .int 0, .long 0]))]) [12] rfl
    have hKc := hK.sub (tys' := []) [] rfl
    refine va_calli (va_runV (As := []) (rest := []) ⟨hx, hb, hml, hown, hts⟩ (r_thrown l D eT y0 lH lB lJ aR aL lC aM aP 0 0 0 H.size ) (cwV 0 hts gL_law_X5_thrown rfl rfl rfl (by decide +kernel) ⟨Nat.le_of_ble_eq_true rfl, Nat.le_of_ble_eq_true rfl⟩) (pr_v (ci := 8) (q0 := 0) rfl rfl hPc hKc hE hS hA) rfl rfl hl.1 rfl (lv_room (Nat.le_of_ble_eq_true rfl)) dL_law_1556 ⟨Nat.le_of_ble_eq_true rfl, Nat.le_of_ble_eq_true rfl⟩) hS (fun q h1 h2 => ro_A h1 h2) (fun q h => ro_F hS hA q h) (fun r u t H1 locs ht hvm hw hB hz1 hk1 hS => ?_)
    have hw : r = 0 := hw
    rw [hw]
    have hP := ro_P hP hk1
    generalize H1 = H at hP hS ⊢
    refine lv_iload hx hb dL_law_1559 (lv_at hl 1 rfl) ?_
    refine lv_icmp_eq (tgt := 1566) hx hb dL_law_1561 (by decide) (fun _ => ?_) (fun h => absurd (by decide) h)
    refine lv_iload hx hb dL_law_1566 (lv_at hl 1 rfl) ?_
    refine lv_if_ne (tgt := 1583) hx hb dL_law_1568 (by decide) (fun h => absurd (by decide) h) (fun _ => ?_)
    refine lv_aload_n hx hb dL_law_1571 rfl (lv_at hl 5 rfl) ?_
    refine lv_iconst (v := 0) hx hb dL_law_1572 (by decide) ?_
    refine va_lald hx hb hK hP 11 5 rfl rfl (by unfold vp_in; decide +kernel) dL_law_1573 ?_
    refine lv_topl (fun z_89 ez_89 => ?_)
    have ez_89 : z_89 = 10 := ez_89.trans pk_uLs
    rw [ez_89]
    refine lv_iload hx hb dL_law_1574 (lv_at hl 0 rfl) ?_
    refine lv_i2l (v := 10) hx hb dL_law_1576 (by decide) ?_
    refine W.lcmp hx hb dL_law_1577 ?_
    refine lv_topi (fun z_90 ez_90 => ?_)
    have ez_90 : z_90 = 0 := ez_90.trans (by decide +kernel)
    rw [ez_90]
    refine lv_if_eq (tgt := 1583) hx hb dL_law_1578 (by decide) (fun _ => ?_) (fun h => absurd (by decide) h)
    refine lv_goto (tgt := 1835) hx hb dL_law_1583 (by decide) ?_
    refine W.widen (k := 2000) (n := 20000) (Nat.le_of_ble_eq_true rfl) (Nat.le_of_ble_eq_true rfl) ?_
    exact kx _ _ _ hS (lv_sub hl [2, 3, 4, 5, 6] rfl)
  · obtain ⟨hn1, hn2⟩ := hn
    refine lv_aload_n hx hb dL_law_1530 rfl (lv_at hl 1 rfl) ?_
    refine lv_aload_n hx hb dL_law_1531 rfl (lv_at hl 0 rfl) ?_
    refine lv_iload hx hb dL_law_1532 (lv_at hl 4 rfl) ?_
    refine lv_iconst (v := 1) hx hb dL_law_1534 (by decide) ?_
    refine lv_iadd hx hb dL_law_1535 ?_
    refine lv_topi (fun z_91 ez_91 => ?_)
    have ez_91 : z_91 = 1 := ez_91.trans (by decide +kernel)
    rw [ez_91]
    refine va_sld hx hb hX hbl hbA hS (show vp_in 1 7 from by unfold vp_in; decide +kernel) dL_law_1536 ?_
    refine lv_topi (fun z_92 ez_92 => ?_)
    have ez_92 : z_92 = (xs 1) := ez_92
    rw [ez_92]
    refine lv_aload_n hx hb dL_law_1537 rfl (lv_at hl 3 rfl) ?_
    have hPc := hP.sub (ws' := [(x0, .inr (7, [.ref aH, .ref aB, .ref aJ, .int 0, .int 0, .int 0, .ref rN, .ref rX, .int 0, .int 0, .int 0, .int 0, .int 0, .int 0, .int (-1), .int (-1), .int 0, .int 0, .ref aV])), (ho, .inl (cO, 1, .inr (.inl fo)))]) [0, 18] rfl
    have hKc := hK.sub (tys' := [(cO, .long)]) [5] rfl
    have hDc := hD.sub (ws' := [(x0, .inr (7, [.ref aH, .ref aB, .ref aJ, .int 0, .int 0, .int 0, .ref rN, .ref rX, .int 0, .int 0, .int 0, .int 0, .int 0, .int 0, .int (-1), .int (-1), .int 0, .int 0, .ref aV])), (ho, .inl (cO, 1, .inr (.inl fo)))]) [0, 18] (by decide) rfl
    have hFc := va_free (wc := [(x0, .inr (7, [.ref aH, .ref aB, .ref aJ, .int 0, .int 0, .int 0, .ref rN, .ref rX, .int 0, .int 0, .int 0, .int 0, .int 0, .int 0, .int (-1), .int (-1), .int 0, .int 0, .ref aV])), (ho, .inl (cO, 1, .inr (.inl fo)))]) hD hS hA [0, 18] rfl
    refine va_calli (vx_runSW (As := [.ref x0, .int (xs 1), .ref ho]) (rest := []) ⟨hx, hb, hml, hown, hts⟩ (w_many_f l hl0 D eT x0 aH aB aJ rN rX aV ho cO fo (xs 1) H.size hn1) (vx_cwSW 3 hts gL_law_L_many rfl rfl rfl (by decide +kernel) ⟨Nat.le_of_ble_eq_true rfl, Nat.le_of_ble_eq_true rfl⟩) (pc_s hPc hDc hKc hE hS hFc) rfl rfl hl.1 rfl (lv_room (Nat.le_of_ble_eq_true rfl)) dL_law_1538 ⟨Nat.le_of_ble_eq_true rfl, Nat.le_of_ble_eq_true rfl⟩) hS (fun q _ h => hFc q h) hFc (fun r u t H1 locs ht hvm hw hB hz1 hk1 hS => ?_)
    have hw : r = 1 := hw
    rw [hw]
    obtain ⟨hP1, hK1, hD1⟩ := hB
    rw [ht] at hP1
    have hK1 := va_K.moved hvm.symm hK1
    obtain ⟨hP, hD⟩ := va_join (wr := [(aJ, .inl (cJ, 5, .inr (.inr (.inr (.inr fJ))))), (j0, .inr (5, [.int 0, .int 0, .int 0, .int 0, .int 0, .ref c1, .ref c2, .int 0, .int 0, .int 0, .int 0, .ref c3, .int 0, .ref c4, .ref c5, .int 0])), (rN, .inr (6, [.int 7, .int 100, .int 800, .int 10])), (rX, .inr (6, [.int 7, .int 100, .int 800, .int 10])), (y0, .inr (8, [.int 0, .ref lH, .ref lB, .ref lJ, .ref aR, .ref aL, .int 0, .int 0, .int 0, .ref lC, .ref aM, .ref aP, .int 0, .int 0, .int 0, .int (-1), .int (-1), .int 0, .int 0, .long 0])), (lH, .inr (2, [.int 0, .ref eT, .int 0])), (lB, .inr (2, [.int 0, .ref eT, .int 0])), (lJ, .inr (2, [.int 0, .ref eT, .int 0])), (lC, .inr (2, [.int 0, .ref eT, .int 0])), (aR, .inl (cI, 4, .inl fR)), (aL, .inl (cL, 4, .inl fL)), (aM, .inl (cM, 5, .inr (.inr (.inr (.inr gM))))), (m0, .inl (cR, 16, .inl f0)), (m1, .inl (cR, 16, .inl f1)), (m2, .inl (cR, 16, .inl f2)), (m3, .inl (cR, 16, .inl f3)), (m4, .inl (cR, 16, .inl f4))]) (w1 := [(ho, .inl (cO, 1, .inr (.inl fo)))]) hP hD [0, 18] [1, 2, 3, 4, 5, 6, 7, 8, 9, 10, 11, 12, 13, 14, 15, 16, 17] rfl rfl (by decide) (by decide) hk1 hFc hP1 hD1
    generalize H1 = H at hP hS ⊢
    have hP : va_P D vwCl [(aJ, .inl (cJ, 5, .inr (.inr (.inr (.inr fJ))))), (j0, .inr (5, [.int 0, .int 0, .int 0, .int 0, .int 0, .ref c1, .ref c2, .int 0, .int 0, .int 0, .int 0, .ref c3, .int 0, .ref c4, .ref c5, .int 0])), (rN, .inr (6, [.int 7, .int 100, .int 800, .int 10])), (rX, .inr (6, [.int 7, .int 100, .int 800, .int 10])), (y0, .inr (8, [.int 0, .ref lH, .ref lB, .ref lJ, .ref aR, .ref aL, .int 0, .int 0, .int 0, .ref lC, .ref aM, .ref aP, .int 0, .int 0, .int 0, .int (-1), .int (-1), .int 0, .int 0, .long 0])), (lH, .inr (2, [.int 0, .ref eT, .int 0])), (lB, .inr (2, [.int 0, .ref eT, .int 0])), (lJ, .inr (2, [.int 0, .ref eT, .int 0])), (lC, .inr (2, [.int 0, .ref eT, .int 0])), (aR, .inl (cI, 4, .inl fR)), (aL, .inl (cL, 4, .inl fL)), (aM, .inl (cM, 5, .inr (.inr (.inr (.inr gM))))), (m0, .inl (cR, 16, .inl f0)), (m1, .inl (cR, 16, .inl f1)), (m2, .inl (cR, 16, .inl f2)), (m3, .inl (cR, 16, .inl f3)), (m4, .inl (cR, 16, .inl f4)), (ho, .inl (cO, 1, .inr (.inl fo)))] H := hP
    have hD : va_D (fun q : Nat => s.heap.size ≤ q) [(aJ, .inl (cJ, 5, .inr (.inr (.inr (.inr fJ))))), (j0, .inr (5, [.int 0, .int 0, .int 0, .int 0, .int 0, .ref c1, .ref c2, .int 0, .int 0, .int 0, .int 0, .ref c3, .int 0, .ref c4, .ref c5, .int 0])), (rN, .inr (6, [.int 7, .int 100, .int 800, .int 10])), (rX, .inr (6, [.int 7, .int 100, .int 800, .int 10])), (y0, .inr (8, [.int 0, .ref lH, .ref lB, .ref lJ, .ref aR, .ref aL, .int 0, .int 0, .int 0, .ref lC, .ref aM, .ref aP, .int 0, .int 0, .int 0, .int (-1), .int (-1), .int 0, .int 0, .long 0])), (lH, .inr (2, [.int 0, .ref eT, .int 0])), (lB, .inr (2, [.int 0, .ref eT, .int 0])), (lJ, .inr (2, [.int 0, .ref eT, .int 0])), (lC, .inr (2, [.int 0, .ref eT, .int 0])), (aR, .inl (cI, 4, .inl fR)), (aL, .inl (cL, 4, .inl fL)), (aM, .inl (cM, 5, .inr (.inr (.inr (.inr gM))))), (m0, .inl (cR, 16, .inl f0)), (m1, .inl (cR, 16, .inl f1)), (m2, .inl (cR, 16, .inl f2)), (m3, .inl (cR, 16, .inl f3)), (m4, .inl (cR, 16, .inl f4)), (ho, .inl (cO, 1, .inr (.inl fo)))] := hD
    refine W.widen (k := 82) (n := 909) (Nat.le_of_ble_eq_true rfl) (Nat.le_of_ble_eq_true rfl) ?_
    refine lv_istore (lv' := [(5, .int 1), (0, .ref b), (1, .ref x0), (2, .ref y0), (3, .ref ho), (4, .int 0)]) hx hb dL_law_1541 hl (by decide) rfl (fun ls hl => ?_)
    refine lv_aload_n hx hb dL_law_1543 rfl (lv_at hl 3 rfl) ?_
    refine lv_aload_n hx hb dL_law_1544 rfl (lv_at hl 1 rfl) ?_
    refine lv_iload hx hb dL_law_1545 (lv_at hl 5 rfl) ?_
    refine lv_iconst (v := 1) hx hb dL_law_1547 (by decide) ?_
    refine lv_iadd hx hb dL_law_1548 ?_
    refine lv_topi (fun z_93 ez_93 => ?_)
    have ez_93 : z_93 = 1 := ez_93.trans (by decide +kernel)
    rw [ez_93]
    refine va_sld hx hb hX hbl hbA hS (show vp_in 1 7 from by unfold vp_in; decide +kernel) dL_law_1549 ?_
    refine lv_topi (fun z_94 ez_94 => ?_)
    have ez_94 : z_94 = (xs 1) := ez_94
    rw [ez_94]
    have hPc := hP.sub (ws' := [(y0, .inr (8, [.int 0, .ref lH, .ref lB, .ref lJ, .ref aR, .ref aL, .int 0, .int 0, .int 0, .ref lC, .ref aM, .ref aP, .int 0, .int 0, .int 0, .int (-1), .int (-1), .int 0, .int 0, .long 0]))]) [4] rfl
    have hKc := hK.sub (tys' := []) [] rfl
    have hDc := hD.sub (ws' := [(y0, .inr (8, [.int 0, .ref lH, .ref lB, .ref lJ, .ref aR, .ref aL, .int 0, .int 0, .int 0, .ref lC, .ref aM, .ref aP, .int 0, .int 0, .int 0, .int (-1), .int (-1), .int 0, .int 0, .long 0]))]) [4] (by decide) rfl
    have hFc := va_free (wc := [(y0, .inr (8, [.int 0, .ref lH, .ref lB, .ref lJ, .ref aR, .ref aL, .int 0, .int 0, .int 0, .ref lC, .ref aM, .ref aP, .int 0, .int 0, .int 0, .int (-1), .int (-1), .int 0, .int 0, .long 0]))]) hD hS hA [4] rfl
    refine va_calli (va_runV (As := [.int (xs 1)]) (rest := []) ⟨hx, hb, hml, hown, hts⟩ (r_many_f l D eT y0 lH lB lJ aR aL lC aM aP 0 (xs 1) H.size hn2) (cwV 1 hts gL_law_X5_many rfl rfl rfl (by decide +kernel) ⟨Nat.le_of_ble_eq_true rfl, Nat.le_of_ble_eq_true rfl⟩) (pc_v (ci := 8) (q0 := 0) rfl rfl hPc hDc hKc hE hS hFc) rfl rfl hl.1 rfl (lv_room (Nat.le_of_ble_eq_true rfl)) dL_law_1550 ⟨Nat.le_of_ble_eq_true rfl, Nat.le_of_ble_eq_true rfl⟩) hS (fun q _ h => hFc q h) hFc (fun r u t H1 locs ht hvm hw hB hz1 hk1 hS => ?_)
    have hw : r = 0 := hw
    rw [hw]
    obtain ⟨hP1, hK1, hD1⟩ := hB
    rw [ht] at hP1
    have hK1 := va_K.moved hvm.symm hK1
    obtain ⟨hP, hD⟩ := va_join (wr := [(aJ, .inl (cJ, 5, .inr (.inr (.inr (.inr fJ))))), (j0, .inr (5, [.int 0, .int 0, .int 0, .int 0, .int 0, .ref c1, .ref c2, .int 0, .int 0, .int 0, .int 0, .ref c3, .int 0, .ref c4, .ref c5, .int 0])), (rN, .inr (6, [.int 7, .int 100, .int 800, .int 10])), (rX, .inr (6, [.int 7, .int 100, .int 800, .int 10])), (lH, .inr (2, [.int 0, .ref eT, .int 0])), (lB, .inr (2, [.int 0, .ref eT, .int 0])), (lJ, .inr (2, [.int 0, .ref eT, .int 0])), (lC, .inr (2, [.int 0, .ref eT, .int 0])), (aR, .inl (cI, 4, .inl fR)), (aL, .inl (cL, 4, .inl fL)), (aM, .inl (cM, 5, .inr (.inr (.inr (.inr gM))))), (m0, .inl (cR, 16, .inl f0)), (m1, .inl (cR, 16, .inl f1)), (m2, .inl (cR, 16, .inl f2)), (m3, .inl (cR, 16, .inl f3)), (m4, .inl (cR, 16, .inl f4)), (ho, .inl (cO, 1, .inr (.inl fo)))]) (w1 := [(y0, .inr (8, [.int 1, .ref lH, .ref lB, .ref lJ, .ref aR, .ref aL, .int 0, .int 0, .int 0, .ref lC, .ref aM, .ref aP, .int 0, .int 0, .int 0, .int (-1), .int (-1), .int 0, .int 0, .long 0]))]) hP hD [4] [0, 1, 2, 3, 5, 6, 7, 8, 9, 10, 11, 12, 13, 14, 15, 16, 17] rfl rfl (by decide) (by decide) hk1 hFc hP1 hD1
    generalize H1 = H at hP hS ⊢
    have hP : va_P D vwCl [(aJ, .inl (cJ, 5, .inr (.inr (.inr (.inr fJ))))), (j0, .inr (5, [.int 0, .int 0, .int 0, .int 0, .int 0, .ref c1, .ref c2, .int 0, .int 0, .int 0, .int 0, .ref c3, .int 0, .ref c4, .ref c5, .int 0])), (rN, .inr (6, [.int 7, .int 100, .int 800, .int 10])), (rX, .inr (6, [.int 7, .int 100, .int 800, .int 10])), (lH, .inr (2, [.int 0, .ref eT, .int 0])), (lB, .inr (2, [.int 0, .ref eT, .int 0])), (lJ, .inr (2, [.int 0, .ref eT, .int 0])), (lC, .inr (2, [.int 0, .ref eT, .int 0])), (aR, .inl (cI, 4, .inl fR)), (aL, .inl (cL, 4, .inl fL)), (aM, .inl (cM, 5, .inr (.inr (.inr (.inr gM))))), (m0, .inl (cR, 16, .inl f0)), (m1, .inl (cR, 16, .inl f1)), (m2, .inl (cR, 16, .inl f2)), (m3, .inl (cR, 16, .inl f3)), (m4, .inl (cR, 16, .inl f4)), (ho, .inl (cO, 1, .inr (.inl fo))), (y0, .inr (8, [.int 1, .ref lH, .ref lB, .ref lJ, .ref aR, .ref aL, .int 0, .int 0, .int 0, .ref lC, .ref aM, .ref aP, .int 0, .int 0, .int 0, .int (-1), .int (-1), .int 0, .int 0, .long 0]))] H := hP
    have hD : va_D (fun q : Nat => s.heap.size ≤ q) [(aJ, .inl (cJ, 5, .inr (.inr (.inr (.inr fJ))))), (j0, .inr (5, [.int 0, .int 0, .int 0, .int 0, .int 0, .ref c1, .ref c2, .int 0, .int 0, .int 0, .int 0, .ref c3, .int 0, .ref c4, .ref c5, .int 0])), (rN, .inr (6, [.int 7, .int 100, .int 800, .int 10])), (rX, .inr (6, [.int 7, .int 100, .int 800, .int 10])), (lH, .inr (2, [.int 0, .ref eT, .int 0])), (lB, .inr (2, [.int 0, .ref eT, .int 0])), (lJ, .inr (2, [.int 0, .ref eT, .int 0])), (lC, .inr (2, [.int 0, .ref eT, .int 0])), (aR, .inl (cI, 4, .inl fR)), (aL, .inl (cL, 4, .inl fL)), (aM, .inl (cM, 5, .inr (.inr (.inr (.inr gM))))), (m0, .inl (cR, 16, .inl f0)), (m1, .inl (cR, 16, .inl f1)), (m2, .inl (cR, 16, .inl f2)), (m3, .inl (cR, 16, .inl f3)), (m4, .inl (cR, 16, .inl f4)), (ho, .inl (cO, 1, .inr (.inl fo))), (y0, .inr (8, [.int 1, .ref lH, .ref lB, .ref lJ, .ref aR, .ref aL, .int 0, .int 0, .int 0, .ref lC, .ref aM, .ref aP, .int 0, .int 0, .int 0, .int (-1), .int (-1), .int 0, .int 0, .long 0]))] := hD
    refine lv_istore (lv' := [(6, .int 0), (5, .int 1), (0, .ref b), (1, .ref x0), (2, .ref y0), (3, .ref ho), (4, .int 0)]) hx hb dL_law_1553 hl (by decide) rfl (fun ls hl => ?_)
    refine lv_aload_n hx hb dL_law_1555 rfl (lv_at hl 4 rfl) ?_
    have hPc := hP.sub (ws' := [(y0, .inr (8, [.int 1, .ref lH, .ref lB, .ref lJ, .ref aR, .ref aL, .int 0, .int 0, .int 0, .ref lC, .ref aM, .ref aP, .int 0, .int 0, .int 0, .int (-1), .int (-1), .int 0, .int 0, .long 0]))]) [17] rfl
    have hKc := hK.sub (tys' := []) [] rfl
    refine va_calli (va_runV (As := []) (rest := []) ⟨hx, hb, hml, hown, hts⟩ (r_thrown l D eT y0 lH lB lJ aR aL lC aM aP 0 1 0 H.size ) (cwV 0 hts gL_law_X5_thrown rfl rfl rfl (by decide +kernel) ⟨Nat.le_of_ble_eq_true rfl, Nat.le_of_ble_eq_true rfl⟩) (pr_v (ci := 8) (q0 := 0) rfl rfl hPc hKc hE hS hA) rfl rfl hl.1 rfl (lv_room (Nat.le_of_ble_eq_true rfl)) dL_law_1556 ⟨Nat.le_of_ble_eq_true rfl, Nat.le_of_ble_eq_true rfl⟩) hS (fun q h1 h2 => ro_A h1 h2) (fun q h => ro_F hS hA q h) (fun r u t H1 locs ht hvm hw hB hz1 hk1 hS => ?_)
    have hw : r = 1 := hw
    rw [hw]
    have hP := ro_P hP hk1
    generalize H1 = H at hP hS ⊢
    refine lv_iload hx hb dL_law_1559 (lv_at hl 1 rfl) ?_
    refine lv_icmp_eq (tgt := 1566) hx hb dL_law_1561 (by decide) (fun _ => ?_) (fun h => absurd (by decide) h)
    refine lv_iload hx hb dL_law_1566 (lv_at hl 1 rfl) ?_
    refine lv_if_ne (tgt := 1583) hx hb dL_law_1568 (by decide) (fun _ => ?_) (fun h => absurd h (by decide))
    refine lv_goto (tgt := 1835) hx hb dL_law_1583 (by decide) ?_
    refine W.widen (k := 2000) (n := 20000) (Nat.le_of_ble_eq_true rfl) (Nat.le_of_ble_eq_true rfl) ?_
    exact kx _ _ _ hS (lv_sub hl [2, 3, 4, 5, 6] rfl)
set_option maxHeartbeats 8000000 in
set_option maxRecDepth 100000 in
theorem law_c22 {p : Program} {l : Launch} {e : Env} {s : State} {m : MethodId} {args : Array Value} {below : List Frame} {meth : Method} {c : Code} {Q : State → Prop} {b : Nat} {xs : Nat → Int32} {D : va_G} {eT : Nat} {x0 aH aB aJ rN rX aV j0 c1 c2 c3 c4 c5 y0 lH lB lJ aR aL lC aM aP m0 m1 m2 m3 m4 ho : Nat} {cJ cI cL cM cR cO : ClassId} {fJ : Nat → Option Nat} {fR : Nat → Int32} {fL : Nat → Int32} {gM : Nat → Option Nat} {f0 : Nat → Int32} {f1 : Nat → Int32} {f2 : Nat → Int32} {f3 : Nat → Int32} {f4 : Nat → Int32} {fo : Nat → Int64} (hl0 : l.stackTraces = false) (hx : p.tables.exec = Jvm.exec) (hb : c.code = cL_law) (hml : c.maxLocals = 9) (hown : s.vm.findClass RL = some m.cls) (hts : ∀ w ∈ wsL_law, w.before args s = true) (hX : va_X b 7 xs s s.heap) (hbl : b < s.heap.size) (hE : ev eT (fun q : Nat => s.heap.size ≤ q) s s.heap) (hJ : fJ 0 = some j0) (hR : fR 3 = 10) (hg0 : gM 0 = some m0) (hg1 : gM 1 = some m1) (hg2 : gM 2 = some m2) (hg3 : gM 3 = some m3) (hg4 : gM 4 = some m4) (hm0 : ∀ k, k < 16 → f0 k = -1) (hm1 : ∀ k, k < 16 → f1 k = -1) (hm2 : ∀ k, k < 16 → f2 k = -1) (hm3 : ∀ k, k < 16 → f3 k = -1) (hm4 : ∀ k, k < 16 → f4 k = -1) (hK : va_K D vwCl [(cJ, .object RX2), (cI, .int), (cL, .int), (cM, .array .int), (cR, .int), (cO, .long)] s) {H : Heap} {locs : List Loc} (hP : va_P D vwCl [(x0, .inr (7, [.ref aH, .ref aB, .ref aJ, .int 0, .int 0, .int 0, .ref rN, .ref rX, .int 0, .int 0, .int 0, .int 0, .int 0, .int 0, .int (-1), .int (-1), .int 0, .int 0, .ref aV])), (aJ, .inl (cJ, 5, .inr (.inr (.inr (.inr fJ))))), (j0, .inr (5, [.int 0, .int 0, .int 0, .int 0, .int 0, .ref c1, .ref c2, .int 0, .int 0, .int 0, .int 0, .ref c3, .int 0, .ref c4, .ref c5, .int 0])), (rN, .inr (6, [.int 7, .int 100, .int 800, .int 10])), (rX, .inr (6, [.int 7, .int 100, .int 800, .int 10])), (y0, .inr (8, [.int 0, .ref lH, .ref lB, .ref lJ, .ref aR, .ref aL, .int 0, .int 0, .int 0, .ref lC, .ref aM, .ref aP, .int 0, .int 0, .int 0, .int (-1), .int (-1), .int 0, .int 0, .long 0])), (lH, .inr (2, [.int 0, .ref eT, .int 0])), (lB, .inr (2, [.int 0, .ref eT, .int 0])), (lJ, .inr (2, [.int 0, .ref eT, .int 0])), (lC, .inr (2, [.int 0, .ref eT, .int 0])), (aR, .inl (cI, 4, .inl fR)), (aL, .inl (cL, 4, .inl fL)), (aM, .inl (cM, 5, .inr (.inr (.inr (.inr gM))))), (m0, .inl (cR, 16, .inl f0)), (m1, .inl (cR, 16, .inl f1)), (m2, .inl (cR, 16, .inl f2)), (m3, .inl (cR, 16, .inl f3)), (m4, .inl (cR, 16, .inl f4)), (ho, .inl (cO, 1, .inr (.inl fo)))] H) (hD : va_D (fun q : Nat => s.heap.size ≤ q) [(x0, .inr (7, [.ref aH, .ref aB, .ref aJ, .int 0, .int 0, .int 0, .ref rN, .ref rX, .int 0, .int 0, .int 0, .int 0, .int 0, .int 0, .int (-1), .int (-1), .int 0, .int 0, .ref aV])), (aJ, .inl (cJ, 5, .inr (.inr (.inr (.inr fJ))))), (j0, .inr (5, [.int 0, .int 0, .int 0, .int 0, .int 0, .ref c1, .ref c2, .int 0, .int 0, .int 0, .int 0, .ref c3, .int 0, .ref c4, .ref c5, .int 0])), (rN, .inr (6, [.int 7, .int 100, .int 800, .int 10])), (rX, .inr (6, [.int 7, .int 100, .int 800, .int 10])), (y0, .inr (8, [.int 0, .ref lH, .ref lB, .ref lJ, .ref aR, .ref aL, .int 0, .int 0, .int 0, .ref lC, .ref aM, .ref aP, .int 0, .int 0, .int 0, .int (-1), .int (-1), .int 0, .int 0, .long 0])), (lH, .inr (2, [.int 0, .ref eT, .int 0])), (lB, .inr (2, [.int 0, .ref eT, .int 0])), (lJ, .inr (2, [.int 0, .ref eT, .int 0])), (lC, .inr (2, [.int 0, .ref eT, .int 0])), (aR, .inl (cI, 4, .inl fR)), (aL, .inl (cL, 4, .inl fL)), (aM, .inl (cM, 5, .inr (.inr (.inr (.inr gM))))), (m0, .inl (cR, 16, .inl f0)), (m1, .inl (cR, 16, .inl f1)), (m2, .inl (cR, 16, .inl f2)), (m3, .inl (cR, 16, .inl f3)), (m4, .inl (cR, 16, .inl f4)), (ho, .inl (cO, 1, .inr (.inl fo)))]) (hS : va_S (fun q : Nat => s.heap.size ≤ q) s.heap H locs) {ls : Array Slot} (hl : lv_has ls 9 [(0, .ref b), (1, .ref x0), (2, .ref y0), (3, .ref ho), (4, .int 0)]) (kx : ∀ (H : Heap) (locs : List Loc) (ls : Array Slot), va_S (fun q : Nat => s.heap.size ≤ q) s.heap H locs → lv_has ls 9 [(0, .ref b), (1, .ref x0), (2, .ref y0), (3, .ref ho), (4, .int 0)] → W p l e room_1 s m args below meth c H locs 2000 20000 Q (F0 m 1835 ls [])) : W p l e room_1 s m args below meth c H locs 81 903 Q (F0 m 1586 ls []) := by
  have hA : ∀ q : Nat, s.heap.size ≤ q → (fun q : Nat => s.heap.size ≤ q) q := fun _ h => h
  have hbA : ¬ (fun q : Nat => s.heap.size ≤ q) b := Nat.not_le.mpr hbl
  · skip
    refine lv_aload_n hx hb dL_law_1586 rfl (lv_at hl 1 rfl) ?_
    have hPc := hP.sub (ws' := [(x0, .inr (7, [.ref aH, .ref aB, .ref aJ, .int 0, .int 0, .int 0, .ref rN, .ref rX, .int 0, .int 0, .int 0, .int 0, .int 0, .int 0, .int (-1), .int (-1), .int 0, .int 0, .ref aV]))]) [0] rfl
    have hKc := hK.sub (tys' := []) [] rfl
    refine va_calld (va_runV (As := []) (rest := []) ⟨hx, hb, hml, hown, hts⟩ (k_meanMark l D eT x0 aH aB aJ rN rX aV H.size ) (cwV 0 hts gL_law_X4_meanMark rfl rfl rfl (by decide +kernel) ⟨Nat.le_of_ble_eq_true rfl, Nat.le_of_ble_eq_true rfl⟩) (pr_v (ci := 7) (q0 := 0) rfl rfl hPc hKc hE hS hA) rfl rfl hl.1 rfl (lv_room (Nat.le_of_ble_eq_true rfl)) dL_law_1587 ⟨Nat.le_of_ble_eq_true rfl, Nat.le_of_ble_eq_true rfl⟩) hS (fun q h1 h2 => ro_A h1 h2) (fun q h => ro_F hS hA q h) (fun r u t H1 locs ht hvm hw hB hz1 hk1 hS => ?_)
    have hw : r = FP.dconst0 := hw
    rw [hw]
    have hP := ro_P hP hk1
    generalize H1 = H at hP hS ⊢
    refine lv_dstore (lv' := [(5, .double FP.dconst0), (0, .ref b), (1, .ref x0), (2, .ref y0), (3, .ref ho), (4, .int 0)]) hx hb dL_law_1590 hl (by decide) rfl (fun ls hl => ?_)
    refine lv_aload_n hx hb dL_law_1592 rfl (lv_at hl 3 rfl) ?_
    have hPc := hP.sub (ws' := [(y0, .inr (8, [.int 0, .ref lH, .ref lB, .ref lJ, .ref aR, .ref aL, .int 0, .int 0, .int 0, .ref lC, .ref aM, .ref aP, .int 0, .int 0, .int 0, .int (-1), .int (-1), .int 0, .int 0, .long 0])), (aM, .inl (cM, 5, .inr (.inr (.inr (.inr gM))))), (m0, .inl (cR, 16, .inl f0)), (m1, .inl (cR, 16, .inl f1)), (m2, .inl (cR, 16, .inl f2)), (m3, .inl (cR, 16, .inl f3)), (m4, .inl (cR, 16, .inl f4))]) [5, 12, 13, 14, 15, 16, 17] rfl
    have hKc := hK.sub (tys' := [(cM, .array .int), (cR, .int)]) [3, 4] rfl
    have hDc := hD.sub (ws' := [(y0, .inr (8, [.int 0, .ref lH, .ref lB, .ref lJ, .ref aR, .ref aL, .int 0, .int 0, .int 0, .ref lC, .ref aM, .ref aP, .int 0, .int 0, .int 0, .int (-1), .int (-1), .int 0, .int 0, .long 0])), (aM, .inl (cM, 5, .inr (.inr (.inr (.inr gM))))), (m0, .inl (cR, 16, .inl f0)), (m1, .inl (cR, 16, .inl f1)), (m2, .inl (cR, 16, .inl f2)), (m3, .inl (cR, 16, .inl f3)), (m4, .inl (cR, 16, .inl f4))]) [5, 12, 13, 14, 15, 16, 17] (by decide) rfl
    have hFc := va_free (wc := [(y0, .inr (8, [.int 0, .ref lH, .ref lB, .ref lJ, .ref aR, .ref aL, .int 0, .int 0, .int 0, .ref lC, .ref aM, .ref aP, .int 0, .int 0, .int 0, .int (-1), .int (-1), .int 0, .int 0, .long 0])), (aM, .inl (cM, 5, .inr (.inr (.inr (.inr gM))))), (m0, .inl (cR, 16, .inl f0)), (m1, .inl (cR, 16, .inl f1)), (m2, .inl (cR, 16, .inl f2)), (m3, .inl (cR, 16, .inl f3)), (m4, .inl (cR, 16, .inl f4))]) hD hS hA [5, 12, 13, 14, 15, 16, 17] rfl
    refine va_calld (va_runV (As := []) (rest := []) ⟨hx, hb, hml, hown, hts⟩ (r_meanMark l D eT y0 lH lB lJ aR aL lC aM aP 0 m0 m1 m2 m3 m4 cM cR gM f0 f1 f2 f3 f4 H.size hg0 hg1 hg2 hg3 hg4 hm0 hm1 hm2 hm3 hm4) (cwV 0 hts gL_law_X5_meanMark rfl rfl rfl (by decide +kernel) ⟨Nat.le_of_ble_eq_true rfl, Nat.le_of_ble_eq_true rfl⟩) (pc_v (ci := 8) (q0 := 0) rfl rfl hPc hDc hKc hE hS hFc) rfl rfl hl.1 rfl (lv_room (Nat.le_of_ble_eq_true rfl)) dL_law_1593 ⟨Nat.le_of_ble_eq_true rfl, Nat.le_of_ble_eq_true rfl⟩) hS (fun q _ h => hFc q h) hFc (fun r u t H1 locs ht hvm hw hB hz1 hk1 hS => ?_)
    have hw : r = FP.dconst0 := hw
    rw [hw]
    obtain ⟨hP1, hK1, hD1⟩ := hB
    rw [ht] at hP1
    have hK1 := va_K.moved hvm.symm hK1
    obtain ⟨hP, hD⟩ := va_join (wr := [(x0, .inr (7, [.ref aH, .ref aB, .ref aJ, .int 0, .int 0, .int 0, .ref rN, .ref rX, .int 0, .int 0, .int 0, .int 0, .int 0, .int 0, .int (-1), .int (-1), .int 0, .int 0, .ref aV])), (aJ, .inl (cJ, 5, .inr (.inr (.inr (.inr fJ))))), (j0, .inr (5, [.int 0, .int 0, .int 0, .int 0, .int 0, .ref c1, .ref c2, .int 0, .int 0, .int 0, .int 0, .ref c3, .int 0, .ref c4, .ref c5, .int 0])), (rN, .inr (6, [.int 7, .int 100, .int 800, .int 10])), (rX, .inr (6, [.int 7, .int 100, .int 800, .int 10])), (lH, .inr (2, [.int 0, .ref eT, .int 0])), (lB, .inr (2, [.int 0, .ref eT, .int 0])), (lJ, .inr (2, [.int 0, .ref eT, .int 0])), (lC, .inr (2, [.int 0, .ref eT, .int 0])), (aR, .inl (cI, 4, .inl fR)), (aL, .inl (cL, 4, .inl fL)), (ho, .inl (cO, 1, .inr (.inl fo)))]) (w1 := []) hP hD [5, 12, 13, 14, 15, 16, 17] [0, 1, 2, 3, 4, 6, 7, 8, 9, 10, 11, 18] rfl rfl (by decide) (by decide) hk1 hFc hP1 hD1
    generalize H1 = H at hP hS ⊢
    have hP : va_P D vwCl [(x0, .inr (7, [.ref aH, .ref aB, .ref aJ, .int 0, .int 0, .int 0, .ref rN, .ref rX, .int 0, .int 0, .int 0, .int 0, .int 0, .int 0, .int (-1), .int (-1), .int 0, .int 0, .ref aV])), (aJ, .inl (cJ, 5, .inr (.inr (.inr (.inr fJ))))), (j0, .inr (5, [.int 0, .int 0, .int 0, .int 0, .int 0, .ref c1, .ref c2, .int 0, .int 0, .int 0, .int 0, .ref c3, .int 0, .ref c4, .ref c5, .int 0])), (rN, .inr (6, [.int 7, .int 100, .int 800, .int 10])), (rX, .inr (6, [.int 7, .int 100, .int 800, .int 10])), (lH, .inr (2, [.int 0, .ref eT, .int 0])), (lB, .inr (2, [.int 0, .ref eT, .int 0])), (lJ, .inr (2, [.int 0, .ref eT, .int 0])), (lC, .inr (2, [.int 0, .ref eT, .int 0])), (aR, .inl (cI, 4, .inl fR)), (aL, .inl (cL, 4, .inl fL)), (ho, .inl (cO, 1, .inr (.inl fo)))] H := hP
    have hD : va_D (fun q : Nat => s.heap.size ≤ q) [(x0, .inr (7, [.ref aH, .ref aB, .ref aJ, .int 0, .int 0, .int 0, .ref rN, .ref rX, .int 0, .int 0, .int 0, .int 0, .int 0, .int 0, .int (-1), .int (-1), .int 0, .int 0, .ref aV])), (aJ, .inl (cJ, 5, .inr (.inr (.inr (.inr fJ))))), (j0, .inr (5, [.int 0, .int 0, .int 0, .int 0, .int 0, .ref c1, .ref c2, .int 0, .int 0, .int 0, .int 0, .ref c3, .int 0, .ref c4, .ref c5, .int 0])), (rN, .inr (6, [.int 7, .int 100, .int 800, .int 10])), (rX, .inr (6, [.int 7, .int 100, .int 800, .int 10])), (lH, .inr (2, [.int 0, .ref eT, .int 0])), (lB, .inr (2, [.int 0, .ref eT, .int 0])), (lJ, .inr (2, [.int 0, .ref eT, .int 0])), (lC, .inr (2, [.int 0, .ref eT, .int 0])), (aR, .inl (cI, 4, .inl fR)), (aL, .inl (cL, 4, .inl fL)), (ho, .inl (cO, 1, .inr (.inl fo)))] := hD
    refine lv_dstore (lv' := [(7, .double FP.dconst0), (5, .double FP.dconst0), (0, .ref b), (1, .ref x0), (2, .ref y0), (3, .ref ho), (4, .int 0)]) hx hb dL_law_1596 hl (by decide) rfl (fun ls hl => ?_)
    refine lv_dload hx hb dL_law_1598 (lv_at hl 1 rfl) ?_
    refine lv_dload hx hb dL_law_1600 (lv_at hl 0 rfl) ?_
    refine lv_dcmp hx hb dL_law_1602 ?_
    refine lv_topi (fun z_1 ez_1 => ?_)
    have ez_1 : z_1 = 0 := ez_1.trans (by decide +kernel)
    rw [ez_1]
    refine lv_if_eq (tgt := 1624) hx hb dL_law_1603 (by decide) (fun _ => ?_) (fun h => absurd (by decide) h)
    refine lv_goto (tgt := 1835) hx hb dL_law_1624 (by decide) ?_
    refine W.widen (k := 2000) (n := 20000) (Nat.le_of_ble_eq_true rfl) (Nat.le_of_ble_eq_true rfl) ?_
    exact kx _ _ _ hS (lv_sub hl [2, 3, 4, 5, 6] rfl)
set_option maxHeartbeats 8000000 in
set_option maxRecDepth 100000 in
theorem law_c23 {p : Program} {l : Launch} {e : Env} {s : State} {m : MethodId} {args : Array Value} {below : List Frame} {meth : Method} {c : Code} {Q : State → Prop} {b : Nat} {xs : Nat → Int32} {D : va_G} {eT : Nat} {x0 aH aB aJ rN rX aV j0 c1 c2 c3 c4 c5 y0 lH lB lJ aR aL lC aM aP m0 m1 m2 m3 m4 ho : Nat} {cJ cI cL cM cR cO : ClassId} {fJ : Nat → Option Nat} {fR : Nat → Int32} {fL : Nat → Int32} {gM : Nat → Option Nat} {f0 : Nat → Int32} {f1 : Nat → Int32} {f2 : Nat → Int32} {f3 : Nat → Int32} {f4 : Nat → Int32} {fo : Nat → Int64} (hl0 : l.stackTraces = false) (hx : p.tables.exec = Jvm.exec) (hb : c.code = cL_law) (hml : c.maxLocals = 9) (hown : s.vm.findClass RL = some m.cls) (hts : ∀ w ∈ wsL_law, w.before args s = true) (hX : va_X b 7 xs s s.heap) (hbl : b < s.heap.size) (hE : ev eT (fun q : Nat => s.heap.size ≤ q) s s.heap) (hJ : fJ 0 = some j0) (hR : fR 3 = 10) (hg0 : gM 0 = some m0) (hg1 : gM 1 = some m1) (hg2 : gM 2 = some m2) (hg3 : gM 3 = some m3) (hg4 : gM 4 = some m4) (hm0 : ∀ k, k < 16 → f0 k = -1) (hm1 : ∀ k, k < 16 → f1 k = -1) (hm2 : ∀ k, k < 16 → f2 k = -1) (hm3 : ∀ k, k < 16 → f3 k = -1) (hm4 : ∀ k, k < 16 → f4 k = -1) (hK : va_K D vwCl [(cJ, .object RX2), (cI, .int), (cL, .int), (cM, .array .int), (cR, .int), (cO, .long)] s) {H : Heap} {locs : List Loc} (hP : va_P D vwCl [(x0, .inr (7, [.ref aH, .ref aB, .ref aJ, .int 0, .int 0, .int 0, .ref rN, .ref rX, .int 0, .int 0, .int 0, .int 0, .int 0, .int 0, .int (-1), .int (-1), .int 0, .int 0, .ref aV])), (aJ, .inl (cJ, 5, .inr (.inr (.inr (.inr fJ))))), (j0, .inr (5, [.int 0, .int 0, .int 0, .int 0, .int 0, .ref c1, .ref c2, .int 0, .int 0, .int 0, .int 0, .ref c3, .int 0, .ref c4, .ref c5, .int 0])), (rN, .inr (6, [.int 7, .int 100, .int 800, .int 10])), (rX, .inr (6, [.int 7, .int 100, .int 800, .int 10])), (y0, .inr (8, [.int 0, .ref lH, .ref lB, .ref lJ, .ref aR, .ref aL, .int 0, .int 0, .int 0, .ref lC, .ref aM, .ref aP, .int 0, .int 0, .int 0, .int (-1), .int (-1), .int 0, .int 0, .long 0])), (lH, .inr (2, [.int 0, .ref eT, .int 0])), (lB, .inr (2, [.int 0, .ref eT, .int 0])), (lJ, .inr (2, [.int 0, .ref eT, .int 0])), (lC, .inr (2, [.int 0, .ref eT, .int 0])), (aR, .inl (cI, 4, .inl fR)), (aL, .inl (cL, 4, .inl fL)), (aM, .inl (cM, 5, .inr (.inr (.inr (.inr gM))))), (m0, .inl (cR, 16, .inl f0)), (m1, .inl (cR, 16, .inl f1)), (m2, .inl (cR, 16, .inl f2)), (m3, .inl (cR, 16, .inl f3)), (m4, .inl (cR, 16, .inl f4)), (ho, .inl (cO, 1, .inr (.inl fo)))] H) (hD : va_D (fun q : Nat => s.heap.size ≤ q) [(x0, .inr (7, [.ref aH, .ref aB, .ref aJ, .int 0, .int 0, .int 0, .ref rN, .ref rX, .int 0, .int 0, .int 0, .int 0, .int 0, .int 0, .int (-1), .int (-1), .int 0, .int 0, .ref aV])), (aJ, .inl (cJ, 5, .inr (.inr (.inr (.inr fJ))))), (j0, .inr (5, [.int 0, .int 0, .int 0, .int 0, .int 0, .ref c1, .ref c2, .int 0, .int 0, .int 0, .int 0, .ref c3, .int 0, .ref c4, .ref c5, .int 0])), (rN, .inr (6, [.int 7, .int 100, .int 800, .int 10])), (rX, .inr (6, [.int 7, .int 100, .int 800, .int 10])), (y0, .inr (8, [.int 0, .ref lH, .ref lB, .ref lJ, .ref aR, .ref aL, .int 0, .int 0, .int 0, .ref lC, .ref aM, .ref aP, .int 0, .int 0, .int 0, .int (-1), .int (-1), .int 0, .int 0, .long 0])), (lH, .inr (2, [.int 0, .ref eT, .int 0])), (lB, .inr (2, [.int 0, .ref eT, .int 0])), (lJ, .inr (2, [.int 0, .ref eT, .int 0])), (lC, .inr (2, [.int 0, .ref eT, .int 0])), (aR, .inl (cI, 4, .inl fR)), (aL, .inl (cL, 4, .inl fL)), (aM, .inl (cM, 5, .inr (.inr (.inr (.inr gM))))), (m0, .inl (cR, 16, .inl f0)), (m1, .inl (cR, 16, .inl f1)), (m2, .inl (cR, 16, .inl f2)), (m3, .inl (cR, 16, .inl f3)), (m4, .inl (cR, 16, .inl f4)), (ho, .inl (cO, 1, .inr (.inl fo)))]) (hS : va_S (fun q : Nat => s.heap.size ≤ q) s.heap H locs) {ls : Array Slot} (hl : lv_has ls 9 [(0, .ref b), (1, .ref x0), (2, .ref y0), (3, .ref ho), (4, .int 0)]) (kx : ∀ (H : Heap) (locs : List Loc) (ls : Array Slot), va_S (fun q : Nat => s.heap.size ≤ q) s.heap H locs → lv_has ls 9 [(0, .ref b), (1, .ref x0), (2, .ref y0), (3, .ref ho), (4, .int 0)] → W p l e room_1 s m args below meth c H locs 2000 20000 Q (F0 m 1835 ls [])) : W p l e room_1 s m args below meth c H locs 81 903 Q (F0 m 1627 ls []) := by
  have hA : ∀ q : Nat, s.heap.size ≤ q → (fun q : Nat => s.heap.size ≤ q) q := fun _ h => h
  have hbA : ¬ (fun q : Nat => s.heap.size ≤ q) b := Nat.not_le.mpr hbl
  by_cases hn : 0 ≤ (xs 1) ∧ (xs 1) ≤ 31
  · obtain ⟨h1, h2⟩ := hn
    refine lv_aload_n hx hb dL_law_1627 rfl (lv_at hl 1 rfl) ?_
    refine lv_aload_n hx hb dL_law_1628 rfl (lv_at hl 0 rfl) ?_
    refine lv_iload hx hb dL_law_1629 (lv_at hl 4 rfl) ?_
    refine lv_iconst (v := 1) hx hb dL_law_1631 (by decide) ?_
    refine lv_iadd hx hb dL_law_1632 ?_
    refine lv_topi (fun z_1 ez_1 => ?_)
    have ez_1 : z_1 = 1 := ez_1.trans (by decide +kernel)
    rw [ez_1]
    refine va_sld hx hb hX hbl hbA hS (show vp_in 1 7 from by unfold vp_in; decide +kernel) dL_law_1633 ?_
    refine lv_topi (fun z_2 ez_2 => ?_)
    have ez_2 : z_2 = (xs 1) := ez_2
    rw [ez_2]
    refine lv_aload_n hx hb dL_law_1634 rfl (lv_at hl 3 rfl) ?_
    have hPc := hP.sub (ws' := [(x0, .inr (7, [.ref aH, .ref aB, .ref aJ, .int 0, .int 0, .int 0, .ref rN, .ref rX, .int 0, .int 0, .int 0, .int 0, .int 0, .int 0, .int (-1), .int (-1), .int 0, .int 0, .ref aV])), (ho, .inl (cO, 1, .inr (.inl fo)))]) [0, 18] rfl
    have hKc := hK.sub (tys' := [(cO, .long)]) [5] rfl
    have hDc := hD.sub (ws' := [(x0, .inr (7, [.ref aH, .ref aB, .ref aJ, .int 0, .int 0, .int 0, .ref rN, .ref rX, .int 0, .int 0, .int 0, .int 0, .int 0, .int 0, .int (-1), .int (-1), .int 0, .int 0, .ref aV])), (ho, .inl (cO, 1, .inr (.inl fo)))]) [0, 18] (by decide) rfl
    have hFc := va_free (wc := [(x0, .inr (7, [.ref aH, .ref aB, .ref aJ, .int 0, .int 0, .int 0, .ref rN, .ref rX, .int 0, .int 0, .int 0, .int 0, .int 0, .int 0, .int (-1), .int (-1), .int 0, .int 0, .ref aV])), (ho, .inl (cO, 1, .inr (.inl fo)))]) hD hS hA [0, 18] rfl
    refine va_calli (vx_runSW (As := [.ref x0, .int (xs 1), .ref ho]) (rest := []) ⟨hx, hb, hml, hown, hts⟩ (w_wins l D eT x0 aH aB aJ rN rX aV ho cO fo (xs 1) H.size h1 h2) (vx_cwSW 3 hts gL_law_L_wins rfl rfl rfl (by decide +kernel) ⟨Nat.le_of_ble_eq_true rfl, Nat.le_of_ble_eq_true rfl⟩) (pc_s hPc hDc hKc hE hS hFc) rfl rfl hl.1 rfl (lv_room (Nat.le_of_ble_eq_true rfl)) dL_law_1635 ⟨Nat.le_of_ble_eq_true rfl, Nat.le_of_ble_eq_true rfl⟩) hS (fun q _ h => hFc q h) hFc (fun r u t H1 locs ht hvm hw hB hz1 hk1 hS => ?_)
    have hw : r = 0 := hw
    rw [hw]
    obtain ⟨hP1, hK1, hD1⟩ := hB
    rw [ht] at hP1
    have hK1 := va_K.moved hvm.symm hK1
    obtain ⟨hP, hD⟩ := va_join (wr := [(aJ, .inl (cJ, 5, .inr (.inr (.inr (.inr fJ))))), (j0, .inr (5, [.int 0, .int 0, .int 0, .int 0, .int 0, .ref c1, .ref c2, .int 0, .int 0, .int 0, .int 0, .ref c3, .int 0, .ref c4, .ref c5, .int 0])), (rN, .inr (6, [.int 7, .int 100, .int 800, .int 10])), (rX, .inr (6, [.int 7, .int 100, .int 800, .int 10])), (y0, .inr (8, [.int 0, .ref lH, .ref lB, .ref lJ, .ref aR, .ref aL, .int 0, .int 0, .int 0, .ref lC, .ref aM, .ref aP, .int 0, .int 0, .int 0, .int (-1), .int (-1), .int 0, .int 0, .long 0])), (lH, .inr (2, [.int 0, .ref eT, .int 0])), (lB, .inr (2, [.int 0, .ref eT, .int 0])), (lJ, .inr (2, [.int 0, .ref eT, .int 0])), (lC, .inr (2, [.int 0, .ref eT, .int 0])), (aR, .inl (cI, 4, .inl fR)), (aL, .inl (cL, 4, .inl fL)), (aM, .inl (cM, 5, .inr (.inr (.inr (.inr gM))))), (m0, .inl (cR, 16, .inl f0)), (m1, .inl (cR, 16, .inl f1)), (m2, .inl (cR, 16, .inl f2)), (m3, .inl (cR, 16, .inl f3)), (m4, .inl (cR, 16, .inl f4))]) (w1 := [(ho, .inl (cO, 1, .inr (.inl (vp_updL fo (Int32.toNatClampNeg 0) (-1)))))]) hP hD [0, 18] [1, 2, 3, 4, 5, 6, 7, 8, 9, 10, 11, 12, 13, 14, 15, 16, 17] rfl rfl (by decide) (by decide) hk1 hFc hP1 hD1
    generalize H1 = H at hP hS ⊢
    have hP : va_P D vwCl [(aJ, .inl (cJ, 5, .inr (.inr (.inr (.inr fJ))))), (j0, .inr (5, [.int 0, .int 0, .int 0, .int 0, .int 0, .ref c1, .ref c2, .int 0, .int 0, .int 0, .int 0, .ref c3, .int 0, .ref c4, .ref c5, .int 0])), (rN, .inr (6, [.int 7, .int 100, .int 800, .int 10])), (rX, .inr (6, [.int 7, .int 100, .int 800, .int 10])), (y0, .inr (8, [.int 0, .ref lH, .ref lB, .ref lJ, .ref aR, .ref aL, .int 0, .int 0, .int 0, .ref lC, .ref aM, .ref aP, .int 0, .int 0, .int 0, .int (-1), .int (-1), .int 0, .int 0, .long 0])), (lH, .inr (2, [.int 0, .ref eT, .int 0])), (lB, .inr (2, [.int 0, .ref eT, .int 0])), (lJ, .inr (2, [.int 0, .ref eT, .int 0])), (lC, .inr (2, [.int 0, .ref eT, .int 0])), (aR, .inl (cI, 4, .inl fR)), (aL, .inl (cL, 4, .inl fL)), (aM, .inl (cM, 5, .inr (.inr (.inr (.inr gM))))), (m0, .inl (cR, 16, .inl f0)), (m1, .inl (cR, 16, .inl f1)), (m2, .inl (cR, 16, .inl f2)), (m3, .inl (cR, 16, .inl f3)), (m4, .inl (cR, 16, .inl f4)), (ho, .inl (cO, 1, .inr (.inl (vp_updL fo (Int32.toNatClampNeg 0) (-1)))))] H := hP
    have hD : va_D (fun q : Nat => s.heap.size ≤ q) [(aJ, .inl (cJ, 5, .inr (.inr (.inr (.inr fJ))))), (j0, .inr (5, [.int 0, .int 0, .int 0, .int 0, .int 0, .ref c1, .ref c2, .int 0, .int 0, .int 0, .int 0, .ref c3, .int 0, .ref c4, .ref c5, .int 0])), (rN, .inr (6, [.int 7, .int 100, .int 800, .int 10])), (rX, .inr (6, [.int 7, .int 100, .int 800, .int 10])), (y0, .inr (8, [.int 0, .ref lH, .ref lB, .ref lJ, .ref aR, .ref aL, .int 0, .int 0, .int 0, .ref lC, .ref aM, .ref aP, .int 0, .int 0, .int 0, .int (-1), .int (-1), .int 0, .int 0, .long 0])), (lH, .inr (2, [.int 0, .ref eT, .int 0])), (lB, .inr (2, [.int 0, .ref eT, .int 0])), (lJ, .inr (2, [.int 0, .ref eT, .int 0])), (lC, .inr (2, [.int 0, .ref eT, .int 0])), (aR, .inl (cI, 4, .inl fR)), (aL, .inl (cL, 4, .inl fL)), (aM, .inl (cM, 5, .inr (.inr (.inr (.inr gM))))), (m0, .inl (cR, 16, .inl f0)), (m1, .inl (cR, 16, .inl f1)), (m2, .inl (cR, 16, .inl f2)), (m3, .inl (cR, 16, .inl f3)), (m4, .inl (cR, 16, .inl f4)), (ho, .inl (cO, 1, .inr (.inl (vp_updL fo (Int32.toNatClampNeg 0) (-1)))))] := hD
    refine lv_istore (lv' := [(5, .int 0), (0, .ref b), (1, .ref x0), (2, .ref y0), (3, .ref ho), (4, .int 0)]) hx hb dL_law_1638 hl (by decide) rfl (fun ls hl => ?_)
    refine lv_aload_n hx hb dL_law_1640 rfl (lv_at hl 3 rfl) ?_
    refine lv_aload_n hx hb dL_law_1641 rfl (lv_at hl 1 rfl) ?_
    refine lv_iload hx hb dL_law_1642 (lv_at hl 5 rfl) ?_
    refine lv_iconst (v := 1) hx hb dL_law_1644 (by decide) ?_
    refine lv_iadd hx hb dL_law_1645 ?_
    refine lv_topi (fun z_3 ez_3 => ?_)
    have ez_3 : z_3 = 1 := ez_3.trans (by decide +kernel)
    rw [ez_3]
    refine va_sld hx hb hX hbl hbA hS (show vp_in 1 7 from by unfold vp_in; decide +kernel) dL_law_1646 ?_
    refine lv_topi (fun z_4 ez_4 => ?_)
    have ez_4 : z_4 = (xs 1) := ez_4
    rw [ez_4]
    have hPc := hP.sub (ws' := [(y0, .inr (8, [.int 0, .ref lH, .ref lB, .ref lJ, .ref aR, .ref aL, .int 0, .int 0, .int 0, .ref lC, .ref aM, .ref aP, .int 0, .int 0, .int 0, .int (-1), .int (-1), .int 0, .int 0, .long 0]))]) [4] rfl
    have hKc := hK.sub (tys' := []) [] rfl
    have hDc := hD.sub (ws' := [(y0, .inr (8, [.int 0, .ref lH, .ref lB, .ref lJ, .ref aR, .ref aL, .int 0, .int 0, .int 0, .ref lC, .ref aM, .ref aP, .int 0, .int 0, .int 0, .int (-1), .int (-1), .int 0, .int 0, .long 0]))]) [4] (by decide) rfl
    have hFc := va_free (wc := [(y0, .inr (8, [.int 0, .ref lH, .ref lB, .ref lJ, .ref aR, .ref aL, .int 0, .int 0, .int 0, .ref lC, .ref aM, .ref aP, .int 0, .int 0, .int 0, .int (-1), .int (-1), .int 0, .int 0, .long 0]))]) hD hS hA [4] rfl
    refine va_calli (va_runV (As := [.int (xs 1)]) (rest := []) ⟨hx, hb, hml, hown, hts⟩ (r_wins l D eT y0 lH lB lJ aR aL lC aM aP 0 (xs 1) H.size h1 h2) (cwV 1 hts gL_law_X5_wins rfl rfl rfl (by decide +kernel) ⟨Nat.le_of_ble_eq_true rfl, Nat.le_of_ble_eq_true rfl⟩) (pc_v (ci := 8) (q0 := 0) rfl rfl hPc hDc hKc hE hS hFc) rfl rfl hl.1 rfl (lv_room (Nat.le_of_ble_eq_true rfl)) dL_law_1647 ⟨Nat.le_of_ble_eq_true rfl, Nat.le_of_ble_eq_true rfl⟩) hS (fun q _ h => hFc q h) hFc (fun r u t H1 locs ht hvm hw hB hz1 hk1 hS => ?_)
    have hw : r = (-1) := hw
    rw [hw]
    obtain ⟨hP1, hK1, hD1⟩ := hB
    rw [ht] at hP1
    have hK1 := va_K.moved hvm.symm hK1
    obtain ⟨hP, hD⟩ := va_join (wr := [(aJ, .inl (cJ, 5, .inr (.inr (.inr (.inr fJ))))), (j0, .inr (5, [.int 0, .int 0, .int 0, .int 0, .int 0, .ref c1, .ref c2, .int 0, .int 0, .int 0, .int 0, .ref c3, .int 0, .ref c4, .ref c5, .int 0])), (rN, .inr (6, [.int 7, .int 100, .int 800, .int 10])), (rX, .inr (6, [.int 7, .int 100, .int 800, .int 10])), (lH, .inr (2, [.int 0, .ref eT, .int 0])), (lB, .inr (2, [.int 0, .ref eT, .int 0])), (lJ, .inr (2, [.int 0, .ref eT, .int 0])), (lC, .inr (2, [.int 0, .ref eT, .int 0])), (aR, .inl (cI, 4, .inl fR)), (aL, .inl (cL, 4, .inl fL)), (aM, .inl (cM, 5, .inr (.inr (.inr (.inr gM))))), (m0, .inl (cR, 16, .inl f0)), (m1, .inl (cR, 16, .inl f1)), (m2, .inl (cR, 16, .inl f2)), (m3, .inl (cR, 16, .inl f3)), (m4, .inl (cR, 16, .inl f4)), (ho, .inl (cO, 1, .inr (.inl (vp_updL fo (Int32.toNatClampNeg 0) (-1)))))]) (w1 := [(y0, .inr (8, [.int 0, .ref lH, .ref lB, .ref lJ, .ref aR, .ref aL, .int 0, .int 0, .int 0, .ref lC, .ref aM, .ref aP, .int 0, .int 0, .int 0, .int (-1), .int (-1), .int 0, .int 0, .long 0]))]) hP hD [4] [0, 1, 2, 3, 5, 6, 7, 8, 9, 10, 11, 12, 13, 14, 15, 16, 17] rfl rfl (by decide) (by decide) hk1 hFc hP1 hD1
    generalize H1 = H at hP hS ⊢
    have hP : va_P D vwCl [(aJ, .inl (cJ, 5, .inr (.inr (.inr (.inr fJ))))), (j0, .inr (5, [.int 0, .int 0, .int 0, .int 0, .int 0, .ref c1, .ref c2, .int 0, .int 0, .int 0, .int 0, .ref c3, .int 0, .ref c4, .ref c5, .int 0])), (rN, .inr (6, [.int 7, .int 100, .int 800, .int 10])), (rX, .inr (6, [.int 7, .int 100, .int 800, .int 10])), (lH, .inr (2, [.int 0, .ref eT, .int 0])), (lB, .inr (2, [.int 0, .ref eT, .int 0])), (lJ, .inr (2, [.int 0, .ref eT, .int 0])), (lC, .inr (2, [.int 0, .ref eT, .int 0])), (aR, .inl (cI, 4, .inl fR)), (aL, .inl (cL, 4, .inl fL)), (aM, .inl (cM, 5, .inr (.inr (.inr (.inr gM))))), (m0, .inl (cR, 16, .inl f0)), (m1, .inl (cR, 16, .inl f1)), (m2, .inl (cR, 16, .inl f2)), (m3, .inl (cR, 16, .inl f3)), (m4, .inl (cR, 16, .inl f4)), (ho, .inl (cO, 1, .inr (.inl (vp_updL fo (Int32.toNatClampNeg 0) (-1))))), (y0, .inr (8, [.int 0, .ref lH, .ref lB, .ref lJ, .ref aR, .ref aL, .int 0, .int 0, .int 0, .ref lC, .ref aM, .ref aP, .int 0, .int 0, .int 0, .int (-1), .int (-1), .int 0, .int 0, .long 0]))] H := hP
    have hD : va_D (fun q : Nat => s.heap.size ≤ q) [(aJ, .inl (cJ, 5, .inr (.inr (.inr (.inr fJ))))), (j0, .inr (5, [.int 0, .int 0, .int 0, .int 0, .int 0, .ref c1, .ref c2, .int 0, .int 0, .int 0, .int 0, .ref c3, .int 0, .ref c4, .ref c5, .int 0])), (rN, .inr (6, [.int 7, .int 100, .int 800, .int 10])), (rX, .inr (6, [.int 7, .int 100, .int 800, .int 10])), (lH, .inr (2, [.int 0, .ref eT, .int 0])), (lB, .inr (2, [.int 0, .ref eT, .int 0])), (lJ, .inr (2, [.int 0, .ref eT, .int 0])), (lC, .inr (2, [.int 0, .ref eT, .int 0])), (aR, .inl (cI, 4, .inl fR)), (aL, .inl (cL, 4, .inl fL)), (aM, .inl (cM, 5, .inr (.inr (.inr (.inr gM))))), (m0, .inl (cR, 16, .inl f0)), (m1, .inl (cR, 16, .inl f1)), (m2, .inl (cR, 16, .inl f2)), (m3, .inl (cR, 16, .inl f3)), (m4, .inl (cR, 16, .inl f4)), (ho, .inl (cO, 1, .inr (.inl (vp_updL fo (Int32.toNatClampNeg 0) (-1))))), (y0, .inr (8, [.int 0, .ref lH, .ref lB, .ref lJ, .ref aR, .ref aL, .int 0, .int 0, .int 0, .ref lC, .ref aM, .ref aP, .int 0, .int 0, .int 0, .int (-1), .int (-1), .int 0, .int 0, .long 0]))] := hD
    refine lv_istore (lv' := [(6, .int (-1)), (5, .int 0), (0, .ref b), (1, .ref x0), (2, .ref y0), (3, .ref ho), (4, .int 0)]) hx hb dL_law_1650 hl (by decide) rfl (fun ls hl => ?_)
    refine lv_aload_n hx hb dL_law_1652 rfl (lv_at hl 4 rfl) ?_
    have hPc := hP.sub (ws' := [(y0, .inr (8, [.int 0, .ref lH, .ref lB, .ref lJ, .ref aR, .ref aL, .int 0, .int 0, .int 0, .ref lC, .ref aM, .ref aP, .int 0, .int 0, .int 0, .int (-1), .int (-1), .int 0, .int 0, .long 0]))]) [17] rfl
    have hKc := hK.sub (tys' := []) [] rfl
    refine va_calli (va_runV (As := []) (rest := []) ⟨hx, hb, hml, hown, hts⟩ (r_thrown l D eT y0 lH lB lJ aR aL lC aM aP 0 0 0 H.size ) (cwV 0 hts gL_law_X5_thrown rfl rfl rfl (by decide +kernel) ⟨Nat.le_of_ble_eq_true rfl, Nat.le_of_ble_eq_true rfl⟩) (pr_v (ci := 8) (q0 := 0) rfl rfl hPc hKc hE hS hA) rfl rfl hl.1 rfl (lv_room (Nat.le_of_ble_eq_true rfl)) dL_law_1653 ⟨Nat.le_of_ble_eq_true rfl, Nat.le_of_ble_eq_true rfl⟩) hS (fun q h1 h2 => ro_A h1 h2) (fun q h => ro_F hS hA q h) (fun r u t H1 locs ht hvm hw hB hz1 hk1 hS => ?_)
    have hw : r = 0 := hw
    rw [hw]
    have hP := ro_P hP hk1
    generalize H1 = H at hP hS ⊢
    refine lv_iload hx hb dL_law_1656 (lv_at hl 1 rfl) ?_
    refine lv_icmp_eq (tgt := 1663) hx hb dL_law_1658 (by decide) (fun _ => ?_) (fun h => absurd (by decide) h)
    refine lv_iload hx hb dL_law_1663 (lv_at hl 1 rfl) ?_
    refine lv_if_ne (tgt := 1680) hx hb dL_law_1665 (by decide) (fun h => absurd (by decide) h) (fun _ => ?_)
    refine lv_aload_n hx hb dL_law_1668 rfl (lv_at hl 5 rfl) ?_
    refine lv_iconst (v := 0) hx hb dL_law_1669 (by decide) ?_
    refine va_lald hx hb hK hP 16 5 rfl rfl (by unfold vp_in; decide +kernel) dL_law_1670 ?_
    refine lv_topl (fun z_5 ez_5 => ?_)
    have ez_5 : z_5 = (-1) := ez_5.trans pk_uLs
    rw [ez_5]
    refine lv_iload hx hb dL_law_1671 (lv_at hl 0 rfl) ?_
    refine lv_i2l (v := (-1)) hx hb dL_law_1673 (by decide) ?_
    refine W.lcmp hx hb dL_law_1674 ?_
    refine lv_topi (fun z_6 ez_6 => ?_)
    have ez_6 : z_6 = 0 := ez_6.trans (by decide +kernel)
    rw [ez_6]
    refine lv_if_eq (tgt := 1680) hx hb dL_law_1675 (by decide) (fun _ => ?_) (fun h => absurd (by decide) h)
    refine lv_goto (tgt := 1835) hx hb dL_law_1680 (by decide) ?_
    refine W.widen (k := 2000) (n := 20000) (Nat.le_of_ble_eq_true rfl) (Nat.le_of_ble_eq_true rfl) ?_
    exact kx _ _ _ hS (lv_sub hl [2, 3, 4, 5, 6] rfl)
  · skip
    refine lv_aload_n hx hb dL_law_1627 rfl (lv_at hl 1 rfl) ?_
    refine lv_aload_n hx hb dL_law_1628 rfl (lv_at hl 0 rfl) ?_
    refine lv_iload hx hb dL_law_1629 (lv_at hl 4 rfl) ?_
    refine lv_iconst (v := 1) hx hb dL_law_1631 (by decide) ?_
    refine lv_iadd hx hb dL_law_1632 ?_
    refine lv_topi (fun z_7 ez_7 => ?_)
    have ez_7 : z_7 = 1 := ez_7.trans (by decide +kernel)
    rw [ez_7]
    refine va_sld hx hb hX hbl hbA hS (show vp_in 1 7 from by unfold vp_in; decide +kernel) dL_law_1633 ?_
    refine lv_topi (fun z_8 ez_8 => ?_)
    have ez_8 : z_8 = (xs 1) := ez_8
    rw [ez_8]
    refine lv_aload_n hx hb dL_law_1634 rfl (lv_at hl 3 rfl) ?_
    have hPc := hP.sub (ws' := [(x0, .inr (7, [.ref aH, .ref aB, .ref aJ, .int 0, .int 0, .int 0, .ref rN, .ref rX, .int 0, .int 0, .int 0, .int 0, .int 0, .int 0, .int (-1), .int (-1), .int 0, .int 0, .ref aV])), (ho, .inl (cO, 1, .inr (.inl fo)))]) [0, 18] rfl
    have hKc := hK.sub (tys' := [(cO, .long)]) [5] rfl
    have hDc := hD.sub (ws' := [(x0, .inr (7, [.ref aH, .ref aB, .ref aJ, .int 0, .int 0, .int 0, .ref rN, .ref rX, .int 0, .int 0, .int 0, .int 0, .int 0, .int 0, .int (-1), .int (-1), .int 0, .int 0, .ref aV])), (ho, .inl (cO, 1, .inr (.inl fo)))]) [0, 18] (by decide) rfl
    have hFc := va_free (wc := [(x0, .inr (7, [.ref aH, .ref aB, .ref aJ, .int 0, .int 0, .int 0, .ref rN, .ref rX, .int 0, .int 0, .int 0, .int 0, .int 0, .int 0, .int (-1), .int (-1), .int 0, .int 0, .ref aV])), (ho, .inl (cO, 1, .inr (.inl fo)))]) hD hS hA [0, 18] rfl
    refine va_calli (vx_runSW (As := [.ref x0, .int (xs 1), .ref ho]) (rest := []) ⟨hx, hb, hml, hown, hts⟩ (w_wins_f l hl0 D eT x0 aH aB aJ rN rX aV ho cO fo (xs 1) H.size hn) (vx_cwSW 3 hts gL_law_L_wins rfl rfl rfl (by decide +kernel) ⟨Nat.le_of_ble_eq_true rfl, Nat.le_of_ble_eq_true rfl⟩) (pc_s hPc hDc hKc hE hS hFc) rfl rfl hl.1 rfl (lv_room (Nat.le_of_ble_eq_true rfl)) dL_law_1635 ⟨Nat.le_of_ble_eq_true rfl, Nat.le_of_ble_eq_true rfl⟩) hS (fun q _ h => hFc q h) hFc (fun r u t H1 locs ht hvm hw hB hz1 hk1 hS => ?_)
    have hw : r = 1 := hw
    rw [hw]
    obtain ⟨hP1, hK1, hD1⟩ := hB
    rw [ht] at hP1
    have hK1 := va_K.moved hvm.symm hK1
    obtain ⟨hP, hD⟩ := va_join (wr := [(aJ, .inl (cJ, 5, .inr (.inr (.inr (.inr fJ))))), (j0, .inr (5, [.int 0, .int 0, .int 0, .int 0, .int 0, .ref c1, .ref c2, .int 0, .int 0, .int 0, .int 0, .ref c3, .int 0, .ref c4, .ref c5, .int 0])), (rN, .inr (6, [.int 7, .int 100, .int 800, .int 10])), (rX, .inr (6, [.int 7, .int 100, .int 800, .int 10])), (y0, .inr (8, [.int 0, .ref lH, .ref lB, .ref lJ, .ref aR, .ref aL, .int 0, .int 0, .int 0, .ref lC, .ref aM, .ref aP, .int 0, .int 0, .int 0, .int (-1), .int (-1), .int 0, .int 0, .long 0])), (lH, .inr (2, [.int 0, .ref eT, .int 0])), (lB, .inr (2, [.int 0, .ref eT, .int 0])), (lJ, .inr (2, [.int 0, .ref eT, .int 0])), (lC, .inr (2, [.int 0, .ref eT, .int 0])), (aR, .inl (cI, 4, .inl fR)), (aL, .inl (cL, 4, .inl fL)), (aM, .inl (cM, 5, .inr (.inr (.inr (.inr gM))))), (m0, .inl (cR, 16, .inl f0)), (m1, .inl (cR, 16, .inl f1)), (m2, .inl (cR, 16, .inl f2)), (m3, .inl (cR, 16, .inl f3)), (m4, .inl (cR, 16, .inl f4))]) (w1 := [(ho, .inl (cO, 1, .inr (.inl fo)))]) hP hD [0, 18] [1, 2, 3, 4, 5, 6, 7, 8, 9, 10, 11, 12, 13, 14, 15, 16, 17] rfl rfl (by decide) (by decide) hk1 hFc hP1 hD1
    generalize H1 = H at hP hS ⊢
    have hP : va_P D vwCl [(aJ, .inl (cJ, 5, .inr (.inr (.inr (.inr fJ))))), (j0, .inr (5, [.int 0, .int 0, .int 0, .int 0, .int 0, .ref c1, .ref c2, .int 0, .int 0, .int 0, .int 0, .ref c3, .int 0, .ref c4, .ref c5, .int 0])), (rN, .inr (6, [.int 7, .int 100, .int 800, .int 10])), (rX, .inr (6, [.int 7, .int 100, .int 800, .int 10])), (y0, .inr (8, [.int 0, .ref lH, .ref lB, .ref lJ, .ref aR, .ref aL, .int 0, .int 0, .int 0, .ref lC, .ref aM, .ref aP, .int 0, .int 0, .int 0, .int (-1), .int (-1), .int 0, .int 0, .long 0])), (lH, .inr (2, [.int 0, .ref eT, .int 0])), (lB, .inr (2, [.int 0, .ref eT, .int 0])), (lJ, .inr (2, [.int 0, .ref eT, .int 0])), (lC, .inr (2, [.int 0, .ref eT, .int 0])), (aR, .inl (cI, 4, .inl fR)), (aL, .inl (cL, 4, .inl fL)), (aM, .inl (cM, 5, .inr (.inr (.inr (.inr gM))))), (m0, .inl (cR, 16, .inl f0)), (m1, .inl (cR, 16, .inl f1)), (m2, .inl (cR, 16, .inl f2)), (m3, .inl (cR, 16, .inl f3)), (m4, .inl (cR, 16, .inl f4)), (ho, .inl (cO, 1, .inr (.inl fo)))] H := hP
    have hD : va_D (fun q : Nat => s.heap.size ≤ q) [(aJ, .inl (cJ, 5, .inr (.inr (.inr (.inr fJ))))), (j0, .inr (5, [.int 0, .int 0, .int 0, .int 0, .int 0, .ref c1, .ref c2, .int 0, .int 0, .int 0, .int 0, .ref c3, .int 0, .ref c4, .ref c5, .int 0])), (rN, .inr (6, [.int 7, .int 100, .int 800, .int 10])), (rX, .inr (6, [.int 7, .int 100, .int 800, .int 10])), (y0, .inr (8, [.int 0, .ref lH, .ref lB, .ref lJ, .ref aR, .ref aL, .int 0, .int 0, .int 0, .ref lC, .ref aM, .ref aP, .int 0, .int 0, .int 0, .int (-1), .int (-1), .int 0, .int 0, .long 0])), (lH, .inr (2, [.int 0, .ref eT, .int 0])), (lB, .inr (2, [.int 0, .ref eT, .int 0])), (lJ, .inr (2, [.int 0, .ref eT, .int 0])), (lC, .inr (2, [.int 0, .ref eT, .int 0])), (aR, .inl (cI, 4, .inl fR)), (aL, .inl (cL, 4, .inl fL)), (aM, .inl (cM, 5, .inr (.inr (.inr (.inr gM))))), (m0, .inl (cR, 16, .inl f0)), (m1, .inl (cR, 16, .inl f1)), (m2, .inl (cR, 16, .inl f2)), (m3, .inl (cR, 16, .inl f3)), (m4, .inl (cR, 16, .inl f4)), (ho, .inl (cO, 1, .inr (.inl fo)))] := hD
    refine W.widen (k := 82) (n := 909) (Nat.le_of_ble_eq_true rfl) (Nat.le_of_ble_eq_true rfl) ?_
    refine lv_istore (lv' := [(5, .int 1), (0, .ref b), (1, .ref x0), (2, .ref y0), (3, .ref ho), (4, .int 0)]) hx hb dL_law_1638 hl (by decide) rfl (fun ls hl => ?_)
    refine lv_aload_n hx hb dL_law_1640 rfl (lv_at hl 3 rfl) ?_
    refine lv_aload_n hx hb dL_law_1641 rfl (lv_at hl 1 rfl) ?_
    refine lv_iload hx hb dL_law_1642 (lv_at hl 5 rfl) ?_
    refine lv_iconst (v := 1) hx hb dL_law_1644 (by decide) ?_
    refine lv_iadd hx hb dL_law_1645 ?_
    refine lv_topi (fun z_9 ez_9 => ?_)
    have ez_9 : z_9 = 1 := ez_9.trans (by decide +kernel)
    rw [ez_9]
    refine va_sld hx hb hX hbl hbA hS (show vp_in 1 7 from by unfold vp_in; decide +kernel) dL_law_1646 ?_
    refine lv_topi (fun z_10 ez_10 => ?_)
    have ez_10 : z_10 = (xs 1) := ez_10
    rw [ez_10]
    have hPc := hP.sub (ws' := [(y0, .inr (8, [.int 0, .ref lH, .ref lB, .ref lJ, .ref aR, .ref aL, .int 0, .int 0, .int 0, .ref lC, .ref aM, .ref aP, .int 0, .int 0, .int 0, .int (-1), .int (-1), .int 0, .int 0, .long 0]))]) [4] rfl
    have hKc := hK.sub (tys' := []) [] rfl
    have hDc := hD.sub (ws' := [(y0, .inr (8, [.int 0, .ref lH, .ref lB, .ref lJ, .ref aR, .ref aL, .int 0, .int 0, .int 0, .ref lC, .ref aM, .ref aP, .int 0, .int 0, .int 0, .int (-1), .int (-1), .int 0, .int 0, .long 0]))]) [4] (by decide) rfl
    have hFc := va_free (wc := [(y0, .inr (8, [.int 0, .ref lH, .ref lB, .ref lJ, .ref aR, .ref aL, .int 0, .int 0, .int 0, .ref lC, .ref aM, .ref aP, .int 0, .int 0, .int 0, .int (-1), .int (-1), .int 0, .int 0, .long 0]))]) hD hS hA [4] rfl
    refine va_calli (va_runV (As := [.int (xs 1)]) (rest := []) ⟨hx, hb, hml, hown, hts⟩ (r_wins_f l D eT y0 lH lB lJ aR aL lC aM aP 0 (xs 1) H.size hn) (cwV 1 hts gL_law_X5_wins rfl rfl rfl (by decide +kernel) ⟨Nat.le_of_ble_eq_true rfl, Nat.le_of_ble_eq_true rfl⟩) (pc_v (ci := 8) (q0 := 0) rfl rfl hPc hDc hKc hE hS hFc) rfl rfl hl.1 rfl (lv_room (Nat.le_of_ble_eq_true rfl)) dL_law_1647 ⟨Nat.le_of_ble_eq_true rfl, Nat.le_of_ble_eq_true rfl⟩) hS (fun q _ h => hFc q h) hFc (fun r u t H1 locs ht hvm hw hB hz1 hk1 hS => ?_)
    have hw : r = 0 := hw
    rw [hw]
    obtain ⟨hP1, hK1, hD1⟩ := hB
    rw [ht] at hP1
    have hK1 := va_K.moved hvm.symm hK1
    obtain ⟨hP, hD⟩ := va_join (wr := [(aJ, .inl (cJ, 5, .inr (.inr (.inr (.inr fJ))))), (j0, .inr (5, [.int 0, .int 0, .int 0, .int 0, .int 0, .ref c1, .ref c2, .int 0, .int 0, .int 0, .int 0, .ref c3, .int 0, .ref c4, .ref c5, .int 0])), (rN, .inr (6, [.int 7, .int 100, .int 800, .int 10])), (rX, .inr (6, [.int 7, .int 100, .int 800, .int 10])), (lH, .inr (2, [.int 0, .ref eT, .int 0])), (lB, .inr (2, [.int 0, .ref eT, .int 0])), (lJ, .inr (2, [.int 0, .ref eT, .int 0])), (lC, .inr (2, [.int 0, .ref eT, .int 0])), (aR, .inl (cI, 4, .inl fR)), (aL, .inl (cL, 4, .inl fL)), (aM, .inl (cM, 5, .inr (.inr (.inr (.inr gM))))), (m0, .inl (cR, 16, .inl f0)), (m1, .inl (cR, 16, .inl f1)), (m2, .inl (cR, 16, .inl f2)), (m3, .inl (cR, 16, .inl f3)), (m4, .inl (cR, 16, .inl f4)), (ho, .inl (cO, 1, .inr (.inl fo)))]) (w1 := [(y0, .inr (8, [.int 1, .ref lH, .ref lB, .ref lJ, .ref aR, .ref aL, .int 0, .int 0, .int 0, .ref lC, .ref aM, .ref aP, .int 0, .int 0, .int 0, .int (-1), .int (-1), .int 0, .int 0, .long 0]))]) hP hD [4] [0, 1, 2, 3, 5, 6, 7, 8, 9, 10, 11, 12, 13, 14, 15, 16, 17] rfl rfl (by decide) (by decide) hk1 hFc hP1 hD1
    generalize H1 = H at hP hS ⊢
    have hP : va_P D vwCl [(aJ, .inl (cJ, 5, .inr (.inr (.inr (.inr fJ))))), (j0, .inr (5, [.int 0, .int 0, .int 0, .int 0, .int 0, .ref c1, .ref c2, .int 0, .int 0, .int 0, .int 0, .ref c3, .int 0, .ref c4, .ref c5, .int 0])), (rN, .inr (6, [.int 7, .int 100, .int 800, .int 10])), (rX, .inr (6, [.int 7, .int 100, .int 800, .int 10])), (lH, .inr (2, [.int 0, .ref eT, .int 0])), (lB, .inr (2, [.int 0, .ref eT, .int 0])), (lJ, .inr (2, [.int 0, .ref eT, .int 0])), (lC, .inr (2, [.int 0, .ref eT, .int 0])), (aR, .inl (cI, 4, .inl fR)), (aL, .inl (cL, 4, .inl fL)), (aM, .inl (cM, 5, .inr (.inr (.inr (.inr gM))))), (m0, .inl (cR, 16, .inl f0)), (m1, .inl (cR, 16, .inl f1)), (m2, .inl (cR, 16, .inl f2)), (m3, .inl (cR, 16, .inl f3)), (m4, .inl (cR, 16, .inl f4)), (ho, .inl (cO, 1, .inr (.inl fo))), (y0, .inr (8, [.int 1, .ref lH, .ref lB, .ref lJ, .ref aR, .ref aL, .int 0, .int 0, .int 0, .ref lC, .ref aM, .ref aP, .int 0, .int 0, .int 0, .int (-1), .int (-1), .int 0, .int 0, .long 0]))] H := hP
    have hD : va_D (fun q : Nat => s.heap.size ≤ q) [(aJ, .inl (cJ, 5, .inr (.inr (.inr (.inr fJ))))), (j0, .inr (5, [.int 0, .int 0, .int 0, .int 0, .int 0, .ref c1, .ref c2, .int 0, .int 0, .int 0, .int 0, .ref c3, .int 0, .ref c4, .ref c5, .int 0])), (rN, .inr (6, [.int 7, .int 100, .int 800, .int 10])), (rX, .inr (6, [.int 7, .int 100, .int 800, .int 10])), (lH, .inr (2, [.int 0, .ref eT, .int 0])), (lB, .inr (2, [.int 0, .ref eT, .int 0])), (lJ, .inr (2, [.int 0, .ref eT, .int 0])), (lC, .inr (2, [.int 0, .ref eT, .int 0])), (aR, .inl (cI, 4, .inl fR)), (aL, .inl (cL, 4, .inl fL)), (aM, .inl (cM, 5, .inr (.inr (.inr (.inr gM))))), (m0, .inl (cR, 16, .inl f0)), (m1, .inl (cR, 16, .inl f1)), (m2, .inl (cR, 16, .inl f2)), (m3, .inl (cR, 16, .inl f3)), (m4, .inl (cR, 16, .inl f4)), (ho, .inl (cO, 1, .inr (.inl fo))), (y0, .inr (8, [.int 1, .ref lH, .ref lB, .ref lJ, .ref aR, .ref aL, .int 0, .int 0, .int 0, .ref lC, .ref aM, .ref aP, .int 0, .int 0, .int 0, .int (-1), .int (-1), .int 0, .int 0, .long 0]))] := hD
    refine lv_istore (lv' := [(6, .int 0), (5, .int 1), (0, .ref b), (1, .ref x0), (2, .ref y0), (3, .ref ho), (4, .int 0)]) hx hb dL_law_1650 hl (by decide) rfl (fun ls hl => ?_)
    refine lv_aload_n hx hb dL_law_1652 rfl (lv_at hl 4 rfl) ?_
    have hPc := hP.sub (ws' := [(y0, .inr (8, [.int 1, .ref lH, .ref lB, .ref lJ, .ref aR, .ref aL, .int 0, .int 0, .int 0, .ref lC, .ref aM, .ref aP, .int 0, .int 0, .int 0, .int (-1), .int (-1), .int 0, .int 0, .long 0]))]) [17] rfl
    have hKc := hK.sub (tys' := []) [] rfl
    refine va_calli (va_runV (As := []) (rest := []) ⟨hx, hb, hml, hown, hts⟩ (r_thrown l D eT y0 lH lB lJ aR aL lC aM aP 0 1 0 H.size ) (cwV 0 hts gL_law_X5_thrown rfl rfl rfl (by decide +kernel) ⟨Nat.le_of_ble_eq_true rfl, Nat.le_of_ble_eq_true rfl⟩) (pr_v (ci := 8) (q0 := 0) rfl rfl hPc hKc hE hS hA) rfl rfl hl.1 rfl (lv_room (Nat.le_of_ble_eq_true rfl)) dL_law_1653 ⟨Nat.le_of_ble_eq_true rfl, Nat.le_of_ble_eq_true rfl⟩) hS (fun q h1 h2 => ro_A h1 h2) (fun q h => ro_F hS hA q h) (fun r u t H1 locs ht hvm hw hB hz1 hk1 hS => ?_)
    have hw : r = 1 := hw
    rw [hw]
    have hP := ro_P hP hk1
    generalize H1 = H at hP hS ⊢
    refine lv_iload hx hb dL_law_1656 (lv_at hl 1 rfl) ?_
    refine lv_icmp_eq (tgt := 1663) hx hb dL_law_1658 (by decide) (fun _ => ?_) (fun h => absurd (by decide) h)
    refine lv_iload hx hb dL_law_1663 (lv_at hl 1 rfl) ?_
    refine lv_if_ne (tgt := 1680) hx hb dL_law_1665 (by decide) (fun _ => ?_) (fun h => absurd h (by decide))
    refine lv_goto (tgt := 1835) hx hb dL_law_1680 (by decide) ?_
    refine W.widen (k := 2000) (n := 20000) (Nat.le_of_ble_eq_true rfl) (Nat.le_of_ble_eq_true rfl) ?_
    exact kx _ _ _ hS (lv_sub hl [2, 3, 4, 5, 6] rfl)

set_option maxHeartbeats 8000000 in
set_option maxRecDepth 100000 in
theorem law_c6 {p : Program} {l : Launch} {e : Env} {s : State} {m : MethodId} {args : Array Value} {below : List Frame} {meth : Method} {c : Code} {Q : State → Prop} {b : Nat} {xs : Nat → Int32} {D : va_G} {eT : Nat} {x0 aH aB aJ rN rX aV j0 c1 c2 c3 c4 c5 y0 lH lB lJ aR aL lC aM aP m0 m1 m2 m3 m4 ho : Nat} {cJ cI cL cM cR cO : ClassId} {fJ : Nat → Option Nat} {fR : Nat → Int32} {fL : Nat → Int32} {gM : Nat → Option Nat} {f0 : Nat → Int32} {f1 : Nat → Int32} {f2 : Nat → Int32} {f3 : Nat → Int32} {f4 : Nat → Int32} {fo : Nat → Int64} (hl0 : l.stackTraces = false) (hx : p.tables.exec = Jvm.exec) (hb : c.code = cL_law) (hml : c.maxLocals = 9) (hown : s.vm.findClass RL = some m.cls) (hts : ∀ w ∈ wsL_law, w.before args s = true) (hX : va_X b 7 xs s s.heap) (hbl : b < s.heap.size) (hE : ev eT (fun q : Nat => s.heap.size ≤ q) s s.heap) (hJ : fJ 0 = some j0) (hR : fR 3 = 10) (hg0 : gM 0 = some m0) (hg1 : gM 1 = some m1) (hg2 : gM 2 = some m2) (hg3 : gM 3 = some m3) (hg4 : gM 4 = some m4) (hm0 : ∀ k, k < 16 → f0 k = -1) (hm1 : ∀ k, k < 16 → f1 k = -1) (hm2 : ∀ k, k < 16 → f2 k = -1) (hm3 : ∀ k, k < 16 → f3 k = -1) (hm4 : ∀ k, k < 16 → f4 k = -1) (hK : va_K D vwCl [(cJ, .object RX2), (cI, .int), (cL, .int), (cM, .array .int), (cR, .int), (cO, .long)] s) {H : Heap} {locs : List Loc} (hP : va_P D vwCl [(x0, .inr (7, [.ref aH, .ref aB, .ref aJ, .int 0, .int 0, .int 0, .ref rN, .ref rX, .int 0, .int 0, .int 0, .int 0, .int 0, .int 0, .int (-1), .int (-1), .int 0, .int 0, .ref aV])), (aJ, .inl (cJ, 5, .inr (.inr (.inr (.inr fJ))))), (j0, .inr (5, [.int 0, .int 0, .int 0, .int 0, .int 0, .ref c1, .ref c2, .int 0, .int 0, .int 0, .int 0, .ref c3, .int 0, .ref c4, .ref c5, .int 0])), (rN, .inr (6, [.int 7, .int 100, .int 800, .int 10])), (rX, .inr (6, [.int 7, .int 100, .int 800, .int 10])), (y0, .inr (8, [.int 0, .ref lH, .ref lB, .ref lJ, .ref aR, .ref aL, .int 0, .int 0, .int 0, .ref lC, .ref aM, .ref aP, .int 0, .int 0, .int 0, .int (-1), .int (-1), .int 0, .int 0, .long 0])), (lH, .inr (2, [.int 0, .ref eT, .int 0])), (lB, .inr (2, [.int 0, .ref eT, .int 0])), (lJ, .inr (2, [.int 0, .ref eT, .int 0])), (lC, .inr (2, [.int 0, .ref eT, .int 0])), (aR, .inl (cI, 4, .inl fR)), (aL, .inl (cL, 4, .inl fL)), (aM, .inl (cM, 5, .inr (.inr (.inr (.inr gM))))), (m0, .inl (cR, 16, .inl f0)), (m1, .inl (cR, 16, .inl f1)), (m2, .inl (cR, 16, .inl f2)), (m3, .inl (cR, 16, .inl f3)), (m4, .inl (cR, 16, .inl f4)), (ho, .inl (cO, 1, .inr (.inl fo)))] H) (hD : va_D (fun q : Nat => s.heap.size ≤ q) [(x0, .inr (7, [.ref aH, .ref aB, .ref aJ, .int 0, .int 0, .int 0, .ref rN, .ref rX, .int 0, .int 0, .int 0, .int 0, .int 0, .int 0, .int (-1), .int (-1), .int 0, .int 0, .ref aV])), (aJ, .inl (cJ, 5, .inr (.inr (.inr (.inr fJ))))), (j0, .inr (5, [.int 0, .int 0, .int 0, .int 0, .int 0, .ref c1, .ref c2, .int 0, .int 0, .int 0, .int 0, .ref c3, .int 0, .ref c4, .ref c5, .int 0])), (rN, .inr (6, [.int 7, .int 100, .int 800, .int 10])), (rX, .inr (6, [.int 7, .int 100, .int 800, .int 10])), (y0, .inr (8, [.int 0, .ref lH, .ref lB, .ref lJ, .ref aR, .ref aL, .int 0, .int 0, .int 0, .ref lC, .ref aM, .ref aP, .int 0, .int 0, .int 0, .int (-1), .int (-1), .int 0, .int 0, .long 0])), (lH, .inr (2, [.int 0, .ref eT, .int 0])), (lB, .inr (2, [.int 0, .ref eT, .int 0])), (lJ, .inr (2, [.int 0, .ref eT, .int 0])), (lC, .inr (2, [.int 0, .ref eT, .int 0])), (aR, .inl (cI, 4, .inl fR)), (aL, .inl (cL, 4, .inl fL)), (aM, .inl (cM, 5, .inr (.inr (.inr (.inr gM))))), (m0, .inl (cR, 16, .inl f0)), (m1, .inl (cR, 16, .inl f1)), (m2, .inl (cR, 16, .inl f2)), (m3, .inl (cR, 16, .inl f3)), (m4, .inl (cR, 16, .inl f4)), (ho, .inl (cO, 1, .inr (.inl fo)))]) (hS : va_S (fun q : Nat => s.heap.size ≤ q) s.heap H locs) {ls : Array Slot} (hl : lv_has ls 9 [(0, .ref b), (1, .ref x0), (2, .ref y0), (3, .ref ho), (4, .int 0)]) (kx : ∀ (H : Heap) (locs : List Loc) (ls : Array Slot), va_S (fun q : Nat => s.heap.size ≤ q) s.heap H locs → lv_has ls 9 [(0, .ref b), (1, .ref x0), (2, .ref y0), (3, .ref ho), (4, .int 0)] → W p l e room_1 s m args below meth c H locs 2000 20000 Q (F0 m 1835 ls [])) : W p l e room_1 s m args below meth c H locs 81 903 Q (F0 m 630 ls []) := by
  have hA : ∀ q : Nat, s.heap.size ≤ q → (fun q : Nat => s.heap.size ≤ q) q := fun _ h => h
  have hbA : ¬ (fun q : Nat => s.heap.size ≤ q) b := Nat.not_le.mpr hbl
  · skip
    refine lv_aload_n hx hb dL_law_630 rfl (lv_at hl 1 rfl) ?_
    refine lv_aload_n hx hb dL_law_631 rfl (lv_at hl 0 rfl) ?_
    refine lv_iload hx hb dL_law_632 (lv_at hl 4 rfl) ?_
    refine lv_iconst (v := 1) hx hb dL_law_634 (by decide) ?_
    refine lv_iadd hx hb dL_law_635 ?_
    refine lv_topi (fun z_1 ez_1 => ?_)
    have ez_1 : z_1 = 1 := ez_1.trans (by decide +kernel)
    rw [ez_1]
    refine va_sld hx hb hX hbl hbA hS (show vp_in 1 7 from by unfold vp_in; decide +kernel) dL_law_636 ?_
    refine lv_topi (fun z_2 ez_2 => ?_)
    have ez_2 : z_2 = (xs 1) := ez_2
    rw [ez_2]
    refine lv_aload_n hx hb dL_law_637 rfl (lv_at hl 0 rfl) ?_
    refine lv_iload hx hb dL_law_638 (lv_at hl 4 rfl) ?_
    refine lv_iconst (v := 2) hx hb dL_law_640 (by decide) ?_
    refine lv_iadd hx hb dL_law_641 ?_
    refine lv_topi (fun z_3 ez_3 => ?_)
    have ez_3 : z_3 = 2 := ez_3.trans (by decide +kernel)
    rw [ez_3]
    refine va_sld hx hb hX hbl hbA hS (show vp_in 2 7 from by unfold vp_in; decide +kernel) dL_law_642 ?_
    refine lv_topi (fun z_4 ez_4 => ?_)
    have ez_4 : z_4 = (xs 2) := ez_4
    rw [ez_4]
    refine lv_aload_n hx hb dL_law_643 rfl (lv_at hl 3 rfl) ?_
    have hPc := hP.sub (ws' := [(x0, .inr (7, [.ref aH, .ref aB, .ref aJ, .int 0, .int 0, .int 0, .ref rN, .ref rX, .int 0, .int 0, .int 0, .int 0, .int 0, .int 0, .int (-1), .int (-1), .int 0, .int 0, .ref aV])), (ho, .inl (cO, 1, .inr (.inl fo)))]) [0, 18] rfl
    have hKc := hK.sub (tys' := [(cO, .long)]) [5] rfl
    have hDc := hD.sub (ws' := [(x0, .inr (7, [.ref aH, .ref aB, .ref aJ, .int 0, .int 0, .int 0, .ref rN, .ref rX, .int 0, .int 0, .int 0, .int 0, .int 0, .int 0, .int (-1), .int (-1), .int 0, .int 0, .ref aV])), (ho, .inl (cO, 1, .inr (.inl fo)))]) [0, 18] (by decide) rfl
    have hFc := va_free (wc := [(x0, .inr (7, [.ref aH, .ref aB, .ref aJ, .int 0, .int 0, .int 0, .ref rN, .ref rX, .int 0, .int 0, .int 0, .int 0, .int 0, .int 0, .int (-1), .int (-1), .int 0, .int 0, .ref aV])), (ho, .inl (cO, 1, .inr (.inl fo)))]) hD hS hA [0, 18] rfl
    refine va_calli (vx_runSW (As := [.ref x0, .int (xs 1), .int (xs 2), .ref ho]) (rest := []) ⟨hx, hb, hml, hown, hts⟩ (w_callIn l hl0 D eT x0 aH aB aJ rN rX aV ho cO fo (xs 1) (xs 2) H.size ) (vx_cwSW 4 hts gL_law_L_callIn rfl rfl rfl (by decide +kernel) ⟨Nat.le_of_ble_eq_true rfl, Nat.le_of_ble_eq_true rfl⟩) (pc_s hPc hDc hKc hE hS hFc) rfl rfl hl.1 rfl (lv_room (Nat.le_of_ble_eq_true rfl)) dL_law_644 ⟨Nat.le_of_ble_eq_true rfl, Nat.le_of_ble_eq_true rfl⟩) hS (fun q _ h => hFc q h) hFc (fun r u t H1 locs ht hvm hw hB hz1 hk1 hS => ?_)
    have hw : r = 1 := hw
    rw [hw]
    obtain ⟨hP1, hK1, hD1⟩ := hB
    rw [ht] at hP1
    have hK1 := va_K.moved hvm.symm hK1
    obtain ⟨hP, hD⟩ := va_join (wr := [(aJ, .inl (cJ, 5, .inr (.inr (.inr (.inr fJ))))), (j0, .inr (5, [.int 0, .int 0, .int 0, .int 0, .int 0, .ref c1, .ref c2, .int 0, .int 0, .int 0, .int 0, .ref c3, .int 0, .ref c4, .ref c5, .int 0])), (rN, .inr (6, [.int 7, .int 100, .int 800, .int 10])), (rX, .inr (6, [.int 7, .int 100, .int 800, .int 10])), (y0, .inr (8, [.int 0, .ref lH, .ref lB, .ref lJ, .ref aR, .ref aL, .int 0, .int 0, .int 0, .ref lC, .ref aM, .ref aP, .int 0, .int 0, .int 0, .int (-1), .int (-1), .int 0, .int 0, .long 0])), (lH, .inr (2, [.int 0, .ref eT, .int 0])), (lB, .inr (2, [.int 0, .ref eT, .int 0])), (lJ, .inr (2, [.int 0, .ref eT, .int 0])), (lC, .inr (2, [.int 0, .ref eT, .int 0])), (aR, .inl (cI, 4, .inl fR)), (aL, .inl (cL, 4, .inl fL)), (aM, .inl (cM, 5, .inr (.inr (.inr (.inr gM))))), (m0, .inl (cR, 16, .inl f0)), (m1, .inl (cR, 16, .inl f1)), (m2, .inl (cR, 16, .inl f2)), (m3, .inl (cR, 16, .inl f3)), (m4, .inl (cR, 16, .inl f4))]) (w1 := [(ho, .inl (cO, 1, .inr (.inl fo)))]) hP hD [0, 18] [1, 2, 3, 4, 5, 6, 7, 8, 9, 10, 11, 12, 13, 14, 15, 16, 17] rfl rfl (by decide) (by decide) hk1 hFc hP1 hD1
    generalize H1 = H at hP hS ⊢
    have hP : va_P D vwCl [(aJ, .inl (cJ, 5, .inr (.inr (.inr (.inr fJ))))), (j0, .inr (5, [.int 0, .int 0, .int 0, .int 0, .int 0, .ref c1, .ref c2, .int 0, .int 0, .int 0, .int 0, .ref c3, .int 0, .ref c4, .ref c5, .int 0])), (rN, .inr (6, [.int 7, .int 100, .int 800, .int 10])), (rX, .inr (6, [.int 7, .int 100, .int 800, .int 10])), (y0, .inr (8, [.int 0, .ref lH, .ref lB, .ref lJ, .ref aR, .ref aL, .int 0, .int 0, .int 0, .ref lC, .ref aM, .ref aP, .int 0, .int 0, .int 0, .int (-1), .int (-1), .int 0, .int 0, .long 0])), (lH, .inr (2, [.int 0, .ref eT, .int 0])), (lB, .inr (2, [.int 0, .ref eT, .int 0])), (lJ, .inr (2, [.int 0, .ref eT, .int 0])), (lC, .inr (2, [.int 0, .ref eT, .int 0])), (aR, .inl (cI, 4, .inl fR)), (aL, .inl (cL, 4, .inl fL)), (aM, .inl (cM, 5, .inr (.inr (.inr (.inr gM))))), (m0, .inl (cR, 16, .inl f0)), (m1, .inl (cR, 16, .inl f1)), (m2, .inl (cR, 16, .inl f2)), (m3, .inl (cR, 16, .inl f3)), (m4, .inl (cR, 16, .inl f4)), (ho, .inl (cO, 1, .inr (.inl fo)))] H := hP
    have hD : va_D (fun q : Nat => s.heap.size ≤ q) [(aJ, .inl (cJ, 5, .inr (.inr (.inr (.inr fJ))))), (j0, .inr (5, [.int 0, .int 0, .int 0, .int 0, .int 0, .ref c1, .ref c2, .int 0, .int 0, .int 0, .int 0, .ref c3, .int 0, .ref c4, .ref c5, .int 0])), (rN, .inr (6, [.int 7, .int 100, .int 800, .int 10])), (rX, .inr (6, [.int 7, .int 100, .int 800, .int 10])), (y0, .inr (8, [.int 0, .ref lH, .ref lB, .ref lJ, .ref aR, .ref aL, .int 0, .int 0, .int 0, .ref lC, .ref aM, .ref aP, .int 0, .int 0, .int 0, .int (-1), .int (-1), .int 0, .int 0, .long 0])), (lH, .inr (2, [.int 0, .ref eT, .int 0])), (lB, .inr (2, [.int 0, .ref eT, .int 0])), (lJ, .inr (2, [.int 0, .ref eT, .int 0])), (lC, .inr (2, [.int 0, .ref eT, .int 0])), (aR, .inl (cI, 4, .inl fR)), (aL, .inl (cL, 4, .inl fL)), (aM, .inl (cM, 5, .inr (.inr (.inr (.inr gM))))), (m0, .inl (cR, 16, .inl f0)), (m1, .inl (cR, 16, .inl f1)), (m2, .inl (cR, 16, .inl f2)), (m3, .inl (cR, 16, .inl f3)), (m4, .inl (cR, 16, .inl f4)), (ho, .inl (cO, 1, .inr (.inl fo)))] := hD
    refine W.widen (k := 82) (n := 909) (Nat.le_of_ble_eq_true rfl) (Nat.le_of_ble_eq_true rfl) ?_
    refine lv_istore (lv' := [(5, .int 1), (0, .ref b), (1, .ref x0), (2, .ref y0), (3, .ref ho), (4, .int 0)]) hx hb dL_law_647 hl (by decide) rfl (fun ls hl => ?_)
    refine lv_aload_n hx hb dL_law_649 rfl (lv_at hl 3 rfl) ?_
    refine lv_aload_n hx hb dL_law_650 rfl (lv_at hl 1 rfl) ?_
    refine lv_iload hx hb dL_law_651 (lv_at hl 5 rfl) ?_
    refine lv_iconst (v := 1) hx hb dL_law_653 (by decide) ?_
    refine lv_iadd hx hb dL_law_654 ?_
    refine lv_topi (fun z_5 ez_5 => ?_)
    have ez_5 : z_5 = 1 := ez_5.trans (by decide +kernel)
    rw [ez_5]
    refine va_sld hx hb hX hbl hbA hS (show vp_in 1 7 from by unfold vp_in; decide +kernel) dL_law_655 ?_
    refine lv_topi (fun z_6 ez_6 => ?_)
    have ez_6 : z_6 = (xs 1) := ez_6
    rw [ez_6]
    refine lv_aload_n hx hb dL_law_656 rfl (lv_at hl 1 rfl) ?_
    refine lv_iload hx hb dL_law_657 (lv_at hl 5 rfl) ?_
    refine lv_iconst (v := 2) hx hb dL_law_659 (by decide) ?_
    refine lv_iadd hx hb dL_law_660 ?_
    refine lv_topi (fun z_7 ez_7 => ?_)
    have ez_7 : z_7 = 2 := ez_7.trans (by decide +kernel)
    rw [ez_7]
    refine va_sld hx hb hX hbl hbA hS (show vp_in 2 7 from by unfold vp_in; decide +kernel) dL_law_661 ?_
    refine lv_topi (fun z_8 ez_8 => ?_)
    have ez_8 : z_8 = (xs 2) := ez_8
    rw [ez_8]
    have hPc := hP.sub (ws' := [(y0, .inr (8, [.int 0, .ref lH, .ref lB, .ref lJ, .ref aR, .ref aL, .int 0, .int 0, .int 0, .ref lC, .ref aM, .ref aP, .int 0, .int 0, .int 0, .int (-1), .int (-1), .int 0, .int 0, .long 0])), (lJ, .inr (2, [.int 0, .ref eT, .int 0]))]) [4, 7] rfl
    have hKc := hK.sub (tys' := []) [] rfl
    have hDc := hD.sub (ws' := [(y0, .inr (8, [.int 0, .ref lH, .ref lB, .ref lJ, .ref aR, .ref aL, .int 0, .int 0, .int 0, .ref lC, .ref aM, .ref aP, .int 0, .int 0, .int 0, .int (-1), .int (-1), .int 0, .int 0, .long 0])), (lJ, .inr (2, [.int 0, .ref eT, .int 0]))]) [4, 7] (by decide) rfl
    have hFc := va_free (wc := [(y0, .inr (8, [.int 0, .ref lH, .ref lB, .ref lJ, .ref aR, .ref aL, .int 0, .int 0, .int 0, .ref lC, .ref aM, .ref aP, .int 0, .int 0, .int 0, .int (-1), .int (-1), .int 0, .int 0, .long 0])), (lJ, .inr (2, [.int 0, .ref eT, .int 0]))]) hD hS hA [4, 7] rfl
    refine va_calli (va_runV (As := [.int (xs 1), .int (xs 2)]) (rest := []) ⟨hx, hb, hml, hown, hts⟩ (r_callIn l D eT y0 lH lB lJ aR aL lC aM aP 0 (xs 1) (xs 2) H.size ) (cwV 2 hts gL_law_X5_callIn rfl rfl rfl (by decide +kernel) ⟨Nat.le_of_ble_eq_true rfl, Nat.le_of_ble_eq_true rfl⟩) (pc_v (ci := 8) (q0 := 0) rfl rfl hPc hDc hKc hE hS hFc) rfl rfl hl.1 rfl (lv_room (Nat.le_of_ble_eq_true rfl)) dL_law_662 ⟨Nat.le_of_ble_eq_true rfl, Nat.le_of_ble_eq_true rfl⟩) hS (fun q _ h => hFc q h) hFc (fun r u t H1 locs ht hvm hw hB hz1 hk1 hS => ?_)
    have hw : r = 0 := hw
    rw [hw]
    obtain ⟨hP1, hK1, hD1⟩ := hB
    rw [ht] at hP1
    have hK1 := va_K.moved hvm.symm hK1
    obtain ⟨hP, hD⟩ := va_join (wr := [(aJ, .inl (cJ, 5, .inr (.inr (.inr (.inr fJ))))), (j0, .inr (5, [.int 0, .int 0, .int 0, .int 0, .int 0, .ref c1, .ref c2, .int 0, .int 0, .int 0, .int 0, .ref c3, .int 0, .ref c4, .ref c5, .int 0])), (rN, .inr (6, [.int 7, .int 100, .int 800, .int 10])), (rX, .inr (6, [.int 7, .int 100, .int 800, .int 10])), (lH, .inr (2, [.int 0, .ref eT, .int 0])), (lB, .inr (2, [.int 0, .ref eT, .int 0])), (lC, .inr (2, [.int 0, .ref eT, .int 0])), (aR, .inl (cI, 4, .inl fR)), (aL, .inl (cL, 4, .inl fL)), (aM, .inl (cM, 5, .inr (.inr (.inr (.inr gM))))), (m0, .inl (cR, 16, .inl f0)), (m1, .inl (cR, 16, .inl f1)), (m2, .inl (cR, 16, .inl f2)), (m3, .inl (cR, 16, .inl f3)), (m4, .inl (cR, 16, .inl f4)), (ho, .inl (cO, 1, .inr (.inl fo)))]) (w1 := [(y0, .inr (8, [.int 1, .ref lH, .ref lB, .ref lJ, .ref aR, .ref aL, .int 0, .int 0, .int 0, .ref lC, .ref aM, .ref aP, .int 0, .int 0, .int 0, .int (-1), .int (-1), .int 0, .int 0, .long 0]))]) hP hD [4, 7] [0, 1, 2, 3, 5, 6, 8, 9, 10, 11, 12, 13, 14, 15, 16, 17] rfl rfl (by decide) (by decide) hk1 hFc hP1 hD1
    generalize H1 = H at hP hS ⊢
    have hP : va_P D vwCl [(aJ, .inl (cJ, 5, .inr (.inr (.inr (.inr fJ))))), (j0, .inr (5, [.int 0, .int 0, .int 0, .int 0, .int 0, .ref c1, .ref c2, .int 0, .int 0, .int 0, .int 0, .ref c3, .int 0, .ref c4, .ref c5, .int 0])), (rN, .inr (6, [.int 7, .int 100, .int 800, .int 10])), (rX, .inr (6, [.int 7, .int 100, .int 800, .int 10])), (lH, .inr (2, [.int 0, .ref eT, .int 0])), (lB, .inr (2, [.int 0, .ref eT, .int 0])), (lC, .inr (2, [.int 0, .ref eT, .int 0])), (aR, .inl (cI, 4, .inl fR)), (aL, .inl (cL, 4, .inl fL)), (aM, .inl (cM, 5, .inr (.inr (.inr (.inr gM))))), (m0, .inl (cR, 16, .inl f0)), (m1, .inl (cR, 16, .inl f1)), (m2, .inl (cR, 16, .inl f2)), (m3, .inl (cR, 16, .inl f3)), (m4, .inl (cR, 16, .inl f4)), (ho, .inl (cO, 1, .inr (.inl fo))), (y0, .inr (8, [.int 1, .ref lH, .ref lB, .ref lJ, .ref aR, .ref aL, .int 0, .int 0, .int 0, .ref lC, .ref aM, .ref aP, .int 0, .int 0, .int 0, .int (-1), .int (-1), .int 0, .int 0, .long 0]))] H := hP
    have hD : va_D (fun q : Nat => s.heap.size ≤ q) [(aJ, .inl (cJ, 5, .inr (.inr (.inr (.inr fJ))))), (j0, .inr (5, [.int 0, .int 0, .int 0, .int 0, .int 0, .ref c1, .ref c2, .int 0, .int 0, .int 0, .int 0, .ref c3, .int 0, .ref c4, .ref c5, .int 0])), (rN, .inr (6, [.int 7, .int 100, .int 800, .int 10])), (rX, .inr (6, [.int 7, .int 100, .int 800, .int 10])), (lH, .inr (2, [.int 0, .ref eT, .int 0])), (lB, .inr (2, [.int 0, .ref eT, .int 0])), (lC, .inr (2, [.int 0, .ref eT, .int 0])), (aR, .inl (cI, 4, .inl fR)), (aL, .inl (cL, 4, .inl fL)), (aM, .inl (cM, 5, .inr (.inr (.inr (.inr gM))))), (m0, .inl (cR, 16, .inl f0)), (m1, .inl (cR, 16, .inl f1)), (m2, .inl (cR, 16, .inl f2)), (m3, .inl (cR, 16, .inl f3)), (m4, .inl (cR, 16, .inl f4)), (ho, .inl (cO, 1, .inr (.inl fo))), (y0, .inr (8, [.int 1, .ref lH, .ref lB, .ref lJ, .ref aR, .ref aL, .int 0, .int 0, .int 0, .ref lC, .ref aM, .ref aP, .int 0, .int 0, .int 0, .int (-1), .int (-1), .int 0, .int 0, .long 0]))] := hD
    refine lv_istore (lv' := [(6, .int 0), (5, .int 1), (0, .ref b), (1, .ref x0), (2, .ref y0), (3, .ref ho), (4, .int 0)]) hx hb dL_law_665 hl (by decide) rfl (fun ls hl => ?_)
    refine lv_aload_n hx hb dL_law_667 rfl (lv_at hl 4 rfl) ?_
    have hPc := hP.sub (ws' := [(y0, .inr (8, [.int 1, .ref lH, .ref lB, .ref lJ, .ref aR, .ref aL, .int 0, .int 0, .int 0, .ref lC, .ref aM, .ref aP, .int 0, .int 0, .int 0, .int (-1), .int (-1), .int 0, .int 0, .long 0]))]) [16] rfl
    have hKc := hK.sub (tys' := []) [] rfl
    refine va_calli (va_runV (As := []) (rest := []) ⟨hx, hb, hml, hown, hts⟩ (r_thrown l D eT y0 lH lB lJ aR aL lC aM aP 0 1 0 H.size ) (cwV 0 hts gL_law_X5_thrown rfl rfl rfl (by decide +kernel) ⟨Nat.le_of_ble_eq_true rfl, Nat.le_of_ble_eq_true rfl⟩) (pr_v (ci := 8) (q0 := 0) rfl rfl hPc hKc hE hS hA) rfl rfl hl.1 rfl (lv_room (Nat.le_of_ble_eq_true rfl)) dL_law_668 ⟨Nat.le_of_ble_eq_true rfl, Nat.le_of_ble_eq_true rfl⟩) hS (fun q h1 h2 => ro_A h1 h2) (fun q h => ro_F hS hA q h) (fun r u t H1 locs ht hvm hw hB hz1 hk1 hS => ?_)
    have hw : r = 1 := hw
    rw [hw]
    have hP := ro_P hP hk1
    generalize H1 = H at hP hS ⊢
    refine lv_iload hx hb dL_law_671 (lv_at hl 1 rfl) ?_
    refine lv_icmp_eq (tgt := 678) hx hb dL_law_673 (by decide) (fun _ => ?_) (fun h => absurd (by decide) h)
    refine lv_iload hx hb dL_law_678 (lv_at hl 1 rfl) ?_
    refine lv_if_ne (tgt := 695) hx hb dL_law_680 (by decide) (fun _ => ?_) (fun h => absurd h (by decide))
    refine lv_goto (tgt := 1835) hx hb dL_law_695 (by decide) ?_
    refine W.widen (k := 2000) (n := 20000) (Nat.le_of_ble_eq_true rfl) (Nat.le_of_ble_eq_true rfl) ?_
    exact kx _ _ _ hS (lv_sub hl [2, 3, 4, 5, 6] rfl)
set_option maxHeartbeats 8000000 in
set_option maxRecDepth 100000 in
theorem law_c7 {p : Program} {l : Launch} {e : Env} {s : State} {m : MethodId} {args : Array Value} {below : List Frame} {meth : Method} {c : Code} {Q : State → Prop} {b : Nat} {xs : Nat → Int32} {D : va_G} {eT : Nat} {x0 aH aB aJ rN rX aV j0 c1 c2 c3 c4 c5 y0 lH lB lJ aR aL lC aM aP m0 m1 m2 m3 m4 ho : Nat} {cJ cI cL cM cR cO : ClassId} {fJ : Nat → Option Nat} {fR : Nat → Int32} {fL : Nat → Int32} {gM : Nat → Option Nat} {f0 : Nat → Int32} {f1 : Nat → Int32} {f2 : Nat → Int32} {f3 : Nat → Int32} {f4 : Nat → Int32} {fo : Nat → Int64} (hl0 : l.stackTraces = false) (hx : p.tables.exec = Jvm.exec) (hb : c.code = cL_law) (hml : c.maxLocals = 9) (hown : s.vm.findClass RL = some m.cls) (hts : ∀ w ∈ wsL_law, w.before args s = true) (hX : va_X b 7 xs s s.heap) (hbl : b < s.heap.size) (hE : ev eT (fun q : Nat => s.heap.size ≤ q) s s.heap) (hJ : fJ 0 = some j0) (hR : fR 3 = 10) (hg0 : gM 0 = some m0) (hg1 : gM 1 = some m1) (hg2 : gM 2 = some m2) (hg3 : gM 3 = some m3) (hg4 : gM 4 = some m4) (hm0 : ∀ k, k < 16 → f0 k = -1) (hm1 : ∀ k, k < 16 → f1 k = -1) (hm2 : ∀ k, k < 16 → f2 k = -1) (hm3 : ∀ k, k < 16 → f3 k = -1) (hm4 : ∀ k, k < 16 → f4 k = -1) (hK : va_K D vwCl [(cJ, .object RX2), (cI, .int), (cL, .int), (cM, .array .int), (cR, .int), (cO, .long)] s) {H : Heap} {locs : List Loc} (hP : va_P D vwCl [(x0, .inr (7, [.ref aH, .ref aB, .ref aJ, .int 0, .int 0, .int 0, .ref rN, .ref rX, .int 0, .int 0, .int 0, .int 0, .int 0, .int 0, .int (-1), .int (-1), .int 0, .int 0, .ref aV])), (aJ, .inl (cJ, 5, .inr (.inr (.inr (.inr fJ))))), (j0, .inr (5, [.int 0, .int 0, .int 0, .int 0, .int 0, .ref c1, .ref c2, .int 0, .int 0, .int 0, .int 0, .ref c3, .int 0, .ref c4, .ref c5, .int 0])), (rN, .inr (6, [.int 7, .int 100, .int 800, .int 10])), (rX, .inr (6, [.int 7, .int 100, .int 800, .int 10])), (y0, .inr (8, [.int 0, .ref lH, .ref lB, .ref lJ, .ref aR, .ref aL, .int 0, .int 0, .int 0, .ref lC, .ref aM, .ref aP, .int 0, .int 0, .int 0, .int (-1), .int (-1), .int 0, .int 0, .long 0])), (lH, .inr (2, [.int 0, .ref eT, .int 0])), (lB, .inr (2, [.int 0, .ref eT, .int 0])), (lJ, .inr (2, [.int 0, .ref eT, .int 0])), (lC, .inr (2, [.int 0, .ref eT, .int 0])), (aR, .inl (cI, 4, .inl fR)), (aL, .inl (cL, 4, .inl fL)), (aM, .inl (cM, 5, .inr (.inr (.inr (.inr gM))))), (m0, .inl (cR, 16, .inl f0)), (m1, .inl (cR, 16, .inl f1)), (m2, .inl (cR, 16, .inl f2)), (m3, .inl (cR, 16, .inl f3)), (m4, .inl (cR, 16, .inl f4)), (ho, .inl (cO, 1, .inr (.inl fo)))] H) (hD : va_D (fun q : Nat => s.heap.size ≤ q) [(x0, .inr (7, [.ref aH, .ref aB, .ref aJ, .int 0, .int 0, .int 0, .ref rN, .ref rX, .int 0, .int 0, .int 0, .int 0, .int 0, .int 0, .int (-1), .int (-1), .int 0, .int 0, .ref aV])), (aJ, .inl (cJ, 5, .inr (.inr (.inr (.inr fJ))))), (j0, .inr (5, [.int 0, .int 0, .int 0, .int 0, .int 0, .ref c1, .ref c2, .int 0, .int 0, .int 0, .int 0, .ref c3, .int 0, .ref c4, .ref c5, .int 0])), (rN, .inr (6, [.int 7, .int 100, .int 800, .int 10])), (rX, .inr (6, [.int 7, .int 100, .int 800, .int 10])), (y0, .inr (8, [.int 0, .ref lH, .ref lB, .ref lJ, .ref aR, .ref aL, .int 0, .int 0, .int 0, .ref lC, .ref aM, .ref aP, .int 0, .int 0, .int 0, .int (-1), .int (-1), .int 0, .int 0, .long 0])), (lH, .inr (2, [.int 0, .ref eT, .int 0])), (lB, .inr (2, [.int 0, .ref eT, .int 0])), (lJ, .inr (2, [.int 0, .ref eT, .int 0])), (lC, .inr (2, [.int 0, .ref eT, .int 0])), (aR, .inl (cI, 4, .inl fR)), (aL, .inl (cL, 4, .inl fL)), (aM, .inl (cM, 5, .inr (.inr (.inr (.inr gM))))), (m0, .inl (cR, 16, .inl f0)), (m1, .inl (cR, 16, .inl f1)), (m2, .inl (cR, 16, .inl f2)), (m3, .inl (cR, 16, .inl f3)), (m4, .inl (cR, 16, .inl f4)), (ho, .inl (cO, 1, .inr (.inl fo)))]) (hS : va_S (fun q : Nat => s.heap.size ≤ q) s.heap H locs) {ls : Array Slot} (hl : lv_has ls 9 [(0, .ref b), (1, .ref x0), (2, .ref y0), (3, .ref ho), (4, .int 0)]) (kx : ∀ (H : Heap) (locs : List Loc) (ls : Array Slot), va_S (fun q : Nat => s.heap.size ≤ q) s.heap H locs → lv_has ls 9 [(0, .ref b), (1, .ref x0), (2, .ref y0), (3, .ref ho), (4, .int 0)] → W p l e room_1 s m args below meth c H locs 2000 20000 Q (F0 m 1835 ls [])) : W p l e room_1 s m args below meth c H locs 81 903 Q (F0 m 698 ls []) := by
  have hA : ∀ q : Nat, s.heap.size ≤ q → (fun q : Nat => s.heap.size ≤ q) q := fun _ h => h
  have hbA : ¬ (fun q : Nat => s.heap.size ≤ q) b := Nat.not_le.mpr hbl
  · skip
    refine lv_aload_n hx hb dL_law_698 rfl (lv_at hl 1 rfl) ?_
    refine lv_aload_n hx hb dL_law_699 rfl (lv_at hl 3 rfl) ?_
    have hPc := hP.sub (ws' := [(x0, .inr (7, [.ref aH, .ref aB, .ref aJ, .int 0, .int 0, .int 0, .ref rN, .ref rX, .int 0, .int 0, .int 0, .int 0, .int 0, .int 0, .int (-1), .int (-1), .int 0, .int 0, .ref aV])), (ho, .inl (cO, 1, .inr (.inl fo)))]) [0, 18] rfl
    have hKc := hK.sub (tys' := [(cO, .long)]) [5] rfl
    have hDc := hD.sub (ws' := [(x0, .inr (7, [.ref aH, .ref aB, .ref aJ, .int 0, .int 0, .int 0, .ref rN, .ref rX, .int 0, .int 0, .int 0, .int 0, .int 0, .int 0, .int (-1), .int (-1), .int 0, .int 0, .ref aV])), (ho, .inl (cO, 1, .inr (.inl fo)))]) [0, 18] (by decide) rfl
    have hFc := va_free (wc := [(x0, .inr (7, [.ref aH, .ref aB, .ref aJ, .int 0, .int 0, .int 0, .ref rN, .ref rX, .int 0, .int 0, .int 0, .int 0, .int 0, .int 0, .int (-1), .int (-1), .int 0, .int 0, .ref aV])), (ho, .inl (cO, 1, .inr (.inl fo)))]) hD hS hA [0, 18] rfl
    refine va_calli (vx_runSW (As := [.ref x0, .ref ho]) (rest := []) ⟨hx, hb, hml, hown, hts⟩ (w_read l hl0 D eT x0 aH aB aJ rN rX aV ho cO fo H.size ) (vx_cwSW 2 hts gL_law_L_read rfl rfl rfl (by decide +kernel) ⟨Nat.le_of_ble_eq_true rfl, Nat.le_of_ble_eq_true rfl⟩) (pc_s hPc hDc hKc hE hS hFc) rfl rfl hl.1 rfl (lv_room (Nat.le_of_ble_eq_true rfl)) dL_law_700 ⟨Nat.le_of_ble_eq_true rfl, Nat.le_of_ble_eq_true rfl⟩) hS (fun q _ h => hFc q h) hFc (fun r u t H1 locs ht hvm hw hB hz1 hk1 hS => ?_)
    have hw : r = 1 := hw
    rw [hw]
    obtain ⟨hP1, hK1, hD1⟩ := hB
    rw [ht] at hP1
    have hK1 := va_K.moved hvm.symm hK1
    obtain ⟨hP, hD⟩ := va_join (wr := [(aJ, .inl (cJ, 5, .inr (.inr (.inr (.inr fJ))))), (j0, .inr (5, [.int 0, .int 0, .int 0, .int 0, .int 0, .ref c1, .ref c2, .int 0, .int 0, .int 0, .int 0, .ref c3, .int 0, .ref c4, .ref c5, .int 0])), (rN, .inr (6, [.int 7, .int 100, .int 800, .int 10])), (rX, .inr (6, [.int 7, .int 100, .int 800, .int 10])), (y0, .inr (8, [.int 0, .ref lH, .ref lB, .ref lJ, .ref aR, .ref aL, .int 0, .int 0, .int 0, .ref lC, .ref aM, .ref aP, .int 0, .int 0, .int 0, .int (-1), .int (-1), .int 0, .int 0, .long 0])), (lH, .inr (2, [.int 0, .ref eT, .int 0])), (lB, .inr (2, [.int 0, .ref eT, .int 0])), (lJ, .inr (2, [.int 0, .ref eT, .int 0])), (lC, .inr (2, [.int 0, .ref eT, .int 0])), (aR, .inl (cI, 4, .inl fR)), (aL, .inl (cL, 4, .inl fL)), (aM, .inl (cM, 5, .inr (.inr (.inr (.inr gM))))), (m0, .inl (cR, 16, .inl f0)), (m1, .inl (cR, 16, .inl f1)), (m2, .inl (cR, 16, .inl f2)), (m3, .inl (cR, 16, .inl f3)), (m4, .inl (cR, 16, .inl f4))]) (w1 := [(ho, .inl (cO, 1, .inr (.inl fo)))]) hP hD [0, 18] [1, 2, 3, 4, 5, 6, 7, 8, 9, 10, 11, 12, 13, 14, 15, 16, 17] rfl rfl (by decide) (by decide) hk1 hFc hP1 hD1
    generalize H1 = H at hP hS ⊢
    have hP : va_P D vwCl [(aJ, .inl (cJ, 5, .inr (.inr (.inr (.inr fJ))))), (j0, .inr (5, [.int 0, .int 0, .int 0, .int 0, .int 0, .ref c1, .ref c2, .int 0, .int 0, .int 0, .int 0, .ref c3, .int 0, .ref c4, .ref c5, .int 0])), (rN, .inr (6, [.int 7, .int 100, .int 800, .int 10])), (rX, .inr (6, [.int 7, .int 100, .int 800, .int 10])), (y0, .inr (8, [.int 0, .ref lH, .ref lB, .ref lJ, .ref aR, .ref aL, .int 0, .int 0, .int 0, .ref lC, .ref aM, .ref aP, .int 0, .int 0, .int 0, .int (-1), .int (-1), .int 0, .int 0, .long 0])), (lH, .inr (2, [.int 0, .ref eT, .int 0])), (lB, .inr (2, [.int 0, .ref eT, .int 0])), (lJ, .inr (2, [.int 0, .ref eT, .int 0])), (lC, .inr (2, [.int 0, .ref eT, .int 0])), (aR, .inl (cI, 4, .inl fR)), (aL, .inl (cL, 4, .inl fL)), (aM, .inl (cM, 5, .inr (.inr (.inr (.inr gM))))), (m0, .inl (cR, 16, .inl f0)), (m1, .inl (cR, 16, .inl f1)), (m2, .inl (cR, 16, .inl f2)), (m3, .inl (cR, 16, .inl f3)), (m4, .inl (cR, 16, .inl f4)), (ho, .inl (cO, 1, .inr (.inl fo)))] H := hP
    have hD : va_D (fun q : Nat => s.heap.size ≤ q) [(aJ, .inl (cJ, 5, .inr (.inr (.inr (.inr fJ))))), (j0, .inr (5, [.int 0, .int 0, .int 0, .int 0, .int 0, .ref c1, .ref c2, .int 0, .int 0, .int 0, .int 0, .ref c3, .int 0, .ref c4, .ref c5, .int 0])), (rN, .inr (6, [.int 7, .int 100, .int 800, .int 10])), (rX, .inr (6, [.int 7, .int 100, .int 800, .int 10])), (y0, .inr (8, [.int 0, .ref lH, .ref lB, .ref lJ, .ref aR, .ref aL, .int 0, .int 0, .int 0, .ref lC, .ref aM, .ref aP, .int 0, .int 0, .int 0, .int (-1), .int (-1), .int 0, .int 0, .long 0])), (lH, .inr (2, [.int 0, .ref eT, .int 0])), (lB, .inr (2, [.int 0, .ref eT, .int 0])), (lJ, .inr (2, [.int 0, .ref eT, .int 0])), (lC, .inr (2, [.int 0, .ref eT, .int 0])), (aR, .inl (cI, 4, .inl fR)), (aL, .inl (cL, 4, .inl fL)), (aM, .inl (cM, 5, .inr (.inr (.inr (.inr gM))))), (m0, .inl (cR, 16, .inl f0)), (m1, .inl (cR, 16, .inl f1)), (m2, .inl (cR, 16, .inl f2)), (m3, .inl (cR, 16, .inl f3)), (m4, .inl (cR, 16, .inl f4)), (ho, .inl (cO, 1, .inr (.inl fo)))] := hD
    refine W.widen (k := 82) (n := 909) (Nat.le_of_ble_eq_true rfl) (Nat.le_of_ble_eq_true rfl) ?_
    refine lv_istore (lv' := [(5, .int 1), (0, .ref b), (1, .ref x0), (2, .ref y0), (3, .ref ho), (4, .int 0)]) hx hb dL_law_703 hl (by decide) rfl (fun ls hl => ?_)
    refine lv_aload_n hx hb dL_law_705 rfl (lv_at hl 3 rfl) ?_
    have hPc := hP.sub (ws' := [(y0, .inr (8, [.int 0, .ref lH, .ref lB, .ref lJ, .ref aR, .ref aL, .int 0, .int 0, .int 0, .ref lC, .ref aM, .ref aP, .int 0, .int 0, .int 0, .int (-1), .int (-1), .int 0, .int 0, .long 0])), (lJ, .inr (2, [.int 0, .ref eT, .int 0]))]) [4, 7] rfl
    have hKc := hK.sub (tys' := []) [] rfl
    have hDc := hD.sub (ws' := [(y0, .inr (8, [.int 0, .ref lH, .ref lB, .ref lJ, .ref aR, .ref aL, .int 0, .int 0, .int 0, .ref lC, .ref aM, .ref aP, .int 0, .int 0, .int 0, .int (-1), .int (-1), .int 0, .int 0, .long 0])), (lJ, .inr (2, [.int 0, .ref eT, .int 0]))]) [4, 7] (by decide) rfl
    have hFc := va_free (wc := [(y0, .inr (8, [.int 0, .ref lH, .ref lB, .ref lJ, .ref aR, .ref aL, .int 0, .int 0, .int 0, .ref lC, .ref aM, .ref aP, .int 0, .int 0, .int 0, .int (-1), .int (-1), .int 0, .int 0, .long 0])), (lJ, .inr (2, [.int 0, .ref eT, .int 0]))]) hD hS hA [4, 7] rfl
    refine va_calli (va_runV (As := []) (rest := []) ⟨hx, hb, hml, hown, hts⟩ (r_read l D eT y0 lH lB lJ aR aL lC aM aP 0 H.size ) (cwV 0 hts gL_law_X5_read rfl rfl rfl (by decide +kernel) ⟨Nat.le_of_ble_eq_true rfl, Nat.le_of_ble_eq_true rfl⟩) (pc_v (ci := 8) (q0 := 0) rfl rfl hPc hDc hKc hE hS hFc) rfl rfl hl.1 rfl (lv_room (Nat.le_of_ble_eq_true rfl)) dL_law_706 ⟨Nat.le_of_ble_eq_true rfl, Nat.le_of_ble_eq_true rfl⟩) hS (fun q _ h => hFc q h) hFc (fun r u t H1 locs ht hvm hw hB hz1 hk1 hS => ?_)
    have hw : r = 0 := hw
    rw [hw]
    obtain ⟨hP1, hK1, hD1⟩ := hB
    rw [ht] at hP1
    have hK1 := va_K.moved hvm.symm hK1
    obtain ⟨hP, hD⟩ := va_join (wr := [(aJ, .inl (cJ, 5, .inr (.inr (.inr (.inr fJ))))), (j0, .inr (5, [.int 0, .int 0, .int 0, .int 0, .int 0, .ref c1, .ref c2, .int 0, .int 0, .int 0, .int 0, .ref c3, .int 0, .ref c4, .ref c5, .int 0])), (rN, .inr (6, [.int 7, .int 100, .int 800, .int 10])), (rX, .inr (6, [.int 7, .int 100, .int 800, .int 10])), (lH, .inr (2, [.int 0, .ref eT, .int 0])), (lB, .inr (2, [.int 0, .ref eT, .int 0])), (lC, .inr (2, [.int 0, .ref eT, .int 0])), (aR, .inl (cI, 4, .inl fR)), (aL, .inl (cL, 4, .inl fL)), (aM, .inl (cM, 5, .inr (.inr (.inr (.inr gM))))), (m0, .inl (cR, 16, .inl f0)), (m1, .inl (cR, 16, .inl f1)), (m2, .inl (cR, 16, .inl f2)), (m3, .inl (cR, 16, .inl f3)), (m4, .inl (cR, 16, .inl f4)), (ho, .inl (cO, 1, .inr (.inl fo)))]) (w1 := [(y0, .inr (8, [.int 1, .ref lH, .ref lB, .ref lJ, .ref aR, .ref aL, .int 0, .int 0, .int 0, .ref lC, .ref aM, .ref aP, .int 0, .int 0, .int 0, .int (-1), .int (-1), .int 0, .int 0, .long 0]))]) hP hD [4, 7] [0, 1, 2, 3, 5, 6, 8, 9, 10, 11, 12, 13, 14, 15, 16, 17] rfl rfl (by decide) (by decide) hk1 hFc hP1 hD1
    generalize H1 = H at hP hS ⊢
    have hP : va_P D vwCl [(aJ, .inl (cJ, 5, .inr (.inr (.inr (.inr fJ))))), (j0, .inr (5, [.int 0, .int 0, .int 0, .int 0, .int 0, .ref c1, .ref c2, .int 0, .int 0, .int 0, .int 0, .ref c3, .int 0, .ref c4, .ref c5, .int 0])), (rN, .inr (6, [.int 7, .int 100, .int 800, .int 10])), (rX, .inr (6, [.int 7, .int 100, .int 800, .int 10])), (lH, .inr (2, [.int 0, .ref eT, .int 0])), (lB, .inr (2, [.int 0, .ref eT, .int 0])), (lC, .inr (2, [.int 0, .ref eT, .int 0])), (aR, .inl (cI, 4, .inl fR)), (aL, .inl (cL, 4, .inl fL)), (aM, .inl (cM, 5, .inr (.inr (.inr (.inr gM))))), (m0, .inl (cR, 16, .inl f0)), (m1, .inl (cR, 16, .inl f1)), (m2, .inl (cR, 16, .inl f2)), (m3, .inl (cR, 16, .inl f3)), (m4, .inl (cR, 16, .inl f4)), (ho, .inl (cO, 1, .inr (.inl fo))), (y0, .inr (8, [.int 1, .ref lH, .ref lB, .ref lJ, .ref aR, .ref aL, .int 0, .int 0, .int 0, .ref lC, .ref aM, .ref aP, .int 0, .int 0, .int 0, .int (-1), .int (-1), .int 0, .int 0, .long 0]))] H := hP
    have hD : va_D (fun q : Nat => s.heap.size ≤ q) [(aJ, .inl (cJ, 5, .inr (.inr (.inr (.inr fJ))))), (j0, .inr (5, [.int 0, .int 0, .int 0, .int 0, .int 0, .ref c1, .ref c2, .int 0, .int 0, .int 0, .int 0, .ref c3, .int 0, .ref c4, .ref c5, .int 0])), (rN, .inr (6, [.int 7, .int 100, .int 800, .int 10])), (rX, .inr (6, [.int 7, .int 100, .int 800, .int 10])), (lH, .inr (2, [.int 0, .ref eT, .int 0])), (lB, .inr (2, [.int 0, .ref eT, .int 0])), (lC, .inr (2, [.int 0, .ref eT, .int 0])), (aR, .inl (cI, 4, .inl fR)), (aL, .inl (cL, 4, .inl fL)), (aM, .inl (cM, 5, .inr (.inr (.inr (.inr gM))))), (m0, .inl (cR, 16, .inl f0)), (m1, .inl (cR, 16, .inl f1)), (m2, .inl (cR, 16, .inl f2)), (m3, .inl (cR, 16, .inl f3)), (m4, .inl (cR, 16, .inl f4)), (ho, .inl (cO, 1, .inr (.inl fo))), (y0, .inr (8, [.int 1, .ref lH, .ref lB, .ref lJ, .ref aR, .ref aL, .int 0, .int 0, .int 0, .ref lC, .ref aM, .ref aP, .int 0, .int 0, .int 0, .int (-1), .int (-1), .int 0, .int 0, .long 0]))] := hD
    refine lv_istore (lv' := [(6, .int 0), (5, .int 1), (0, .ref b), (1, .ref x0), (2, .ref y0), (3, .ref ho), (4, .int 0)]) hx hb dL_law_709 hl (by decide) rfl (fun ls hl => ?_)
    refine lv_aload_n hx hb dL_law_711 rfl (lv_at hl 4 rfl) ?_
    have hPc := hP.sub (ws' := [(y0, .inr (8, [.int 1, .ref lH, .ref lB, .ref lJ, .ref aR, .ref aL, .int 0, .int 0, .int 0, .ref lC, .ref aM, .ref aP, .int 0, .int 0, .int 0, .int (-1), .int (-1), .int 0, .int 0, .long 0]))]) [16] rfl
    have hKc := hK.sub (tys' := []) [] rfl
    refine va_calli (va_runV (As := []) (rest := []) ⟨hx, hb, hml, hown, hts⟩ (r_thrown l D eT y0 lH lB lJ aR aL lC aM aP 0 1 0 H.size ) (cwV 0 hts gL_law_X5_thrown rfl rfl rfl (by decide +kernel) ⟨Nat.le_of_ble_eq_true rfl, Nat.le_of_ble_eq_true rfl⟩) (pr_v (ci := 8) (q0 := 0) rfl rfl hPc hKc hE hS hA) rfl rfl hl.1 rfl (lv_room (Nat.le_of_ble_eq_true rfl)) dL_law_712 ⟨Nat.le_of_ble_eq_true rfl, Nat.le_of_ble_eq_true rfl⟩) hS (fun q h1 h2 => ro_A h1 h2) (fun q h => ro_F hS hA q h) (fun r u t H1 locs ht hvm hw hB hz1 hk1 hS => ?_)
    have hw : r = 1 := hw
    rw [hw]
    have hP := ro_P hP hk1
    generalize H1 = H at hP hS ⊢
    refine lv_iload hx hb dL_law_715 (lv_at hl 1 rfl) ?_
    refine lv_icmp_eq (tgt := 722) hx hb dL_law_717 (by decide) (fun _ => ?_) (fun h => absurd (by decide) h)
    refine lv_iload hx hb dL_law_722 (lv_at hl 1 rfl) ?_
    refine lv_if_ne (tgt := 739) hx hb dL_law_724 (by decide) (fun _ => ?_) (fun h => absurd h (by decide))
    refine lv_goto (tgt := 1835) hx hb dL_law_739 (by decide) ?_
    refine W.widen (k := 2000) (n := 20000) (Nat.le_of_ble_eq_true rfl) (Nat.le_of_ble_eq_true rfl) ?_
    exact kx _ _ _ hS (lv_sub hl [2, 3, 4, 5, 6] rfl)
set_option maxHeartbeats 8000000 in
set_option maxRecDepth 100000 in
theorem law_c8 {p : Program} {l : Launch} {e : Env} {s : State} {m : MethodId} {args : Array Value} {below : List Frame} {meth : Method} {c : Code} {Q : State → Prop} {b : Nat} {xs : Nat → Int32} {D : va_G} {eT : Nat} {x0 aH aB aJ rN rX aV j0 c1 c2 c3 c4 c5 y0 lH lB lJ aR aL lC aM aP m0 m1 m2 m3 m4 ho : Nat} {cJ cI cL cM cR cO : ClassId} {fJ : Nat → Option Nat} {fR : Nat → Int32} {fL : Nat → Int32} {gM : Nat → Option Nat} {f0 : Nat → Int32} {f1 : Nat → Int32} {f2 : Nat → Int32} {f3 : Nat → Int32} {f4 : Nat → Int32} {fo : Nat → Int64} (hl0 : l.stackTraces = false) (hx : p.tables.exec = Jvm.exec) (hb : c.code = cL_law) (hml : c.maxLocals = 9) (hown : s.vm.findClass RL = some m.cls) (hts : ∀ w ∈ wsL_law, w.before args s = true) (hX : va_X b 7 xs s s.heap) (hbl : b < s.heap.size) (hE : ev eT (fun q : Nat => s.heap.size ≤ q) s s.heap) (hJ : fJ 0 = some j0) (hR : fR 3 = 10) (hg0 : gM 0 = some m0) (hg1 : gM 1 = some m1) (hg2 : gM 2 = some m2) (hg3 : gM 3 = some m3) (hg4 : gM 4 = some m4) (hm0 : ∀ k, k < 16 → f0 k = -1) (hm1 : ∀ k, k < 16 → f1 k = -1) (hm2 : ∀ k, k < 16 → f2 k = -1) (hm3 : ∀ k, k < 16 → f3 k = -1) (hm4 : ∀ k, k < 16 → f4 k = -1) (hK : va_K D vwCl [(cJ, .object RX2), (cI, .int), (cL, .int), (cM, .array .int), (cR, .int), (cO, .long)] s) {H : Heap} {locs : List Loc} (hP : va_P D vwCl [(x0, .inr (7, [.ref aH, .ref aB, .ref aJ, .int 0, .int 0, .int 0, .ref rN, .ref rX, .int 0, .int 0, .int 0, .int 0, .int 0, .int 0, .int (-1), .int (-1), .int 0, .int 0, .ref aV])), (aJ, .inl (cJ, 5, .inr (.inr (.inr (.inr fJ))))), (j0, .inr (5, [.int 0, .int 0, .int 0, .int 0, .int 0, .ref c1, .ref c2, .int 0, .int 0, .int 0, .int 0, .ref c3, .int 0, .ref c4, .ref c5, .int 0])), (rN, .inr (6, [.int 7, .int 100, .int 800, .int 10])), (rX, .inr (6, [.int 7, .int 100, .int 800, .int 10])), (y0, .inr (8, [.int 0, .ref lH, .ref lB, .ref lJ, .ref aR, .ref aL, .int 0, .int 0, .int 0, .ref lC, .ref aM, .ref aP, .int 0, .int 0, .int 0, .int (-1), .int (-1), .int 0, .int 0, .long 0])), (lH, .inr (2, [.int 0, .ref eT, .int 0])), (lB, .inr (2, [.int 0, .ref eT, .int 0])), (lJ, .inr (2, [.int 0, .ref eT, .int 0])), (lC, .inr (2, [.int 0, .ref eT, .int 0])), (aR, .inl (cI, 4, .inl fR)), (aL, .inl (cL, 4, .inl fL)), (aM, .inl (cM, 5, .inr (.inr (.inr (.inr gM))))), (m0, .inl (cR, 16, .inl f0)), (m1, .inl (cR, 16, .inl f1)), (m2, .inl (cR, 16, .inl f2)), (m3, .inl (cR, 16, .inl f3)), (m4, .inl (cR, 16, .inl f4)), (ho, .inl (cO, 1, .inr (.inl fo)))] H) (hD : va_D (fun q : Nat => s.heap.size ≤ q) [(x0, .inr (7, [.ref aH, .ref aB, .ref aJ, .int 0, .int 0, .int 0, .ref rN, .ref rX, .int 0, .int 0, .int 0, .int 0, .int 0, .int 0, .int (-1), .int (-1), .int 0, .int 0, .ref aV])), (aJ, .inl (cJ, 5, .inr (.inr (.inr (.inr fJ))))), (j0, .inr (5, [.int 0, .int 0, .int 0, .int 0, .int 0, .ref c1, .ref c2, .int 0, .int 0, .int 0, .int 0, .ref c3, .int 0, .ref c4, .ref c5, .int 0])), (rN, .inr (6, [.int 7, .int 100, .int 800, .int 10])), (rX, .inr (6, [.int 7, .int 100, .int 800, .int 10])), (y0, .inr (8, [.int 0, .ref lH, .ref lB, .ref lJ, .ref aR, .ref aL, .int 0, .int 0, .int 0, .ref lC, .ref aM, .ref aP, .int 0, .int 0, .int 0, .int (-1), .int (-1), .int 0, .int 0, .long 0])), (lH, .inr (2, [.int 0, .ref eT, .int 0])), (lB, .inr (2, [.int 0, .ref eT, .int 0])), (lJ, .inr (2, [.int 0, .ref eT, .int 0])), (lC, .inr (2, [.int 0, .ref eT, .int 0])), (aR, .inl (cI, 4, .inl fR)), (aL, .inl (cL, 4, .inl fL)), (aM, .inl (cM, 5, .inr (.inr (.inr (.inr gM))))), (m0, .inl (cR, 16, .inl f0)), (m1, .inl (cR, 16, .inl f1)), (m2, .inl (cR, 16, .inl f2)), (m3, .inl (cR, 16, .inl f3)), (m4, .inl (cR, 16, .inl f4)), (ho, .inl (cO, 1, .inr (.inl fo)))]) (hS : va_S (fun q : Nat => s.heap.size ≤ q) s.heap H locs) {ls : Array Slot} (hl : lv_has ls 9 [(0, .ref b), (1, .ref x0), (2, .ref y0), (3, .ref ho), (4, .int 0)]) (kx : ∀ (H : Heap) (locs : List Loc) (ls : Array Slot), va_S (fun q : Nat => s.heap.size ≤ q) s.heap H locs → lv_has ls 9 [(0, .ref b), (1, .ref x0), (2, .ref y0), (3, .ref ho), (4, .int 0)] → W p l e room_1 s m args below meth c H locs 2000 20000 Q (F0 m 1835 ls [])) : W p l e room_1 s m args below meth c H locs 81 903 Q (F0 m 742 ls []) := by
  have hA : ∀ q : Nat, s.heap.size ≤ q → (fun q : Nat => s.heap.size ≤ q) q := fun _ h => h
  have hbA : ¬ (fun q : Nat => s.heap.size ≤ q) b := Nat.not_le.mpr hbl
  · skip
    refine lv_aload_n hx hb dL_law_742 rfl (lv_at hl 1 rfl) ?_
    refine lv_aload_n hx hb dL_law_743 rfl (lv_at hl 0 rfl) ?_
    refine lv_iload hx hb dL_law_744 (lv_at hl 4 rfl) ?_
    refine lv_iconst (v := 1) hx hb dL_law_746 (by decide) ?_
    refine lv_iadd hx hb dL_law_747 ?_
    refine lv_topi (fun z_1 ez_1 => ?_)
    have ez_1 : z_1 = 1 := ez_1.trans (by decide +kernel)
    rw [ez_1]
    refine va_sld hx hb hX hbl hbA hS (show vp_in 1 7 from by unfold vp_in; decide +kernel) dL_law_748 ?_
    refine lv_topi (fun z_2 ez_2 => ?_)
    have ez_2 : z_2 = (xs 1) := ez_2
    rw [ez_2]
    refine lv_aload_n hx hb dL_law_749 rfl (lv_at hl 0 rfl) ?_
    refine lv_iload hx hb dL_law_750 (lv_at hl 4 rfl) ?_
    refine lv_iconst (v := 2) hx hb dL_law_752 (by decide) ?_
    refine lv_iadd hx hb dL_law_753 ?_
    refine lv_topi (fun z_3 ez_3 => ?_)
    have ez_3 : z_3 = 2 := ez_3.trans (by decide +kernel)
    rw [ez_3]
    refine va_sld hx hb hX hbl hbA hS (show vp_in 2 7 from by unfold vp_in; decide +kernel) dL_law_754 ?_
    refine lv_topi (fun z_4 ez_4 => ?_)
    have ez_4 : z_4 = (xs 2) := ez_4
    rw [ez_4]
    refine lv_aload_n hx hb dL_law_755 rfl (lv_at hl 3 rfl) ?_
    have hPc := hP.sub (ws' := [(x0, .inr (7, [.ref aH, .ref aB, .ref aJ, .int 0, .int 0, .int 0, .ref rN, .ref rX, .int 0, .int 0, .int 0, .int 0, .int 0, .int 0, .int (-1), .int (-1), .int 0, .int 0, .ref aV])), (ho, .inl (cO, 1, .inr (.inl fo)))]) [0, 18] rfl
    have hKc := hK.sub (tys' := [(cO, .long)]) [5] rfl
    have hDc := hD.sub (ws' := [(x0, .inr (7, [.ref aH, .ref aB, .ref aJ, .int 0, .int 0, .int 0, .ref rN, .ref rX, .int 0, .int 0, .int 0, .int 0, .int 0, .int 0, .int (-1), .int (-1), .int 0, .int 0, .ref aV])), (ho, .inl (cO, 1, .inr (.inl fo)))]) [0, 18] (by decide) rfl
    have hFc := va_free (wc := [(x0, .inr (7, [.ref aH, .ref aB, .ref aJ, .int 0, .int 0, .int 0, .ref rN, .ref rX, .int 0, .int 0, .int 0, .int 0, .int 0, .int 0, .int (-1), .int (-1), .int 0, .int 0, .ref aV])), (ho, .inl (cO, 1, .inr (.inl fo)))]) hD hS hA [0, 18] rfl
    refine va_calli (vx_runSW (As := [.ref x0, .int (xs 1), .int (xs 2), .ref ho]) (rest := []) ⟨hx, hb, hml, hown, hts⟩ (w_print l hl0 D eT x0 aH aB aJ rN rX aV ho cO fo (xs 1) (xs 2) H.size ) (vx_cwSW 4 hts gL_law_L_print rfl rfl rfl (by decide +kernel) ⟨Nat.le_of_ble_eq_true rfl, Nat.le_of_ble_eq_true rfl⟩) (pc_s hPc hDc hKc hE hS hFc) rfl rfl hl.1 rfl (lv_room (Nat.le_of_ble_eq_true rfl)) dL_law_756 ⟨Nat.le_of_ble_eq_true rfl, Nat.le_of_ble_eq_true rfl⟩) hS (fun q _ h => hFc q h) hFc (fun r u t H1 locs ht hvm hw hB hz1 hk1 hS => ?_)
    have hw : r = 1 := hw
    rw [hw]
    obtain ⟨hP1, hK1, hD1⟩ := hB
    rw [ht] at hP1
    have hK1 := va_K.moved hvm.symm hK1
    obtain ⟨hP, hD⟩ := va_join (wr := [(aJ, .inl (cJ, 5, .inr (.inr (.inr (.inr fJ))))), (j0, .inr (5, [.int 0, .int 0, .int 0, .int 0, .int 0, .ref c1, .ref c2, .int 0, .int 0, .int 0, .int 0, .ref c3, .int 0, .ref c4, .ref c5, .int 0])), (rN, .inr (6, [.int 7, .int 100, .int 800, .int 10])), (rX, .inr (6, [.int 7, .int 100, .int 800, .int 10])), (y0, .inr (8, [.int 0, .ref lH, .ref lB, .ref lJ, .ref aR, .ref aL, .int 0, .int 0, .int 0, .ref lC, .ref aM, .ref aP, .int 0, .int 0, .int 0, .int (-1), .int (-1), .int 0, .int 0, .long 0])), (lH, .inr (2, [.int 0, .ref eT, .int 0])), (lB, .inr (2, [.int 0, .ref eT, .int 0])), (lJ, .inr (2, [.int 0, .ref eT, .int 0])), (lC, .inr (2, [.int 0, .ref eT, .int 0])), (aR, .inl (cI, 4, .inl fR)), (aL, .inl (cL, 4, .inl fL)), (aM, .inl (cM, 5, .inr (.inr (.inr (.inr gM))))), (m0, .inl (cR, 16, .inl f0)), (m1, .inl (cR, 16, .inl f1)), (m2, .inl (cR, 16, .inl f2)), (m3, .inl (cR, 16, .inl f3)), (m4, .inl (cR, 16, .inl f4))]) (w1 := [(ho, .inl (cO, 1, .inr (.inl fo)))]) hP hD [0, 18] [1, 2, 3, 4, 5, 6, 7, 8, 9, 10, 11, 12, 13, 14, 15, 16, 17] rfl rfl (by decide) (by decide) hk1 hFc hP1 hD1
    generalize H1 = H at hP hS ⊢
    have hP : va_P D vwCl [(aJ, .inl (cJ, 5, .inr (.inr (.inr (.inr fJ))))), (j0, .inr (5, [.int 0, .int 0, .int 0, .int 0, .int 0, .ref c1, .ref c2, .int 0, .int 0, .int 0, .int 0, .ref c3, .int 0, .ref c4, .ref c5, .int 0])), (rN, .inr (6, [.int 7, .int 100, .int 800, .int 10])), (rX, .inr (6, [.int 7, .int 100, .int 800, .int 10])), (y0, .inr (8, [.int 0, .ref lH, .ref lB, .ref lJ, .ref aR, .ref aL, .int 0, .int 0, .int 0, .ref lC, .ref aM, .ref aP, .int 0, .int 0, .int 0, .int (-1), .int (-1), .int 0, .int 0, .long 0])), (lH, .inr (2, [.int 0, .ref eT, .int 0])), (lB, .inr (2, [.int 0, .ref eT, .int 0])), (lJ, .inr (2, [.int 0, .ref eT, .int 0])), (lC, .inr (2, [.int 0, .ref eT, .int 0])), (aR, .inl (cI, 4, .inl fR)), (aL, .inl (cL, 4, .inl fL)), (aM, .inl (cM, 5, .inr (.inr (.inr (.inr gM))))), (m0, .inl (cR, 16, .inl f0)), (m1, .inl (cR, 16, .inl f1)), (m2, .inl (cR, 16, .inl f2)), (m3, .inl (cR, 16, .inl f3)), (m4, .inl (cR, 16, .inl f4)), (ho, .inl (cO, 1, .inr (.inl fo)))] H := hP
    have hD : va_D (fun q : Nat => s.heap.size ≤ q) [(aJ, .inl (cJ, 5, .inr (.inr (.inr (.inr fJ))))), (j0, .inr (5, [.int 0, .int 0, .int 0, .int 0, .int 0, .ref c1, .ref c2, .int 0, .int 0, .int 0, .int 0, .ref c3, .int 0, .ref c4, .ref c5, .int 0])), (rN, .inr (6, [.int 7, .int 100, .int 800, .int 10])), (rX, .inr (6, [.int 7, .int 100, .int 800, .int 10])), (y0, .inr (8, [.int 0, .ref lH, .ref lB, .ref lJ, .ref aR, .ref aL, .int 0, .int 0, .int 0, .ref lC, .ref aM, .ref aP, .int 0, .int 0, .int 0, .int (-1), .int (-1), .int 0, .int 0, .long 0])), (lH, .inr (2, [.int 0, .ref eT, .int 0])), (lB, .inr (2, [.int 0, .ref eT, .int 0])), (lJ, .inr (2, [.int 0, .ref eT, .int 0])), (lC, .inr (2, [.int 0, .ref eT, .int 0])), (aR, .inl (cI, 4, .inl fR)), (aL, .inl (cL, 4, .inl fL)), (aM, .inl (cM, 5, .inr (.inr (.inr (.inr gM))))), (m0, .inl (cR, 16, .inl f0)), (m1, .inl (cR, 16, .inl f1)), (m2, .inl (cR, 16, .inl f2)), (m3, .inl (cR, 16, .inl f3)), (m4, .inl (cR, 16, .inl f4)), (ho, .inl (cO, 1, .inr (.inl fo)))] := hD
    refine W.widen (k := 82) (n := 909) (Nat.le_of_ble_eq_true rfl) (Nat.le_of_ble_eq_true rfl) ?_
    refine lv_istore (lv' := [(5, .int 1), (0, .ref b), (1, .ref x0), (2, .ref y0), (3, .ref ho), (4, .int 0)]) hx hb dL_law_759 hl (by decide) rfl (fun ls hl => ?_)
    refine lv_aload_n hx hb dL_law_761 rfl (lv_at hl 3 rfl) ?_
    refine lv_aload_n hx hb dL_law_762 rfl (lv_at hl 1 rfl) ?_
    refine lv_iload hx hb dL_law_763 (lv_at hl 5 rfl) ?_
    refine lv_iconst (v := 1) hx hb dL_law_765 (by decide) ?_
    refine lv_iadd hx hb dL_law_766 ?_
    refine lv_topi (fun z_5 ez_5 => ?_)
    have ez_5 : z_5 = 1 := ez_5.trans (by decide +kernel)
    rw [ez_5]
    refine va_sld hx hb hX hbl hbA hS (show vp_in 1 7 from by unfold vp_in; decide +kernel) dL_law_767 ?_
    refine lv_topi (fun z_6 ez_6 => ?_)
    have ez_6 : z_6 = (xs 1) := ez_6
    rw [ez_6]
    refine lv_aload_n hx hb dL_law_768 rfl (lv_at hl 1 rfl) ?_
    refine lv_iload hx hb dL_law_769 (lv_at hl 5 rfl) ?_
    refine lv_iconst (v := 2) hx hb dL_law_771 (by decide) ?_
    refine lv_iadd hx hb dL_law_772 ?_
    refine lv_topi (fun z_7 ez_7 => ?_)
    have ez_7 : z_7 = 2 := ez_7.trans (by decide +kernel)
    rw [ez_7]
    refine va_sld hx hb hX hbl hbA hS (show vp_in 2 7 from by unfold vp_in; decide +kernel) dL_law_773 ?_
    refine lv_topi (fun z_8 ez_8 => ?_)
    have ez_8 : z_8 = (xs 2) := ez_8
    rw [ez_8]
    have hPc := hP.sub (ws' := [(y0, .inr (8, [.int 0, .ref lH, .ref lB, .ref lJ, .ref aR, .ref aL, .int 0, .int 0, .int 0, .ref lC, .ref aM, .ref aP, .int 0, .int 0, .int 0, .int (-1), .int (-1), .int 0, .int 0, .long 0])), (lB, .inr (2, [.int 0, .ref eT, .int 0]))]) [4, 6] rfl
    have hKc := hK.sub (tys' := []) [] rfl
    have hDc := hD.sub (ws' := [(y0, .inr (8, [.int 0, .ref lH, .ref lB, .ref lJ, .ref aR, .ref aL, .int 0, .int 0, .int 0, .ref lC, .ref aM, .ref aP, .int 0, .int 0, .int 0, .int (-1), .int (-1), .int 0, .int 0, .long 0])), (lB, .inr (2, [.int 0, .ref eT, .int 0]))]) [4, 6] (by decide) rfl
    have hFc := va_free (wc := [(y0, .inr (8, [.int 0, .ref lH, .ref lB, .ref lJ, .ref aR, .ref aL, .int 0, .int 0, .int 0, .ref lC, .ref aM, .ref aP, .int 0, .int 0, .int 0, .int (-1), .int (-1), .int 0, .int 0, .long 0])), (lB, .inr (2, [.int 0, .ref eT, .int 0]))]) hD hS hA [4, 6] rfl
    refine va_calli (va_runV (As := [.int (xs 1), .int (xs 2)]) (rest := []) ⟨hx, hb, hml, hown, hts⟩ (r_print l D eT y0 lH lB lJ aR aL lC aM aP 0 (xs 1) (xs 2) H.size ) (cwV 2 hts gL_law_X5_print rfl rfl rfl (by decide +kernel) ⟨Nat.le_of_ble_eq_true rfl, Nat.le_of_ble_eq_true rfl⟩) (pc_v (ci := 8) (q0 := 0) rfl rfl hPc hDc hKc hE hS hFc) rfl rfl hl.1 rfl (lv_room (Nat.le_of_ble_eq_true rfl)) dL_law_774 ⟨Nat.le_of_ble_eq_true rfl, Nat.le_of_ble_eq_true rfl⟩) hS (fun q _ h => hFc q h) hFc (fun r u t H1 locs ht hvm hw hB hz1 hk1 hS => ?_)
    have hw : r = 0 := hw
    rw [hw]
    obtain ⟨hP1, hK1, hD1⟩ := hB
    rw [ht] at hP1
    have hK1 := va_K.moved hvm.symm hK1
    obtain ⟨hP, hD⟩ := va_join (wr := [(aJ, .inl (cJ, 5, .inr (.inr (.inr (.inr fJ))))), (j0, .inr (5, [.int 0, .int 0, .int 0, .int 0, .int 0, .ref c1, .ref c2, .int 0, .int 0, .int 0, .int 0, .ref c3, .int 0, .ref c4, .ref c5, .int 0])), (rN, .inr (6, [.int 7, .int 100, .int 800, .int 10])), (rX, .inr (6, [.int 7, .int 100, .int 800, .int 10])), (lH, .inr (2, [.int 0, .ref eT, .int 0])), (lJ, .inr (2, [.int 0, .ref eT, .int 0])), (lC, .inr (2, [.int 0, .ref eT, .int 0])), (aR, .inl (cI, 4, .inl fR)), (aL, .inl (cL, 4, .inl fL)), (aM, .inl (cM, 5, .inr (.inr (.inr (.inr gM))))), (m0, .inl (cR, 16, .inl f0)), (m1, .inl (cR, 16, .inl f1)), (m2, .inl (cR, 16, .inl f2)), (m3, .inl (cR, 16, .inl f3)), (m4, .inl (cR, 16, .inl f4)), (ho, .inl (cO, 1, .inr (.inl fo)))]) (w1 := [(y0, .inr (8, [.int 1, .ref lH, .ref lB, .ref lJ, .ref aR, .ref aL, .int 0, .int 0, .int 0, .ref lC, .ref aM, .ref aP, .int 0, .int 0, .int 0, .int (-1), .int (-1), .int 0, .int 0, .long 0]))]) hP hD [4, 6] [0, 1, 2, 3, 5, 7, 8, 9, 10, 11, 12, 13, 14, 15, 16, 17] rfl rfl (by decide) (by decide) hk1 hFc hP1 hD1
    generalize H1 = H at hP hS ⊢
    have hP : va_P D vwCl [(aJ, .inl (cJ, 5, .inr (.inr (.inr (.inr fJ))))), (j0, .inr (5, [.int 0, .int 0, .int 0, .int 0, .int 0, .ref c1, .ref c2, .int 0, .int 0, .int 0, .int 0, .ref c3, .int 0, .ref c4, .ref c5, .int 0])), (rN, .inr (6, [.int 7, .int 100, .int 800, .int 10])), (rX, .inr (6, [.int 7, .int 100, .int 800, .int 10])), (lH, .inr (2, [.int 0, .ref eT, .int 0])), (lJ, .inr (2, [.int 0, .ref eT, .int 0])), (lC, .inr (2, [.int 0, .ref eT, .int 0])), (aR, .inl (cI, 4, .inl fR)), (aL, .inl (cL, 4, .inl fL)), (aM, .inl (cM, 5, .inr (.inr (.inr (.inr gM))))), (m0, .inl (cR, 16, .inl f0)), (m1, .inl (cR, 16, .inl f1)), (m2, .inl (cR, 16, .inl f2)), (m3, .inl (cR, 16, .inl f3)), (m4, .inl (cR, 16, .inl f4)), (ho, .inl (cO, 1, .inr (.inl fo))), (y0, .inr (8, [.int 1, .ref lH, .ref lB, .ref lJ, .ref aR, .ref aL, .int 0, .int 0, .int 0, .ref lC, .ref aM, .ref aP, .int 0, .int 0, .int 0, .int (-1), .int (-1), .int 0, .int 0, .long 0]))] H := hP
    have hD : va_D (fun q : Nat => s.heap.size ≤ q) [(aJ, .inl (cJ, 5, .inr (.inr (.inr (.inr fJ))))), (j0, .inr (5, [.int 0, .int 0, .int 0, .int 0, .int 0, .ref c1, .ref c2, .int 0, .int 0, .int 0, .int 0, .ref c3, .int 0, .ref c4, .ref c5, .int 0])), (rN, .inr (6, [.int 7, .int 100, .int 800, .int 10])), (rX, .inr (6, [.int 7, .int 100, .int 800, .int 10])), (lH, .inr (2, [.int 0, .ref eT, .int 0])), (lJ, .inr (2, [.int 0, .ref eT, .int 0])), (lC, .inr (2, [.int 0, .ref eT, .int 0])), (aR, .inl (cI, 4, .inl fR)), (aL, .inl (cL, 4, .inl fL)), (aM, .inl (cM, 5, .inr (.inr (.inr (.inr gM))))), (m0, .inl (cR, 16, .inl f0)), (m1, .inl (cR, 16, .inl f1)), (m2, .inl (cR, 16, .inl f2)), (m3, .inl (cR, 16, .inl f3)), (m4, .inl (cR, 16, .inl f4)), (ho, .inl (cO, 1, .inr (.inl fo))), (y0, .inr (8, [.int 1, .ref lH, .ref lB, .ref lJ, .ref aR, .ref aL, .int 0, .int 0, .int 0, .ref lC, .ref aM, .ref aP, .int 0, .int 0, .int 0, .int (-1), .int (-1), .int 0, .int 0, .long 0]))] := hD
    refine lv_istore (lv' := [(6, .int 0), (5, .int 1), (0, .ref b), (1, .ref x0), (2, .ref y0), (3, .ref ho), (4, .int 0)]) hx hb dL_law_777 hl (by decide) rfl (fun ls hl => ?_)
    refine lv_aload_n hx hb dL_law_779 rfl (lv_at hl 4 rfl) ?_
    have hPc := hP.sub (ws' := [(y0, .inr (8, [.int 1, .ref lH, .ref lB, .ref lJ, .ref aR, .ref aL, .int 0, .int 0, .int 0, .ref lC, .ref aM, .ref aP, .int 0, .int 0, .int 0, .int (-1), .int (-1), .int 0, .int 0, .long 0]))]) [16] rfl
    have hKc := hK.sub (tys' := []) [] rfl
    refine va_calli (va_runV (As := []) (rest := []) ⟨hx, hb, hml, hown, hts⟩ (r_thrown l D eT y0 lH lB lJ aR aL lC aM aP 0 1 0 H.size ) (cwV 0 hts gL_law_X5_thrown rfl rfl rfl (by decide +kernel) ⟨Nat.le_of_ble_eq_true rfl, Nat.le_of_ble_eq_true rfl⟩) (pr_v (ci := 8) (q0 := 0) rfl rfl hPc hKc hE hS hA) rfl rfl hl.1 rfl (lv_room (Nat.le_of_ble_eq_true rfl)) dL_law_780 ⟨Nat.le_of_ble_eq_true rfl, Nat.le_of_ble_eq_true rfl⟩) hS (fun q h1 h2 => ro_A h1 h2) (fun q h => ro_F hS hA q h) (fun r u t H1 locs ht hvm hw hB hz1 hk1 hS => ?_)
    have hw : r = 1 := hw
    rw [hw]
    have hP := ro_P hP hk1
    generalize H1 = H at hP hS ⊢
    refine lv_iload hx hb dL_law_783 (lv_at hl 1 rfl) ?_
    refine lv_icmp_eq (tgt := 790) hx hb dL_law_785 (by decide) (fun _ => ?_) (fun h => absurd (by decide) h)
    refine lv_iload hx hb dL_law_790 (lv_at hl 1 rfl) ?_
    refine lv_if_ne (tgt := 807) hx hb dL_law_792 (by decide) (fun _ => ?_) (fun h => absurd h (by decide))
    refine lv_goto (tgt := 1835) hx hb dL_law_807 (by decide) ?_
    refine W.widen (k := 2000) (n := 20000) (Nat.le_of_ble_eq_true rfl) (Nat.le_of_ble_eq_true rfl) ?_
    exact kx _ _ _ hS (lv_sub hl [2, 3, 4, 5, 6] rfl)
set_option maxHeartbeats 8000000 in
set_option maxRecDepth 100000 in
theorem law_c9 {p : Program} {l : Launch} {e : Env} {s : State} {m : MethodId} {args : Array Value} {below : List Frame} {meth : Method} {c : Code} {Q : State → Prop} {b : Nat} {xs : Nat → Int32} {D : va_G} {eT : Nat} {x0 aH aB aJ rN rX aV j0 c1 c2 c3 c4 c5 y0 lH lB lJ aR aL lC aM aP m0 m1 m2 m3 m4 ho : Nat} {cJ cI cL cM cR cO : ClassId} {fJ : Nat → Option Nat} {fR : Nat → Int32} {fL : Nat → Int32} {gM : Nat → Option Nat} {f0 : Nat → Int32} {f1 : Nat → Int32} {f2 : Nat → Int32} {f3 : Nat → Int32} {f4 : Nat → Int32} {fo : Nat → Int64} (hl0 : l.stackTraces = false) (hx : p.tables.exec = Jvm.exec) (hb : c.code = cL_law) (hml : c.maxLocals = 9) (hown : s.vm.findClass RL = some m.cls) (hts : ∀ w ∈ wsL_law, w.before args s = true) (hX : va_X b 7 xs s s.heap) (hbl : b < s.heap.size) (hE : ev eT (fun q : Nat => s.heap.size ≤ q) s s.heap) (hJ : fJ 0 = some j0) (hR : fR 3 = 10) (hg0 : gM 0 = some m0) (hg1 : gM 1 = some m1) (hg2 : gM 2 = some m2) (hg3 : gM 3 = some m3) (hg4 : gM 4 = some m4) (hm0 : ∀ k, k < 16 → f0 k = -1) (hm1 : ∀ k, k < 16 → f1 k = -1) (hm2 : ∀ k, k < 16 → f2 k = -1) (hm3 : ∀ k, k < 16 → f3 k = -1) (hm4 : ∀ k, k < 16 → f4 k = -1) (hK : va_K D vwCl [(cJ, .object RX2), (cI, .int), (cL, .int), (cM, .array .int), (cR, .int), (cO, .long)] s) {H : Heap} {locs : List Loc} (hP : va_P D vwCl [(x0, .inr (7, [.ref aH, .ref aB, .ref aJ, .int 0, .int 0, .int 0, .ref rN, .ref rX, .int 0, .int 0, .int 0, .int 0, .int 0, .int 0, .int (-1), .int (-1), .int 0, .int 0, .ref aV])), (aJ, .inl (cJ, 5, .inr (.inr (.inr (.inr fJ))))), (j0, .inr (5, [.int 0, .int 0, .int 0, .int 0, .int 0, .ref c1, .ref c2, .int 0, .int 0, .int 0, .int 0, .ref c3, .int 0, .ref c4, .ref c5, .int 0])), (rN, .inr (6, [.int 7, .int 100, .int 800, .int 10])), (rX, .inr (6, [.int 7, .int 100, .int 800, .int 10])), (y0, .inr (8, [.int 0, .ref lH, .ref lB, .ref lJ, .ref aR, .ref aL, .int 0, .int 0, .int 0, .ref lC, .ref aM, .ref aP, .int 0, .int 0, .int 0, .int (-1), .int (-1), .int 0, .int 0, .long 0])), (lH, .inr (2, [.int 0, .ref eT, .int 0])), (lB, .inr (2, [.int 0, .ref eT, .int 0])), (lJ, .inr (2, [.int 0, .ref eT, .int 0])), (lC, .inr (2, [.int 0, .ref eT, .int 0])), (aR, .inl (cI, 4, .inl fR)), (aL, .inl (cL, 4, .inl fL)), (aM, .inl (cM, 5, .inr (.inr (.inr (.inr gM))))), (m0, .inl (cR, 16, .inl f0)), (m1, .inl (cR, 16, .inl f1)), (m2, .inl (cR, 16, .inl f2)), (m3, .inl (cR, 16, .inl f3)), (m4, .inl (cR, 16, .inl f4)), (ho, .inl (cO, 1, .inr (.inl fo)))] H) (hD : va_D (fun q : Nat => s.heap.size ≤ q) [(x0, .inr (7, [.ref aH, .ref aB, .ref aJ, .int 0, .int 0, .int 0, .ref rN, .ref rX, .int 0, .int 0, .int 0, .int 0, .int 0, .int 0, .int (-1), .int (-1), .int 0, .int 0, .ref aV])), (aJ, .inl (cJ, 5, .inr (.inr (.inr (.inr fJ))))), (j0, .inr (5, [.int 0, .int 0, .int 0, .int 0, .int 0, .ref c1, .ref c2, .int 0, .int 0, .int 0, .int 0, .ref c3, .int 0, .ref c4, .ref c5, .int 0])), (rN, .inr (6, [.int 7, .int 100, .int 800, .int 10])), (rX, .inr (6, [.int 7, .int 100, .int 800, .int 10])), (y0, .inr (8, [.int 0, .ref lH, .ref lB, .ref lJ, .ref aR, .ref aL, .int 0, .int 0, .int 0, .ref lC, .ref aM, .ref aP, .int 0, .int 0, .int 0, .int (-1), .int (-1), .int 0, .int 0, .long 0])), (lH, .inr (2, [.int 0, .ref eT, .int 0])), (lB, .inr (2, [.int 0, .ref eT, .int 0])), (lJ, .inr (2, [.int 0, .ref eT, .int 0])), (lC, .inr (2, [.int 0, .ref eT, .int 0])), (aR, .inl (cI, 4, .inl fR)), (aL, .inl (cL, 4, .inl fL)), (aM, .inl (cM, 5, .inr (.inr (.inr (.inr gM))))), (m0, .inl (cR, 16, .inl f0)), (m1, .inl (cR, 16, .inl f1)), (m2, .inl (cR, 16, .inl f2)), (m3, .inl (cR, 16, .inl f3)), (m4, .inl (cR, 16, .inl f4)), (ho, .inl (cO, 1, .inr (.inl fo)))]) (hS : va_S (fun q : Nat => s.heap.size ≤ q) s.heap H locs) {ls : Array Slot} (hl : lv_has ls 9 [(0, .ref b), (1, .ref x0), (2, .ref y0), (3, .ref ho), (4, .int 0)]) (kx : ∀ (H : Heap) (locs : List Loc) (ls : Array Slot), va_S (fun q : Nat => s.heap.size ≤ q) s.heap H locs → lv_has ls 9 [(0, .ref b), (1, .ref x0), (2, .ref y0), (3, .ref ho), (4, .int 0)] → W p l e room_1 s m args below meth c H locs 2000 20000 Q (F0 m 1835 ls [])) : W p l e room_1 s m args below meth c H locs 81 903 Q (F0 m 810 ls []) := by
  have hA : ∀ q : Nat, s.heap.size ≤ q → (fun q : Nat => s.heap.size ≤ q) q := fun _ h => h
  have hbA : ¬ (fun q : Nat => s.heap.size ≤ q) b := Nat.not_le.mpr hbl
  by_cases hn : 1 ≤ (xs 1) ∧ (xs 1) ≤ 60
  · obtain ⟨h1, h2⟩ := hn
    refine lv_aload_n hx hb dL_law_810 rfl (lv_at hl 1 rfl) ?_
    refine lv_aload_n hx hb dL_law_811 rfl (lv_at hl 0 rfl) ?_
    refine lv_iload hx hb dL_law_812 (lv_at hl 4 rfl) ?_
    refine lv_iconst (v := 1) hx hb dL_law_814 (by decide) ?_
    refine lv_iadd hx hb dL_law_815 ?_
    refine lv_topi (fun z_1 ez_1 => ?_)
    have ez_1 : z_1 = 1 := ez_1.trans (by decide +kernel)
    rw [ez_1]
    refine va_sld hx hb hX hbl hbA hS (show vp_in 1 7 from by unfold vp_in; decide +kernel) dL_law_816 ?_
    refine lv_topi (fun z_2 ez_2 => ?_)
    have ez_2 : z_2 = (xs 1) := ez_2
    rw [ez_2]
    refine lv_aload_n hx hb dL_law_817 rfl (lv_at hl 3 rfl) ?_
    have hPc := hP.sub (ws' := [(x0, .inr (7, [.ref aH, .ref aB, .ref aJ, .int 0, .int 0, .int 0, .ref rN, .ref rX, .int 0, .int 0, .int 0, .int 0, .int 0, .int 0, .int (-1), .int (-1), .int 0, .int 0, .ref aV])), (ho, .inl (cO, 1, .inr (.inl fo)))]) [0, 18] rfl
    have hKc := hK.sub (tys' := [(cO, .long)]) [5] rfl
    have hDc := hD.sub (ws' := [(x0, .inr (7, [.ref aH, .ref aB, .ref aJ, .int 0, .int 0, .int 0, .ref rN, .ref rX, .int 0, .int 0, .int 0, .int 0, .int 0, .int 0, .int (-1), .int (-1), .int 0, .int 0, .ref aV])), (ho, .inl (cO, 1, .inr (.inl fo)))]) [0, 18] (by decide) rfl
    have hFc := va_free (wc := [(x0, .inr (7, [.ref aH, .ref aB, .ref aJ, .int 0, .int 0, .int 0, .ref rN, .ref rX, .int 0, .int 0, .int 0, .int 0, .int 0, .int 0, .int (-1), .int (-1), .int 0, .int 0, .ref aV])), (ho, .inl (cO, 1, .inr (.inl fo)))]) hD hS hA [0, 18] rfl
    refine va_calli (vx_runSW (As := [.ref x0, .int (xs 1), .ref ho]) (rest := []) ⟨hx, hb, hml, hown, hts⟩ (w_pass l D eT x0 aH aB aJ rN rX aV ho cO fo (xs 1) H.size h1 h2) (vx_cwSW 3 hts gL_law_L_pass rfl rfl rfl (by decide +kernel) ⟨Nat.le_of_ble_eq_true rfl, Nat.le_of_ble_eq_true rfl⟩) (pc_s hPc hDc hKc hE hS hFc) rfl rfl hl.1 rfl (lv_room (Nat.le_of_ble_eq_true rfl)) dL_law_818 ⟨Nat.le_of_ble_eq_true rfl, Nat.le_of_ble_eq_true rfl⟩) hS (fun q _ h => hFc q h) hFc (fun r u t H1 locs ht hvm hw hB hz1 hk1 hS => ?_)
    have hw : r = 0 := hw
    rw [hw]
    obtain ⟨hP1, hK1, hD1⟩ := hB
    rw [ht] at hP1
    have hK1 := va_K.moved hvm.symm hK1
    obtain ⟨hP, hD⟩ := va_join (wr := [(aJ, .inl (cJ, 5, .inr (.inr (.inr (.inr fJ))))), (j0, .inr (5, [.int 0, .int 0, .int 0, .int 0, .int 0, .ref c1, .ref c2, .int 0, .int 0, .int 0, .int 0, .ref c3, .int 0, .ref c4, .ref c5, .int 0])), (rN, .inr (6, [.int 7, .int 100, .int 800, .int 10])), (rX, .inr (6, [.int 7, .int 100, .int 800, .int 10])), (y0, .inr (8, [.int 0, .ref lH, .ref lB, .ref lJ, .ref aR, .ref aL, .int 0, .int 0, .int 0, .ref lC, .ref aM, .ref aP, .int 0, .int 0, .int 0, .int (-1), .int (-1), .int 0, .int 0, .long 0])), (lH, .inr (2, [.int 0, .ref eT, .int 0])), (lB, .inr (2, [.int 0, .ref eT, .int 0])), (lJ, .inr (2, [.int 0, .ref eT, .int 0])), (lC, .inr (2, [.int 0, .ref eT, .int 0])), (aR, .inl (cI, 4, .inl fR)), (aL, .inl (cL, 4, .inl fL)), (aM, .inl (cM, 5, .inr (.inr (.inr (.inr gM))))), (m0, .inl (cR, 16, .inl f0)), (m1, .inl (cR, 16, .inl f1)), (m2, .inl (cR, 16, .inl f2)), (m3, .inl (cR, 16, .inl f3)), (m4, .inl (cR, 16, .inl f4))]) (w1 := [(ho, .inl (cO, 1, .inr (.inl (vp_updL fo (Int32.toNatClampNeg 0) 0))))]) hP hD [0, 18] [1, 2, 3, 4, 5, 6, 7, 8, 9, 10, 11, 12, 13, 14, 15, 16, 17] rfl rfl (by decide) (by decide) hk1 hFc hP1 hD1
    generalize H1 = H at hP hS ⊢
    have hP : va_P D vwCl [(aJ, .inl (cJ, 5, .inr (.inr (.inr (.inr fJ))))), (j0, .inr (5, [.int 0, .int 0, .int 0, .int 0, .int 0, .ref c1, .ref c2, .int 0, .int 0, .int 0, .int 0, .ref c3, .int 0, .ref c4, .ref c5, .int 0])), (rN, .inr (6, [.int 7, .int 100, .int 800, .int 10])), (rX, .inr (6, [.int 7, .int 100, .int 800, .int 10])), (y0, .inr (8, [.int 0, .ref lH, .ref lB, .ref lJ, .ref aR, .ref aL, .int 0, .int 0, .int 0, .ref lC, .ref aM, .ref aP, .int 0, .int 0, .int 0, .int (-1), .int (-1), .int 0, .int 0, .long 0])), (lH, .inr (2, [.int 0, .ref eT, .int 0])), (lB, .inr (2, [.int 0, .ref eT, .int 0])), (lJ, .inr (2, [.int 0, .ref eT, .int 0])), (lC, .inr (2, [.int 0, .ref eT, .int 0])), (aR, .inl (cI, 4, .inl fR)), (aL, .inl (cL, 4, .inl fL)), (aM, .inl (cM, 5, .inr (.inr (.inr (.inr gM))))), (m0, .inl (cR, 16, .inl f0)), (m1, .inl (cR, 16, .inl f1)), (m2, .inl (cR, 16, .inl f2)), (m3, .inl (cR, 16, .inl f3)), (m4, .inl (cR, 16, .inl f4)), (ho, .inl (cO, 1, .inr (.inl (vp_updL fo (Int32.toNatClampNeg 0) 0))))] H := hP
    have hD : va_D (fun q : Nat => s.heap.size ≤ q) [(aJ, .inl (cJ, 5, .inr (.inr (.inr (.inr fJ))))), (j0, .inr (5, [.int 0, .int 0, .int 0, .int 0, .int 0, .ref c1, .ref c2, .int 0, .int 0, .int 0, .int 0, .ref c3, .int 0, .ref c4, .ref c5, .int 0])), (rN, .inr (6, [.int 7, .int 100, .int 800, .int 10])), (rX, .inr (6, [.int 7, .int 100, .int 800, .int 10])), (y0, .inr (8, [.int 0, .ref lH, .ref lB, .ref lJ, .ref aR, .ref aL, .int 0, .int 0, .int 0, .ref lC, .ref aM, .ref aP, .int 0, .int 0, .int 0, .int (-1), .int (-1), .int 0, .int 0, .long 0])), (lH, .inr (2, [.int 0, .ref eT, .int 0])), (lB, .inr (2, [.int 0, .ref eT, .int 0])), (lJ, .inr (2, [.int 0, .ref eT, .int 0])), (lC, .inr (2, [.int 0, .ref eT, .int 0])), (aR, .inl (cI, 4, .inl fR)), (aL, .inl (cL, 4, .inl fL)), (aM, .inl (cM, 5, .inr (.inr (.inr (.inr gM))))), (m0, .inl (cR, 16, .inl f0)), (m1, .inl (cR, 16, .inl f1)), (m2, .inl (cR, 16, .inl f2)), (m3, .inl (cR, 16, .inl f3)), (m4, .inl (cR, 16, .inl f4)), (ho, .inl (cO, 1, .inr (.inl (vp_updL fo (Int32.toNatClampNeg 0) 0))))] := hD
    refine lv_istore (lv' := [(5, .int 0), (0, .ref b), (1, .ref x0), (2, .ref y0), (3, .ref ho), (4, .int 0)]) hx hb dL_law_821 hl (by decide) rfl (fun ls hl => ?_)
    refine lv_aload_n hx hb dL_law_823 rfl (lv_at hl 3 rfl) ?_
    refine lv_aload_n hx hb dL_law_824 rfl (lv_at hl 1 rfl) ?_
    refine lv_iload hx hb dL_law_825 (lv_at hl 5 rfl) ?_
    refine lv_iconst (v := 1) hx hb dL_law_827 (by decide) ?_
    refine lv_iadd hx hb dL_law_828 ?_
    refine lv_topi (fun z_3 ez_3 => ?_)
    have ez_3 : z_3 = 1 := ez_3.trans (by decide +kernel)
    rw [ez_3]
    refine va_sld hx hb hX hbl hbA hS (show vp_in 1 7 from by unfold vp_in; decide +kernel) dL_law_829 ?_
    refine lv_topi (fun z_4 ez_4 => ?_)
    have ez_4 : z_4 = (xs 1) := ez_4
    rw [ez_4]
    have hPc := hP.sub (ws' := [(y0, .inr (8, [.int 0, .ref lH, .ref lB, .ref lJ, .ref aR, .ref aL, .int 0, .int 0, .int 0, .ref lC, .ref aM, .ref aP, .int 0, .int 0, .int 0, .int (-1), .int (-1), .int 0, .int 0, .long 0])), (lB, .inr (2, [.int 0, .ref eT, .int 0])), (lJ, .inr (2, [.int 0, .ref eT, .int 0]))]) [4, 6, 7] rfl
    have hKc := hK.sub (tys' := []) [] rfl
    have hDc := hD.sub (ws' := [(y0, .inr (8, [.int 0, .ref lH, .ref lB, .ref lJ, .ref aR, .ref aL, .int 0, .int 0, .int 0, .ref lC, .ref aM, .ref aP, .int 0, .int 0, .int 0, .int (-1), .int (-1), .int 0, .int 0, .long 0])), (lB, .inr (2, [.int 0, .ref eT, .int 0])), (lJ, .inr (2, [.int 0, .ref eT, .int 0]))]) [4, 6, 7] (by decide) rfl
    have hFc := va_free (wc := [(y0, .inr (8, [.int 0, .ref lH, .ref lB, .ref lJ, .ref aR, .ref aL, .int 0, .int 0, .int 0, .ref lC, .ref aM, .ref aP, .int 0, .int 0, .int 0, .int (-1), .int (-1), .int 0, .int 0, .long 0])), (lB, .inr (2, [.int 0, .ref eT, .int 0])), (lJ, .inr (2, [.int 0, .ref eT, .int 0]))]) hD hS hA [4, 6, 7] rfl
    refine va_calli (va_runV (As := [.int (xs 1)]) (rest := []) ⟨hx, hb, hml, hown, hts⟩ (r_pass l D eT y0 lH lB lJ aR aL lC aM aP 0 (xs 1) H.size h1 h2) (cwV 1 hts gL_law_X5_pass rfl rfl rfl (by decide +kernel) ⟨Nat.le_of_ble_eq_true rfl, Nat.le_of_ble_eq_true rfl⟩) (pc_v (ci := 8) (q0 := 0) rfl rfl hPc hDc hKc hE hS hFc) rfl rfl hl.1 rfl (lv_room (Nat.le_of_ble_eq_true rfl)) dL_law_830 ⟨Nat.le_of_ble_eq_true rfl, Nat.le_of_ble_eq_true rfl⟩) hS (fun q _ h => hFc q h) hFc (fun r u t H1 locs ht hvm hw hB hz1 hk1 hS => ?_)
    have hw : r = 0 := hw
    rw [hw]
    obtain ⟨dy_5, hP1, hK1, hD1⟩ := hB
    rw [ht] at hP1
    have hK1 := va_K.moved hvm.symm hK1
    obtain ⟨hP, hD⟩ := va_join (wr := [(aJ, .inl (cJ, 5, .inr (.inr (.inr (.inr fJ))))), (j0, .inr (5, [.int 0, .int 0, .int 0, .int 0, .int 0, .ref c1, .ref c2, .int 0, .int 0, .int 0, .int 0, .ref c3, .int 0, .ref c4, .ref c5, .int 0])), (rN, .inr (6, [.int 7, .int 100, .int 800, .int 10])), (rX, .inr (6, [.int 7, .int 100, .int 800, .int 10])), (lH, .inr (2, [.int 0, .ref eT, .int 0])), (lC, .inr (2, [.int 0, .ref eT, .int 0])), (aR, .inl (cI, 4, .inl fR)), (aL, .inl (cL, 4, .inl fL)), (aM, .inl (cM, 5, .inr (.inr (.inr (.inr gM))))), (m0, .inl (cR, 16, .inl f0)), (m1, .inl (cR, 16, .inl f1)), (m2, .inl (cR, 16, .inl f2)), (m3, .inl (cR, 16, .inl f3)), (m4, .inl (cR, 16, .inl f4)), (ho, .inl (cO, 1, .inr (.inl (vp_updL fo (Int32.toNatClampNeg 0) 0))))]) (w1 := [(y0, .inr (8, [.int 0, .ref lH, .ref lB, .ref lJ, .ref aR, .ref aL, .int 0, .int 0, .int dy_5, .ref lC, .ref aM, .ref aP, .int 0, .int 0, .int 0, .int (-1), .int (-1), .int 0, .int 0, .long 0]))]) hP hD [4, 6, 7] [0, 1, 2, 3, 5, 8, 9, 10, 11, 12, 13, 14, 15, 16, 17] rfl rfl (by decide) (by decide) hk1 hFc hP1 hD1
    generalize H1 = H at hP hS ⊢
    have hP : va_P D vwCl [(aJ, .inl (cJ, 5, .inr (.inr (.inr (.inr fJ))))), (j0, .inr (5, [.int 0, .int 0, .int 0, .int 0, .int 0, .ref c1, .ref c2, .int 0, .int 0, .int 0, .int 0, .ref c3, .int 0, .ref c4, .ref c5, .int 0])), (rN, .inr (6, [.int 7, .int 100, .int 800, .int 10])), (rX, .inr (6, [.int 7, .int 100, .int 800, .int 10])), (lH, .inr (2, [.int 0, .ref eT, .int 0])), (lC, .inr (2, [.int 0, .ref eT, .int 0])), (aR, .inl (cI, 4, .inl fR)), (aL, .inl (cL, 4, .inl fL)), (aM, .inl (cM, 5, .inr (.inr (.inr (.inr gM))))), (m0, .inl (cR, 16, .inl f0)), (m1, .inl (cR, 16, .inl f1)), (m2, .inl (cR, 16, .inl f2)), (m3, .inl (cR, 16, .inl f3)), (m4, .inl (cR, 16, .inl f4)), (ho, .inl (cO, 1, .inr (.inl (vp_updL fo (Int32.toNatClampNeg 0) 0)))), (y0, .inr (8, [.int 0, .ref lH, .ref lB, .ref lJ, .ref aR, .ref aL, .int 0, .int 0, .int dy_5, .ref lC, .ref aM, .ref aP, .int 0, .int 0, .int 0, .int (-1), .int (-1), .int 0, .int 0, .long 0]))] H := hP
    have hD : va_D (fun q : Nat => s.heap.size ≤ q) [(aJ, .inl (cJ, 5, .inr (.inr (.inr (.inr fJ))))), (j0, .inr (5, [.int 0, .int 0, .int 0, .int 0, .int 0, .ref c1, .ref c2, .int 0, .int 0, .int 0, .int 0, .ref c3, .int 0, .ref c4, .ref c5, .int 0])), (rN, .inr (6, [.int 7, .int 100, .int 800, .int 10])), (rX, .inr (6, [.int 7, .int 100, .int 800, .int 10])), (lH, .inr (2, [.int 0, .ref eT, .int 0])), (lC, .inr (2, [.int 0, .ref eT, .int 0])), (aR, .inl (cI, 4, .inl fR)), (aL, .inl (cL, 4, .inl fL)), (aM, .inl (cM, 5, .inr (.inr (.inr (.inr gM))))), (m0, .inl (cR, 16, .inl f0)), (m1, .inl (cR, 16, .inl f1)), (m2, .inl (cR, 16, .inl f2)), (m3, .inl (cR, 16, .inl f3)), (m4, .inl (cR, 16, .inl f4)), (ho, .inl (cO, 1, .inr (.inl (vp_updL fo (Int32.toNatClampNeg 0) 0)))), (y0, .inr (8, [.int 0, .ref lH, .ref lB, .ref lJ, .ref aR, .ref aL, .int 0, .int 0, .int dy_5, .ref lC, .ref aM, .ref aP, .int 0, .int 0, .int 0, .int (-1), .int (-1), .int 0, .int 0, .long 0]))] := hD
    refine lv_istore (lv' := [(6, .int 0), (5, .int 0), (0, .ref b), (1, .ref x0), (2, .ref y0), (3, .ref ho), (4, .int 0)]) hx hb dL_law_833 hl (by decide) rfl (fun ls hl => ?_)
    refine lv_aload_n hx hb dL_law_835 rfl (lv_at hl 4 rfl) ?_
    have hPc := hP.sub (ws' := [(y0, .inr (8, [.int 0, .ref lH, .ref lB, .ref lJ, .ref aR, .ref aL, .int 0, .int 0, .int dy_5, .ref lC, .ref aM, .ref aP, .int 0, .int 0, .int 0, .int (-1), .int (-1), .int 0, .int 0, .long 0]))]) [15] rfl
    have hKc := hK.sub (tys' := []) [] rfl
    refine va_calli (va_runV (As := []) (rest := []) ⟨hx, hb, hml, hown, hts⟩ (r_thrown l D eT y0 lH lB lJ aR aL lC aM aP 0 0 dy_5 H.size ) (cwV 0 hts gL_law_X5_thrown rfl rfl rfl (by decide +kernel) ⟨Nat.le_of_ble_eq_true rfl, Nat.le_of_ble_eq_true rfl⟩) (pr_v (ci := 8) (q0 := 0) rfl rfl hPc hKc hE hS hA) rfl rfl hl.1 rfl (lv_room (Nat.le_of_ble_eq_true rfl)) dL_law_836 ⟨Nat.le_of_ble_eq_true rfl, Nat.le_of_ble_eq_true rfl⟩) hS (fun q h1 h2 => ro_A h1 h2) (fun q h => ro_F hS hA q h) (fun r u t H1 locs ht hvm hw hB hz1 hk1 hS => ?_)
    have hw : r = 0 := hw
    rw [hw]
    have hP := ro_P hP hk1
    generalize H1 = H at hP hS ⊢
    refine lv_iload hx hb dL_law_839 (lv_at hl 1 rfl) ?_
    refine lv_icmp_eq (tgt := 846) hx hb dL_law_841 (by decide) (fun _ => ?_) (fun h => absurd (by decide) h)
    refine lv_iload hx hb dL_law_846 (lv_at hl 1 rfl) ?_
    refine lv_if_ne (tgt := 863) hx hb dL_law_848 (by decide) (fun h => absurd (by decide) h) (fun _ => ?_)
    refine lv_aload_n hx hb dL_law_851 rfl (lv_at hl 5 rfl) ?_
    refine lv_iconst (v := 0) hx hb dL_law_852 (by decide) ?_
    refine va_lald hx hb hK hP 14 5 rfl rfl (by unfold vp_in; decide +kernel) dL_law_853 ?_
    refine lv_topl (fun z_6 ez_6 => ?_)
    have ez_6 : z_6 = 0 := ez_6.trans pk_uLs
    rw [ez_6]
    refine lv_iload hx hb dL_law_854 (lv_at hl 0 rfl) ?_
    refine lv_i2l (v := 0) hx hb dL_law_856 (by decide) ?_
    refine W.lcmp hx hb dL_law_857 ?_
    refine lv_topi (fun z_7 ez_7 => ?_)
    have ez_7 : z_7 = 0 := ez_7.trans (by decide +kernel)
    rw [ez_7]
    refine lv_if_eq (tgt := 863) hx hb dL_law_858 (by decide) (fun _ => ?_) (fun h => absurd (by decide) h)
    refine lv_goto (tgt := 1835) hx hb dL_law_863 (by decide) ?_
    refine W.widen (k := 2000) (n := 20000) (Nat.le_of_ble_eq_true rfl) (Nat.le_of_ble_eq_true rfl) ?_
    exact kx _ _ _ hS (lv_sub hl [2, 3, 4, 5, 6] rfl)
  · skip
    refine lv_aload_n hx hb dL_law_810 rfl (lv_at hl 1 rfl) ?_
    refine lv_aload_n hx hb dL_law_811 rfl (lv_at hl 0 rfl) ?_
    refine lv_iload hx hb dL_law_812 (lv_at hl 4 rfl) ?_
    refine lv_iconst (v := 1) hx hb dL_law_814 (by decide) ?_
    refine lv_iadd hx hb dL_law_815 ?_
    refine lv_topi (fun z_8 ez_8 => ?_)
    have ez_8 : z_8 = 1 := ez_8.trans (by decide +kernel)
    rw [ez_8]
    refine va_sld hx hb hX hbl hbA hS (show vp_in 1 7 from by unfold vp_in; decide +kernel) dL_law_816 ?_
    refine lv_topi (fun z_9 ez_9 => ?_)
    have ez_9 : z_9 = (xs 1) := ez_9
    rw [ez_9]
    refine lv_aload_n hx hb dL_law_817 rfl (lv_at hl 3 rfl) ?_
    have hPc := hP.sub (ws' := [(x0, .inr (7, [.ref aH, .ref aB, .ref aJ, .int 0, .int 0, .int 0, .ref rN, .ref rX, .int 0, .int 0, .int 0, .int 0, .int 0, .int 0, .int (-1), .int (-1), .int 0, .int 0, .ref aV])), (ho, .inl (cO, 1, .inr (.inl fo)))]) [0, 18] rfl
    have hKc := hK.sub (tys' := [(cO, .long)]) [5] rfl
    have hDc := hD.sub (ws' := [(x0, .inr (7, [.ref aH, .ref aB, .ref aJ, .int 0, .int 0, .int 0, .ref rN, .ref rX, .int 0, .int 0, .int 0, .int 0, .int 0, .int 0, .int (-1), .int (-1), .int 0, .int 0, .ref aV])), (ho, .inl (cO, 1, .inr (.inl fo)))]) [0, 18] (by decide) rfl
    have hFc := va_free (wc := [(x0, .inr (7, [.ref aH, .ref aB, .ref aJ, .int 0, .int 0, .int 0, .ref rN, .ref rX, .int 0, .int 0, .int 0, .int 0, .int 0, .int 0, .int (-1), .int (-1), .int 0, .int 0, .ref aV])), (ho, .inl (cO, 1, .inr (.inl fo)))]) hD hS hA [0, 18] rfl
    refine va_calli (vx_runSW (As := [.ref x0, .int (xs 1), .ref ho]) (rest := []) ⟨hx, hb, hml, hown, hts⟩ (w_pass_f l hl0 D eT x0 aH aB aJ rN rX aV ho cO fo (xs 1) H.size hn) (vx_cwSW 3 hts gL_law_L_pass rfl rfl rfl (by decide +kernel) ⟨Nat.le_of_ble_eq_true rfl, Nat.le_of_ble_eq_true rfl⟩) (pc_s hPc hDc hKc hE hS hFc) rfl rfl hl.1 rfl (lv_room (Nat.le_of_ble_eq_true rfl)) dL_law_818 ⟨Nat.le_of_ble_eq_true rfl, Nat.le_of_ble_eq_true rfl⟩) hS (fun q _ h => hFc q h) hFc (fun r u t H1 locs ht hvm hw hB hz1 hk1 hS => ?_)
    have hw : r = 1 := hw
    rw [hw]
    obtain ⟨hP1, hK1, hD1⟩ := hB
    rw [ht] at hP1
    have hK1 := va_K.moved hvm.symm hK1
    obtain ⟨hP, hD⟩ := va_join (wr := [(aJ, .inl (cJ, 5, .inr (.inr (.inr (.inr fJ))))), (j0, .inr (5, [.int 0, .int 0, .int 0, .int 0, .int 0, .ref c1, .ref c2, .int 0, .int 0, .int 0, .int 0, .ref c3, .int 0, .ref c4, .ref c5, .int 0])), (rN, .inr (6, [.int 7, .int 100, .int 800, .int 10])), (rX, .inr (6, [.int 7, .int 100, .int 800, .int 10])), (y0, .inr (8, [.int 0, .ref lH, .ref lB, .ref lJ, .ref aR, .ref aL, .int 0, .int 0, .int 0, .ref lC, .ref aM, .ref aP, .int 0, .int 0, .int 0, .int (-1), .int (-1), .int 0, .int 0, .long 0])), (lH, .inr (2, [.int 0, .ref eT, .int 0])), (lB, .inr (2, [.int 0, .ref eT, .int 0])), (lJ, .inr (2, [.int 0, .ref eT, .int 0])), (lC, .inr (2, [.int 0, .ref eT, .int 0])), (aR, .inl (cI, 4, .inl fR)), (aL, .inl (cL, 4, .inl fL)), (aM, .inl (cM, 5, .inr (.inr (.inr (.inr gM))))), (m0, .inl (cR, 16, .inl f0)), (m1, .inl (cR, 16, .inl f1)), (m2, .inl (cR, 16, .inl f2)), (m3, .inl (cR, 16, .inl f3)), (m4, .inl (cR, 16, .inl f4))]) (w1 := [(ho, .inl (cO, 1, .inr (.inl fo)))]) hP hD [0, 18] [1, 2, 3, 4, 5, 6, 7, 8, 9, 10, 11, 12, 13, 14, 15, 16, 17] rfl rfl (by decide) (by decide) hk1 hFc hP1 hD1
    generalize H1 = H at hP hS ⊢
    have hP : va_P D vwCl [(aJ, .inl (cJ, 5, .inr (.inr (.inr (.inr fJ))))), (j0, .inr (5, [.int 0, .int 0, .int 0, .int 0, .int 0, .ref c1, .ref c2, .int 0, .int 0, .int 0, .int 0, .ref c3, .int 0, .ref c4, .ref c5, .int 0])), (rN, .inr (6, [.int 7, .int 100, .int 800, .int 10])), (rX, .inr (6, [.int 7, .int 100, .int 800, .int 10])), (y0, .inr (8, [.int 0, .ref lH, .ref lB, .ref lJ, .ref aR, .ref aL, .int 0, .int 0, .int 0, .ref lC, .ref aM, .ref aP, .int 0, .int 0, .int 0, .int (-1), .int (-1), .int 0, .int 0, .long 0])), (lH, .inr (2, [.int 0, .ref eT, .int 0])), (lB, .inr (2, [.int 0, .ref eT, .int 0])), (lJ, .inr (2, [.int 0, .ref eT, .int 0])), (lC, .inr (2, [.int 0, .ref eT, .int 0])), (aR, .inl (cI, 4, .inl fR)), (aL, .inl (cL, 4, .inl fL)), (aM, .inl (cM, 5, .inr (.inr (.inr (.inr gM))))), (m0, .inl (cR, 16, .inl f0)), (m1, .inl (cR, 16, .inl f1)), (m2, .inl (cR, 16, .inl f2)), (m3, .inl (cR, 16, .inl f3)), (m4, .inl (cR, 16, .inl f4)), (ho, .inl (cO, 1, .inr (.inl fo)))] H := hP
    have hD : va_D (fun q : Nat => s.heap.size ≤ q) [(aJ, .inl (cJ, 5, .inr (.inr (.inr (.inr fJ))))), (j0, .inr (5, [.int 0, .int 0, .int 0, .int 0, .int 0, .ref c1, .ref c2, .int 0, .int 0, .int 0, .int 0, .ref c3, .int 0, .ref c4, .ref c5, .int 0])), (rN, .inr (6, [.int 7, .int 100, .int 800, .int 10])), (rX, .inr (6, [.int 7, .int 100, .int 800, .int 10])), (y0, .inr (8, [.int 0, .ref lH, .ref lB, .ref lJ, .ref aR, .ref aL, .int 0, .int 0, .int 0, .ref lC, .ref aM, .ref aP, .int 0, .int 0, .int 0, .int (-1), .int (-1), .int 0, .int 0, .long 0])), (lH, .inr (2, [.int 0, .ref eT, .int 0])), (lB, .inr (2, [.int 0, .ref eT, .int 0])), (lJ, .inr (2, [.int 0, .ref eT, .int 0])), (lC, .inr (2, [.int 0, .ref eT, .int 0])), (aR, .inl (cI, 4, .inl fR)), (aL, .inl (cL, 4, .inl fL)), (aM, .inl (cM, 5, .inr (.inr (.inr (.inr gM))))), (m0, .inl (cR, 16, .inl f0)), (m1, .inl (cR, 16, .inl f1)), (m2, .inl (cR, 16, .inl f2)), (m3, .inl (cR, 16, .inl f3)), (m4, .inl (cR, 16, .inl f4)), (ho, .inl (cO, 1, .inr (.inl fo)))] := hD
    refine W.widen (k := 82) (n := 909) (Nat.le_of_ble_eq_true rfl) (Nat.le_of_ble_eq_true rfl) ?_
    refine lv_istore (lv' := [(5, .int 1), (0, .ref b), (1, .ref x0), (2, .ref y0), (3, .ref ho), (4, .int 0)]) hx hb dL_law_821 hl (by decide) rfl (fun ls hl => ?_)
    refine lv_aload_n hx hb dL_law_823 rfl (lv_at hl 3 rfl) ?_
    refine lv_aload_n hx hb dL_law_824 rfl (lv_at hl 1 rfl) ?_
    refine lv_iload hx hb dL_law_825 (lv_at hl 5 rfl) ?_
    refine lv_iconst (v := 1) hx hb dL_law_827 (by decide) ?_
    refine lv_iadd hx hb dL_law_828 ?_
    refine lv_topi (fun z_10 ez_10 => ?_)
    have ez_10 : z_10 = 1 := ez_10.trans (by decide +kernel)
    rw [ez_10]
    refine va_sld hx hb hX hbl hbA hS (show vp_in 1 7 from by unfold vp_in; decide +kernel) dL_law_829 ?_
    refine lv_topi (fun z_11 ez_11 => ?_)
    have ez_11 : z_11 = (xs 1) := ez_11
    rw [ez_11]
    have hPc := hP.sub (ws' := [(y0, .inr (8, [.int 0, .ref lH, .ref lB, .ref lJ, .ref aR, .ref aL, .int 0, .int 0, .int 0, .ref lC, .ref aM, .ref aP, .int 0, .int 0, .int 0, .int (-1), .int (-1), .int 0, .int 0, .long 0]))]) [4] rfl
    have hKc := hK.sub (tys' := []) [] rfl
    have hDc := hD.sub (ws' := [(y0, .inr (8, [.int 0, .ref lH, .ref lB, .ref lJ, .ref aR, .ref aL, .int 0, .int 0, .int 0, .ref lC, .ref aM, .ref aP, .int 0, .int 0, .int 0, .int (-1), .int (-1), .int 0, .int 0, .long 0]))]) [4] (by decide) rfl
    have hFc := va_free (wc := [(y0, .inr (8, [.int 0, .ref lH, .ref lB, .ref lJ, .ref aR, .ref aL, .int 0, .int 0, .int 0, .ref lC, .ref aM, .ref aP, .int 0, .int 0, .int 0, .int (-1), .int (-1), .int 0, .int 0, .long 0]))]) hD hS hA [4] rfl
    refine va_calli (va_runV (As := [.int (xs 1)]) (rest := []) ⟨hx, hb, hml, hown, hts⟩ (r_pass_f l D eT y0 lH lB lJ aR aL lC aM aP 0 (xs 1) H.size hn) (cwV 1 hts gL_law_X5_pass rfl rfl rfl (by decide +kernel) ⟨Nat.le_of_ble_eq_true rfl, Nat.le_of_ble_eq_true rfl⟩) (pc_v (ci := 8) (q0 := 0) rfl rfl hPc hDc hKc hE hS hFc) rfl rfl hl.1 rfl (lv_room (Nat.le_of_ble_eq_true rfl)) dL_law_830 ⟨Nat.le_of_ble_eq_true rfl, Nat.le_of_ble_eq_true rfl⟩) hS (fun q _ h => hFc q h) hFc (fun r u t H1 locs ht hvm hw hB hz1 hk1 hS => ?_)
    have hw : r = 0 := hw
    rw [hw]
    obtain ⟨hP1, hK1, hD1⟩ := hB
    rw [ht] at hP1
    have hK1 := va_K.moved hvm.symm hK1
    obtain ⟨hP, hD⟩ := va_join (wr := [(aJ, .inl (cJ, 5, .inr (.inr (.inr (.inr fJ))))), (j0, .inr (5, [.int 0, .int 0, .int 0, .int 0, .int 0, .ref c1, .ref c2, .int 0, .int 0, .int 0, .int 0, .ref c3, .int 0, .ref c4, .ref c5, .int 0])), (rN, .inr (6, [.int 7, .int 100, .int 800, .int 10])), (rX, .inr (6, [.int 7, .int 100, .int 800, .int 10])), (lH, .inr (2, [.int 0, .ref eT, .int 0])), (lB, .inr (2, [.int 0, .ref eT, .int 0])), (lJ, .inr (2, [.int 0, .ref eT, .int 0])), (lC, .inr (2, [.int 0, .ref eT, .int 0])), (aR, .inl (cI, 4, .inl fR)), (aL, .inl (cL, 4, .inl fL)), (aM, .inl (cM, 5, .inr (.inr (.inr (.inr gM))))), (m0, .inl (cR, 16, .inl f0)), (m1, .inl (cR, 16, .inl f1)), (m2, .inl (cR, 16, .inl f2)), (m3, .inl (cR, 16, .inl f3)), (m4, .inl (cR, 16, .inl f4)), (ho, .inl (cO, 1, .inr (.inl fo)))]) (w1 := [(y0, .inr (8, [.int 1, .ref lH, .ref lB, .ref lJ, .ref aR, .ref aL, .int 0, .int 0, .int 0, .ref lC, .ref aM, .ref aP, .int 0, .int 0, .int 0, .int (-1), .int (-1), .int 0, .int 0, .long 0]))]) hP hD [4] [0, 1, 2, 3, 5, 6, 7, 8, 9, 10, 11, 12, 13, 14, 15, 16, 17] rfl rfl (by decide) (by decide) hk1 hFc hP1 hD1
    generalize H1 = H at hP hS ⊢
    have hP : va_P D vwCl [(aJ, .inl (cJ, 5, .inr (.inr (.inr (.inr fJ))))), (j0, .inr (5, [.int 0, .int 0, .int 0, .int 0, .int 0, .ref c1, .ref c2, .int 0, .int 0, .int 0, .int 0, .ref c3, .int 0, .ref c4, .ref c5, .int 0])), (rN, .inr (6, [.int 7, .int 100, .int 800, .int 10])), (rX, .inr (6, [.int 7, .int 100, .int 800, .int 10])), (lH, .inr (2, [.int 0, .ref eT, .int 0])), (lB, .inr (2, [.int 0, .ref eT, .int 0])), (lJ, .inr (2, [.int 0, .ref eT, .int 0])), (lC, .inr (2, [.int 0, .ref eT, .int 0])), (aR, .inl (cI, 4, .inl fR)), (aL, .inl (cL, 4, .inl fL)), (aM, .inl (cM, 5, .inr (.inr (.inr (.inr gM))))), (m0, .inl (cR, 16, .inl f0)), (m1, .inl (cR, 16, .inl f1)), (m2, .inl (cR, 16, .inl f2)), (m3, .inl (cR, 16, .inl f3)), (m4, .inl (cR, 16, .inl f4)), (ho, .inl (cO, 1, .inr (.inl fo))), (y0, .inr (8, [.int 1, .ref lH, .ref lB, .ref lJ, .ref aR, .ref aL, .int 0, .int 0, .int 0, .ref lC, .ref aM, .ref aP, .int 0, .int 0, .int 0, .int (-1), .int (-1), .int 0, .int 0, .long 0]))] H := hP
    have hD : va_D (fun q : Nat => s.heap.size ≤ q) [(aJ, .inl (cJ, 5, .inr (.inr (.inr (.inr fJ))))), (j0, .inr (5, [.int 0, .int 0, .int 0, .int 0, .int 0, .ref c1, .ref c2, .int 0, .int 0, .int 0, .int 0, .ref c3, .int 0, .ref c4, .ref c5, .int 0])), (rN, .inr (6, [.int 7, .int 100, .int 800, .int 10])), (rX, .inr (6, [.int 7, .int 100, .int 800, .int 10])), (lH, .inr (2, [.int 0, .ref eT, .int 0])), (lB, .inr (2, [.int 0, .ref eT, .int 0])), (lJ, .inr (2, [.int 0, .ref eT, .int 0])), (lC, .inr (2, [.int 0, .ref eT, .int 0])), (aR, .inl (cI, 4, .inl fR)), (aL, .inl (cL, 4, .inl fL)), (aM, .inl (cM, 5, .inr (.inr (.inr (.inr gM))))), (m0, .inl (cR, 16, .inl f0)), (m1, .inl (cR, 16, .inl f1)), (m2, .inl (cR, 16, .inl f2)), (m3, .inl (cR, 16, .inl f3)), (m4, .inl (cR, 16, .inl f4)), (ho, .inl (cO, 1, .inr (.inl fo))), (y0, .inr (8, [.int 1, .ref lH, .ref lB, .ref lJ, .ref aR, .ref aL, .int 0, .int 0, .int 0, .ref lC, .ref aM, .ref aP, .int 0, .int 0, .int 0, .int (-1), .int (-1), .int 0, .int 0, .long 0]))] := hD
    refine lv_istore (lv' := [(6, .int 0), (5, .int 1), (0, .ref b), (1, .ref x0), (2, .ref y0), (3, .ref ho), (4, .int 0)]) hx hb dL_law_833 hl (by decide) rfl (fun ls hl => ?_)
    refine lv_aload_n hx hb dL_law_835 rfl (lv_at hl 4 rfl) ?_
    have hPc := hP.sub (ws' := [(y0, .inr (8, [.int 1, .ref lH, .ref lB, .ref lJ, .ref aR, .ref aL, .int 0, .int 0, .int 0, .ref lC, .ref aM, .ref aP, .int 0, .int 0, .int 0, .int (-1), .int (-1), .int 0, .int 0, .long 0]))]) [17] rfl
    have hKc := hK.sub (tys' := []) [] rfl
    refine va_calli (va_runV (As := []) (rest := []) ⟨hx, hb, hml, hown, hts⟩ (r_thrown l D eT y0 lH lB lJ aR aL lC aM aP 0 1 0 H.size ) (cwV 0 hts gL_law_X5_thrown rfl rfl rfl (by decide +kernel) ⟨Nat.le_of_ble_eq_true rfl, Nat.le_of_ble_eq_true rfl⟩) (pr_v (ci := 8) (q0 := 0) rfl rfl hPc hKc hE hS hA) rfl rfl hl.1 rfl (lv_room (Nat.le_of_ble_eq_true rfl)) dL_law_836 ⟨Nat.le_of_ble_eq_true rfl, Nat.le_of_ble_eq_true rfl⟩) hS (fun q h1 h2 => ro_A h1 h2) (fun q h => ro_F hS hA q h) (fun r u t H1 locs ht hvm hw hB hz1 hk1 hS => ?_)
    have hw : r = 1 := hw
    rw [hw]
    have hP := ro_P hP hk1
    generalize H1 = H at hP hS ⊢
    refine lv_iload hx hb dL_law_839 (lv_at hl 1 rfl) ?_
    refine lv_icmp_eq (tgt := 846) hx hb dL_law_841 (by decide) (fun _ => ?_) (fun h => absurd (by decide) h)
    refine lv_iload hx hb dL_law_846 (lv_at hl 1 rfl) ?_
    refine lv_if_ne (tgt := 863) hx hb dL_law_848 (by decide) (fun _ => ?_) (fun h => absurd h (by decide))
    refine lv_goto (tgt := 1835) hx hb dL_law_863 (by decide) ?_
    refine W.widen (k := 2000) (n := 20000) (Nat.le_of_ble_eq_true rfl) (Nat.le_of_ble_eq_true rfl) ?_
    exact kx _ _ _ hS (lv_sub hl [2, 3, 4, 5, 6] rfl)
set_option maxHeartbeats 8000000 in
set_option maxRecDepth 100000 in
theorem law_c10 {p : Program} {l : Launch} {e : Env} {s : State} {m : MethodId} {args : Array Value} {below : List Frame} {meth : Method} {c : Code} {Q : State → Prop} {b : Nat} {xs : Nat → Int32} {D : va_G} {eT : Nat} {x0 aH aB aJ rN rX aV j0 c1 c2 c3 c4 c5 y0 lH lB lJ aR aL lC aM aP m0 m1 m2 m3 m4 ho : Nat} {cJ cI cL cM cR cO : ClassId} {fJ : Nat → Option Nat} {fR : Nat → Int32} {fL : Nat → Int32} {gM : Nat → Option Nat} {f0 : Nat → Int32} {f1 : Nat → Int32} {f2 : Nat → Int32} {f3 : Nat → Int32} {f4 : Nat → Int32} {fo : Nat → Int64} (hl0 : l.stackTraces = false) (hx : p.tables.exec = Jvm.exec) (hb : c.code = cL_law) (hml : c.maxLocals = 9) (hown : s.vm.findClass RL = some m.cls) (hts : ∀ w ∈ wsL_law, w.before args s = true) (hX : va_X b 7 xs s s.heap) (hbl : b < s.heap.size) (hE : ev eT (fun q : Nat => s.heap.size ≤ q) s s.heap) (hJ : fJ 0 = some j0) (hR : fR 3 = 10) (hg0 : gM 0 = some m0) (hg1 : gM 1 = some m1) (hg2 : gM 2 = some m2) (hg3 : gM 3 = some m3) (hg4 : gM 4 = some m4) (hm0 : ∀ k, k < 16 → f0 k = -1) (hm1 : ∀ k, k < 16 → f1 k = -1) (hm2 : ∀ k, k < 16 → f2 k = -1) (hm3 : ∀ k, k < 16 → f3 k = -1) (hm4 : ∀ k, k < 16 → f4 k = -1) (hK : va_K D vwCl [(cJ, .object RX2), (cI, .int), (cL, .int), (cM, .array .int), (cR, .int), (cO, .long)] s) {H : Heap} {locs : List Loc} (hP : va_P D vwCl [(x0, .inr (7, [.ref aH, .ref aB, .ref aJ, .int 0, .int 0, .int 0, .ref rN, .ref rX, .int 0, .int 0, .int 0, .int 0, .int 0, .int 0, .int (-1), .int (-1), .int 0, .int 0, .ref aV])), (aJ, .inl (cJ, 5, .inr (.inr (.inr (.inr fJ))))), (j0, .inr (5, [.int 0, .int 0, .int 0, .int 0, .int 0, .ref c1, .ref c2, .int 0, .int 0, .int 0, .int 0, .ref c3, .int 0, .ref c4, .ref c5, .int 0])), (rN, .inr (6, [.int 7, .int 100, .int 800, .int 10])), (rX, .inr (6, [.int 7, .int 100, .int 800, .int 10])), (y0, .inr (8, [.int 0, .ref lH, .ref lB, .ref lJ, .ref aR, .ref aL, .int 0, .int 0, .int 0, .ref lC, .ref aM, .ref aP, .int 0, .int 0, .int 0, .int (-1), .int (-1), .int 0, .int 0, .long 0])), (lH, .inr (2, [.int 0, .ref eT, .int 0])), (lB, .inr (2, [.int 0, .ref eT, .int 0])), (lJ, .inr (2, [.int 0, .ref eT, .int 0])), (lC, .inr (2, [.int 0, .ref eT, .int 0])), (aR, .inl (cI, 4, .inl fR)), (aL, .inl (cL, 4, .inl fL)), (aM, .inl (cM, 5, .inr (.inr (.inr (.inr gM))))), (m0, .inl (cR, 16, .inl f0)), (m1, .inl (cR, 16, .inl f1)), (m2, .inl (cR, 16, .inl f2)), (m3, .inl (cR, 16, .inl f3)), (m4, .inl (cR, 16, .inl f4)), (ho, .inl (cO, 1, .inr (.inl fo)))] H) (hD : va_D (fun q : Nat => s.heap.size ≤ q) [(x0, .inr (7, [.ref aH, .ref aB, .ref aJ, .int 0, .int 0, .int 0, .ref rN, .ref rX, .int 0, .int 0, .int 0, .int 0, .int 0, .int 0, .int (-1), .int (-1), .int 0, .int 0, .ref aV])), (aJ, .inl (cJ, 5, .inr (.inr (.inr (.inr fJ))))), (j0, .inr (5, [.int 0, .int 0, .int 0, .int 0, .int 0, .ref c1, .ref c2, .int 0, .int 0, .int 0, .int 0, .ref c3, .int 0, .ref c4, .ref c5, .int 0])), (rN, .inr (6, [.int 7, .int 100, .int 800, .int 10])), (rX, .inr (6, [.int 7, .int 100, .int 800, .int 10])), (y0, .inr (8, [.int 0, .ref lH, .ref lB, .ref lJ, .ref aR, .ref aL, .int 0, .int 0, .int 0, .ref lC, .ref aM, .ref aP, .int 0, .int 0, .int 0, .int (-1), .int (-1), .int 0, .int 0, .long 0])), (lH, .inr (2, [.int 0, .ref eT, .int 0])), (lB, .inr (2, [.int 0, .ref eT, .int 0])), (lJ, .inr (2, [.int 0, .ref eT, .int 0])), (lC, .inr (2, [.int 0, .ref eT, .int 0])), (aR, .inl (cI, 4, .inl fR)), (aL, .inl (cL, 4, .inl fL)), (aM, .inl (cM, 5, .inr (.inr (.inr (.inr gM))))), (m0, .inl (cR, 16, .inl f0)), (m1, .inl (cR, 16, .inl f1)), (m2, .inl (cR, 16, .inl f2)), (m3, .inl (cR, 16, .inl f3)), (m4, .inl (cR, 16, .inl f4)), (ho, .inl (cO, 1, .inr (.inl fo)))]) (hS : va_S (fun q : Nat => s.heap.size ≤ q) s.heap H locs) {ls : Array Slot} (hl : lv_has ls 9 [(0, .ref b), (1, .ref x0), (2, .ref y0), (3, .ref ho), (4, .int 0)]) (kx : ∀ (H : Heap) (locs : List Loc) (ls : Array Slot), va_S (fun q : Nat => s.heap.size ≤ q) s.heap H locs → lv_has ls 9 [(0, .ref b), (1, .ref x0), (2, .ref y0), (3, .ref ho), (4, .int 0)] → W p l e room_1 s m args below meth c H locs 2000 20000 Q (F0 m 1835 ls [])) : W p l e room_1 s m args below meth c H locs 81 903 Q (F0 m 866 ls []) := by
  have hA : ∀ q : Nat, s.heap.size ≤ q → (fun q : Nat => s.heap.size ≤ q) q := fun _ h => h
  have hbA : ¬ (fun q : Nat => s.heap.size ≤ q) b := Nat.not_le.mpr hbl
  by_cases hn : 3 ≤ (xs 1) ∧ (xs 1) ≤ 8
  · obtain ⟨h1, h2⟩ := hn
    refine lv_aload_n hx hb dL_law_866 rfl (lv_at hl 1 rfl) ?_
    refine lv_aload_n hx hb dL_law_867 rfl (lv_at hl 0 rfl) ?_
    refine lv_iload hx hb dL_law_868 (lv_at hl 4 rfl) ?_
    refine lv_iconst (v := 1) hx hb dL_law_870 (by decide) ?_
    refine lv_iadd hx hb dL_law_871 ?_
    refine lv_topi (fun z_1 ez_1 => ?_)
    have ez_1 : z_1 = 1 := ez_1.trans (by decide +kernel)
    rw [ez_1]
    refine va_sld hx hb hX hbl hbA hS (show vp_in 1 7 from by unfold vp_in; decide +kernel) dL_law_872 ?_
    refine lv_topi (fun z_2 ez_2 => ?_)
    have ez_2 : z_2 = (xs 1) := ez_2
    rw [ez_2]
    refine lv_aload_n hx hb dL_law_873 rfl (lv_at hl 3 rfl) ?_
    have hPc := hP.sub (ws' := [(x0, .inr (7, [.ref aH, .ref aB, .ref aJ, .int 0, .int 0, .int 0, .ref rN, .ref rX, .int 0, .int 0, .int 0, .int 0, .int 0, .int 0, .int (-1), .int (-1), .int 0, .int 0, .ref aV])), (ho, .inl (cO, 1, .inr (.inl fo)))]) [0, 18] rfl
    have hKc := hK.sub (tys' := [(cO, .long)]) [5] rfl
    have hDc := hD.sub (ws' := [(x0, .inr (7, [.ref aH, .ref aB, .ref aJ, .int 0, .int 0, .int 0, .ref rN, .ref rX, .int 0, .int 0, .int 0, .int 0, .int 0, .int 0, .int (-1), .int (-1), .int 0, .int 0, .ref aV])), (ho, .inl (cO, 1, .inr (.inl fo)))]) [0, 18] (by decide) rfl
    have hFc := va_free (wc := [(x0, .inr (7, [.ref aH, .ref aB, .ref aJ, .int 0, .int 0, .int 0, .ref rN, .ref rX, .int 0, .int 0, .int 0, .int 0, .int 0, .int 0, .int (-1), .int (-1), .int 0, .int 0, .ref aV])), (ho, .inl (cO, 1, .inr (.inl fo)))]) hD hS hA [0, 18] rfl
    refine va_calli (vx_runSW (As := [.ref x0, .int (xs 1), .ref ho]) (rest := []) ⟨hx, hb, hml, hown, hts⟩ (w_longList_t l hl0 D eT x0 aH aB aJ rN rX aV ho cO fo (xs 1) H.size h1 h2) (vx_cwSW 3 hts gL_law_L_longList rfl rfl rfl (by decide +kernel) ⟨Nat.le_of_ble_eq_true rfl, Nat.le_of_ble_eq_true rfl⟩) (pc_s hPc hDc hKc hE hS hFc) rfl rfl hl.1 rfl (lv_room (Nat.le_of_ble_eq_true rfl)) dL_law_874 ⟨Nat.le_of_ble_eq_true rfl, Nat.le_of_ble_eq_true rfl⟩) hS (fun q _ h => hFc q h) hFc (fun r u t H1 locs ht hvm hw hB hz1 hk1 hS => ?_)
    have hw : r = 2 := hw
    rw [hw]
    obtain ⟨hP1, hK1, hD1⟩ := hB
    rw [ht] at hP1
    have hK1 := va_K.moved hvm.symm hK1
    obtain ⟨hP, hD⟩ := va_join (wr := [(aJ, .inl (cJ, 5, .inr (.inr (.inr (.inr fJ))))), (j0, .inr (5, [.int 0, .int 0, .int 0, .int 0, .int 0, .ref c1, .ref c2, .int 0, .int 0, .int 0, .int 0, .ref c3, .int 0, .ref c4, .ref c5, .int 0])), (rN, .inr (6, [.int 7, .int 100, .int 800, .int 10])), (rX, .inr (6, [.int 7, .int 100, .int 800, .int 10])), (y0, .inr (8, [.int 0, .ref lH, .ref lB, .ref lJ, .ref aR, .ref aL, .int 0, .int 0, .int 0, .ref lC, .ref aM, .ref aP, .int 0, .int 0, .int 0, .int (-1), .int (-1), .int 0, .int 0, .long 0])), (lH, .inr (2, [.int 0, .ref eT, .int 0])), (lB, .inr (2, [.int 0, .ref eT, .int 0])), (lJ, .inr (2, [.int 0, .ref eT, .int 0])), (lC, .inr (2, [.int 0, .ref eT, .int 0])), (aR, .inl (cI, 4, .inl fR)), (aL, .inl (cL, 4, .inl fL)), (aM, .inl (cM, 5, .inr (.inr (.inr (.inr gM))))), (m0, .inl (cR, 16, .inl f0)), (m1, .inl (cR, 16, .inl f1)), (m2, .inl (cR, 16, .inl f2)), (m3, .inl (cR, 16, .inl f3)), (m4, .inl (cR, 16, .inl f4))]) (w1 := [(ho, .inl (cO, 1, .inr (.inl fo)))]) hP hD [0, 18] [1, 2, 3, 4, 5, 6, 7, 8, 9, 10, 11, 12, 13, 14, 15, 16, 17] rfl rfl (by decide) (by decide) hk1 hFc hP1 hD1
    generalize H1 = H at hP hS ⊢
    have hP : va_P D vwCl [(aJ, .inl (cJ, 5, .inr (.inr (.inr (.inr fJ))))), (j0, .inr (5, [.int 0, .int 0, .int 0, .int 0, .int 0, .ref c1, .ref c2, .int 0, .int 0, .int 0, .int 0, .ref c3, .int 0, .ref c4, .ref c5, .int 0])), (rN, .inr (6, [.int 7, .int 100, .int 800, .int 10])), (rX, .inr (6, [.int 7, .int 100, .int 800, .int 10])), (y0, .inr (8, [.int 0, .ref lH, .ref lB, .ref lJ, .ref aR, .ref aL, .int 0, .int 0, .int 0, .ref lC, .ref aM, .ref aP, .int 0, .int 0, .int 0, .int (-1), .int (-1), .int 0, .int 0, .long 0])), (lH, .inr (2, [.int 0, .ref eT, .int 0])), (lB, .inr (2, [.int 0, .ref eT, .int 0])), (lJ, .inr (2, [.int 0, .ref eT, .int 0])), (lC, .inr (2, [.int 0, .ref eT, .int 0])), (aR, .inl (cI, 4, .inl fR)), (aL, .inl (cL, 4, .inl fL)), (aM, .inl (cM, 5, .inr (.inr (.inr (.inr gM))))), (m0, .inl (cR, 16, .inl f0)), (m1, .inl (cR, 16, .inl f1)), (m2, .inl (cR, 16, .inl f2)), (m3, .inl (cR, 16, .inl f3)), (m4, .inl (cR, 16, .inl f4)), (ho, .inl (cO, 1, .inr (.inl fo)))] H := hP
    have hD : va_D (fun q : Nat => s.heap.size ≤ q) [(aJ, .inl (cJ, 5, .inr (.inr (.inr (.inr fJ))))), (j0, .inr (5, [.int 0, .int 0, .int 0, .int 0, .int 0, .ref c1, .ref c2, .int 0, .int 0, .int 0, .int 0, .ref c3, .int 0, .ref c4, .ref c5, .int 0])), (rN, .inr (6, [.int 7, .int 100, .int 800, .int 10])), (rX, .inr (6, [.int 7, .int 100, .int 800, .int 10])), (y0, .inr (8, [.int 0, .ref lH, .ref lB, .ref lJ, .ref aR, .ref aL, .int 0, .int 0, .int 0, .ref lC, .ref aM, .ref aP, .int 0, .int 0, .int 0, .int (-1), .int (-1), .int 0, .int 0, .long 0])), (lH, .inr (2, [.int 0, .ref eT, .int 0])), (lB, .inr (2, [.int 0, .ref eT, .int 0])), (lJ, .inr (2, [.int 0, .ref eT, .int 0])), (lC, .inr (2, [.int 0, .ref eT, .int 0])), (aR, .inl (cI, 4, .inl fR)), (aL, .inl (cL, 4, .inl fL)), (aM, .inl (cM, 5, .inr (.inr (.inr (.inr gM))))), (m0, .inl (cR, 16, .inl f0)), (m1, .inl (cR, 16, .inl f1)), (m2, .inl (cR, 16, .inl f2)), (m3, .inl (cR, 16, .inl f3)), (m4, .inl (cR, 16, .inl f4)), (ho, .inl (cO, 1, .inr (.inl fo)))] := hD
    refine W.widen (k := 82) (n := 909) (Nat.le_of_ble_eq_true rfl) (Nat.le_of_ble_eq_true rfl) ?_
    refine lv_istore (lv' := [(5, .int 2), (0, .ref b), (1, .ref x0), (2, .ref y0), (3, .ref ho), (4, .int 0)]) hx hb dL_law_877 hl (by decide) rfl (fun ls hl => ?_)
    refine lv_aload_n hx hb dL_law_879 rfl (lv_at hl 3 rfl) ?_
    refine lv_aload_n hx hb dL_law_880 rfl (lv_at hl 1 rfl) ?_
    refine lv_iload hx hb dL_law_881 (lv_at hl 5 rfl) ?_
    refine lv_iconst (v := 1) hx hb dL_law_883 (by decide) ?_
    refine lv_iadd hx hb dL_law_884 ?_
    refine lv_topi (fun z_3 ez_3 => ?_)
    have ez_3 : z_3 = 1 := ez_3.trans (by decide +kernel)
    rw [ez_3]
    refine va_sld hx hb hX hbl hbA hS (show vp_in 1 7 from by unfold vp_in; decide +kernel) dL_law_885 ?_
    refine lv_topi (fun z_4 ez_4 => ?_)
    have ez_4 : z_4 = (xs 1) := ez_4
    rw [ez_4]
    have hPc := hP.sub (ws' := [(y0, .inr (8, [.int 0, .ref lH, .ref lB, .ref lJ, .ref aR, .ref aL, .int 0, .int 0, .int 0, .ref lC, .ref aM, .ref aP, .int 0, .int 0, .int 0, .int (-1), .int (-1), .int 0, .int 0, .long 0])), (lJ, .inr (2, [.int 0, .ref eT, .int 0]))]) [4, 7] rfl
    have hKc := hK.sub (tys' := []) [] rfl
    have hDc := hD.sub (ws' := [(y0, .inr (8, [.int 0, .ref lH, .ref lB, .ref lJ, .ref aR, .ref aL, .int 0, .int 0, .int 0, .ref lC, .ref aM, .ref aP, .int 0, .int 0, .int 0, .int (-1), .int (-1), .int 0, .int 0, .long 0])), (lJ, .inr (2, [.int 0, .ref eT, .int 0]))]) [4, 7] (by decide) rfl
    have hFc := va_free (wc := [(y0, .inr (8, [.int 0, .ref lH, .ref lB, .ref lJ, .ref aR, .ref aL, .int 0, .int 0, .int 0, .ref lC, .ref aM, .ref aP, .int 0, .int 0, .int 0, .int (-1), .int (-1), .int 0, .int 0, .long 0])), (lJ, .inr (2, [.int 0, .ref eT, .int 0]))]) hD hS hA [4, 7] rfl
    refine va_calli (va_runV (As := [.int (xs 1)]) (rest := []) ⟨hx, hb, hml, hown, hts⟩ (r_longList_t l D eT y0 lH lB lJ aR aL lC aM aP 0 (xs 1) H.size h1 h2) (cwV 1 hts gL_law_X5_longList rfl rfl rfl (by decide +kernel) ⟨Nat.le_of_ble_eq_true rfl, Nat.le_of_ble_eq_true rfl⟩) (pc_v (ci := 8) (q0 := 0) rfl rfl hPc hDc hKc hE hS hFc) rfl rfl hl.1 rfl (lv_room (Nat.le_of_ble_eq_true rfl)) dL_law_886 ⟨Nat.le_of_ble_eq_true rfl, Nat.le_of_ble_eq_true rfl⟩) hS (fun q _ h => hFc q h) hFc (fun r u t H1 locs ht hvm hw hB hz1 hk1 hS => ?_)
    have hw : r = 0 := hw
    rw [hw]
    obtain ⟨hP1, hK1, hD1⟩ := hB
    rw [ht] at hP1
    have hK1 := va_K.moved hvm.symm hK1
    obtain ⟨hP, hD⟩ := va_join (wr := [(aJ, .inl (cJ, 5, .inr (.inr (.inr (.inr fJ))))), (j0, .inr (5, [.int 0, .int 0, .int 0, .int 0, .int 0, .ref c1, .ref c2, .int 0, .int 0, .int 0, .int 0, .ref c3, .int 0, .ref c4, .ref c5, .int 0])), (rN, .inr (6, [.int 7, .int 100, .int 800, .int 10])), (rX, .inr (6, [.int 7, .int 100, .int 800, .int 10])), (lH, .inr (2, [.int 0, .ref eT, .int 0])), (lB, .inr (2, [.int 0, .ref eT, .int 0])), (lC, .inr (2, [.int 0, .ref eT, .int 0])), (aR, .inl (cI, 4, .inl fR)), (aL, .inl (cL, 4, .inl fL)), (aM, .inl (cM, 5, .inr (.inr (.inr (.inr gM))))), (m0, .inl (cR, 16, .inl f0)), (m1, .inl (cR, 16, .inl f1)), (m2, .inl (cR, 16, .inl f2)), (m3, .inl (cR, 16, .inl f3)), (m4, .inl (cR, 16, .inl f4)), (ho, .inl (cO, 1, .inr (.inl fo)))]) (w1 := [(y0, .inr (8, [.int 2, .ref lH, .ref lB, .ref lJ, .ref aR, .ref aL, .int 0, .int 0, .int 0, .ref lC, .ref aM, .ref aP, .int 0, .int 0, .int 0, .int (-1), .int (-1), .int 0, .int 0, .long 0]))]) hP hD [4, 7] [0, 1, 2, 3, 5, 6, 8, 9, 10, 11, 12, 13, 14, 15, 16, 17] rfl rfl (by decide) (by decide) hk1 hFc hP1 hD1
    generalize H1 = H at hP hS ⊢
    have hP : va_P D vwCl [(aJ, .inl (cJ, 5, .inr (.inr (.inr (.inr fJ))))), (j0, .inr (5, [.int 0, .int 0, .int 0, .int 0, .int 0, .ref c1, .ref c2, .int 0, .int 0, .int 0, .int 0, .ref c3, .int 0, .ref c4, .ref c5, .int 0])), (rN, .inr (6, [.int 7, .int 100, .int 800, .int 10])), (rX, .inr (6, [.int 7, .int 100, .int 800, .int 10])), (lH, .inr (2, [.int 0, .ref eT, .int 0])), (lB, .inr (2, [.int 0, .ref eT, .int 0])), (lC, .inr (2, [.int 0, .ref eT, .int 0])), (aR, .inl (cI, 4, .inl fR)), (aL, .inl (cL, 4, .inl fL)), (aM, .inl (cM, 5, .inr (.inr (.inr (.inr gM))))), (m0, .inl (cR, 16, .inl f0)), (m1, .inl (cR, 16, .inl f1)), (m2, .inl (cR, 16, .inl f2)), (m3, .inl (cR, 16, .inl f3)), (m4, .inl (cR, 16, .inl f4)), (ho, .inl (cO, 1, .inr (.inl fo))), (y0, .inr (8, [.int 2, .ref lH, .ref lB, .ref lJ, .ref aR, .ref aL, .int 0, .int 0, .int 0, .ref lC, .ref aM, .ref aP, .int 0, .int 0, .int 0, .int (-1), .int (-1), .int 0, .int 0, .long 0]))] H := hP
    have hD : va_D (fun q : Nat => s.heap.size ≤ q) [(aJ, .inl (cJ, 5, .inr (.inr (.inr (.inr fJ))))), (j0, .inr (5, [.int 0, .int 0, .int 0, .int 0, .int 0, .ref c1, .ref c2, .int 0, .int 0, .int 0, .int 0, .ref c3, .int 0, .ref c4, .ref c5, .int 0])), (rN, .inr (6, [.int 7, .int 100, .int 800, .int 10])), (rX, .inr (6, [.int 7, .int 100, .int 800, .int 10])), (lH, .inr (2, [.int 0, .ref eT, .int 0])), (lB, .inr (2, [.int 0, .ref eT, .int 0])), (lC, .inr (2, [.int 0, .ref eT, .int 0])), (aR, .inl (cI, 4, .inl fR)), (aL, .inl (cL, 4, .inl fL)), (aM, .inl (cM, 5, .inr (.inr (.inr (.inr gM))))), (m0, .inl (cR, 16, .inl f0)), (m1, .inl (cR, 16, .inl f1)), (m2, .inl (cR, 16, .inl f2)), (m3, .inl (cR, 16, .inl f3)), (m4, .inl (cR, 16, .inl f4)), (ho, .inl (cO, 1, .inr (.inl fo))), (y0, .inr (8, [.int 2, .ref lH, .ref lB, .ref lJ, .ref aR, .ref aL, .int 0, .int 0, .int 0, .ref lC, .ref aM, .ref aP, .int 0, .int 0, .int 0, .int (-1), .int (-1), .int 0, .int 0, .long 0]))] := hD
    refine lv_istore (lv' := [(6, .int 0), (5, .int 2), (0, .ref b), (1, .ref x0), (2, .ref y0), (3, .ref ho), (4, .int 0)]) hx hb dL_law_889 hl (by decide) rfl (fun ls hl => ?_)
    refine lv_aload_n hx hb dL_law_891 rfl (lv_at hl 4 rfl) ?_
    have hPc := hP.sub (ws' := [(y0, .inr (8, [.int 2, .ref lH, .ref lB, .ref lJ, .ref aR, .ref aL, .int 0, .int 0, .int 0, .ref lC, .ref aM, .ref aP, .int 0, .int 0, .int 0, .int (-1), .int (-1), .int 0, .int 0, .long 0]))]) [16] rfl
    have hKc := hK.sub (tys' := []) [] rfl
    refine va_calli (va_runV (As := []) (rest := []) ⟨hx, hb, hml, hown, hts⟩ (r_thrown l D eT y0 lH lB lJ aR aL lC aM aP 0 2 0 H.size ) (cwV 0 hts gL_law_X5_thrown rfl rfl rfl (by decide +kernel) ⟨Nat.le_of_ble_eq_true rfl, Nat.le_of_ble_eq_true rfl⟩) (pr_v (ci := 8) (q0 := 0) rfl rfl hPc hKc hE hS hA) rfl rfl hl.1 rfl (lv_room (Nat.le_of_ble_eq_true rfl)) dL_law_892 ⟨Nat.le_of_ble_eq_true rfl, Nat.le_of_ble_eq_true rfl⟩) hS (fun q h1 h2 => ro_A h1 h2) (fun q h => ro_F hS hA q h) (fun r u t H1 locs ht hvm hw hB hz1 hk1 hS => ?_)
    have hw : r = 2 := hw
    rw [hw]
    have hP := ro_P hP hk1
    generalize H1 = H at hP hS ⊢
    refine lv_iload hx hb dL_law_895 (lv_at hl 1 rfl) ?_
    refine lv_icmp_eq (tgt := 902) hx hb dL_law_897 (by decide) (fun _ => ?_) (fun h => absurd (by decide) h)
    refine lv_iload hx hb dL_law_902 (lv_at hl 1 rfl) ?_
    refine lv_if_ne (tgt := 919) hx hb dL_law_904 (by decide) (fun _ => ?_) (fun h => absurd h (by decide))
    refine lv_goto (tgt := 1835) hx hb dL_law_919 (by decide) ?_
    refine W.widen (k := 2000) (n := 20000) (Nat.le_of_ble_eq_true rfl) (Nat.le_of_ble_eq_true rfl) ?_
    exact kx _ _ _ hS (lv_sub hl [2, 3, 4, 5, 6] rfl)
  · skip
    refine lv_aload_n hx hb dL_law_866 rfl (lv_at hl 1 rfl) ?_
    refine lv_aload_n hx hb dL_law_867 rfl (lv_at hl 0 rfl) ?_
    refine lv_iload hx hb dL_law_868 (lv_at hl 4 rfl) ?_
    refine lv_iconst (v := 1) hx hb dL_law_870 (by decide) ?_
    refine lv_iadd hx hb dL_law_871 ?_
    refine lv_topi (fun z_5 ez_5 => ?_)
    have ez_5 : z_5 = 1 := ez_5.trans (by decide +kernel)
    rw [ez_5]
    refine va_sld hx hb hX hbl hbA hS (show vp_in 1 7 from by unfold vp_in; decide +kernel) dL_law_872 ?_
    refine lv_topi (fun z_6 ez_6 => ?_)
    have ez_6 : z_6 = (xs 1) := ez_6
    rw [ez_6]
    refine lv_aload_n hx hb dL_law_873 rfl (lv_at hl 3 rfl) ?_
    have hPc := hP.sub (ws' := [(x0, .inr (7, [.ref aH, .ref aB, .ref aJ, .int 0, .int 0, .int 0, .ref rN, .ref rX, .int 0, .int 0, .int 0, .int 0, .int 0, .int 0, .int (-1), .int (-1), .int 0, .int 0, .ref aV])), (ho, .inl (cO, 1, .inr (.inl fo)))]) [0, 18] rfl
    have hKc := hK.sub (tys' := [(cO, .long)]) [5] rfl
    have hDc := hD.sub (ws' := [(x0, .inr (7, [.ref aH, .ref aB, .ref aJ, .int 0, .int 0, .int 0, .ref rN, .ref rX, .int 0, .int 0, .int 0, .int 0, .int 0, .int 0, .int (-1), .int (-1), .int 0, .int 0, .ref aV])), (ho, .inl (cO, 1, .inr (.inl fo)))]) [0, 18] (by decide) rfl
    have hFc := va_free (wc := [(x0, .inr (7, [.ref aH, .ref aB, .ref aJ, .int 0, .int 0, .int 0, .ref rN, .ref rX, .int 0, .int 0, .int 0, .int 0, .int 0, .int 0, .int (-1), .int (-1), .int 0, .int 0, .ref aV])), (ho, .inl (cO, 1, .inr (.inl fo)))]) hD hS hA [0, 18] rfl
    refine va_calli (vx_runSW (As := [.ref x0, .int (xs 1), .ref ho]) (rest := []) ⟨hx, hb, hml, hown, hts⟩ (w_longList_f l hl0 D eT x0 aH aB aJ rN rX aV ho cO fo (xs 1) H.size hn) (vx_cwSW 3 hts gL_law_L_longList rfl rfl rfl (by decide +kernel) ⟨Nat.le_of_ble_eq_true rfl, Nat.le_of_ble_eq_true rfl⟩) (pc_s hPc hDc hKc hE hS hFc) rfl rfl hl.1 rfl (lv_room (Nat.le_of_ble_eq_true rfl)) dL_law_874 ⟨Nat.le_of_ble_eq_true rfl, Nat.le_of_ble_eq_true rfl⟩) hS (fun q _ h => hFc q h) hFc (fun r u t H1 locs ht hvm hw hB hz1 hk1 hS => ?_)
    have hw : r = 1 := hw
    rw [hw]
    obtain ⟨hP1, hK1, hD1⟩ := hB
    rw [ht] at hP1
    have hK1 := va_K.moved hvm.symm hK1
    obtain ⟨hP, hD⟩ := va_join (wr := [(aJ, .inl (cJ, 5, .inr (.inr (.inr (.inr fJ))))), (j0, .inr (5, [.int 0, .int 0, .int 0, .int 0, .int 0, .ref c1, .ref c2, .int 0, .int 0, .int 0, .int 0, .ref c3, .int 0, .ref c4, .ref c5, .int 0])), (rN, .inr (6, [.int 7, .int 100, .int 800, .int 10])), (rX, .inr (6, [.int 7, .int 100, .int 800, .int 10])), (y0, .inr (8, [.int 0, .ref lH, .ref lB, .ref lJ, .ref aR, .ref aL, .int 0, .int 0, .int 0, .ref lC, .ref aM, .ref aP, .int 0, .int 0, .int 0, .int (-1), .int (-1), .int 0, .int 0, .long 0])), (lH, .inr (2, [.int 0, .ref eT, .int 0])), (lB, .inr (2, [.int 0, .ref eT, .int 0])), (lJ, .inr (2, [.int 0, .ref eT, .int 0])), (lC, .inr (2, [.int 0, .ref eT, .int 0])), (aR, .inl (cI, 4, .inl fR)), (aL, .inl (cL, 4, .inl fL)), (aM, .inl (cM, 5, .inr (.inr (.inr (.inr gM))))), (m0, .inl (cR, 16, .inl f0)), (m1, .inl (cR, 16, .inl f1)), (m2, .inl (cR, 16, .inl f2)), (m3, .inl (cR, 16, .inl f3)), (m4, .inl (cR, 16, .inl f4))]) (w1 := [(ho, .inl (cO, 1, .inr (.inl fo)))]) hP hD [0, 18] [1, 2, 3, 4, 5, 6, 7, 8, 9, 10, 11, 12, 13, 14, 15, 16, 17] rfl rfl (by decide) (by decide) hk1 hFc hP1 hD1
    generalize H1 = H at hP hS ⊢
    have hP : va_P D vwCl [(aJ, .inl (cJ, 5, .inr (.inr (.inr (.inr fJ))))), (j0, .inr (5, [.int 0, .int 0, .int 0, .int 0, .int 0, .ref c1, .ref c2, .int 0, .int 0, .int 0, .int 0, .ref c3, .int 0, .ref c4, .ref c5, .int 0])), (rN, .inr (6, [.int 7, .int 100, .int 800, .int 10])), (rX, .inr (6, [.int 7, .int 100, .int 800, .int 10])), (y0, .inr (8, [.int 0, .ref lH, .ref lB, .ref lJ, .ref aR, .ref aL, .int 0, .int 0, .int 0, .ref lC, .ref aM, .ref aP, .int 0, .int 0, .int 0, .int (-1), .int (-1), .int 0, .int 0, .long 0])), (lH, .inr (2, [.int 0, .ref eT, .int 0])), (lB, .inr (2, [.int 0, .ref eT, .int 0])), (lJ, .inr (2, [.int 0, .ref eT, .int 0])), (lC, .inr (2, [.int 0, .ref eT, .int 0])), (aR, .inl (cI, 4, .inl fR)), (aL, .inl (cL, 4, .inl fL)), (aM, .inl (cM, 5, .inr (.inr (.inr (.inr gM))))), (m0, .inl (cR, 16, .inl f0)), (m1, .inl (cR, 16, .inl f1)), (m2, .inl (cR, 16, .inl f2)), (m3, .inl (cR, 16, .inl f3)), (m4, .inl (cR, 16, .inl f4)), (ho, .inl (cO, 1, .inr (.inl fo)))] H := hP
    have hD : va_D (fun q : Nat => s.heap.size ≤ q) [(aJ, .inl (cJ, 5, .inr (.inr (.inr (.inr fJ))))), (j0, .inr (5, [.int 0, .int 0, .int 0, .int 0, .int 0, .ref c1, .ref c2, .int 0, .int 0, .int 0, .int 0, .ref c3, .int 0, .ref c4, .ref c5, .int 0])), (rN, .inr (6, [.int 7, .int 100, .int 800, .int 10])), (rX, .inr (6, [.int 7, .int 100, .int 800, .int 10])), (y0, .inr (8, [.int 0, .ref lH, .ref lB, .ref lJ, .ref aR, .ref aL, .int 0, .int 0, .int 0, .ref lC, .ref aM, .ref aP, .int 0, .int 0, .int 0, .int (-1), .int (-1), .int 0, .int 0, .long 0])), (lH, .inr (2, [.int 0, .ref eT, .int 0])), (lB, .inr (2, [.int 0, .ref eT, .int 0])), (lJ, .inr (2, [.int 0, .ref eT, .int 0])), (lC, .inr (2, [.int 0, .ref eT, .int 0])), (aR, .inl (cI, 4, .inl fR)), (aL, .inl (cL, 4, .inl fL)), (aM, .inl (cM, 5, .inr (.inr (.inr (.inr gM))))), (m0, .inl (cR, 16, .inl f0)), (m1, .inl (cR, 16, .inl f1)), (m2, .inl (cR, 16, .inl f2)), (m3, .inl (cR, 16, .inl f3)), (m4, .inl (cR, 16, .inl f4)), (ho, .inl (cO, 1, .inr (.inl fo)))] := hD
    refine W.widen (k := 82) (n := 909) (Nat.le_of_ble_eq_true rfl) (Nat.le_of_ble_eq_true rfl) ?_
    refine lv_istore (lv' := [(5, .int 1), (0, .ref b), (1, .ref x0), (2, .ref y0), (3, .ref ho), (4, .int 0)]) hx hb dL_law_877 hl (by decide) rfl (fun ls hl => ?_)
    refine lv_aload_n hx hb dL_law_879 rfl (lv_at hl 3 rfl) ?_
    refine lv_aload_n hx hb dL_law_880 rfl (lv_at hl 1 rfl) ?_
    refine lv_iload hx hb dL_law_881 (lv_at hl 5 rfl) ?_
    refine lv_iconst (v := 1) hx hb dL_law_883 (by decide) ?_
    refine lv_iadd hx hb dL_law_884 ?_
    refine lv_topi (fun z_7 ez_7 => ?_)
    have ez_7 : z_7 = 1 := ez_7.trans (by decide +kernel)
    rw [ez_7]
    refine va_sld hx hb hX hbl hbA hS (show vp_in 1 7 from by unfold vp_in; decide +kernel) dL_law_885 ?_
    refine lv_topi (fun z_8 ez_8 => ?_)
    have ez_8 : z_8 = (xs 1) := ez_8
    rw [ez_8]
    have hPc := hP.sub (ws' := [(y0, .inr (8, [.int 0, .ref lH, .ref lB, .ref lJ, .ref aR, .ref aL, .int 0, .int 0, .int 0, .ref lC, .ref aM, .ref aP, .int 0, .int 0, .int 0, .int (-1), .int (-1), .int 0, .int 0, .long 0]))]) [4] rfl
    have hKc := hK.sub (tys' := []) [] rfl
    have hDc := hD.sub (ws' := [(y0, .inr (8, [.int 0, .ref lH, .ref lB, .ref lJ, .ref aR, .ref aL, .int 0, .int 0, .int 0, .ref lC, .ref aM, .ref aP, .int 0, .int 0, .int 0, .int (-1), .int (-1), .int 0, .int 0, .long 0]))]) [4] (by decide) rfl
    have hFc := va_free (wc := [(y0, .inr (8, [.int 0, .ref lH, .ref lB, .ref lJ, .ref aR, .ref aL, .int 0, .int 0, .int 0, .ref lC, .ref aM, .ref aP, .int 0, .int 0, .int 0, .int (-1), .int (-1), .int 0, .int 0, .long 0]))]) hD hS hA [4] rfl
    refine va_calli (va_runV (As := [.int (xs 1)]) (rest := []) ⟨hx, hb, hml, hown, hts⟩ (r_longList_f l D eT y0 lH lB lJ aR aL lC aM aP 0 (xs 1) H.size hn) (cwV 1 hts gL_law_X5_longList rfl rfl rfl (by decide +kernel) ⟨Nat.le_of_ble_eq_true rfl, Nat.le_of_ble_eq_true rfl⟩) (pc_v (ci := 8) (q0 := 0) rfl rfl hPc hDc hKc hE hS hFc) rfl rfl hl.1 rfl (lv_room (Nat.le_of_ble_eq_true rfl)) dL_law_886 ⟨Nat.le_of_ble_eq_true rfl, Nat.le_of_ble_eq_true rfl⟩) hS (fun q _ h => hFc q h) hFc (fun r u t H1 locs ht hvm hw hB hz1 hk1 hS => ?_)
    have hw : r = 0 := hw
    rw [hw]
    obtain ⟨hP1, hK1, hD1⟩ := hB
    rw [ht] at hP1
    have hK1 := va_K.moved hvm.symm hK1
    obtain ⟨hP, hD⟩ := va_join (wr := [(aJ, .inl (cJ, 5, .inr (.inr (.inr (.inr fJ))))), (j0, .inr (5, [.int 0, .int 0, .int 0, .int 0, .int 0, .ref c1, .ref c2, .int 0, .int 0, .int 0, .int 0, .ref c3, .int 0, .ref c4, .ref c5, .int 0])), (rN, .inr (6, [.int 7, .int 100, .int 800, .int 10])), (rX, .inr (6, [.int 7, .int 100, .int 800, .int 10])), (lH, .inr (2, [.int 0, .ref eT, .int 0])), (lB, .inr (2, [.int 0, .ref eT, .int 0])), (lJ, .inr (2, [.int 0, .ref eT, .int 0])), (lC, .inr (2, [.int 0, .ref eT, .int 0])), (aR, .inl (cI, 4, .inl fR)), (aL, .inl (cL, 4, .inl fL)), (aM, .inl (cM, 5, .inr (.inr (.inr (.inr gM))))), (m0, .inl (cR, 16, .inl f0)), (m1, .inl (cR, 16, .inl f1)), (m2, .inl (cR, 16, .inl f2)), (m3, .inl (cR, 16, .inl f3)), (m4, .inl (cR, 16, .inl f4)), (ho, .inl (cO, 1, .inr (.inl fo)))]) (w1 := [(y0, .inr (8, [.int 1, .ref lH, .ref lB, .ref lJ, .ref aR, .ref aL, .int 0, .int 0, .int 0, .ref lC, .ref aM, .ref aP, .int 0, .int 0, .int 0, .int (-1), .int (-1), .int 0, .int 0, .long 0]))]) hP hD [4] [0, 1, 2, 3, 5, 6, 7, 8, 9, 10, 11, 12, 13, 14, 15, 16, 17] rfl rfl (by decide) (by decide) hk1 hFc hP1 hD1
    generalize H1 = H at hP hS ⊢
    have hP : va_P D vwCl [(aJ, .inl (cJ, 5, .inr (.inr (.inr (.inr fJ))))), (j0, .inr (5, [.int 0, .int 0, .int 0, .int 0, .int 0, .ref c1, .ref c2, .int 0, .int 0, .int 0, .int 0, .ref c3, .int 0, .ref c4, .ref c5, .int 0])), (rN, .inr (6, [.int 7, .int 100, .int 800, .int 10])), (rX, .inr (6, [.int 7, .int 100, .int 800, .int 10])), (lH, .inr (2, [.int 0, .ref eT, .int 0])), (lB, .inr (2, [.int 0, .ref eT, .int 0])), (lJ, .inr (2, [.int 0, .ref eT, .int 0])), (lC, .inr (2, [.int 0, .ref eT, .int 0])), (aR, .inl (cI, 4, .inl fR)), (aL, .inl (cL, 4, .inl fL)), (aM, .inl (cM, 5, .inr (.inr (.inr (.inr gM))))), (m0, .inl (cR, 16, .inl f0)), (m1, .inl (cR, 16, .inl f1)), (m2, .inl (cR, 16, .inl f2)), (m3, .inl (cR, 16, .inl f3)), (m4, .inl (cR, 16, .inl f4)), (ho, .inl (cO, 1, .inr (.inl fo))), (y0, .inr (8, [.int 1, .ref lH, .ref lB, .ref lJ, .ref aR, .ref aL, .int 0, .int 0, .int 0, .ref lC, .ref aM, .ref aP, .int 0, .int 0, .int 0, .int (-1), .int (-1), .int 0, .int 0, .long 0]))] H := hP
    have hD : va_D (fun q : Nat => s.heap.size ≤ q) [(aJ, .inl (cJ, 5, .inr (.inr (.inr (.inr fJ))))), (j0, .inr (5, [.int 0, .int 0, .int 0, .int 0, .int 0, .ref c1, .ref c2, .int 0, .int 0, .int 0, .int 0, .ref c3, .int 0, .ref c4, .ref c5, .int 0])), (rN, .inr (6, [.int 7, .int 100, .int 800, .int 10])), (rX, .inr (6, [.int 7, .int 100, .int 800, .int 10])), (lH, .inr (2, [.int 0, .ref eT, .int 0])), (lB, .inr (2, [.int 0, .ref eT, .int 0])), (lJ, .inr (2, [.int 0, .ref eT, .int 0])), (lC, .inr (2, [.int 0, .ref eT, .int 0])), (aR, .inl (cI, 4, .inl fR)), (aL, .inl (cL, 4, .inl fL)), (aM, .inl (cM, 5, .inr (.inr (.inr (.inr gM))))), (m0, .inl (cR, 16, .inl f0)), (m1, .inl (cR, 16, .inl f1)), (m2, .inl (cR, 16, .inl f2)), (m3, .inl (cR, 16, .inl f3)), (m4, .inl (cR, 16, .inl f4)), (ho, .inl (cO, 1, .inr (.inl fo))), (y0, .inr (8, [.int 1, .ref lH, .ref lB, .ref lJ, .ref aR, .ref aL, .int 0, .int 0, .int 0, .ref lC, .ref aM, .ref aP, .int 0, .int 0, .int 0, .int (-1), .int (-1), .int 0, .int 0, .long 0]))] := hD
    refine lv_istore (lv' := [(6, .int 0), (5, .int 1), (0, .ref b), (1, .ref x0), (2, .ref y0), (3, .ref ho), (4, .int 0)]) hx hb dL_law_889 hl (by decide) rfl (fun ls hl => ?_)
    refine lv_aload_n hx hb dL_law_891 rfl (lv_at hl 4 rfl) ?_
    have hPc := hP.sub (ws' := [(y0, .inr (8, [.int 1, .ref lH, .ref lB, .ref lJ, .ref aR, .ref aL, .int 0, .int 0, .int 0, .ref lC, .ref aM, .ref aP, .int 0, .int 0, .int 0, .int (-1), .int (-1), .int 0, .int 0, .long 0]))]) [17] rfl
    have hKc := hK.sub (tys' := []) [] rfl
    refine va_calli (va_runV (As := []) (rest := []) ⟨hx, hb, hml, hown, hts⟩ (r_thrown l D eT y0 lH lB lJ aR aL lC aM aP 0 1 0 H.size ) (cwV 0 hts gL_law_X5_thrown rfl rfl rfl (by decide +kernel) ⟨Nat.le_of_ble_eq_true rfl, Nat.le_of_ble_eq_true rfl⟩) (pr_v (ci := 8) (q0 := 0) rfl rfl hPc hKc hE hS hA) rfl rfl hl.1 rfl (lv_room (Nat.le_of_ble_eq_true rfl)) dL_law_892 ⟨Nat.le_of_ble_eq_true rfl, Nat.le_of_ble_eq_true rfl⟩) hS (fun q h1 h2 => ro_A h1 h2) (fun q h => ro_F hS hA q h) (fun r u t H1 locs ht hvm hw hB hz1 hk1 hS => ?_)
    have hw : r = 1 := hw
    rw [hw]
    have hP := ro_P hP hk1
    generalize H1 = H at hP hS ⊢
    refine lv_iload hx hb dL_law_895 (lv_at hl 1 rfl) ?_
    refine lv_icmp_eq (tgt := 902) hx hb dL_law_897 (by decide) (fun _ => ?_) (fun h => absurd (by decide) h)
    refine lv_iload hx hb dL_law_902 (lv_at hl 1 rfl) ?_
    refine lv_if_ne (tgt := 919) hx hb dL_law_904 (by decide) (fun _ => ?_) (fun h => absurd h (by decide))
    refine lv_goto (tgt := 1835) hx hb dL_law_919 (by decide) ?_
    refine W.widen (k := 2000) (n := 20000) (Nat.le_of_ble_eq_true rfl) (Nat.le_of_ble_eq_true rfl) ?_
    exact kx _ _ _ hS (lv_sub hl [2, 3, 4, 5, 6] rfl)
set_option maxHeartbeats 8000000 in
set_option maxRecDepth 100000 in
theorem law_c11 {p : Program} {l : Launch} {e : Env} {s : State} {m : MethodId} {args : Array Value} {below : List Frame} {meth : Method} {c : Code} {Q : State → Prop} {b : Nat} {xs : Nat → Int32} {D : va_G} {eT : Nat} {x0 aH aB aJ rN rX aV j0 c1 c2 c3 c4 c5 y0 lH lB lJ aR aL lC aM aP m0 m1 m2 m3 m4 ho : Nat} {cJ cI cL cM cR cO : ClassId} {fJ : Nat → Option Nat} {fR : Nat → Int32} {fL : Nat → Int32} {gM : Nat → Option Nat} {f0 : Nat → Int32} {f1 : Nat → Int32} {f2 : Nat → Int32} {f3 : Nat → Int32} {f4 : Nat → Int32} {fo : Nat → Int64} (hl0 : l.stackTraces = false) (hx : p.tables.exec = Jvm.exec) (hb : c.code = cL_law) (hml : c.maxLocals = 9) (hown : s.vm.findClass RL = some m.cls) (hts : ∀ w ∈ wsL_law, w.before args s = true) (hX : va_X b 7 xs s s.heap) (hbl : b < s.heap.size) (hE : ev eT (fun q : Nat => s.heap.size ≤ q) s s.heap) (hJ : fJ 0 = some j0) (hR : fR 3 = 10) (hg0 : gM 0 = some m0) (hg1 : gM 1 = some m1) (hg2 : gM 2 = some m2) (hg3 : gM 3 = some m3) (hg4 : gM 4 = some m4) (hm0 : ∀ k, k < 16 → f0 k = -1) (hm1 : ∀ k, k < 16 → f1 k = -1) (hm2 : ∀ k, k < 16 → f2 k = -1) (hm3 : ∀ k, k < 16 → f3 k = -1) (hm4 : ∀ k, k < 16 → f4 k = -1) (hK : va_K D vwCl [(cJ, .object RX2), (cI, .int), (cL, .int), (cM, .array .int), (cR, .int), (cO, .long)] s) {H : Heap} {locs : List Loc} (hP : va_P D vwCl [(x0, .inr (7, [.ref aH, .ref aB, .ref aJ, .int 0, .int 0, .int 0, .ref rN, .ref rX, .int 0, .int 0, .int 0, .int 0, .int 0, .int 0, .int (-1), .int (-1), .int 0, .int 0, .ref aV])), (aJ, .inl (cJ, 5, .inr (.inr (.inr (.inr fJ))))), (j0, .inr (5, [.int 0, .int 0, .int 0, .int 0, .int 0, .ref c1, .ref c2, .int 0, .int 0, .int 0, .int 0, .ref c3, .int 0, .ref c4, .ref c5, .int 0])), (rN, .inr (6, [.int 7, .int 100, .int 800, .int 10])), (rX, .inr (6, [.int 7, .int 100, .int 800, .int 10])), (y0, .inr (8, [.int 0, .ref lH, .ref lB, .ref lJ, .ref aR, .ref aL, .int 0, .int 0, .int 0, .ref lC, .ref aM, .ref aP, .int 0, .int 0, .int 0, .int (-1), .int (-1), .int 0, .int 0, .long 0])), (lH, .inr (2, [.int 0, .ref eT, .int 0])), (lB, .inr (2, [.int 0, .ref eT, .int 0])), (lJ, .inr (2, [.int 0, .ref eT, .int 0])), (lC, .inr (2, [.int 0, .ref eT, .int 0])), (aR, .inl (cI, 4, .inl fR)), (aL, .inl (cL, 4, .inl fL)), (aM, .inl (cM, 5, .inr (.inr (.inr (.inr gM))))), (m0, .inl (cR, 16, .inl f0)), (m1, .inl (cR, 16, .inl f1)), (m2, .inl (cR, 16, .inl f2)), (m3, .inl (cR, 16, .inl f3)), (m4, .inl (cR, 16, .inl f4)), (ho, .inl (cO, 1, .inr (.inl fo)))] H) (hD : va_D (fun q : Nat => s.heap.size ≤ q) [(x0, .inr (7, [.ref aH, .ref aB, .ref aJ, .int 0, .int 0, .int 0, .ref rN, .ref rX, .int 0, .int 0, .int 0, .int 0, .int 0, .int 0, .int (-1), .int (-1), .int 0, .int 0, .ref aV])), (aJ, .inl (cJ, 5, .inr (.inr (.inr (.inr fJ))))), (j0, .inr (5, [.int 0, .int 0, .int 0, .int 0, .int 0, .ref c1, .ref c2, .int 0, .int 0, .int 0, .int 0, .ref c3, .int 0, .ref c4, .ref c5, .int 0])), (rN, .inr (6, [.int 7, .int 100, .int 800, .int 10])), (rX, .inr (6, [.int 7, .int 100, .int 800, .int 10])), (y0, .inr (8, [.int 0, .ref lH, .ref lB, .ref lJ, .ref aR, .ref aL, .int 0, .int 0, .int 0, .ref lC, .ref aM, .ref aP, .int 0, .int 0, .int 0, .int (-1), .int (-1), .int 0, .int 0, .long 0])), (lH, .inr (2, [.int 0, .ref eT, .int 0])), (lB, .inr (2, [.int 0, .ref eT, .int 0])), (lJ, .inr (2, [.int 0, .ref eT, .int 0])), (lC, .inr (2, [.int 0, .ref eT, .int 0])), (aR, .inl (cI, 4, .inl fR)), (aL, .inl (cL, 4, .inl fL)), (aM, .inl (cM, 5, .inr (.inr (.inr (.inr gM))))), (m0, .inl (cR, 16, .inl f0)), (m1, .inl (cR, 16, .inl f1)), (m2, .inl (cR, 16, .inl f2)), (m3, .inl (cR, 16, .inl f3)), (m4, .inl (cR, 16, .inl f4)), (ho, .inl (cO, 1, .inr (.inl fo)))]) (hS : va_S (fun q : Nat => s.heap.size ≤ q) s.heap H locs) {ls : Array Slot} (hl : lv_has ls 9 [(0, .ref b), (1, .ref x0), (2, .ref y0), (3, .ref ho), (4, .int 0)]) (kx : ∀ (H : Heap) (locs : List Loc) (ls : Array Slot), va_S (fun q : Nat => s.heap.size ≤ q) s.heap H locs → lv_has ls 9 [(0, .ref b), (1, .ref x0), (2, .ref y0), (3, .ref ho), (4, .int 0)] → W p l e room_1 s m args below meth c H locs 2000 20000 Q (F0 m 1835 ls [])) : W p l e room_1 s m args below meth c H locs 81 903 Q (F0 m 922 ls []) := by
  have hA : ∀ q : Nat, s.heap.size ≤ q → (fun q : Nat => s.heap.size ≤ q) q := fun _ h => h
  have hbA : ¬ (fun q : Nat => s.heap.size ≤ q) b := Nat.not_le.mpr hbl
  · skip
    refine lv_aload_n hx hb dL_law_922 rfl (lv_at hl 1 rfl) ?_
    refine lv_aload_n hx hb dL_law_923 rfl (lv_at hl 0 rfl) ?_
    refine lv_iload hx hb dL_law_924 (lv_at hl 4 rfl) ?_
    refine lv_iconst (v := 1) hx hb dL_law_926 (by decide) ?_
    refine lv_iadd hx hb dL_law_927 ?_
    refine lv_topi (fun z_1 ez_1 => ?_)
    have ez_1 : z_1 = 1 := ez_1.trans (by decide +kernel)
    rw [ez_1]
    refine va_sld hx hb hX hbl hbA hS (show vp_in 1 7 from by unfold vp_in; decide +kernel) dL_law_928 ?_
    refine lv_topi (fun z_2 ez_2 => ?_)
    have ez_2 : z_2 = (xs 1) := ez_2
    rw [ez_2]
    refine lv_aload_n hx hb dL_law_929 rfl (lv_at hl 0 rfl) ?_
    refine lv_iload hx hb dL_law_930 (lv_at hl 4 rfl) ?_
    refine lv_iconst (v := 2) hx hb dL_law_932 (by decide) ?_
    refine lv_iadd hx hb dL_law_933 ?_
    refine lv_topi (fun z_3 ez_3 => ?_)
    have ez_3 : z_3 = 2 := ez_3.trans (by decide +kernel)
    rw [ez_3]
    refine va_sld hx hb hX hbl hbA hS (show vp_in 2 7 from by unfold vp_in; decide +kernel) dL_law_934 ?_
    refine lv_topi (fun z_4 ez_4 => ?_)
    have ez_4 : z_4 = (xs 2) := ez_4
    rw [ez_4]
    refine lv_aload_n hx hb dL_law_935 rfl (lv_at hl 0 rfl) ?_
    refine lv_iload hx hb dL_law_936 (lv_at hl 4 rfl) ?_
    refine lv_iconst (v := 3) hx hb dL_law_938 (by decide) ?_
    refine lv_iadd hx hb dL_law_939 ?_
    refine lv_topi (fun z_5 ez_5 => ?_)
    have ez_5 : z_5 = 3 := ez_5.trans (by decide +kernel)
    rw [ez_5]
    refine va_sld hx hb hX hbl hbA hS (show vp_in 3 7 from by unfold vp_in; decide +kernel) dL_law_940 ?_
    refine lv_topi (fun z_6 ez_6 => ?_)
    have ez_6 : z_6 = (xs 3) := ez_6
    rw [ez_6]
    refine lv_aload_n hx hb dL_law_941 rfl (lv_at hl 3 rfl) ?_
    have hPc := hP.sub (ws' := [(x0, .inr (7, [.ref aH, .ref aB, .ref aJ, .int 0, .int 0, .int 0, .ref rN, .ref rX, .int 0, .int 0, .int 0, .int 0, .int 0, .int 0, .int (-1), .int (-1), .int 0, .int 0, .ref aV])), (ho, .inl (cO, 1, .inr (.inl fo)))]) [0, 18] rfl
    have hKc := hK.sub (tys' := [(cO, .long)]) [5] rfl
    have hDc := hD.sub (ws' := [(x0, .inr (7, [.ref aH, .ref aB, .ref aJ, .int 0, .int 0, .int 0, .ref rN, .ref rX, .int 0, .int 0, .int 0, .int 0, .int 0, .int 0, .int (-1), .int (-1), .int 0, .int 0, .ref aV])), (ho, .inl (cO, 1, .inr (.inl fo)))]) [0, 18] (by decide) rfl
    have hFc := va_free (wc := [(x0, .inr (7, [.ref aH, .ref aB, .ref aJ, .int 0, .int 0, .int 0, .ref rN, .ref rX, .int 0, .int 0, .int 0, .int 0, .int 0, .int 0, .int (-1), .int (-1), .int 0, .int 0, .ref aV])), (ho, .inl (cO, 1, .inr (.inl fo)))]) hD hS hA [0, 18] rfl
    refine va_calli (vx_runSW (As := [.ref x0, .int (xs 1), .int (xs 2), .int (xs 3), .ref ho]) (rest := []) ⟨hx, hb, hml, hown, hts⟩ (w_points l hl0 D eT x0 aH aB aJ rN rX aV ho cO fo (xs 1) (xs 2) (xs 3) H.size ) (vx_cwSW 5 hts gL_law_L_points rfl rfl rfl (by decide +kernel) ⟨Nat.le_of_ble_eq_true rfl, Nat.le_of_ble_eq_true rfl⟩) (pc_s hPc hDc hKc hE hS hFc) rfl rfl hl.1 rfl (lv_room (Nat.le_of_ble_eq_true rfl)) dL_law_942 ⟨Nat.le_of_ble_eq_true rfl, Nat.le_of_ble_eq_true rfl⟩) hS (fun q _ h => hFc q h) hFc (fun r u t H1 locs ht hvm hw hB hz1 hk1 hS => ?_)
    have hw : r = 1 := hw
    rw [hw]
    obtain ⟨hP1, hK1, hD1⟩ := hB
    rw [ht] at hP1
    have hK1 := va_K.moved hvm.symm hK1
    obtain ⟨hP, hD⟩ := va_join (wr := [(aJ, .inl (cJ, 5, .inr (.inr (.inr (.inr fJ))))), (j0, .inr (5, [.int 0, .int 0, .int 0, .int 0, .int 0, .ref c1, .ref c2, .int 0, .int 0, .int 0, .int 0, .ref c3, .int 0, .ref c4, .ref c5, .int 0])), (rN, .inr (6, [.int 7, .int 100, .int 800, .int 10])), (rX, .inr (6, [.int 7, .int 100, .int 800, .int 10])), (y0, .inr (8, [.int 0, .ref lH, .ref lB, .ref lJ, .ref aR, .ref aL, .int 0, .int 0, .int 0, .ref lC, .ref aM, .ref aP, .int 0, .int 0, .int 0, .int (-1), .int (-1), .int 0, .int 0, .long 0])), (lH, .inr (2, [.int 0, .ref eT, .int 0])), (lB, .inr (2, [.int 0, .ref eT, .int 0])), (lJ, .inr (2, [.int 0, .ref eT, .int 0])), (lC, .inr (2, [.int 0, .ref eT, .int 0])), (aR, .inl (cI, 4, .inl fR)), (aL, .inl (cL, 4, .inl fL)), (aM, .inl (cM, 5, .inr (.inr (.inr (.inr gM))))), (m0, .inl (cR, 16, .inl f0)), (m1, .inl (cR, 16, .inl f1)), (m2, .inl (cR, 16, .inl f2)), (m3, .inl (cR, 16, .inl f3)), (m4, .inl (cR, 16, .inl f4))]) (w1 := [(ho, .inl (cO, 1, .inr (.inl fo)))]) hP hD [0, 18] [1, 2, 3, 4, 5, 6, 7, 8, 9, 10, 11, 12, 13, 14, 15, 16, 17] rfl rfl (by decide) (by decide) hk1 hFc hP1 hD1
    generalize H1 = H at hP hS ⊢
    have hP : va_P D vwCl [(aJ, .inl (cJ, 5, .inr (.inr (.inr (.inr fJ))))), (j0, .inr (5, [.int 0, .int 0, .int 0, .int 0, .int 0, .ref c1, .ref c2, .int 0, .int 0, .int 0, .int 0, .ref c3, .int 0, .ref c4, .ref c5, .int 0])), (rN, .inr (6, [.int 7, .int 100, .int 800, .int 10])), (rX, .inr (6, [.int 7, .int 100, .int 800, .int 10])), (y0, .inr (8, [.int 0, .ref lH, .ref lB, .ref lJ, .ref aR, .ref aL, .int 0, .int 0, .int 0, .ref lC, .ref aM, .ref aP, .int 0, .int 0, .int 0, .int (-1), .int (-1), .int 0, .int 0, .long 0])), (lH, .inr (2, [.int 0, .ref eT, .int 0])), (lB, .inr (2, [.int 0, .ref eT, .int 0])), (lJ, .inr (2, [.int 0, .ref eT, .int 0])), (lC, .inr (2, [.int 0, .ref eT, .int 0])), (aR, .inl (cI, 4, .inl fR)), (aL, .inl (cL, 4, .inl fL)), (aM, .inl (cM, 5, .inr (.inr (.inr (.inr gM))))), (m0, .inl (cR, 16, .inl f0)), (m1, .inl (cR, 16, .inl f1)), (m2, .inl (cR, 16, .inl f2)), (m3, .inl (cR, 16, .inl f3)), (m4, .inl (cR, 16, .inl f4)), (ho, .inl (cO, 1, .inr (.inl fo)))] H := hP
    have hD : va_D (fun q : Nat => s.heap.size ≤ q) [(aJ, .inl (cJ, 5, .inr (.inr (.inr (.inr fJ))))), (j0, .inr (5, [.int 0, .int 0, .int 0, .int 0, .int 0, .ref c1, .ref c2, .int 0, .int 0, .int 0, .int 0, .ref c3, .int 0, .ref c4, .ref c5, .int 0])), (rN, .inr (6, [.int 7, .int 100, .int 800, .int 10])), (rX, .inr (6, [.int 7, .int 100, .int 800, .int 10])), (y0, .inr (8, [.int 0, .ref lH, .ref lB, .ref lJ, .ref aR, .ref aL, .int 0, .int 0, .int 0, .ref lC, .ref aM, .ref aP, .int 0, .int 0, .int 0, .int (-1), .int (-1), .int 0, .int 0, .long 0])), (lH, .inr (2, [.int 0, .ref eT, .int 0])), (lB, .inr (2, [.int 0, .ref eT, .int 0])), (lJ, .inr (2, [.int 0, .ref eT, .int 0])), (lC, .inr (2, [.int 0, .ref eT, .int 0])), (aR, .inl (cI, 4, .inl fR)), (aL, .inl (cL, 4, .inl fL)), (aM, .inl (cM, 5, .inr (.inr (.inr (.inr gM))))), (m0, .inl (cR, 16, .inl f0)), (m1, .inl (cR, 16, .inl f1)), (m2, .inl (cR, 16, .inl f2)), (m3, .inl (cR, 16, .inl f3)), (m4, .inl (cR, 16, .inl f4)), (ho, .inl (cO, 1, .inr (.inl fo)))] := hD
    refine W.widen (k := 82) (n := 909) (Nat.le_of_ble_eq_true rfl) (Nat.le_of_ble_eq_true rfl) ?_
    refine lv_istore (lv' := [(5, .int 1), (0, .ref b), (1, .ref x0), (2, .ref y0), (3, .ref ho), (4, .int 0)]) hx hb dL_law_945 hl (by decide) rfl (fun ls hl => ?_)
    refine lv_aload_n hx hb dL_law_947 rfl (lv_at hl 3 rfl) ?_
    refine lv_aload_n hx hb dL_law_948 rfl (lv_at hl 1 rfl) ?_
    refine lv_iload hx hb dL_law_949 (lv_at hl 5 rfl) ?_
    refine lv_iconst (v := 1) hx hb dL_law_951 (by decide) ?_
    refine lv_iadd hx hb dL_law_952 ?_
    refine lv_topi (fun z_7 ez_7 => ?_)
    have ez_7 : z_7 = 1 := ez_7.trans (by decide +kernel)
    rw [ez_7]
    refine va_sld hx hb hX hbl hbA hS (show vp_in 1 7 from by unfold vp_in; decide +kernel) dL_law_953 ?_
    refine lv_topi (fun z_8 ez_8 => ?_)
    have ez_8 : z_8 = (xs 1) := ez_8
    rw [ez_8]
    refine lv_aload_n hx hb dL_law_954 rfl (lv_at hl 1 rfl) ?_
    refine lv_iload hx hb dL_law_955 (lv_at hl 5 rfl) ?_
    refine lv_iconst (v := 2) hx hb dL_law_957 (by decide) ?_
    refine lv_iadd hx hb dL_law_958 ?_
    refine lv_topi (fun z_9 ez_9 => ?_)
    have ez_9 : z_9 = 2 := ez_9.trans (by decide +kernel)
    rw [ez_9]
    refine va_sld hx hb hX hbl hbA hS (show vp_in 2 7 from by unfold vp_in; decide +kernel) dL_law_959 ?_
    refine lv_topi (fun z_10 ez_10 => ?_)
    have ez_10 : z_10 = (xs 2) := ez_10
    rw [ez_10]
    refine lv_aload_n hx hb dL_law_960 rfl (lv_at hl 1 rfl) ?_
    refine lv_iload hx hb dL_law_961 (lv_at hl 5 rfl) ?_
    refine lv_iconst (v := 3) hx hb dL_law_963 (by decide) ?_
    refine lv_iadd hx hb dL_law_964 ?_
    refine lv_topi (fun z_11 ez_11 => ?_)
    have ez_11 : z_11 = 3 := ez_11.trans (by decide +kernel)
    rw [ez_11]
    refine va_sld hx hb hX hbl hbA hS (show vp_in 3 7 from by unfold vp_in; decide +kernel) dL_law_965 ?_
    refine lv_topi (fun z_12 ez_12 => ?_)
    have ez_12 : z_12 = (xs 3) := ez_12
    rw [ez_12]
    have hPc := hP.sub (ws' := [(y0, .inr (8, [.int 0, .ref lH, .ref lB, .ref lJ, .ref aR, .ref aL, .int 0, .int 0, .int 0, .ref lC, .ref aM, .ref aP, .int 0, .int 0, .int 0, .int (-1), .int (-1), .int 0, .int 0, .long 0])), (lJ, .inr (2, [.int 0, .ref eT, .int 0]))]) [4, 7] rfl
    have hKc := hK.sub (tys' := []) [] rfl
    have hDc := hD.sub (ws' := [(y0, .inr (8, [.int 0, .ref lH, .ref lB, .ref lJ, .ref aR, .ref aL, .int 0, .int 0, .int 0, .ref lC, .ref aM, .ref aP, .int 0, .int 0, .int 0, .int (-1), .int (-1), .int 0, .int 0, .long 0])), (lJ, .inr (2, [.int 0, .ref eT, .int 0]))]) [4, 7] (by decide) rfl
    have hFc := va_free (wc := [(y0, .inr (8, [.int 0, .ref lH, .ref lB, .ref lJ, .ref aR, .ref aL, .int 0, .int 0, .int 0, .ref lC, .ref aM, .ref aP, .int 0, .int 0, .int 0, .int (-1), .int (-1), .int 0, .int 0, .long 0])), (lJ, .inr (2, [.int 0, .ref eT, .int 0]))]) hD hS hA [4, 7] rfl
    refine va_calli (va_runV (As := [.int (xs 1), .int (xs 2), .int (xs 3)]) (rest := []) ⟨hx, hb, hml, hown, hts⟩ (r_points l D eT y0 lH lB lJ aR aL lC aM aP 0 (xs 1) (xs 2) (xs 3) H.size ) (cwV 3 hts gL_law_X5_points rfl rfl rfl (by decide +kernel) ⟨Nat.le_of_ble_eq_true rfl, Nat.le_of_ble_eq_true rfl⟩) (pc_v (ci := 8) (q0 := 0) rfl rfl hPc hDc hKc hE hS hFc) rfl rfl hl.1 rfl (lv_room (Nat.le_of_ble_eq_true rfl)) dL_law_966 ⟨Nat.le_of_ble_eq_true rfl, Nat.le_of_ble_eq_true rfl⟩) hS (fun q _ h => hFc q h) hFc (fun r u t H1 locs ht hvm hw hB hz1 hk1 hS => ?_)
    have hw : r = 0 := hw
    rw [hw]
    obtain ⟨hP1, hK1, hD1⟩ := hB
    rw [ht] at hP1
    have hK1 := va_K.moved hvm.symm hK1
    obtain ⟨hP, hD⟩ := va_join (wr := [(aJ, .inl (cJ, 5, .inr (.inr (.inr (.inr fJ))))), (j0, .inr (5, [.int 0, .int 0, .int 0, .int 0, .int 0, .ref c1, .ref c2, .int 0, .int 0, .int 0, .int 0, .ref c3, .int 0, .ref c4, .ref c5, .int 0])), (rN, .inr (6, [.int 7, .int 100, .int 800, .int 10])), (rX, .inr (6, [.int 7, .int 100, .int 800, .int 10])), (lH, .inr (2, [.int 0, .ref eT, .int 0])), (lB, .inr (2, [.int 0, .ref eT, .int 0])), (lC, .inr (2, [.int 0, .ref eT, .int 0])), (aR, .inl (cI, 4, .inl fR)), (aL, .inl (cL, 4, .inl fL)), (aM, .inl (cM, 5, .inr (.inr (.inr (.inr gM))))), (m0, .inl (cR, 16, .inl f0)), (m1, .inl (cR, 16, .inl f1)), (m2, .inl (cR, 16, .inl f2)), (m3, .inl (cR, 16, .inl f3)), (m4, .inl (cR, 16, .inl f4)), (ho, .inl (cO, 1, .inr (.inl fo)))]) (w1 := [(y0, .inr (8, [.int 1, .ref lH, .ref lB, .ref lJ, .ref aR, .ref aL, .int 0, .int 0, .int 0, .ref lC, .ref aM, .ref aP, .int 0, .int 0, .int 0, .int (-1), .int (-1), .int 0, .int 0, .long 0]))]) hP hD [4, 7] [0, 1, 2, 3, 5, 6, 8, 9, 10, 11, 12, 13, 14, 15, 16, 17] rfl rfl (by decide) (by decide) hk1 hFc hP1 hD1
    generalize H1 = H at hP hS ⊢
    have hP : va_P D vwCl [(aJ, .inl (cJ, 5, .inr (.inr (.inr (.inr fJ))))), (j0, .inr (5, [.int 0, .int 0, .int 0, .int 0, .int 0, .ref c1, .ref c2, .int 0, .int 0, .int 0, .int 0, .ref c3, .int 0, .ref c4, .ref c5, .int 0])), (rN, .inr (6, [.int 7, .int 100, .int 800, .int 10])), (rX, .inr (6, [.int 7, .int 100, .int 800, .int 10])), (lH, .inr (2, [.int 0, .ref eT, .int 0])), (lB, .inr (2, [.int 0, .ref eT, .int 0])), (lC, .inr (2, [.int 0, .ref eT, .int 0])), (aR, .inl (cI, 4, .inl fR)), (aL, .inl (cL, 4, .inl fL)), (aM, .inl (cM, 5, .inr (.inr (.inr (.inr gM))))), (m0, .inl (cR, 16, .inl f0)), (m1, .inl (cR, 16, .inl f1)), (m2, .inl (cR, 16, .inl f2)), (m3, .inl (cR, 16, .inl f3)), (m4, .inl (cR, 16, .inl f4)), (ho, .inl (cO, 1, .inr (.inl fo))), (y0, .inr (8, [.int 1, .ref lH, .ref lB, .ref lJ, .ref aR, .ref aL, .int 0, .int 0, .int 0, .ref lC, .ref aM, .ref aP, .int 0, .int 0, .int 0, .int (-1), .int (-1), .int 0, .int 0, .long 0]))] H := hP
    have hD : va_D (fun q : Nat => s.heap.size ≤ q) [(aJ, .inl (cJ, 5, .inr (.inr (.inr (.inr fJ))))), (j0, .inr (5, [.int 0, .int 0, .int 0, .int 0, .int 0, .ref c1, .ref c2, .int 0, .int 0, .int 0, .int 0, .ref c3, .int 0, .ref c4, .ref c5, .int 0])), (rN, .inr (6, [.int 7, .int 100, .int 800, .int 10])), (rX, .inr (6, [.int 7, .int 100, .int 800, .int 10])), (lH, .inr (2, [.int 0, .ref eT, .int 0])), (lB, .inr (2, [.int 0, .ref eT, .int 0])), (lC, .inr (2, [.int 0, .ref eT, .int 0])), (aR, .inl (cI, 4, .inl fR)), (aL, .inl (cL, 4, .inl fL)), (aM, .inl (cM, 5, .inr (.inr (.inr (.inr gM))))), (m0, .inl (cR, 16, .inl f0)), (m1, .inl (cR, 16, .inl f1)), (m2, .inl (cR, 16, .inl f2)), (m3, .inl (cR, 16, .inl f3)), (m4, .inl (cR, 16, .inl f4)), (ho, .inl (cO, 1, .inr (.inl fo))), (y0, .inr (8, [.int 1, .ref lH, .ref lB, .ref lJ, .ref aR, .ref aL, .int 0, .int 0, .int 0, .ref lC, .ref aM, .ref aP, .int 0, .int 0, .int 0, .int (-1), .int (-1), .int 0, .int 0, .long 0]))] := hD
    refine lv_istore (lv' := [(6, .int 0), (5, .int 1), (0, .ref b), (1, .ref x0), (2, .ref y0), (3, .ref ho), (4, .int 0)]) hx hb dL_law_969 hl (by decide) rfl (fun ls hl => ?_)
    refine lv_aload_n hx hb dL_law_971 rfl (lv_at hl 4 rfl) ?_
    have hPc := hP.sub (ws' := [(y0, .inr (8, [.int 1, .ref lH, .ref lB, .ref lJ, .ref aR, .ref aL, .int 0, .int 0, .int 0, .ref lC, .ref aM, .ref aP, .int 0, .int 0, .int 0, .int (-1), .int (-1), .int 0, .int 0, .long 0]))]) [16] rfl
    have hKc := hK.sub (tys' := []) [] rfl
    refine va_calli (va_runV (As := []) (rest := []) ⟨hx, hb, hml, hown, hts⟩ (r_thrown l D eT y0 lH lB lJ aR aL lC aM aP 0 1 0 H.size ) (cwV 0 hts gL_law_X5_thrown rfl rfl rfl (by decide +kernel) ⟨Nat.le_of_ble_eq_true rfl, Nat.le_of_ble_eq_true rfl⟩) (pr_v (ci := 8) (q0 := 0) rfl rfl hPc hKc hE hS hA) rfl rfl hl.1 rfl (lv_room (Nat.le_of_ble_eq_true rfl)) dL_law_972 ⟨Nat.le_of_ble_eq_true rfl, Nat.le_of_ble_eq_true rfl⟩) hS (fun q h1 h2 => ro_A h1 h2) (fun q h => ro_F hS hA q h) (fun r u t H1 locs ht hvm hw hB hz1 hk1 hS => ?_)
    have hw : r = 1 := hw
    rw [hw]
    have hP := ro_P hP hk1
    generalize H1 = H at hP hS ⊢
    refine lv_iload hx hb dL_law_975 (lv_at hl 1 rfl) ?_
    refine lv_icmp_eq (tgt := 982) hx hb dL_law_977 (by decide) (fun _ => ?_) (fun h => absurd (by decide) h)
    refine lv_iload hx hb dL_law_982 (lv_at hl 1 rfl) ?_
    refine lv_if_ne (tgt := 999) hx hb dL_law_984 (by decide) (fun _ => ?_) (fun h => absurd h (by decide))
    refine lv_goto (tgt := 1835) hx hb dL_law_999 (by decide) ?_
    refine W.widen (k := 2000) (n := 20000) (Nat.le_of_ble_eq_true rfl) (Nat.le_of_ble_eq_true rfl) ?_
    exact kx _ _ _ hS (lv_sub hl [2, 3, 4, 5, 6] rfl)

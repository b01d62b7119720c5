set_option maxHeartbeats 4000000 in
set_option maxRecDepth 100000 in
theorem c_digest (l : Launch) (D : va_G) (a : Nat → Nat) (cH cB cJ cI : ClassId) (ha : pj a) (g : m_St) (vt : Nat → Int32) (sz : Nat) (hWf : Wf g) (hsb : ∀ b, m_has (g 0 0 13) b = true → b < g 0 0 4) : Met l yX4_digest (wc yX4_digest cX4_digest 5 (some .long)) ({ frames := 6, cells := 0, slots := 0, locals := 138 }) (va_Pc [.ref (a 0)] (pS D a cH cB cJ cI sz g vt)) (va_Ql (fun (r : Int64) (_ : Unit) => r = (m_digest g)) (fun _ t => ∃ vt1 : Nat → Int32, va_P D vwCl (pw a cH cB cJ cI g vt1) t.heap) (pA a sz)) 0 0 (pA a sz) := by
  refine Met.ofW (cc := cX4_digest) (maxL := 5) (ret := (some .long)) (by decide +kernel) rfl ?_
  intro p e s m args below meth c s₁ B9 hml hv
  obtain ⟨rfl, hsz, hP, hK, hE⟩ := hv
  have hx := B9.exec
  have hb := B9.bytes
  have hr := B9.returns
  have hts := atoms_spec (ws := (wc yX4_digest cX4_digest 5 (some .long))) B9.pre
  have hw : ∀ w ∈ wsL_law0, w.before [.ref (a 0)].toArray s = true := fun w h => hts w (List.mem_cons_of_mem _ h)
  have hown : s.vm.findClass RX4 = some m.cls := findClass_of_methodNamed B9.named
  have hlocks := B9.notSynchronized
  subst hsz
  have hS : va_S (pA a s.heap.size) s.heap s.heap [] := va_S.rf
  have hA : ∀ q : Nat, s.heap.size ≤ q → pA a s.heap.size q := fun _ h => pA_new h
  have hB : ∀ k, k < 58 → pA a s.heap.size (a k) := fun _ h => pA_in h
  have hl := lv_entry ([.ref (a 0)]) (n := 5) (Nat.le_of_ble_eq_true rfl)
  rw [lg_entry_eq]
  generalize (lg_sl ([.ref (a 0)]) ++ List.replicate (5 - (lg_sl ([.ref (a 0)])).length) Slot.unset).toArray = ls at hl ⊢
  have hl : lv_has ls 5 [(0, .ref (a 0))] := hl
  suffices h9 : ∀ (H : Heap) (locs : List Loc), va_P D vwCl (pw a cH cB cJ cI g vt) H → va_S (pA a s.heap.size) s.heap H locs → W p l e (headSpec (wc yX4_digest cX4_digest 5 (some .long)) ({ frames := 6, cells := 0, slots := 0, locals := 138 })).room s m [.ref (a 0)].toArray below meth c H locs 0 0 (MQ below (va_Ql (fun (r : Int64) (_ : Unit) => r = (m_digest g)) (fun _ t => ∃ vt1 : Nat → Int32, va_P D vwCl (pw a cH cB cJ cI g vt1) t.heap) (pA a s.heap.size)) [.ref (a 0)].toArray s 0 0 (pA a s.heap.size)) (F0 m 0 ls []) from h9 s.heap [] hP hS
  clear hP hS
  intro H locs hP hS
  have m4 := Wf.m4 hWf
  have m5 := Wf.m5 hWf
  have m3 := Wf.m3 hWf
  refine lv_ldc2 (v := 9117) hx hb hown (hw _ kw_542) dX4_digest_0 ?_
  refine lv_lstore_n (lv' := [(1, .long 9117), (0, .ref (a 0))]) hx hb dX4_digest_3 rfl hl (by decide) rfl (fun ls hl => ?_)
  refine lv_iconst (v := iI 0) hx hb dX4_digest_4 (by decide) ?_
  refine lv_istore_n (lv' := [(3, .int (iI 0)), (1, .long 9117), (0, .ref (a 0))]) hx hb dX4_digest_5 rfl hl (by decide) rfl (fun ls hl => ?_)
  have loop6 : ∀ (d n : Nat) (x6 : Int64) (vq : Nat → Int32) (H : Heap) (locs : List Loc) (ls : Array Slot), n + d = 15 → x6 = m_fo (fun w d => dg d (m_many g w)) 9117 n → va_P D vwCl (pw a cH cB cJ cI g vq) H → va_S (pA a s.heap.size) s.heap H locs → lv_has ls 5 [(3, .int (iI ((n : Nat) : Int))), (1, .long x6), (0, .ref (a 0))] → W p l e (headSpec (wc yX4_digest cX4_digest 5 (some .long)) ({ frames := 6, cells := 0, slots := 0, locals := 138 })).room s m [.ref (a 0)].toArray below meth c H locs 0 0 (MQ below (va_Ql (fun (r : Int64) (_ : Unit) => r = (m_digest g)) (fun _ t => ∃ vt1 : Nat → Int32, va_P D vwCl (pw a cH cB cJ cI g vt1) t.heap) (pA a s.heap.size)) [.ref (a 0)].toArray s 0 0 (pA a s.heap.size)) (F0 m 6 ls []) := by
    intro d
    induction d with
    | zero =>
      intro n x6 vq H locs ls hn hx6 hP hS hl
      obtain rfl : n = 15 := by omega
      refine lv_iload_n hx hb dX4_digest_6 rfl (lv_at hl 0 rfl) ?_
      refine lv_bipush (v := iI 14) hx hb dX4_digest_7 (by decide) ?_
      refine n_icmp_gt hx hb (by unfold RI; omega) (by unfold RI; omega) (tgt := 31) dX4_digest_9 (by decide) (fun h1 => ?_) (fun h1 => absurd h1 (by intro h1; omega))
      refine lv_iconst (v := iI 0) hx hb dX4_digest_31 (by decide) ?_
      refine lv_istore_n (lv' := [(3, .int (iI 0)), (1, .long x6), (0, .ref (a 0))]) hx hb dX4_digest_32 rfl hl (by decide) rfl (fun ls hl => ?_)
      have loop33 : ∀ (d1 n1 : Nat) (x33 : Int64) (vq1 : Nat → Int32) (H : Heap) (locs : List Loc) (ls : Array Slot), n1 + d1 = (g 0 0 3).toNat → x33 = m_fo (m_digH g) (m_dig1 g) n1 → va_P D vwCl (pw a cH cB cJ cI g vq1) H → va_S (pA a s.heap.size) s.heap H locs → lv_has ls 5 [(3, .int (iI ((n1 : Nat) : Int))), (1, .long x33), (0, .ref (a 0))] → W p l e (headSpec (wc yX4_digest cX4_digest 5 (some .long)) ({ frames := 6, cells := 0, slots := 0, locals := 138 })).room s m [.ref (a 0)].toArray below meth c H locs 0 0 (MQ below (va_Ql (fun (r : Int64) (_ : Unit) => r = (m_digest g)) (fun _ t => ∃ vt1 : Nat → Int32, va_P D vwCl (pw a cH cB cJ cI g vt1) t.heap) (pA a s.heap.size)) [.ref (a 0)].toArray s 0 0 (pA a s.heap.size)) (F0 m 33 ls []) := by
        intro d1
        induction d1 with
        | zero =>
          intro n1 x33 vq1 H locs ls hn1 hx33 hP hS hl
          obtain rfl : n1 = (g 0 0 3).toNat := by omega
          refine lv_iload_n hx hb dX4_digest_33 rfl (lv_at hl 0 rfl) ?_
          refine lv_aload_n hx hb dX4_digest_34 rfl (lv_at hl 2 rfl) ?_
          have s2 := Wf.m3 hWf
          refine va_get (D := D) (ci := 4) (v := .int (iI (g 0 0 3))) (C := RX4) (T := TX4) (N := 19) hx hb hw hin_wsX40 hown hK hP 0 pw_0 rfl 3 (by decide) (hw _ kw_74) (fun _ h9 => h9) rfl dX4_digest_35 ?_
          refine n_icmp_ge hx hb (by unfold RI; omega) (by unfold RI; omega) (tgt := 77) dX4_digest_38 (by decide) (fun h3 => ?_) (fun h3 => absurd h3 (by intro h3; omega))
          refine lv_iconst (v := iI 0) hx hb dX4_digest_77 (by decide) ?_
          refine lv_istore_n (lv' := [(3, .int (iI 0)), (1, .long x33), (0, .ref (a 0))]) hx hb dX4_digest_78 rfl hl (by decide) rfl (fun ls hl => ?_)
          have loop79 : ∀ (d2 n2 : Nat) (x79 : Int64) (vq2 : Nat → Int32) (H : Heap) (locs : List Loc) (ls : Array Slot), n2 + d2 = (g 0 0 4).toNat → x79 = m_fo (m_digB g) (m_dig2 g) n2 → va_P D vwCl (pw a cH cB cJ cI g vq2) H → va_S (pA a s.heap.size) s.heap H locs → lv_has ls 5 [(3, .int (iI ((n2 : Nat) : Int))), (1, .long x79), (0, .ref (a 0))] → W p l e (headSpec (wc yX4_digest cX4_digest 5 (some .long)) ({ frames := 6, cells := 0, slots := 0, locals := 138 })).room s m [.ref (a 0)].toArray below meth c H locs 0 0 (MQ below (va_Ql (fun (r : Int64) (_ : Unit) => r = (m_digest g)) (fun _ t => ∃ vt1 : Nat → Int32, va_P D vwCl (pw a cH cB cJ cI g vt1) t.heap) (pA a s.heap.size)) [.ref (a 0)].toArray s 0 0 (pA a s.heap.size)) (F0 m 79 ls []) := by
            intro d2
            induction d2 with
            | zero =>
              intro n2 x79 vq2 H locs ls hn2 hx79 hP hS hl
              obtain rfl : n2 = (g 0 0 4).toNat := by omega
              refine lv_iload_n hx hb dX4_digest_79 rfl (lv_at hl 0 rfl) ?_
              refine lv_aload_n hx hb dX4_digest_80 rfl (lv_at hl 2 rfl) ?_
              have s4 := Wf.m4 hWf
              refine va_get (D := D) (ci := 4) (v := .int (iI (g 0 0 4))) (C := RX4) (T := TX4) (N := 19) hx hb hw hin_wsX40 hown hK hP 0 pw_0 rfl 4 (by decide) (hw _ kw_98) (fun _ h9 => h9) rfl dX4_digest_81 ?_
              refine n_icmp_ge hx hb (by unfold RI; omega) (by unfold RI; omega) (tgt := 137) dX4_digest_84 (by decide) (fun h5 => ?_) (fun h5 => absurd h5 (by intro h5; omega))
              refine lv_iconst (v := iI 0) hx hb dX4_digest_137 (by decide) ?_
              refine lv_istore_n (lv' := [(3, .int (iI 0)), (1, .long x79), (0, .ref (a 0))]) hx hb dX4_digest_138 rfl hl (by decide) rfl (fun ls hl => ?_)
              have loop139 : ∀ (d3 n3 : Nat) (x139 : Int64) (vq3 : Nat → Int32) (H : Heap) (locs : List Loc) (ls : Array Slot), n3 + d3 = (g 0 0 5).toNat → x139 = m_fo (m_digJ g) (m_dig3 g) n3 → va_P D vwCl (pw a cH cB cJ cI g vq3) H → va_S (pA a s.heap.size) s.heap H locs → lv_has ls 5 [(3, .int (iI ((n3 : Nat) : Int))), (1, .long x139), (0, .ref (a 0))] → W p l e (headSpec (wc yX4_digest cX4_digest 5 (some .long)) ({ frames := 6, cells := 0, slots := 0, locals := 138 })).room s m [.ref (a 0)].toArray below meth c H locs 0 0 (MQ below (va_Ql (fun (r : Int64) (_ : Unit) => r = (m_digest g)) (fun _ t => ∃ vt1 : Nat → Int32, va_P D vwCl (pw a cH cB cJ cI g vt1) t.heap) (pA a s.heap.size)) [.ref (a 0)].toArray s 0 0 (pA a s.heap.size)) (F0 m 139 ls []) := by
                intro d3
                induction d3 with
                | zero =>
                  intro n3 x139 vq3 H locs ls hn3 hx139 hP hS hl
                  obtain rfl : n3 = (g 0 0 5).toNat := by omega
                  refine lv_iload_n hx hb dX4_digest_139 rfl (lv_at hl 0 rfl) ?_
                  refine lv_aload_n hx hb dX4_digest_140 rfl (lv_at hl 2 rfl) ?_
                  have s6 := Wf.m5 hWf
                  refine va_get (D := D) (ci := 4) (v := .int (iI (g 0 0 5))) (C := RX4) (T := TX4) (N := 19) hx hb hw hin_wsX40 hown hK hP 0 pw_0 rfl 5 (by decide) (hw _ kw_81) (fun _ h9 => h9) rfl dX4_digest_141 ?_
                  refine n_icmp_ge hx hb (by unfold RI; omega) (by unfold RI; omega) (tgt := 217) dX4_digest_144 (by decide) (fun h7 => ?_) (fun h7 => absurd h7 (by intro h7; omega))
                  refine lv_lload_n hx hb dX4_digest_217 rfl (lv_at hl 1 rfl) ?_
                  refine lv_ldc2 (v := 31) hx hb hown (hw _ kw_543) dX4_digest_218 ?_
                  refine lv_lmul hx hb dX4_digest_221 ?_
                  refine lv_aload_n hx hb dX4_digest_222 rfl (lv_at hl 2 rfl) ?_
                  refine lv_iconst (v := iI 0) hx hb dX4_digest_223 (by decide) ?_
                  refine va_calli (va_runV (As := [.int (iI 0)]) (rest := [.long (x139 * 31)]) ⟨hx, hb, hml, hown, hw⟩ (c_wins l D a cH cB cJ cI ha g vq3 H.size 0 hWf (by omega) (hsb)) (cwV 1 hw (gA_V kw_550 kw_426 kw_427 kw_2 kw_428) rfl rfl rfl (by decide +kernel) ⟨Nat.le_of_ble_eq_true rfl, Nat.le_of_ble_eq_true rfl⟩) (pS_v (ci := 4) (q0 := 0) rfl pw_0 hP hK hE) rfl rfl hl.1 rfl (lv_room (Nat.le_of_ble_eq_true rfl)) dX4_digest_224 ⟨Nat.le_of_ble_eq_true rfl, Nat.le_of_ble_eq_true rfl⟩) hS (fun q _ h => rw_A hS hA hB q h) (fun q h => rw_A hS hA hB q h) (fun r u t H1 locs ht hvm hw9 hB9 hz1 hk1 hS => ?_)
                  have hw9 : r = (iI (m_winner g 0 0)) := hw9
                  subst hw9
                  obtain ⟨v8, hP1⟩ := hB9
                  rw [ht] at hP1
                  have hP : va_P D vwCl (pw a cH cB cJ cI g v8) H1 := hP1
                  generalize H1 = H at hP hS ⊢
                  have s9 := win_b hWf 0 0
                  refine lv_i2l hx hb dX4_digest_227 rfl ?_
                  refine lv_ladd hx hb dX4_digest_228 ?_
                  refine lv_lstore_n (lv' := [(1, .long ((x139 * 31) + (iI (m_winner g 0 0)).toInt64)), (3, .int (iI ((((g 0 0 5).toNat) : Nat) : Int))), (0, .ref (a 0))]) hx hb dX4_digest_229 rfl hl (by decide) rfl (fun ls hl => ?_)
                  refine lv_lload_n hx hb dX4_digest_230 rfl (lv_at hl 0 rfl) ?_
                  refine lv_ldc2 (v := 31) hx hb hown (hw _ kw_543) dX4_digest_231 ?_
                  refine lv_lmul hx hb dX4_digest_234 ?_
                  refine lv_aload_n hx hb dX4_digest_235 rfl (lv_at hl 2 rfl) ?_
                  refine lv_iconst (v := iI 1) hx hb dX4_digest_236 (by decide) ?_
                  refine va_calli (va_runV (As := [.int (iI 1)]) (rest := [.long (((x139 * 31) + (iI (m_winner g 0 0)).toInt64) * 31)]) ⟨hx, hb, hml, hown, hw⟩ (c_wins l D a cH cB cJ cI ha g v8 H.size 1 hWf (by omega) (hsb)) (cwV 1 hw (gA_V kw_550 kw_426 kw_427 kw_2 kw_428) rfl rfl rfl (by decide +kernel) ⟨Nat.le_of_ble_eq_true rfl, Nat.le_of_ble_eq_true rfl⟩) (pS_v (ci := 4) (q0 := 0) rfl pw_0 hP hK hE) rfl rfl hl.1 rfl (lv_room (Nat.le_of_ble_eq_true rfl)) dX4_digest_237 ⟨Nat.le_of_ble_eq_true rfl, Nat.le_of_ble_eq_true rfl⟩) hS (fun q _ h => rw_A hS hA hB q h) (fun q h => rw_A hS hA hB q h) (fun r u t H1 locs ht hvm hw9 hB9 hz1 hk1 hS => ?_)
                  have hw9 : r = (iI (m_winner g 0 1)) := hw9
                  subst hw9
                  obtain ⟨v10, hP1⟩ := hB9
                  rw [ht] at hP1
                  have hP : va_P D vwCl (pw a cH cB cJ cI g v10) H1 := hP1
                  generalize H1 = H at hP hS ⊢
                  have s11 := win_b hWf 0 1
                  refine lv_i2l hx hb dX4_digest_240 rfl ?_
                  refine lv_ladd hx hb dX4_digest_241 ?_
                  refine lv_lstore_n (lv' := [(1, .long ((((x139 * 31) + (iI (m_winner g 0 0)).toInt64) * 31) + (iI (m_winner g 0 1)).toInt64)), (3, .int (iI ((((g 0 0 5).toNat) : Nat) : Int))), (0, .ref (a 0))]) hx hb dX4_digest_242 rfl hl (by decide) rfl (fun ls hl => ?_)
                  refine lv_lload_n hx hb dX4_digest_243 rfl (lv_at hl 0 rfl) ?_
                  refine lv_ldc2 (v := 31) hx hb hown (hw _ kw_543) dX4_digest_244 ?_
                  refine lv_lmul hx hb dX4_digest_247 ?_
                  refine lv_aload_n hx hb dX4_digest_248 rfl (lv_at hl 2 rfl) ?_
                  refine va_calli (va_runV (As := []) (rest := [.long (((((x139 * 31) + (iI (m_winner g 0 0)).toInt64) * 31) + (iI (m_winner g 0 1)).toInt64) * 31)]) ⟨hx, hb, hml, hown, hw⟩ (c_beatsAll l D a cH cB cJ cI ha g v10 H.size  hWf) (cwV 0 hw (gA_V kw_551 kw_527 kw_528 kw_2 kw_529) rfl rfl rfl (by decide +kernel) ⟨Nat.le_of_ble_eq_true rfl, Nat.le_of_ble_eq_true rfl⟩) (pS_v (ci := 4) (q0 := 0) rfl pw_0 hP hK hE) rfl rfl hl.1 rfl (lv_room (Nat.le_of_ble_eq_true rfl)) dX4_digest_249 ⟨Nat.le_of_ble_eq_true rfl, Nat.le_of_ble_eq_true rfl⟩) hS (fun q h1 h2 => ro_A h1 h2) (fun q h => ro_F hS hA q h) (fun r u t H1 locs ht hvm hw9 hB9 hz1 hk1 hS => ?_)
                  have hw9 : r = (iI (m_beatsAll g)) := hw9
                  subst hw9
                  have hP := ro_P hP hk1
                  generalize H1 = H at hP hS ⊢
                  have s12 := beats_b hWf
                  refine lv_i2l hx hb dX4_digest_252 rfl ?_
                  refine lv_ladd hx hb dX4_digest_253 ?_
                  refine lv_lstore_n (lv' := [(1, .long ((((((x139 * 31) + (iI (m_winner g 0 0)).toInt64) * 31) + (iI (m_winner g 0 1)).toInt64) * 31) + (iI (m_beatsAll g)).toInt64)), (3, .int (iI ((((g 0 0 5).toNat) : Nat) : Int))), (0, .ref (a 0))]) hx hb dX4_digest_254 rfl hl (by decide) rfl (fun ls hl => ?_)
                  refine lv_lload_n hx hb dX4_digest_255 rfl (lv_at hl 0 rfl) ?_
                  refine lv_ldc2 (v := 31) hx hb hown (hw _ kw_543) dX4_digest_256 ?_
                  refine lv_lmul hx hb dX4_digest_259 ?_
                  refine lv_aload_n hx hb dX4_digest_260 rfl (lv_at hl 2 rfl) ?_
                  refine va_calli (va_runV (As := []) (rest := [.long (((((((x139 * 31) + (iI (m_winner g 0 0)).toInt64) * 31) + (iI (m_winner g 0 1)).toInt64) * 31) + (iI (m_beatsAll g)).toInt64) * 31)]) ⟨hx, hb, hml, hown, hw⟩ (c_readIn l D a cH cB cJ cI ha g v10 H.size  hWf) (cwV 0 hw (gA_V kw_552 kw_303 kw_304 kw_2 kw_305) rfl rfl rfl (by decide +kernel) ⟨Nat.le_of_ble_eq_true rfl, Nat.le_of_ble_eq_true rfl⟩) (pS_v (ci := 4) (q0 := 0) rfl pw_0 hP hK hE) rfl rfl hl.1 rfl (lv_room (Nat.le_of_ble_eq_true rfl)) dX4_digest_261 ⟨Nat.le_of_ble_eq_true rfl, Nat.le_of_ble_eq_true rfl⟩) hS (fun q h1 h2 => ro_A h1 h2) (fun q h => ro_F hS hA q h) (fun r u t H1 locs ht hvm hw9 hB9 hz1 hk1 hS => ?_)
                  have hw9 : r = (iI (m_readIn g)) := hw9
                  subst hw9
                  have hP := ro_P hP hk1
                  generalize H1 = H at hP hS ⊢
                  have s13 := readIn_b g
                  refine lv_i2l hx hb dX4_digest_264 rfl ?_
                  refine lv_ladd hx hb dX4_digest_265 ?_
                  refine lv_lstore_n (lv' := [(1, .long ((((((((x139 * 31) + (iI (m_winner g 0 0)).toInt64) * 31) + (iI (m_winner g 0 1)).toInt64) * 31) + (iI (m_beatsAll g)).toInt64) * 31) + (iI (m_readIn g)).toInt64)), (3, .int (iI ((((g 0 0 5).toNat) : Nat) : Int))), (0, .ref (a 0))]) hx hb dX4_digest_266 rfl hl (by decide) rfl (fun ls hl => ?_)
                  refine lv_lload_n hx hb dX4_digest_267 rfl (lv_at hl 0 rfl) ?_
                  refine lv_ldc2 (v := 31) hx hb hown (hw _ kw_543) dX4_digest_268 ?_
                  refine lv_lmul hx hb dX4_digest_271 ?_
                  refine lv_aload_n hx hb dX4_digest_272 rfl (lv_at hl 2 rfl) ?_
                  refine lv_bipush (v := iI 7) hx hb dX4_digest_273 (by decide) ?_
                  refine va_calli (va_runV (As := [.int (iI 7)]) (rest := [.long (((((((((x139 * 31) + (iI (m_winner g 0 0)).toInt64) * 31) + (iI (m_winner g 0 1)).toInt64) * 31) + (iI (m_beatsAll g)).toInt64) * 31) + (iI (m_readIn g)).toInt64) * 31)]) ⟨hx, hb, hml, hown, hw⟩ (c_wouldMiss l D a cH cB cJ cI ha g v10 H.size 7 hWf (by omega)) (cwV 1 hw (gA_V kw_553 kw_464 kw_465 kw_2 kw_466) rfl rfl rfl (by decide +kernel) ⟨Nat.le_of_ble_eq_true rfl, Nat.le_of_ble_eq_true rfl⟩) (pS_v (ci := 4) (q0 := 0) rfl pw_0 hP hK hE) rfl rfl hl.1 rfl (lv_room (Nat.le_of_ble_eq_true rfl)) dX4_digest_275 ⟨Nat.le_of_ble_eq_true rfl, Nat.le_of_ble_eq_true rfl⟩) hS (fun q h1 h2 => ro_A h1 h2) (fun q h => ro_F hS hA q h) (fun r u t H1 locs ht hvm hw9 hB9 hz1 hk1 hS => ?_)
                  have hw9 : r = (iI (m_wouldMiss g 7)) := hw9
                  subst hw9
                  have hP := ro_P hP hk1
                  generalize H1 = H at hP hS ⊢
                  refine lv_i2l hx hb dX4_digest_278 rfl ?_
                  refine lv_ladd hx hb dX4_digest_279 ?_
                  exact W.lret (v := ((((((((((x139 * 31) + (iI (m_winner g 0 0)).toInt64) * 31) + (iI (m_winner g 0 1)).toInt64) * 31) + (iI (m_beatsAll g)).toInt64) * 31) + (iI (m_readIn g)).toInt64) * 31) + (iI (m_wouldMiss g 7)).toInt64)) hx hb hr (fun t ht hW9 => ⟨⟨((((((((((x139 * 31) + (iI (m_winner g 0 0)).toInt64) * 31) + (iI (m_winner g 0 1)).toInt64) * 31) + (iI (m_beatsAll g)).toInt64) * 31) + (iI (m_readIn g)).toInt64) * 31) + (iI (m_wouldMiss g 7)).toInt64), (), rfl, (by rw [hx139]; rfl), ⟨v10, by rw [ht]; exact hP⟩⟩, hS.F ht⟩) hS.2.2 dX4_digest_280
                | succ d3 ih139 =>
                  intro n3 x139 vq3 H locs ls hn3 hx139 hP hS hl
                  refine lv_iload_n hx hb dX4_digest_139 rfl (lv_at hl 0 rfl) ?_
                  refine lv_aload_n hx hb dX4_digest_140 rfl (lv_at hl 2 rfl) ?_
                  have s14 := Wf.m5 hWf
                  refine va_get (D := D) (ci := 4) (v := .int (iI (g 0 0 5))) (C := RX4) (T := TX4) (N := 19) hx hb hw hin_wsX40 hown hK hP 0 pw_0 rfl 5 (by decide) (hw _ kw_81) (fun _ h9 => h9) rfl dX4_digest_141 ?_
                  refine n_icmp_ge hx hb (by unfold RI; omega) (by unfold RI; omega) (tgt := 217) dX4_digest_144 (by decide) (fun h15 => absurd h15 (by intro h15; omega)) (fun h15 => ?_)
                  refine lv_iconst (v := iI 0) hx hb dX4_digest_147 (by decide) ?_
                  refine lv_istore (lv' := [(4, .int (iI 0)), (3, .int (iI ((n3 : Nat) : Int))), (1, .long x139), (0, .ref (a 0))]) hx hb dX4_digest_148 hl (by decide) rfl (fun ls hl => ?_)
                  have loop150 : ∀ (d4 n4 : Nat) (x150 : Int64) (vq4 : Nat → Int32) (H : Heap) (locs : List Loc) (ls : Array Slot), n4 + d4 = 8 → x150 = m_fo (fun w d => dg d (m_ofJudge g ((n3 : Nat) : Int) w)) x139 n4 → va_P D vwCl (pw a cH cB cJ cI g vq4) H → va_S (pA a s.heap.size) s.heap H locs → lv_has ls 5 [(4, .int (iI ((n4 : Nat) : Int))), (3, .int (iI ((n3 : Nat) : Int))), (1, .long x150), (0, .ref (a 0))] → W p l e (headSpec (wc yX4_digest cX4_digest 5 (some .long)) ({ frames := 6, cells := 0, slots := 0, locals := 138 })).room s m [.ref (a 0)].toArray below meth c H locs 0 0 (MQ below (va_Ql (fun (r : Int64) (_ : Unit) => r = (m_digest g)) (fun _ t => ∃ vt1 : Nat → Int32, va_P D vwCl (pw a cH cB cJ cI g vt1) t.heap) (pA a s.heap.size)) [.ref (a 0)].toArray s 0 0 (pA a s.heap.size)) (F0 m 150 ls []) := by
                    intro d4
                    induction d4 with
                    | zero =>
                      intro n4 x150 vq4 H locs ls hn4 hx150 hP hS hl
                      obtain rfl : n4 = 8 := by omega
                      refine lv_iload hx hb dX4_digest_150 (lv_at hl 0 rfl) ?_
                      refine lv_bipush (v := iI 7) hx hb dX4_digest_152 (by decide) ?_
                      refine n_icmp_gt hx hb (by unfold RI; omega) (by unfold RI; omega) (tgt := 178) dX4_digest_154 (by decide) (fun h16 => ?_) (fun h16 => absurd h16 (by intro h16; omega))
                      refine lv_iconst (v := iI 0) hx hb dX4_digest_178 (by decide) ?_
                      refine lv_istore (lv' := [(4, .int (iI 0)), (3, .int (iI ((n3 : Nat) : Int))), (1, .long x150), (0, .ref (a 0))]) hx hb dX4_digest_179 hl (by decide) rfl (fun ls hl => ?_)
                      have loop181 : ∀ (d5 n5 : Nat) (x181 : Int64) (vq5 : Nat → Int32) (H : Heap) (locs : List Loc) (ls : Array Slot), n5 + d5 = (g 0 0 4).toNat → x181 = m_fo (fun b d => dg d (g 6 ((n3 : Nat) : Int) b)) x150 n5 → va_P D vwCl (pw a cH cB cJ cI g vq5) H → va_S (pA a s.heap.size) s.heap H locs → lv_has ls 5 [(4, .int (iI ((n5 : Nat) : Int))), (3, .int (iI ((n3 : Nat) : Int))), (1, .long x181), (0, .ref (a 0))] → W p l e (headSpec (wc yX4_digest cX4_digest 5 (some .long)) ({ frames := 6, cells := 0, slots := 0, locals := 138 })).room s m [.ref (a 0)].toArray below meth c H locs 0 0 (MQ below (va_Ql (fun (r : Int64) (_ : Unit) => r = (m_digest g)) (fun _ t => ∃ vt1 : Nat → Int32, va_P D vwCl (pw a cH cB cJ cI g vt1) t.heap) (pA a s.heap.size)) [.ref (a 0)].toArray s 0 0 (pA a s.heap.size)) (F0 m 181 ls []) := by
                        intro d5
                        induction d5 with
                        | zero =>
                          intro n5 x181 vq5 H locs ls hn5 hx181 hP hS hl
                          obtain rfl : n5 = (g 0 0 4).toNat := by omega
                          refine lv_iload hx hb dX4_digest_181 (lv_at hl 0 rfl) ?_
                          refine lv_aload_n hx hb dX4_digest_183 rfl (lv_at hl 3 rfl) ?_
                          refine va_get (D := D) (ci := 4) (v := .int (iI (g 0 0 4))) (C := RX4) (T := TX4) (N := 19) hx hb hw hin_wsX40 hown hK hP 0 pw_0 rfl 4 (by decide) (hw _ kw_98) (fun _ h9 => h9) rfl dX4_digest_184 ?_
                          refine n_icmp_ge hx hb (by unfold RI; omega) (by unfold RI; omega) (tgt := 211) dX4_digest_187 (by decide) (fun h17 => ?_) (fun h17 => absurd h17 (by intro h17; omega))
                          refine n_inc (lv' := [(3, .int (iI (((n3 : Nat) : Int) + 1))), (4, .int (iI ((((g 0 0 4).toNat) : Nat) : Int))), (1, .long x181), (0, .ref (a 0))]) hx hb dX4_digest_211 hl (k := 1) rfl (by decide) rfl (fun ls hl => ?_)
                          refine lv_goto (tgt := 139) hx hb dX4_digest_214 (by decide) ?_
                          have hl : lv_has ls 5 [(3, .int (iI (((n3 : Nat) : Int) + 1))), (1, .long x181), (0, .ref (a 0))] := lv_sub hl [0, 2, 3] rfl
                          have e18 : (((n3 : Nat) : Int) + 1) = (((n3 + 1) : Nat) : Int) := by rfl
                          have hl : lv_has ls 5 [(3, .int (iI (((n3 + 1) : Nat) : Int))), (1, .long x181), (0, .ref (a 0))] := lv_cast hl (by rw [e18])
                          exact ih139 (n3 + 1) x181 vq5 H locs ls (by omega) (by rw [hx181, hx150, hx139, fo_s]; rfl) hP hS hl
                        | succ d5 ih181 =>
                          intro n5 x181 vq5 H locs ls hn5 hx181 hP hS hl
                          refine lv_iload hx hb dX4_digest_181 (lv_at hl 0 rfl) ?_
                          refine lv_aload_n hx hb dX4_digest_183 rfl (lv_at hl 3 rfl) ?_
                          refine va_get (D := D) (ci := 4) (v := .int (iI (g 0 0 4))) (C := RX4) (T := TX4) (N := 19) hx hb hw hin_wsX40 hown hK hP 0 pw_0 rfl 4 (by decide) (hw _ kw_98) (fun _ h9 => h9) rfl dX4_digest_184 ?_
                          refine n_icmp_ge hx hb (by unfold RI; omega) (by unfold RI; omega) (tgt := 211) dX4_digest_187 (by decide) (fun h19 => absurd h19 (by intro h19; omega)) (fun h19 => ?_)
                          refine lv_lload_n hx hb dX4_digest_190 rfl (lv_at hl 2 rfl) ?_
                          refine lv_ldc2 (v := 31) hx hb hown (hw _ kw_543) dX4_digest_191 ?_
                          refine lv_lmul hx hb dX4_digest_194 ?_
                          refine lv_aload_n hx hb dX4_digest_195 rfl (lv_at hl 3 rfl) ?_
                          refine lv_iload_n hx hb dX4_digest_196 rfl (lv_at hl 1 rfl) ?_
                          refine lv_iload hx hb dX4_digest_197 (lv_at hl 0 rfl) ?_
                          refine va_calli (va_runV (As := [.int (iI ((n3 : Nat) : Int)), .int (iI ((n5 : Nat) : Int))]) (rest := [.long (x181 * 31)]) ⟨hx, hb, hml, hown, hw⟩ (c_mark l D a cH cB cJ cI ha g vq5 H.size ((n3 : Nat) : Int) ((n5 : Nat) : Int) hWf (by omega) (by omega)) (cwV 2 hw (gA_V kw_549 kw_154 kw_155 kw_2 kw_156) rfl rfl rfl (by decide +kernel) ⟨Nat.le_of_ble_eq_true rfl, Nat.le_of_ble_eq_true rfl⟩) (pS_v (ci := 4) (q0 := 0) rfl pw_0 hP hK hE) rfl rfl hl.1 rfl (lv_room (Nat.le_of_ble_eq_true rfl)) dX4_digest_199 ⟨Nat.le_of_ble_eq_true rfl, Nat.le_of_ble_eq_true rfl⟩) hS (fun q h1 h2 => ro_A h1 h2) (fun q h => ro_F hS hA q h) (fun r u t H1 locs ht hvm hw9 hB9 hz1 hk1 hS => ?_)
                          have hw9 : r = (iI (g 6 ((n3 : Nat) : Int) ((n5 : Nat) : Int))) := hw9
                          subst hw9
                          have hP := ro_P hP hk1
                          generalize H1 = H at hP hS ⊢
                          have s20 := Wf.r6 hWf (j := ((n3 : Nat) : Int)) (k := ((n5 : Nat) : Int)) (by omega) (by have := Wf.m5 hWf; omega) (by omega) (by have := Wf.m4 hWf; omega)
                          refine lv_i2l hx hb dX4_digest_202 rfl ?_
                          refine lv_ladd hx hb dX4_digest_203 ?_
                          refine lv_lstore_n (lv' := [(1, .long ((x181 * 31) + (iI (g 6 ((n3 : Nat) : Int) ((n5 : Nat) : Int))).toInt64)), (4, .int (iI ((n5 : Nat) : Int))), (3, .int (iI ((n3 : Nat) : Int))), (0, .ref (a 0))]) hx hb dX4_digest_204 rfl hl (by decide) rfl (fun ls hl => ?_)
                          refine n_inc (lv' := [(4, .int (iI (((n5 : Nat) : Int) + 1))), (1, .long ((x181 * 31) + (iI (g 6 ((n3 : Nat) : Int) ((n5 : Nat) : Int))).toInt64)), (3, .int (iI ((n3 : Nat) : Int))), (0, .ref (a 0))]) hx hb dX4_digest_205 hl (k := 1) rfl (by decide) rfl (fun ls hl => ?_)
                          refine lv_goto (tgt := 181) hx hb dX4_digest_208 (by decide) ?_
                          have hl : lv_has ls 5 [(4, .int (iI (((n5 : Nat) : Int) + 1))), (3, .int (iI ((n3 : Nat) : Int))), (1, .long ((x181 * 31) + (iI (g 6 ((n3 : Nat) : Int) ((n5 : Nat) : Int))).toInt64)), (0, .ref (a 0))] := lv_sub hl [0, 2, 1, 3] rfl
                          have e21 : (((n5 : Nat) : Int) + 1) = (((n5 + 1) : Nat) : Int) := by rfl
                          have hl : lv_has ls 5 [(4, .int (iI (((n5 + 1) : Nat) : Int))), (3, .int (iI ((n3 : Nat) : Int))), (1, .long ((x181 * 31) + (iI (g 6 ((n3 : Nat) : Int) ((n5 : Nat) : Int))).toInt64)), (0, .ref (a 0))] := lv_cast hl (by rw [e21])
                          exact ih181 (n5 + 1) ((x181 * 31) + (iI (g 6 ((n3 : Nat) : Int) ((n5 : Nat) : Int))).toInt64) vq5 H locs ls (by omega) (by rw [hx181, fo_s]; rfl) hP hS hl
                      have hl : lv_has ls 5 [(4, .int (iI 0)), (3, .int (iI ((n3 : Nat) : Int))), (1, .long x150), (0, .ref (a 0))] := lv_sub hl [0, 1, 2, 3] rfl
                      have hl : lv_has ls 5 [(4, .int (iI ((0 : Nat) : Int))), (3, .int (iI ((n3 : Nat) : Int))), (1, .long x150), (0, .ref (a 0))] := hl
                      exact loop181 ((g 0 0 4).toNat) 0 x150 vq4 H locs ls (by omega) rfl hP hS hl
                    | succ d4 ih150 =>
                      intro n4 x150 vq4 H locs ls hn4 hx150 hP hS hl
                      refine lv_iload hx hb dX4_digest_150 (lv_at hl 0 rfl) ?_
                      refine lv_bipush (v := iI 7) hx hb dX4_digest_152 (by decide) ?_
                      refine n_icmp_gt hx hb (by unfold RI; omega) (by unfold RI; omega) (tgt := 178) dX4_digest_154 (by decide) (fun h22 => absurd h22 (by intro h22; omega)) (fun h22 => ?_)
                      refine lv_lload_n hx hb dX4_digest_157 rfl (lv_at hl 2 rfl) ?_
                      refine lv_ldc2 (v := 31) hx hb hown (hw _ kw_543) dX4_digest_158 ?_
                      refine lv_lmul hx hb dX4_digest_161 ?_
                      refine lv_aload_n hx hb dX4_digest_162 rfl (lv_at hl 3 rfl) ?_
                      refine lv_iload_n hx hb dX4_digest_163 rfl (lv_at hl 1 rfl) ?_
                      refine lv_iload hx hb dX4_digest_164 (lv_at hl 0 rfl) ?_
                      refine va_calli (va_runV (As := [.int (iI ((n3 : Nat) : Int)), .int (iI ((n4 : Nat) : Int))]) (rest := [.long (x150 * 31)]) ⟨hx, hb, hml, hown, hw⟩ (c_ofJudge l D a cH cB cJ cI ha g vq4 H.size ((n3 : Nat) : Int) ((n4 : Nat) : Int) hWf (by omega) (by omega)) (cwV 2 hw (gA_V kw_548 kw_175 kw_176 kw_2 kw_177) rfl rfl rfl (by decide +kernel) ⟨Nat.le_of_ble_eq_true rfl, Nat.le_of_ble_eq_true rfl⟩) (pS_v (ci := 4) (q0 := 0) rfl pw_0 hP hK hE) rfl rfl hl.1 rfl (lv_room (Nat.le_of_ble_eq_true rfl)) dX4_digest_166 ⟨Nat.le_of_ble_eq_true rfl, Nat.le_of_ble_eq_true rfl⟩) hS (fun q h1 h2 => ro_A h1 h2) (fun q h => ro_F hS hA q h) (fun r u t H1 locs ht hvm hw9 hB9 hz1 hk1 hS => ?_)
                      have hw9 : r = (iI (m_ofJudge g ((n3 : Nat) : Int) ((n4 : Nat) : Int))) := hw9
                      subst hw9
                      have hP := ro_P hP hk1
                      generalize H1 = H at hP hS ⊢
                      refine lv_i2l hx hb dX4_digest_169 rfl ?_
                      refine lv_ladd hx hb dX4_digest_170 ?_
                      refine lv_lstore_n (lv' := [(1, .long ((x150 * 31) + (iI (m_ofJudge g ((n3 : Nat) : Int) ((n4 : Nat) : Int))).toInt64)), (4, .int (iI ((n4 : Nat) : Int))), (3, .int (iI ((n3 : Nat) : Int))), (0, .ref (a 0))]) hx hb dX4_digest_171 rfl hl (by decide) rfl (fun ls hl => ?_)
                      refine n_inc (lv' := [(4, .int (iI (((n4 : Nat) : Int) + 1))), (1, .long ((x150 * 31) + (iI (m_ofJudge g ((n3 : Nat) : Int) ((n4 : Nat) : Int))).toInt64)), (3, .int (iI ((n3 : Nat) : Int))), (0, .ref (a 0))]) hx hb dX4_digest_172 hl (k := 1) rfl (by decide) rfl (fun ls hl => ?_)
                      refine lv_goto (tgt := 150) hx hb dX4_digest_175 (by decide) ?_
                      have hl : lv_has ls 5 [(4, .int (iI (((n4 : Nat) : Int) + 1))), (3, .int (iI ((n3 : Nat) : Int))), (1, .long ((x150 * 31) + (iI (m_ofJudge g ((n3 : Nat) : Int) ((n4 : Nat) : Int))).toInt64)), (0, .ref (a 0))] := lv_sub hl [0, 2, 1, 3] rfl
                      have e23 : (((n4 : Nat) : Int) + 1) = (((n4 + 1) : Nat) : Int) := by rfl
                      have hl : lv_has ls 5 [(4, .int (iI (((n4 + 1) : Nat) : Int))), (3, .int (iI ((n3 : Nat) : Int))), (1, .long ((x150 * 31) + (iI (m_ofJudge g ((n3 : Nat) : Int) ((n4 : Nat) : Int))).toInt64)), (0, .ref (a 0))] := lv_cast hl (by rw [e23])
                      exact ih150 (n4 + 1) ((x150 * 31) + (iI (m_ofJudge g ((n3 : Nat) : Int) ((n4 : Nat) : Int))).toInt64) vq4 H locs ls (by omega) (by rw [hx150, fo_s]; rfl) hP hS hl
                  have hl : lv_has ls 5 [(4, .int (iI 0)), (3, .int (iI ((n3 : Nat) : Int))), (1, .long x139), (0, .ref (a 0))] := lv_sub hl [0, 1, 2, 3] rfl
                  have hl : lv_has ls 5 [(4, .int (iI ((0 : Nat) : Int))), (3, .int (iI ((n3 : Nat) : Int))), (1, .long x139), (0, .ref (a 0))] := hl
                  exact loop150 8 0 x139 vq3 H locs ls (by omega) rfl hP hS hl
              have hl : lv_has ls 5 [(3, .int (iI 0)), (1, .long x79), (0, .ref (a 0))] := lv_sub hl [0, 1, 2] rfl
              have hl : lv_has ls 5 [(3, .int (iI ((0 : Nat) : Int))), (1, .long x79), (0, .ref (a 0))] := hl
              exact loop139 ((g 0 0 5).toNat) 0 x79 vq2 H locs ls (by omega) (by rw [fo_0]; exact hx79) hP hS hl
            | succ d2 ih79 =>
              intro n2 x79 vq2 H locs ls hn2 hx79 hP hS hl
              refine lv_iload_n hx hb dX4_digest_79 rfl (lv_at hl 0 rfl) ?_
              refine lv_aload_n hx hb dX4_digest_80 rfl (lv_at hl 2 rfl) ?_
              have s24 := Wf.m4 hWf
              refine va_get (D := D) (ci := 4) (v := .int (iI (g 0 0 4))) (C := RX4) (T := TX4) (N := 19) hx hb hw hin_wsX40 hown hK hP 0 pw_0 rfl 4 (by decide) (hw _ kw_98) (fun _ h9 => h9) rfl dX4_digest_81 ?_
              refine n_icmp_ge hx hb (by unfold RI; omega) (by unfold RI; omega) (tgt := 137) dX4_digest_84 (by decide) (fun h25 => absurd h25 (by intro h25; omega)) (fun h25 => ?_)
              refine lv_iconst (v := iI 0) hx hb dX4_digest_87 (by decide) ?_
              refine lv_istore (lv' := [(4, .int (iI 0)), (3, .int (iI ((n2 : Nat) : Int))), (1, .long x79), (0, .ref (a 0))]) hx hb dX4_digest_88 hl (by decide) rfl (fun ls hl => ?_)
              have loop90 : ∀ (d3 n3 : Nat) (x90 : Int64) (vq3 : Nat → Int32) (H : Heap) (locs : List Loc) (ls : Array Slot), n3 + d3 = 11 → x90 = m_fo (fun w d => dg d (m_ofBook g ((n2 : Nat) : Int) w)) x79 n3 → va_P D vwCl (pw a cH cB cJ cI g vq3) H → va_S (pA a s.heap.size) s.heap H locs → lv_has ls 5 [(4, .int (iI ((n3 : Nat) : Int))), (3, .int (iI ((n2 : Nat) : Int))), (1, .long x90), (0, .ref (a 0))] → W p l e (headSpec (wc yX4_digest cX4_digest 5 (some .long)) ({ frames := 6, cells := 0, slots := 0, locals := 138 })).room s m [.ref (a 0)].toArray below meth c H locs 0 0 (MQ below (va_Ql (fun (r : Int64) (_ : Unit) => r = (m_digest g)) (fun _ t => ∃ vt1 : Nat → Int32, va_P D vwCl (pw a cH cB cJ cI g vt1) t.heap) (pA a s.heap.size)) [.ref (a 0)].toArray s 0 0 (pA a s.heap.size)) (F0 m 90 ls []) := by
                intro d3
                induction d3 with
                | zero =>
                  intro n3 x90 vq3 H locs ls hn3 hx90 hP hS hl
                  obtain rfl : n3 = 11 := by omega
                  refine lv_iload hx hb dX4_digest_90 (lv_at hl 0 rfl) ?_
                  refine lv_bipush (v := iI 10) hx hb dX4_digest_92 (by decide) ?_
                  refine n_icmp_gt hx hb (by unfold RI; omega) (by unfold RI; omega) (tgt := 118) dX4_digest_94 (by decide) (fun h26 => ?_) (fun h26 => absurd h26 (by intro h26; omega))
                  refine lv_lload_n hx hb dX4_digest_118 rfl (lv_at hl 2 rfl) ?_
                  refine lv_ldc2 (v := 31) hx hb hown (hw _ kw_543) dX4_digest_119 ?_
                  refine lv_lmul hx hb dX4_digest_122 ?_
                  refine lv_aload_n hx hb dX4_digest_123 rfl (lv_at hl 3 rfl) ?_
                  refine lv_iload_n hx hb dX4_digest_124 rfl (lv_at hl 1 rfl) ?_
                  refine va_calli (va_runV (As := [.int (iI ((n2 : Nat) : Int))]) (rest := [.long (x90 * 31)]) ⟨hx, hb, hml, hown, hw⟩ (c_spoiled l D a cH cB cJ cI ha g vq3 H.size ((n2 : Nat) : Int) hWf (by omega) (hsb)) (cwV 1 hw (gA_V kw_547 kw_456 kw_457 kw_2 kw_458) rfl rfl rfl (by decide +kernel) ⟨Nat.le_of_ble_eq_true rfl, Nat.le_of_ble_eq_true rfl⟩) (pS_v (ci := 4) (q0 := 0) rfl pw_0 hP hK hE) rfl rfl hl.1 rfl (lv_room (Nat.le_of_ble_eq_true rfl)) dX4_digest_125 ⟨Nat.le_of_ble_eq_true rfl, Nat.le_of_ble_eq_true rfl⟩) hS (fun q _ h => rw_A hS hA hB q h) (fun q h => rw_A hS hA hB q h) (fun r u t H1 locs ht hvm hw9 hB9 hz1 hk1 hS => ?_)
                  have hw9 : r = (iI (m_spoiled g ((n2 : Nat) : Int))) := hw9
                  subst hw9
                  obtain ⟨v27, hP1⟩ := hB9
                  rw [ht] at hP1
                  have hP : va_P D vwCl (pw a cH cB cJ cI g v27) H1 := hP1
                  generalize H1 = H at hP hS ⊢
                  have s28 := spo_b hWf ((n2 : Nat) : Int)
                  refine lv_i2l hx hb dX4_digest_128 rfl ?_
                  refine lv_ladd hx hb dX4_digest_129 ?_
                  refine lv_lstore_n (lv' := [(1, .long ((x90 * 31) + (iI (m_spoiled g ((n2 : Nat) : Int))).toInt64)), (4, .int (iI ((11 : Nat) : Int))), (3, .int (iI ((n2 : Nat) : Int))), (0, .ref (a 0))]) hx hb dX4_digest_130 rfl hl (by decide) rfl (fun ls hl => ?_)
                  refine n_inc (lv' := [(3, .int (iI (((n2 : Nat) : Int) + 1))), (1, .long ((x90 * 31) + (iI (m_spoiled g ((n2 : Nat) : Int))).toInt64)), (4, .int (iI ((11 : Nat) : Int))), (0, .ref (a 0))]) hx hb dX4_digest_131 hl (k := 2) rfl (by decide) rfl (fun ls hl => ?_)
                  refine lv_goto (tgt := 79) hx hb dX4_digest_134 (by decide) ?_
                  have hl : lv_has ls 5 [(3, .int (iI (((n2 : Nat) : Int) + 1))), (1, .long ((x90 * 31) + (iI (m_spoiled g ((n2 : Nat) : Int))).toInt64)), (0, .ref (a 0))] := lv_sub hl [0, 1, 3] rfl
                  have e29 : (((n2 : Nat) : Int) + 1) = (((n2 + 1) : Nat) : Int) := by rfl
                  have hl : lv_has ls 5 [(3, .int (iI (((n2 + 1) : Nat) : Int))), (1, .long ((x90 * 31) + (iI (m_spoiled g ((n2 : Nat) : Int))).toInt64)), (0, .ref (a 0))] := lv_cast hl (by rw [e29])
                  exact ih79 (n2 + 1) ((x90 * 31) + (iI (m_spoiled g ((n2 : Nat) : Int))).toInt64) v27 H locs ls (by omega) (by rw [hx90, hx79, fo_s]; rfl) hP hS hl
                | succ d3 ih90 =>
                  intro n3 x90 vq3 H locs ls hn3 hx90 hP hS hl
                  refine lv_iload hx hb dX4_digest_90 (lv_at hl 0 rfl) ?_
                  refine lv_bipush (v := iI 10) hx hb dX4_digest_92 (by decide) ?_
                  refine n_icmp_gt hx hb (by unfold RI; omega) (by unfold RI; omega) (tgt := 118) dX4_digest_94 (by decide) (fun h30 => absurd h30 (by intro h30; omega)) (fun h30 => ?_)
                  refine lv_lload_n hx hb dX4_digest_97 rfl (lv_at hl 2 rfl) ?_
                  refine lv_ldc2 (v := 31) hx hb hown (hw _ kw_543) dX4_digest_98 ?_
                  refine lv_lmul hx hb dX4_digest_101 ?_
                  refine lv_aload_n hx hb dX4_digest_102 rfl (lv_at hl 3 rfl) ?_
                  refine lv_iload_n hx hb dX4_digest_103 rfl (lv_at hl 1 rfl) ?_
                  refine lv_iload hx hb dX4_digest_104 (lv_at hl 0 rfl) ?_
                  refine va_calli (va_runV (As := [.int (iI ((n2 : Nat) : Int)), .int (iI ((n3 : Nat) : Int))]) (rest := [.long (x90 * 31)]) ⟨hx, hb, hml, hown, hw⟩ (c_ofBook l D a cH cB cJ cI ha g vq3 H.size ((n2 : Nat) : Int) ((n3 : Nat) : Int) hWf (by omega) (by omega)) (cwV 2 hw (gA_V kw_546 kw_207 kw_208 kw_2 kw_209) rfl rfl rfl (by decide +kernel) ⟨Nat.le_of_ble_eq_true rfl, Nat.le_of_ble_eq_true rfl⟩) (pS_v (ci := 4) (q0 := 0) rfl pw_0 hP hK hE) rfl rfl hl.1 rfl (lv_room (Nat.le_of_ble_eq_true rfl)) dX4_digest_106 ⟨Nat.le_of_ble_eq_true rfl, Nat.le_of_ble_eq_true rfl⟩) hS (fun q h1 h2 => ro_A h1 h2) (fun q h => ro_F hS hA q h) (fun r u t H1 locs ht hvm hw9 hB9 hz1 hk1 hS => ?_)
                  have hw9 : r = (iI (m_ofBook g ((n2 : Nat) : Int) ((n3 : Nat) : Int))) := hw9
                  subst hw9
                  have hP := ro_P hP hk1
                  generalize H1 = H at hP hS ⊢
                  refine lv_i2l hx hb dX4_digest_109 rfl ?_
                  refine lv_ladd hx hb dX4_digest_110 ?_
                  refine lv_lstore_n (lv' := [(1, .long ((x90 * 31) + (iI (m_ofBook g ((n2 : Nat) : Int) ((n3 : Nat) : Int))).toInt64)), (4, .int (iI ((n3 : Nat) : Int))), (3, .int (iI ((n2 : Nat) : Int))), (0, .ref (a 0))]) hx hb dX4_digest_111 rfl hl (by decide) rfl (fun ls hl => ?_)
                  refine n_inc (lv' := [(4, .int (iI (((n3 : Nat) : Int) + 1))), (1, .long ((x90 * 31) + (iI (m_ofBook g ((n2 : Nat) : Int) ((n3 : Nat) : Int))).toInt64)), (3, .int (iI ((n2 : Nat) : Int))), (0, .ref (a 0))]) hx hb dX4_digest_112 hl (k := 1) rfl (by decide) rfl (fun ls hl => ?_)
                  refine lv_goto (tgt := 90) hx hb dX4_digest_115 (by decide) ?_
                  have hl : lv_has ls 5 [(4, .int (iI (((n3 : Nat) : Int) + 1))), (3, .int (iI ((n2 : Nat) : Int))), (1, .long ((x90 * 31) + (iI (m_ofBook g ((n2 : Nat) : Int) ((n3 : Nat) : Int))).toInt64)), (0, .ref (a 0))] := lv_sub hl [0, 2, 1, 3] rfl
                  have e31 : (((n3 : Nat) : Int) + 1) = (((n3 + 1) : Nat) : Int) := by rfl
                  have hl : lv_has ls 5 [(4, .int (iI (((n3 + 1) : Nat) : Int))), (3, .int (iI ((n2 : Nat) : Int))), (1, .long ((x90 * 31) + (iI (m_ofBook g ((n2 : Nat) : Int) ((n3 : Nat) : Int))).toInt64)), (0, .ref (a 0))] := lv_cast hl (by rw [e31])
                  exact ih90 (n3 + 1) ((x90 * 31) + (iI (m_ofBook g ((n2 : Nat) : Int) ((n3 : Nat) : Int))).toInt64) vq3 H locs ls (by omega) (by rw [hx90, fo_s]; rfl) hP hS hl
              have hl : lv_has ls 5 [(4, .int (iI 0)), (3, .int (iI ((n2 : Nat) : Int))), (1, .long x79), (0, .ref (a 0))] := lv_sub hl [0, 1, 2, 3] rfl
              have hl : lv_has ls 5 [(4, .int (iI ((0 : Nat) : Int))), (3, .int (iI ((n2 : Nat) : Int))), (1, .long x79), (0, .ref (a 0))] := hl
              exact loop90 11 0 x79 vq2 H locs ls (by omega) rfl hP hS hl
          have hl : lv_has ls 5 [(3, .int (iI 0)), (1, .long x33), (0, .ref (a 0))] := lv_sub hl [0, 1, 2] rfl
          have hl : lv_has ls 5 [(3, .int (iI ((0 : Nat) : Int))), (1, .long x33), (0, .ref (a 0))] := hl
          exact loop79 ((g 0 0 4).toNat) 0 x33 vq1 H locs ls (by omega) (by rw [fo_0]; exact hx33) hP hS hl
        | succ d1 ih33 =>
          intro n1 x33 vq1 H locs ls hn1 hx33 hP hS hl
          refine lv_iload_n hx hb dX4_digest_33 rfl (lv_at hl 0 rfl) ?_
          refine lv_aload_n hx hb dX4_digest_34 rfl (lv_at hl 2 rfl) ?_
          have s32 := Wf.m3 hWf
          refine va_get (D := D) (ci := 4) (v := .int (iI (g 0 0 3))) (C := RX4) (T := TX4) (N := 19) hx hb hw hin_wsX40 hown hK hP 0 pw_0 rfl 3 (by decide) (hw _ kw_74) (fun _ h9 => h9) rfl dX4_digest_35 ?_
          refine n_icmp_ge hx hb (by unfold RI; omega) (by unfold RI; omega) (tgt := 77) dX4_digest_38 (by decide) (fun h33 => absurd h33 (by intro h33; omega)) (fun h33 => ?_)
          refine lv_iconst (v := iI 0) hx hb dX4_digest_41 (by decide) ?_
          refine lv_istore (lv' := [(4, .int (iI 0)), (3, .int (iI ((n1 : Nat) : Int))), (1, .long x33), (0, .ref (a 0))]) hx hb dX4_digest_42 hl (by decide) rfl (fun ls hl => ?_)
          have loop44 : ∀ (d2 n2 : Nat) (x44 : Int64) (vq2 : Nat → Int32) (H : Heap) (locs : List Loc) (ls : Array Slot), n2 + d2 = 5 → x44 = m_fo (fun w d => dg d (m_ofHouse g ((n1 : Nat) : Int) w)) x33 n2 → va_P D vwCl (pw a cH cB cJ cI g vq2) H → va_S (pA a s.heap.size) s.heap H locs → lv_has ls 5 [(4, .int (iI ((n2 : Nat) : Int))), (3, .int (iI ((n1 : Nat) : Int))), (1, .long x44), (0, .ref (a 0))] → W p l e (headSpec (wc yX4_digest cX4_digest 5 (some .long)) ({ frames := 6, cells := 0, slots := 0, locals := 138 })).room s m [.ref (a 0)].toArray below meth c H locs 0 0 (MQ below (va_Ql (fun (r : Int64) (_ : Unit) => r = (m_digest g)) (fun _ t => ∃ vt1 : Nat → Int32, va_P D vwCl (pw a cH cB cJ cI g vt1) t.heap) (pA a s.heap.size)) [.ref (a 0)].toArray s 0 0 (pA a s.heap.size)) (F0 m 44 ls []) := by
            intro d2
            induction d2 with
            | zero =>
              intro n2 x44 vq2 H locs ls hn2 hx44 hP hS hl
              obtain rfl : n2 = 5 := by omega
              refine lv_iload hx hb dX4_digest_44 (lv_at hl 0 rfl) ?_
              refine lv_iconst (v := iI 4) hx hb dX4_digest_46 (by decide) ?_
              refine n_icmp_gt hx hb (by unfold RI; omega) (by unfold RI; omega) (tgt := 71) dX4_digest_47 (by decide) (fun h34 => ?_) (fun h34 => absurd h34 (by intro h34; omega))
              refine n_inc (lv' := [(3, .int (iI (((n1 : Nat) : Int) + 1))), (4, .int (iI ((5 : Nat) : Int))), (1, .long x44), (0, .ref (a 0))]) hx hb dX4_digest_71 hl (k := 1) rfl (by decide) rfl (fun ls hl => ?_)
              refine lv_goto (tgt := 33) hx hb dX4_digest_74 (by decide) ?_
              have hl : lv_has ls 5 [(3, .int (iI (((n1 : Nat) : Int) + 1))), (1, .long x44), (0, .ref (a 0))] := lv_sub hl [0, 2, 3] rfl
              have e35 : (((n1 : Nat) : Int) + 1) = (((n1 + 1) : Nat) : Int) := by rfl
              have hl : lv_has ls 5 [(3, .int (iI (((n1 + 1) : Nat) : Int))), (1, .long x44), (0, .ref (a 0))] := lv_cast hl (by rw [e35])
              exact ih33 (n1 + 1) x44 vq2 H locs ls (by omega) (by rw [hx44, hx33, fo_s]; rfl) hP hS hl
            | succ d2 ih44 =>
              intro n2 x44 vq2 H locs ls hn2 hx44 hP hS hl
              refine lv_iload hx hb dX4_digest_44 (lv_at hl 0 rfl) ?_
              refine lv_iconst (v := iI 4) hx hb dX4_digest_46 (by decide) ?_
              refine n_icmp_gt hx hb (by unfold RI; omega) (by unfold RI; omega) (tgt := 71) dX4_digest_47 (by decide) (fun h36 => absurd h36 (by intro h36; omega)) (fun h36 => ?_)
              refine lv_lload_n hx hb dX4_digest_50 rfl (lv_at hl 2 rfl) ?_
              refine lv_ldc2 (v := 31) hx hb hown (hw _ kw_543) dX4_digest_51 ?_
              refine lv_lmul hx hb dX4_digest_54 ?_
              refine lv_aload_n hx hb dX4_digest_55 rfl (lv_at hl 3 rfl) ?_
              refine lv_iload_n hx hb dX4_digest_56 rfl (lv_at hl 1 rfl) ?_
              refine lv_iload hx hb dX4_digest_57 (lv_at hl 0 rfl) ?_
              refine va_calli (va_runV (As := [.int (iI ((n1 : Nat) : Int)), .int (iI ((n2 : Nat) : Int))]) (rest := [.long (x44 * 31)]) ⟨hx, hb, hml, hown, hw⟩ (c_ofHouse l D a cH cB cJ cI ha g vq2 H.size ((n1 : Nat) : Int) ((n2 : Nat) : Int) hWf (by omega) (by omega)) (cwV 2 hw (gA_V kw_545 kw_263 kw_264 kw_2 kw_265) rfl rfl rfl (by decide +kernel) ⟨Nat.le_of_ble_eq_true rfl, Nat.le_of_ble_eq_true rfl⟩) (pS_v (ci := 4) (q0 := 0) rfl pw_0 hP hK hE) rfl rfl hl.1 rfl (lv_room (Nat.le_of_ble_eq_true rfl)) dX4_digest_59 ⟨Nat.le_of_ble_eq_true rfl, Nat.le_of_ble_eq_true rfl⟩) hS (fun q h1 h2 => ro_A h1 h2) (fun q h => ro_F hS hA q h) (fun r u t H1 locs ht hvm hw9 hB9 hz1 hk1 hS => ?_)
              have hw9 : r = (iI (m_ofHouse g ((n1 : Nat) : Int) ((n2 : Nat) : Int))) := hw9
              subst hw9
              have hP := ro_P hP hk1
              generalize H1 = H at hP hS ⊢
              refine lv_i2l hx hb dX4_digest_62 rfl ?_
              refine lv_ladd hx hb dX4_digest_63 ?_
              refine lv_lstore_n (lv' := [(1, .long ((x44 * 31) + (iI (m_ofHouse g ((n1 : Nat) : Int) ((n2 : Nat) : Int))).toInt64)), (4, .int (iI ((n2 : Nat) : Int))), (3, .int (iI ((n1 : Nat) : Int))), (0, .ref (a 0))]) hx hb dX4_digest_64 rfl hl (by decide) rfl (fun ls hl => ?_)
              refine n_inc (lv' := [(4, .int (iI (((n2 : Nat) : Int) + 1))), (1, .long ((x44 * 31) + (iI (m_ofHouse g ((n1 : Nat) : Int) ((n2 : Nat) : Int))).toInt64)), (3, .int (iI ((n1 : Nat) : Int))), (0, .ref (a 0))]) hx hb dX4_digest_65 hl (k := 1) rfl (by decide) rfl (fun ls hl => ?_)
              refine lv_goto (tgt := 44) hx hb dX4_digest_68 (by decide) ?_
              have hl : lv_has ls 5 [(4, .int (iI (((n2 : Nat) : Int) + 1))), (3, .int (iI ((n1 : Nat) : Int))), (1, .long ((x44 * 31) + (iI (m_ofHouse g ((n1 : Nat) : Int) ((n2 : Nat) : Int))).toInt64)), (0, .ref (a 0))] := lv_sub hl [0, 2, 1, 3] rfl
              have e37 : (((n2 : Nat) : Int) + 1) = (((n2 + 1) : Nat) : Int) := by rfl
              have hl : lv_has ls 5 [(4, .int (iI (((n2 + 1) : Nat) : Int))), (3, .int (iI ((n1 : Nat) : Int))), (1, .long ((x44 * 31) + (iI (m_ofHouse g ((n1 : Nat) : Int) ((n2 : Nat) : Int))).toInt64)), (0, .ref (a 0))] := lv_cast hl (by rw [e37])
              exact ih44 (n2 + 1) ((x44 * 31) + (iI (m_ofHouse g ((n1 : Nat) : Int) ((n2 : Nat) : Int))).toInt64) vq2 H locs ls (by omega) (by rw [hx44, fo_s]; rfl) hP hS hl
          have hl : lv_has ls 5 [(4, .int (iI 0)), (3, .int (iI ((n1 : Nat) : Int))), (1, .long x33), (0, .ref (a 0))] := lv_sub hl [0, 1, 2, 3] rfl
          have hl : lv_has ls 5 [(4, .int (iI ((0 : Nat) : Int))), (3, .int (iI ((n1 : Nat) : Int))), (1, .long x33), (0, .ref (a 0))] := hl
          exact loop44 5 0 x33 vq1 H locs ls (by omega) rfl hP hS hl
      have hl : lv_has ls 5 [(3, .int (iI 0)), (1, .long x6), (0, .ref (a 0))] := lv_sub hl [0, 1, 2] rfl
      have hl : lv_has ls 5 [(3, .int (iI ((0 : Nat) : Int))), (1, .long x6), (0, .ref (a 0))] := hl
      exact loop33 ((g 0 0 3).toNat) 0 x6 vq H locs ls (by omega) (by rw [fo_0]; exact hx6) hP hS hl
    | succ d ih6 =>
      intro n x6 vq H locs ls hn hx6 hP hS hl
      refine lv_iload_n hx hb dX4_digest_6 rfl (lv_at hl 0 rfl) ?_
      refine lv_bipush (v := iI 14) hx hb dX4_digest_7 (by decide) ?_
      refine n_icmp_gt hx hb (by unfold RI; omega) (by unfold RI; omega) (tgt := 31) dX4_digest_9 (by decide) (fun h38 => absurd h38 (by intro h38; omega)) (fun h38 => ?_)
      refine lv_lload_n hx hb dX4_digest_12 rfl (lv_at hl 1 rfl) ?_
      refine lv_ldc2 (v := 31) hx hb hown (hw _ kw_543) dX4_digest_13 ?_
      refine lv_lmul hx hb dX4_digest_16 ?_
      refine lv_aload_n hx hb dX4_digest_17 rfl (lv_at hl 2 rfl) ?_
      refine lv_iload_n hx hb dX4_digest_18 rfl (lv_at hl 0 rfl) ?_
      refine va_calli (va_runV (As := [.int (iI ((n : Nat) : Int))]) (rest := [.long (x6 * 31)]) ⟨hx, hb, hml, hown, hw⟩ (c_many l D a cH cB cJ cI ha g vq H.size ((n : Nat) : Int) hWf (by omega)) (cwV 1 hw (gA_V kw_544 kw_93 kw_94 kw_2 kw_95) rfl rfl rfl (by decide +kernel) ⟨Nat.le_of_ble_eq_true rfl, Nat.le_of_ble_eq_true rfl⟩) (pS_v (ci := 4) (q0 := 0) rfl pw_0 hP hK hE) rfl rfl hl.1 rfl (lv_room (Nat.le_of_ble_eq_true rfl)) dX4_digest_19 ⟨Nat.le_of_ble_eq_true rfl, Nat.le_of_ble_eq_true rfl⟩) hS (fun q h1 h2 => ro_A h1 h2) (fun q h => ro_F hS hA q h) (fun r u t H1 locs ht hvm hw9 hB9 hz1 hk1 hS => ?_)
      have hw9 : r = (iI (m_many g ((n : Nat) : Int))) := hw9
      subst hw9
      have hP := ro_P hP hk1
      generalize H1 = H at hP hS ⊢
      refine lv_i2l hx hb dX4_digest_22 rfl ?_
      refine lv_ladd hx hb dX4_digest_23 ?_
      refine lv_lstore_n (lv' := [(1, .long ((x6 * 31) + (iI (m_many g ((n : Nat) : Int))).toInt64)), (3, .int (iI ((n : Nat) : Int))), (0, .ref (a 0))]) hx hb dX4_digest_24 rfl hl (by decide) rfl (fun ls hl => ?_)
      refine n_inc (lv' := [(3, .int (iI (((n : Nat) : Int) + 1))), (1, .long ((x6 * 31) + (iI (m_many g ((n : Nat) : Int))).toInt64)), (0, .ref (a 0))]) hx hb dX4_digest_25 hl (k := 1) rfl (by decide) rfl (fun ls hl => ?_)
      refine lv_goto (tgt := 6) hx hb dX4_digest_28 (by decide) ?_
      have hl : lv_has ls 5 [(3, .int (iI (((n : Nat) : Int) + 1))), (1, .long ((x6 * 31) + (iI (m_many g ((n : Nat) : Int))).toInt64)), (0, .ref (a 0))] := lv_sub hl [0, 1, 2] rfl
      have e39 : (((n : Nat) : Int) + 1) = (((n + 1) : Nat) : Int) := by rfl
      have hl : lv_has ls 5 [(3, .int (iI (((n + 1) : Nat) : Int))), (1, .long ((x6 * 31) + (iI (m_many g ((n : Nat) : Int))).toInt64)), (0, .ref (a 0))] := lv_cast hl (by rw [e39])
      exact ih6 (n + 1) ((x6 * 31) + (iI (m_many g ((n : Nat) : Int))).toInt64) vq H locs ls (by omega) (by rw [hx6, fo_s]; rfl) hP hS hl
  have hl : lv_has ls 5 [(3, .int (iI 0)), (1, .long 9117), (0, .ref (a 0))] := lv_sub hl [0, 1, 2] rfl
  have hl : lv_has ls 5 [(3, .int (iI ((0 : Nat) : Int))), (1, .long 9117), (0, .ref (a 0))] := hl
  exact loop6 15 0 9117 vt H locs ls (by omega) rfl hP hS hl

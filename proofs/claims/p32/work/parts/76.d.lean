set_option maxHeartbeats 4000000 in
set_option maxRecDepth 100000 in
theorem law_turn {p : Program} {l : Launch} {e : Env} {s : State} {m : MethodId} {args : Array Value} {below : List Frame} {meth : Method} {c : Code} {Q : State → Prop} {b : Nat} {D : va_G} {a : Nat → Nat} {cH cB cJ cI : ClassId} {L : Nat} {xs : Nat → Int32} (hx : p.tables.exec = Jvm.exec) (hb : c.code = cL_law) (hml : c.maxLocals = 23) (hown : s.vm.findClass RL = some m.cls) (hw : ∀ w ∈ wsL_law0, w.before args s = true) (ha : pj a) (hB : ∀ k, k < 58 → s.heap.size ≤ a k) (hK : va_K D vwCl (pT cH cB cJ cI) s) (hE : ew s) (hL : L ≤ 260) (hX : va_X b L xs s s.heap) (hbl : b < s.heap.size) {g : m_St} {vt : Nat → Int32} {hh jj paid printed called : Int} {tn cells slots : Nat} (ht9 : tn < 90) (hcc : cells + 2 ≤ 600074) (hss : slots + 10 ≤ 7301550) (hhh : 2 ≤ hh ∧ hh ≤ 5) (hjj : 3 ≤ jj ∧ jj ≤ 5) (hIv : Iv hh jj ((tn : Nat) : Int) paid printed called g) {H : Heap} {locs : List Loc} {ls : Array Slot} (hP : va_P D vwCl (pw a cH cB cJ cI g vt) H) (hS : va_S (fun q => s.heap.size ≤ q) s.heap H locs) (hl : lv_has ls 23 [(0, .ref b), (1, .ref (a 0)), (2, .int (iI hh)), (3, .int (iI jj)), (4, .int (iI paid)), (5, .int (iI printed)), (6, .int (iI called)), (7, .int (iI ((tn : Nat) : Int)))]) (kx : ∀ (g1 : m_St) (v1 : Nat → Int32) (p1 p2 p3 : Int) (H : Heap) (locs : List Loc) (ls : Array Slot), Iv hh jj ((tn : Int) + 1) p1 p2 p3 g1 → va_P D vwCl (pw a cH cB cJ cI g1 v1) H → va_S (fun q => s.heap.size ≤ q) s.heap H locs → lv_has ls 23 [(0, .ref b), (1, .ref (a 0)), (2, .int (iI hh)), (3, .int (iI jj)), (4, .int (iI p1)), (5, .int (iI p2)), (6, .int (iI p3)), (7, .int (iI ((tn : Nat) : Int)))] → W p l e room_1 s m args below meth c H locs (cells + 1) (slots + 5) Q (F0 m 1603 ls [])) : W p l e room_1 s m args below meth c H locs cells slots Q (F0 m 143 ls []) := by
  have hWf : Wf g := hIv.1
  have m3 := Wf.m3 hWf
  have m4 := Wf.m4 hWf
  have m5 := Wf.m5 hWf
  have m8 := Wf.m8 hWf
  have m9 := Wf.m9 hWf
  have m10 := Wf.m10 hWf
  have m11 := Wf.m11 hWf
  have m13 := Wf.m13 hWf
  have m14 := Wf.m14 hWf
  have hS5 := hIv.2.2.2.2.1
  have hsb : ∀ b, m_has (g 0 0 13) b = true → b < g 0 0 4 := fun b hb => (hS5.1 b (hS5.2.1 b hb)).1
  have hN3 : g 0 0 3 = hh := hIv.2.2.2.1.1
  have hN5 : g 0 0 5 = jj := hIv.2.2.2.1.2.1
  have hN8 : 5 * g 0 0 8 + g 0 0 9 ≤ tn := hIv.2.2.2.1.2.2.1
  have hN10 : g 0 0 10 ≤ 6 * tn := hIv.2.2.2.1.2.2.2
  have hA : ∀ q : Nat, s.heap.size ≤ q → (fun q : Nat => s.heap.size ≤ q) q := fun _ h => h
  refine lv_iload hx hb dL_law_143 (lv_at hl 7 rfl) ?_
  refine lv_bipush (v := iI 90) hx hb dL_law_145 (by decide) ?_
  refine n_icmp_ge hx hb (by unfold RI; omega) (by unfold RI; omega) (tgt := 1746) dL_law_147 (by decide) (fun h1 => absurd h1 (by intro h1; omega)) (fun h1 => ?_)
  refine lv_aload_n hx hb dL_law_150 rfl (lv_at hl 0 rfl) ?_
  refine lv_bipush (v := iI 7) hx hb dL_law_151 (by decide) ?_
  refine lv_iload hx hb dL_law_153 (lv_at hl 7 rfl) ?_
  refine lv_bipush (v := iI 23) hx hb dL_law_155 (by decide) ?_
  refine n_rem hx hb (by unfold RI; omega) (by unfold RI; omega) (by omega) dL_law_157 ?_
  have f2 := (⟨Int.tmod_nonneg _ (by omega), Int.tmod_lt_of_pos _ (by omega)⟩ : 0 ≤ (((tn : Nat) : Int)).tmod 23 ∧ (((tn : Nat) : Int)).tmod 23 < 23)
  refine n_add hx hb dL_law_158 ?_
  have hbH : b < H.size := Nat.lt_of_lt_of_le hbl hS.1
  have hXH : va_X b L xs s H := hX.kept (hS.2.1 b hbl (Nat.not_le.mpr hbl))
  refine va_calli (va_runS (As := [.ref b, .int (iI (7 + (((tn : Nat) : Int).tmod 23)))]) (rest := []) ⟨hx, hb, hml, hown, hw⟩ (c_cell l b L xs hL H.size (7 + (((tn : Nat) : Int).tmod 23)) (by omega)) (va_cwS 2 hw (gA_S kw_59 kw_60 kw_61 kw_62) rfl rfl rfl (by decide +kernel) ⟨Nat.le_of_ble_eq_true rfl, Nat.le_of_ble_eq_true rfl⟩) (pX_s hXH hbH) rfl rfl hl.1 rfl (lv_room (Nat.le_of_ble_eq_true rfl)) dL_law_159 ⟨rm_c (by omega), rm_s (by omega)⟩) hS (fun q h1 h2 => ro_A h1 h2) (fun q h => ro_F hS hA q h) (fun r u t H1 locs ht hvm hw9 hB9 hz1 hk1 hS => ?_)
  have hw9 : r = m_cell L xs (7 + (((tn : Nat) : Int).tmod 23)) := hw9
  subst hw9
  have hP := ro_P hP hk1
  generalize H1 = H at hP hS ⊢
  refine lv_iload hx hb dL_law_162 (lv_at hl 7 rfl) ?_
  refine lv_bipush (v := iI 23) hx hb dL_law_164 (by decide) ?_
  refine n_div hx hb (by unfold RI; omega) (by unfold RI; omega) (by omega) dL_law_166 ?_
  refine lv_iconst (v := iI 4) hx hb dL_law_167 (by decide) ?_
  refine n_mul hx hb dL_law_168 ?_
  refine lv_ishr hx hb dL_law_169 ?_
  obtain ⟨x8, hx8⟩ : ∃ z, z = ((m_cell L xs (7 + (((tn : Nat) : Int).tmod 23))) >>> (iI ((((tn : Nat) : Int).tdiv 23) * 4) &&& 31)) := ⟨_, rfl⟩
  rw [← hx8]
  refine lv_istore (lv' := [(8, .int x8), (0, .ref b), (1, .ref (a 0)), (2, .int (iI hh)), (3, .int (iI jj)), (4, .int (iI paid)), (5, .int (iI printed)), (6, .int (iI called)), (7, .int (iI ((tn : Nat) : Int)))]) hx hb dL_law_170 hl (by decide) rfl (fun ls hl => ?_)
  refine lv_aload_n hx hb dL_law_172 rfl (lv_at hl 2 rfl) ?_
  refine lv_iconst (v := iI 4) hx hb dL_law_173 (by decide) ?_
  refine va_calli (va_runV (As := [.int (iI 4)]) (rest := []) ⟨hx, hb, hml, hown, hw⟩ (c_many l D a cH cB cJ cI ha g vt H.size 4 hWf (by omega)) (cwV 1 hw (gA_V kw_92 kw_93 kw_94 kw_2 kw_95) rfl rfl rfl (by decide +kernel) ⟨Nat.le_of_ble_eq_true rfl, Nat.le_of_ble_eq_true rfl⟩) (pS_v (ci := 4) (q0 := 0) rfl pw_0 hP hK hE) rfl rfl hl.1 rfl (lv_room (Nat.le_of_ble_eq_true rfl)) dL_law_174 ⟨rm_c (by omega), rm_s (by omega)⟩) hS (fun q h1 h2 => ro_A h1 h2) (fun q h => ro_F hS hA q h) (fun r u t H1 locs ht hvm hw9 hB9 hz1 hk1 hS => ?_)
  have hw9 : r = (iI (m_many g 4)) := hw9
  subst hw9
  have hP := ro_P hP hk1
  generalize H1 = H at hP hS ⊢
  rw [show (m_many g 4) = (g 0 0 4) from rfl]
  have s3 := Wf.m4 hWf
  refine lv_istore (lv' := [(9, .int (iI (g 0 0 4))), (8, .int x8), (0, .ref b), (1, .ref (a 0)), (2, .int (iI hh)), (3, .int (iI jj)), (4, .int (iI paid)), (5, .int (iI printed)), (6, .int (iI called)), (7, .int (iI ((tn : Nat) : Int)))]) hx hb dL_law_177 hl (by decide) rfl (fun ls hl => ?_)
  refine lv_iload hx hb dL_law_179 (lv_at hl 0 rfl) ?_
  refine n_if_ne hx hb (by unfold RI; omega) (tgt := 188) dL_law_181 (by decide) (fun h4 => ?_) (fun h4 => ?_)
  · skip
    refine lv_iload hx hb dL_law_188 (lv_at hl 1 rfl) ?_
    refine lv_iconst (v := iI 4) hx hb dL_law_190 (by decide) ?_
    refine lv_ishr hx hb dL_law_191 ?_
    refine lv_iload hx hb dL_law_192 (lv_at hl 0 rfl) ?_
    refine va_calli (va_runS (As := [.int (x8 >>> (iI 4 &&& 31)), .int (iI (g 0 0 4))]) (rest := []) ⟨hx, hb, hml, hown, hw⟩ (c_below l D a cH cB cJ cI ha g vt H.size (x8 >>> (iI 4 &&& 31)) (g 0 0 4) (by omega)) (va_cwS 2 hw (gA_S kw_64 kw_65 kw_61 kw_66) rfl rfl rfl (by decide +kernel) ⟨Nat.le_of_ble_eq_true rfl, Nat.le_of_ble_eq_true rfl⟩) (pS_s hP hK hE) rfl rfl hl.1 rfl (lv_room (Nat.le_of_ble_eq_true rfl)) dL_law_194 ⟨rm_c (by omega), rm_s (by omega)⟩) hS (fun q h1 h2 => ro_A h1 h2) (fun q h => ro_F hS hA q h) (fun r u t H1 locs ht hvm hw9 hB9 hz1 hk1 hS => ?_)
    have hw9 : r = (iI (m_bel (x8 >>> (iI 4 &&& 31)) (g 0 0 4))) := hw9
    subst hw9
    have hP := ro_P hP hk1
    generalize H1 = H at hP hS ⊢
    have s6 := bel_b (x8 >>> (iI 4 &&& 31)) (n := (g 0 0 4)) (by omega)
    obtain ⟨u5, hu5⟩ : ∃ z, z = (m_bel (x8 >>> (iI 4 &&& 31)) (g 0 0 4)) := ⟨_, rfl⟩
    have hbu5 : 0 ≤ u5 ∧ u5 < (g 0 0 4) := by rw [hu5]; exact bel_b _ (by omega)
    rw [show (m_bel (x8 >>> (iI 4 &&& 31)) (g 0 0 4)) = u5 from hu5.symm]
    refine lv_istore (lv' := [(10, .int (iI u5)), (9, .int (iI (g 0 0 4))), (8, .int x8), (0, .ref b), (1, .ref (a 0)), (2, .int (iI hh)), (3, .int (iI jj)), (4, .int (iI paid)), (5, .int (iI printed)), (6, .int (iI called)), (7, .int (iI ((tn : Nat) : Int)))]) hx hb dL_law_197 hl (by decide) rfl (fun ls hl => ?_)
    refine lv_iload hx hb dL_law_199 (lv_at hl 2 rfl) ?_
    refine lv_iconst (v := iI 5) hx hb dL_law_201 (by decide) ?_
    refine lv_ishr hx hb dL_law_202 ?_
    refine lv_iload_n hx hb dL_law_203 rfl (lv_at hl 6 rfl) ?_
    refine va_calli (va_runS (As := [.int (x8 >>> (iI 5 &&& 31)), .int (iI jj)]) (rest := []) ⟨hx, hb, hml, hown, hw⟩ (c_below l D a cH cB cJ cI ha g vt H.size (x8 >>> (iI 5 &&& 31)) jj (by omega)) (va_cwS 2 hw (gA_S kw_64 kw_65 kw_61 kw_66) rfl rfl rfl (by decide +kernel) ⟨Nat.le_of_ble_eq_true rfl, Nat.le_of_ble_eq_true rfl⟩) (pS_s hP hK hE) rfl rfl hl.1 rfl (lv_room (Nat.le_of_ble_eq_true rfl)) dL_law_204 ⟨rm_c (by omega), rm_s (by omega)⟩) hS (fun q h1 h2 => ro_A h1 h2) (fun q h => ro_F hS hA q h) (fun r u t H1 locs ht hvm hw9 hB9 hz1 hk1 hS => ?_)
    have hw9 : r = (iI (m_bel (x8 >>> (iI 5 &&& 31)) jj)) := hw9
    subst hw9
    have hP := ro_P hP hk1
    generalize H1 = H at hP hS ⊢
    have s8 := bel_b (x8 >>> (iI 5 &&& 31)) (n := jj) (by omega)
    obtain ⟨u7, hu7⟩ : ∃ z, z = (m_bel (x8 >>> (iI 5 &&& 31)) jj) := ⟨_, rfl⟩
    have hbu7 : 0 ≤ u7 ∧ u7 < jj := by rw [hu7]; exact bel_b _ (by omega)
    rw [show (m_bel (x8 >>> (iI 5 &&& 31)) jj) = u7 from hu7.symm]
    refine lv_istore (lv' := [(11, .int (iI u7)), (10, .int (iI u5)), (9, .int (iI (g 0 0 4))), (8, .int x8), (0, .ref b), (1, .ref (a 0)), (2, .int (iI hh)), (3, .int (iI jj)), (4, .int (iI paid)), (5, .int (iI printed)), (6, .int (iI called)), (7, .int (iI ((tn : Nat) : Int)))]) hx hb dL_law_207 hl (by decide) rfl (fun ls hl => ?_)
    refine lv_aload_n hx hb dL_law_209 rfl (lv_at hl 5 rfl) ?_
    refine lv_iconst (v := iI 1) hx hb dL_law_210 (by decide) ?_
    refine va_calli (va_runV (As := [.int (iI 1)]) (rest := []) ⟨hx, hb, hml, hown, hw⟩ (c_many l D a cH cB cJ cI ha g vt H.size 1 hWf (by omega)) (cwV 1 hw (gA_V kw_92 kw_93 kw_94 kw_2 kw_95) rfl rfl rfl (by decide +kernel) ⟨Nat.le_of_ble_eq_true rfl, Nat.le_of_ble_eq_true rfl⟩) (pS_v (ci := 4) (q0 := 0) rfl pw_0 hP hK hE) rfl rfl hl.1 rfl (lv_room (Nat.le_of_ble_eq_true rfl)) dL_law_211 ⟨rm_c (by omega), rm_s (by omega)⟩) hS (fun q h1 h2 => ro_A h1 h2) (fun q h => ro_F hS hA q h) (fun r u t H1 locs ht hvm hw9 hB9 hz1 hk1 hS => ?_)
    have hw9 : r = (iI (m_many g 1)) := hw9
    subst hw9
    have hP := ro_P hP hk1
    generalize H1 = H at hP hS ⊢
    rw [show (m_many g 1) = (g 0 0 9) from rfl]
    have s9 := Wf.m9 hWf
    refine lv_istore (lv' := [(12, .int (iI (g 0 0 9))), (11, .int (iI u7)), (10, .int (iI u5)), (9, .int (iI (g 0 0 4))), (8, .int x8), (0, .ref b), (1, .ref (a 0)), (2, .int (iI hh)), (3, .int (iI jj)), (4, .int (iI paid)), (5, .int (iI printed)), (6, .int (iI called)), (7, .int (iI ((tn : Nat) : Int)))]) hx hb dL_law_214 hl (by decide) rfl (fun ls hl => ?_)
    refine lv_aload_n hx hb dL_law_216 rfl (lv_at hl 6 rfl) ?_
    refine lv_iconst (v := iI 0) hx hb dL_law_217 (by decide) ?_
    refine va_calli (va_runV (As := [.int (iI 0)]) (rest := []) ⟨hx, hb, hml, hown, hw⟩ (c_many l D a cH cB cJ cI ha g vt H.size 0 hWf (by omega)) (cwV 1 hw (gA_V kw_92 kw_93 kw_94 kw_2 kw_95) rfl rfl rfl (by decide +kernel) ⟨Nat.le_of_ble_eq_true rfl, Nat.le_of_ble_eq_true rfl⟩) (pS_v (ci := 4) (q0 := 0) rfl pw_0 hP hK hE) rfl rfl hl.1 rfl (lv_room (Nat.le_of_ble_eq_true rfl)) dL_law_218 ⟨rm_c (by omega), rm_s (by omega)⟩) hS (fun q h1 h2 => ro_A h1 h2) (fun q h => ro_F hS hA q h) (fun r u t H1 locs ht hvm hw9 hB9 hz1 hk1 hS => ?_)
    have hw9 : r = (iI (m_many g 0)) := hw9
    subst hw9
    have hP := ro_P hP hk1
    generalize H1 = H at hP hS ⊢
    rw [show (m_many g 0) = (g 0 0 8) from rfl]
    have s10 := Wf.m8 hWf
    refine lv_istore (lv' := [(13, .int (iI (g 0 0 8))), (12, .int (iI (g 0 0 9))), (11, .int (iI u7)), (10, .int (iI u5)), (9, .int (iI (g 0 0 4))), (8, .int x8), (0, .ref b), (1, .ref (a 0)), (2, .int (iI hh)), (3, .int (iI jj)), (4, .int (iI paid)), (5, .int (iI printed)), (6, .int (iI called)), (7, .int (iI ((tn : Nat) : Int)))]) hx hb dL_law_221 hl (by decide) rfl (fun ls hl => ?_)
    refine lv_aload_n hx hb dL_law_223 rfl (lv_at hl 7 rfl) ?_
    refine lv_bipush (v := iI 6) hx hb dL_law_224 (by decide) ?_
    refine va_calli (va_runV (As := [.int (iI 6)]) (rest := []) ⟨hx, hb, hml, hown, hw⟩ (c_many l D a cH cB cJ cI ha g vt H.size 6 hWf (by omega)) (cwV 1 hw (gA_V kw_92 kw_93 kw_94 kw_2 kw_95) rfl rfl rfl (by decide +kernel) ⟨Nat.le_of_ble_eq_true rfl, Nat.le_of_ble_eq_true rfl⟩) (pS_v (ci := 4) (q0 := 0) rfl pw_0 hP hK hE) rfl rfl hl.1 rfl (lv_room (Nat.le_of_ble_eq_true rfl)) dL_law_226 ⟨rm_c (by omega), rm_s (by omega)⟩) hS (fun q h1 h2 => ro_A h1 h2) (fun q h => ro_F hS hA q h) (fun r u t H1 locs ht hvm hw9 hB9 hz1 hk1 hS => ?_)
    have hw9 : r = (iI (m_many g 6)) := hw9
    subst hw9
    have hP := ro_P hP hk1
    generalize H1 = H at hP hS ⊢
    rw [show (m_many g 6) = (m_cnt (m_ent g) (g 0 0 4).toNat) from rfl]
    refine lv_istore (lv' := [(14, .int (iI (m_cnt (m_ent g) (g 0 0 4).toNat))), (13, .int (iI (g 0 0 8))), (12, .int (iI (g 0 0 9))), (11, .int (iI u7)), (10, .int (iI u5)), (9, .int (iI (g 0 0 4))), (8, .int x8), (0, .ref b), (1, .ref (a 0)), (2, .int (iI hh)), (3, .int (iI jj)), (4, .int (iI paid)), (5, .int (iI printed)), (6, .int (iI called)), (7, .int (iI ((tn : Nat) : Int)))]) hx hb dL_law_229 hl (by decide) rfl (fun ls hl => ?_)
    refine lv_aload_n hx hb dL_law_231 rfl (lv_at hl 8 rfl) ?_
    refine lv_bipush (v := iI 14) hx hb dL_law_232 (by decide) ?_
    refine va_calli (va_runV (As := [.int (iI 14)]) (rest := []) ⟨hx, hb, hml, hown, hw⟩ (c_many l D a cH cB cJ cI ha g vt H.size 14 hWf (by omega)) (cwV 1 hw (gA_V kw_92 kw_93 kw_94 kw_2 kw_95) rfl rfl rfl (by decide +kernel) ⟨Nat.le_of_ble_eq_true rfl, Nat.le_of_ble_eq_true rfl⟩) (pS_v (ci := 4) (q0 := 0) rfl pw_0 hP hK hE) rfl rfl hl.1 rfl (lv_room (Nat.le_of_ble_eq_true rfl)) dL_law_234 ⟨rm_c (by omega), rm_s (by omega)⟩) hS (fun q h1 h2 => ro_A h1 h2) (fun q h => ro_F hS hA q h) (fun r u t H1 locs ht hvm hw9 hB9 hz1 hk1 hS => ?_)
    have hw9 : r = (iI (m_many g 14)) := hw9
    subst hw9
    have hP := ro_P hP hk1
    generalize H1 = H at hP hS ⊢
    refine lv_istore (lv' := [(15, .int (iI (m_many g 14))), (14, .int (iI (m_cnt (m_ent g) (g 0 0 4).toNat))), (13, .int (iI (g 0 0 8))), (12, .int (iI (g 0 0 9))), (11, .int (iI u7)), (10, .int (iI u5)), (9, .int (iI (g 0 0 4))), (8, .int x8), (0, .ref b), (1, .ref (a 0)), (2, .int (iI hh)), (3, .int (iI jj)), (4, .int (iI paid)), (5, .int (iI printed)), (6, .int (iI called)), (7, .int (iI ((tn : Nat) : Int)))]) hx hb dL_law_237 hl (by decide) rfl (fun ls hl => ?_)
    refine lv_iload hx hb dL_law_239 (lv_at hl 7 rfl) ?_
    refine lv_bipush (v := iI 20) hx hb dL_law_241 (by decide) ?_
    refine va_calli (va_runS (As := [.int x8, .int (iI 20)]) (rest := []) ⟨hx, hb, hml, hown, hw⟩ (c_below l D a cH cB cJ cI ha g vt H.size x8 20 (by omega)) (va_cwS 2 hw (gA_S kw_64 kw_65 kw_61 kw_66) rfl rfl rfl (by decide +kernel) ⟨Nat.le_of_ble_eq_true rfl, Nat.le_of_ble_eq_true rfl⟩) (pS_s hP hK hE) rfl rfl hl.1 rfl (lv_room (Nat.le_of_ble_eq_true rfl)) dL_law_243 ⟨rm_c (by omega), rm_s (by omega)⟩) hS (fun q h1 h2 => ro_A h1 h2) (fun q h => ro_F hS hA q h) (fun r u t H1 locs ht hvm hw9 hB9 hz1 hk1 hS => ?_)
    have hw9 : r = (iI (m_bel x8 20)) := hw9
    subst hw9
    have hP := ro_P hP hk1
    generalize H1 = H at hP hS ⊢
    have s12 := bel_b x8 (n := 20) (by omega)
    obtain ⟨u11, hu11⟩ : ∃ z, z = (m_bel x8 20) := ⟨_, rfl⟩
    have hbu11 : 0 ≤ u11 ∧ u11 < 20 := by rw [hu11]; exact bel_b _ (by omega)
    rw [show (m_bel x8 20) = u11 from hu11.symm]
    have hl : lv_has ls 23 [(0, .ref b), (1, .ref (a 0)), (2, .int (iI hh)), (3, .int (iI jj)), (4, .int (iI paid)), (5, .int (iI printed)), (6, .int (iI called)), (7, .int (iI ((tn : Nat) : Int))), (8, .int x8), (9, .int (iI (g 0 0 4))), (10, .int (iI u5)), (11, .int (iI u7)), (12, .int (iI (g 0 0 9))), (13, .int (iI (g 0 0 8))), (14, .int (iI (m_cnt (m_ent g) (g 0 0 4).toNat))), (15, .int (iI (m_many g 14)))] := lv_sub hl [8, 9, 10, 11, 12, 13, 14, 15, 7, 6, 5, 4, 3, 2, 1, 0] rfl
    rcases (show u11 = 0 ∨ u11 = 1 ∨ u11 = 2 ∨ u11 = 3 ∨ u11 = 4 ∨ u11 = 5 ∨ u11 = 6 ∨ u11 = 7 ∨ u11 = 8 ∨ u11 = 9 ∨ u11 = 10 ∨ u11 = 11 ∨ u11 = 12 ∨ u11 = 13 ∨ u11 = 14 ∨ u11 = 15 ∨ u11 = 16 ∨ u11 = 17 ∨ u11 = 18 ∨ u11 = 19 from by omega) with hs | hs | hs | hs | hs | hs | hs | hs | hs | hs | hs | hs | hs | hs | hs | hs | hs | hs | hs | hs
    · refine lv_tableIn (off := 82) (tgt := 328) hx hb dL_law_246 (by rw [hs]; decide) (by rw [hs]; decide) (by rw [hs]; decide +kernel) (by decide) ?_
      exact law_book hx hb hml hown hw ha hB hK hE ht9 hcc hss hhh hjj hIv (bk := u5) (jd := u7) (by omega) (by omega) hP hS hl kx
    · refine lv_tableIn (off := 82) (tgt := 328) hx hb dL_law_246 (by rw [hs]; decide) (by rw [hs]; decide) (by rw [hs]; decide +kernel) (by decide) ?_
      exact law_book hx hb hml hown hw ha hB hK hE ht9 hcc hss hhh hjj hIv (bk := u5) (jd := u7) (by omega) (by omega) hP hS hl kx
    · refine lv_tableIn (off := 82) (tgt := 328) hx hb dL_law_246 (by rw [hs]; decide) (by rw [hs]; decide) (by rw [hs]; decide +kernel) (by decide) ?_
      exact law_book hx hb hml hown hw ha hB hK hE ht9 hcc hss hhh hjj hIv (bk := u5) (jd := u7) (by omega) (by omega) hP hS hl kx
    · refine lv_tableIn (off := 173) (tgt := 419) hx hb dL_law_246 (by rw [hs]; decide) (by rw [hs]; decide) (by rw [hs]; decide +kernel) (by decide) ?_
      exact law_conflict hx hb hml hown hw ha hB hK hE ht9 hcc hss hhh hjj hIv (bk := u5) (jd := u7) (by omega) (by omega) hP hS hl kx
    · refine lv_tableIn (off := 215) (tgt := 461) hx hb dL_law_246 (by rw [hs]; decide) (by rw [hs]; decide) (by rw [hs]; decide +kernel) (by decide) ?_
      exact law_rules hx hb hml hown hw ha hB hK hE ht9 hcc hss hhh hjj hIv (bk := u5) (jd := u7) (by omega) (by omega) hP hS hl kx
    · refine lv_tableIn (off := 284) (tgt := 530) hx hb dL_law_246 (by rw [hs]; decide) (by rw [hs]; decide) (by rw [hs]; decide +kernel) (by decide) ?_
      exact law_enter hx hb hml hown hw ha hB hK hE ht9 hcc hss hhh hjj hIv (bk := u5) (jd := u7) (by omega) (by omega) hP hS hl kx
    · refine lv_tableIn (off := 284) (tgt := 530) hx hb dL_law_246 (by rw [hs]; decide) (by rw [hs]; decide) (by rw [hs]; decide +kernel) (by decide) ?_
      exact law_enter hx hb hml hown hw ha hB hK hE ht9 hcc hss hhh hjj hIv (bk := u5) (jd := u7) (by omega) (by omega) hP hS hl kx
    · refine lv_tableIn (off := 284) (tgt := 530) hx hb dL_law_246 (by rw [hs]; decide) (by rw [hs]; decide) (by rw [hs]; decide +kernel) (by decide) ?_
      exact law_enter hx hb hml hown hw ha hB hK hE ht9 hcc hss hhh hjj hIv (bk := u5) (jd := u7) (by omega) (by omega) hP hS hl kx
    · refine lv_tableIn (off := 284) (tgt := 530) hx hb dL_law_246 (by rw [hs]; decide) (by rw [hs]; decide) (by rw [hs]; decide +kernel) (by decide) ?_
      exact law_enter hx hb hml hown hw ha hB hK hE ht9 hcc hss hhh hjj hIv (bk := u5) (jd := u7) (by omega) (by omega) hP hS hl kx
    · refine lv_tableIn (off := 449) (tgt := 695) hx hb dL_law_246 (by rw [hs]; decide) (by rw [hs]; decide) (by rw [hs]; decide +kernel) (by decide) ?_
      exact law_callIn hx hb hml hown hw ha hB hK hE ht9 hcc hss hhh hjj hIv (bk := u5) (jd := u7) (by omega) (by omega) hP hS hl kx
    · refine lv_tableIn (off := 593) (tgt := 839) hx hb dL_law_246 (by rw [hs]; decide) (by rw [hs]; decide) (by rw [hs]; decide +kernel) (by decide) ?_
      exact law_print hx hb hml hown hw ha hB hK hE ht9 hcc hss hhh hjj hIv (bk := u5) (jd := u7) (by omega) (by omega) hP hS hl kx
    · refine lv_tableIn (off := 651) (tgt := 897) hx hb dL_law_246 (by rw [hs]; decide) (by rw [hs]; decide) (by rw [hs]; decide +kernel) (by decide) ?_
      exact law_move hx hb hml hown hw ha hB hK hE ht9 hcc hss hhh hjj hIv (bk := u5) (jd := u7) (by omega) (by omega) hP hS hl kx
    · refine lv_tableIn (off := 651) (tgt := 897) hx hb dL_law_246 (by rw [hs]; decide) (by rw [hs]; decide) (by rw [hs]; decide +kernel) (by decide) ?_
      exact law_move hx hb hml hown hw ha hB hK hE ht9 hcc hss hhh hjj hIv (bk := u5) (jd := u7) (by omega) (by omega) hP hS hl kx
    · refine lv_tableIn (off := 651) (tgt := 897) hx hb dL_law_246 (by rw [hs]; decide) (by rw [hs]; decide) (by rw [hs]; decide +kernel) (by decide) ?_
      exact law_move hx hb hml hown hw ha hB hK hE ht9 hcc hss hhh hjj hIv (bk := u5) (jd := u7) (by omega) (by omega) hP hS hl kx
    · refine lv_tableIn (off := 901) (tgt := 1147) hx hb dL_law_246 (by rw [hs]; decide) (by rw [hs]; decide) (by rw [hs]; decide +kernel) (by decide) ?_
      exact law_points hx hb hml hown hw ha hB hK hE ht9 hcc hss hhh hjj hIv (bk := u5) (jd := u7) (by omega) (by omega) hP hS hl kx
    · refine lv_tableIn (off := 1003) (tgt := 1249) hx hb dL_law_246 (by rw [hs]; decide) (by rw [hs]; decide) (by rw [hs]; decide +kernel) (by decide) ?_
      exact law_vote hx hb hml hown hw ha hB hK hE ht9 hcc hss hhh hjj hIv (bk := u5) (jd := u7) (by omega) (by omega) hP hS hl kx
    · refine lv_tableIn (off := 1102) (tgt := 1348) hx hb dL_law_246 (by rw [hs]; decide) (by rw [hs]; decide) (by rw [hs]; decide +kernel) (by decide) ?_
      exact law_strip hx hb hml hown hw ha hB hK hE ht9 hcc hss hhh hjj hIv (bk := u5) (jd := u7) (by omega) (by omega) hP hS hl kx
    · refine lv_tableOut (tgt := 1417) hx hb dL_law_246 (Or.inr (by rw [hs]; decide)) (by decide) ?_
      exact law_pass hx hb hml hown hw ha hB hK hE ht9 hcc hss hhh hjj hIv (bk := u5) (jd := u7) (by omega) (by omega) hP hS hl kx
    · refine lv_tableOut (tgt := 1417) hx hb dL_law_246 (Or.inr (by rw [hs]; decide)) (by decide) ?_
      exact law_pass hx hb hml hown hw ha hB hK hE ht9 hcc hss hhh hjj hIv (bk := u5) (jd := u7) (by omega) (by omega) hP hS hl kx
    · refine lv_tableOut (tgt := 1417) hx hb dL_law_246 (Or.inr (by rw [hs]; decide)) (by decide) ?_
      exact law_pass hx hb hml hown hw ha hB hK hE ht9 hcc hss hhh hjj hIv (bk := u5) (jd := u7) (by omega) (by omega) hP hS hl kx
  · skip
    refine lv_iconst (v := iI (-1)) hx hb dL_law_184 (by decide) ?_
    refine lv_goto (tgt := 197) hx hb dL_law_185 (by decide) ?_
    refine lv_istore (lv' := [(10, .int (iI (-1))), (9, .int (iI (g 0 0 4))), (8, .int x8), (0, .ref b), (1, .ref (a 0)), (2, .int (iI hh)), (3, .int (iI jj)), (4, .int (iI paid)), (5, .int (iI printed)), (6, .int (iI called)), (7, .int (iI ((tn : Nat) : Int)))]) hx hb dL_law_197 hl (by decide) rfl (fun ls hl => ?_)
    refine lv_iload hx hb dL_law_199 (lv_at hl 2 rfl) ?_
    refine lv_iconst (v := iI 5) hx hb dL_law_201 (by decide) ?_
    refine lv_ishr hx hb dL_law_202 ?_
    refine lv_iload_n hx hb dL_law_203 rfl (lv_at hl 6 rfl) ?_
    refine va_calli (va_runS (As := [.int (x8 >>> (iI 5 &&& 31)), .int (iI jj)]) (rest := []) ⟨hx, hb, hml, hown, hw⟩ (c_below l D a cH cB cJ cI ha g vt H.size (x8 >>> (iI 5 &&& 31)) jj (by omega)) (va_cwS 2 hw (gA_S kw_64 kw_65 kw_61 kw_66) rfl rfl rfl (by decide +kernel) ⟨Nat.le_of_ble_eq_true rfl, Nat.le_of_ble_eq_true rfl⟩) (pS_s hP hK hE) rfl rfl hl.1 rfl (lv_room (Nat.le_of_ble_eq_true rfl)) dL_law_204 ⟨rm_c (by omega), rm_s (by omega)⟩) hS (fun q h1 h2 => ro_A h1 h2) (fun q h => ro_F hS hA q h) (fun r u t H1 locs ht hvm hw9 hB9 hz1 hk1 hS => ?_)
    have hw9 : r = (iI (m_bel (x8 >>> (iI 5 &&& 31)) jj)) := hw9
    subst hw9
    have hP := ro_P hP hk1
    generalize H1 = H at hP hS ⊢
    have s14 := bel_b (x8 >>> (iI 5 &&& 31)) (n := jj) (by omega)
    obtain ⟨u13, hu13⟩ : ∃ z, z = (m_bel (x8 >>> (iI 5 &&& 31)) jj) := ⟨_, rfl⟩
    have hbu13 : 0 ≤ u13 ∧ u13 < jj := by rw [hu13]; exact bel_b _ (by omega)
    rw [show (m_bel (x8 >>> (iI 5 &&& 31)) jj) = u13 from hu13.symm]
    refine lv_istore (lv' := [(11, .int (iI u13)), (10, .int (iI (-1))), (9, .int (iI (g 0 0 4))), (8, .int x8), (0, .ref b), (1, .ref (a 0)), (2, .int (iI hh)), (3, .int (iI jj)), (4, .int (iI paid)), (5, .int (iI printed)), (6, .int (iI called)), (7, .int (iI ((tn : Nat) : Int)))]) hx hb dL_law_207 hl (by decide) rfl (fun ls hl => ?_)
    refine lv_aload_n hx hb dL_law_209 rfl (lv_at hl 5 rfl) ?_
    refine lv_iconst (v := iI 1) hx hb dL_law_210 (by decide) ?_
    refine va_calli (va_runV (As := [.int (iI 1)]) (rest := []) ⟨hx, hb, hml, hown, hw⟩ (c_many l D a cH cB cJ cI ha g vt H.size 1 hWf (by omega)) (cwV 1 hw (gA_V kw_92 kw_93 kw_94 kw_2 kw_95) rfl rfl rfl (by decide +kernel) ⟨Nat.le_of_ble_eq_true rfl, Nat.le_of_ble_eq_true rfl⟩) (pS_v (ci := 4) (q0 := 0) rfl pw_0 hP hK hE) rfl rfl hl.1 rfl (lv_room (Nat.le_of_ble_eq_true rfl)) dL_law_211 ⟨rm_c (by omega), rm_s (by omega)⟩) hS (fun q h1 h2 => ro_A h1 h2) (fun q h => ro_F hS hA q h) (fun r u t H1 locs ht hvm hw9 hB9 hz1 hk1 hS => ?_)
    have hw9 : r = (iI (m_many g 1)) := hw9
    subst hw9
    have hP := ro_P hP hk1
    generalize H1 = H at hP hS ⊢
    rw [show (m_many g 1) = (g 0 0 9) from rfl]
    have s15 := Wf.m9 hWf
    refine lv_istore (lv' := [(12, .int (iI (g 0 0 9))), (11, .int (iI u13)), (10, .int (iI (-1))), (9, .int (iI (g 0 0 4))), (8, .int x8), (0, .ref b), (1, .ref (a 0)), (2, .int (iI hh)), (3, .int (iI jj)), (4, .int (iI paid)), (5, .int (iI printed)), (6, .int (iI called)), (7, .int (iI ((tn : Nat) : Int)))]) hx hb dL_law_214 hl (by decide) rfl (fun ls hl => ?_)
    refine lv_aload_n hx hb dL_law_216 rfl (lv_at hl 6 rfl) ?_
    refine lv_iconst (v := iI 0) hx hb dL_law_217 (by decide) ?_
    refine va_calli (va_runV (As := [.int (iI 0)]) (rest := []) ⟨hx, hb, hml, hown, hw⟩ (c_many l D a cH cB cJ cI ha g vt H.size 0 hWf (by omega)) (cwV 1 hw (gA_V kw_92 kw_93 kw_94 kw_2 kw_95) rfl rfl rfl (by decide +kernel) ⟨Nat.le_of_ble_eq_true rfl, Nat.le_of_ble_eq_true rfl⟩) (pS_v (ci := 4) (q0 := 0) rfl pw_0 hP hK hE) rfl rfl hl.1 rfl (lv_room (Nat.le_of_ble_eq_true rfl)) dL_law_218 ⟨rm_c (by omega), rm_s (by omega)⟩) hS (fun q h1 h2 => ro_A h1 h2) (fun q h => ro_F hS hA q h) (fun r u t H1 locs ht hvm hw9 hB9 hz1 hk1 hS => ?_)
    have hw9 : r = (iI (m_many g 0)) := hw9
    subst hw9
    have hP := ro_P hP hk1
    generalize H1 = H at hP hS ⊢
    rw [show (m_many g 0) = (g 0 0 8) from rfl]
    have s16 := Wf.m8 hWf
    refine lv_istore (lv' := [(13, .int (iI (g 0 0 8))), (12, .int (iI (g 0 0 9))), (11, .int (iI u13)), (10, .int (iI (-1))), (9, .int (iI (g 0 0 4))), (8, .int x8), (0, .ref b), (1, .ref (a 0)), (2, .int (iI hh)), (3, .int (iI jj)), (4, .int (iI paid)), (5, .int (iI printed)), (6, .int (iI called)), (7, .int (iI ((tn : Nat) : Int)))]) hx hb dL_law_221 hl (by decide) rfl (fun ls hl => ?_)
    refine lv_aload_n hx hb dL_law_223 rfl (lv_at hl 7 rfl) ?_
    refine lv_bipush (v := iI 6) hx hb dL_law_224 (by decide) ?_
    refine va_calli (va_runV (As := [.int (iI 6)]) (rest := []) ⟨hx, hb, hml, hown, hw⟩ (c_many l D a cH cB cJ cI ha g vt H.size 6 hWf (by omega)) (cwV 1 hw (gA_V kw_92 kw_93 kw_94 kw_2 kw_95) rfl rfl rfl (by decide +kernel) ⟨Nat.le_of_ble_eq_true rfl, Nat.le_of_ble_eq_true rfl⟩) (pS_v (ci := 4) (q0 := 0) rfl pw_0 hP hK hE) rfl rfl hl.1 rfl (lv_room (Nat.le_of_ble_eq_true rfl)) dL_law_226 ⟨rm_c (by omega), rm_s (by omega)⟩) hS (fun q h1 h2 => ro_A h1 h2) (fun q h => ro_F hS hA q h) (fun r u t H1 locs ht hvm hw9 hB9 hz1 hk1 hS => ?_)
    have hw9 : r = (iI (m_many g 6)) := hw9
    subst hw9
    have hP := ro_P hP hk1
    generalize H1 = H at hP hS ⊢
    rw [show (m_many g 6) = (m_cnt (m_ent g) (g 0 0 4).toNat) from rfl]
    refine lv_istore (lv' := [(14, .int (iI (m_cnt (m_ent g) (g 0 0 4).toNat))), (13, .int (iI (g 0 0 8))), (12, .int (iI (g 0 0 9))), (11, .int (iI u13)), (10, .int (iI (-1))), (9, .int (iI (g 0 0 4))), (8, .int x8), (0, .ref b), (1, .ref (a 0)), (2, .int (iI hh)), (3, .int (iI jj)), (4, .int (iI paid)), (5, .int (iI printed)), (6, .int (iI called)), (7, .int (iI ((tn : Nat) : Int)))]) hx hb dL_law_229 hl (by decide) rfl (fun ls hl => ?_)
    refine lv_aload_n hx hb dL_law_231 rfl (lv_at hl 8 rfl) ?_
    refine lv_bipush (v := iI 14) hx hb dL_law_232 (by decide) ?_
    refine va_calli (va_runV (As := [.int (iI 14)]) (rest := []) ⟨hx, hb, hml, hown, hw⟩ (c_many l D a cH cB cJ cI ha g vt H.size 14 hWf (by omega)) (cwV 1 hw (gA_V kw_92 kw_93 kw_94 kw_2 kw_95) rfl rfl rfl (by decide +kernel) ⟨Nat.le_of_ble_eq_true rfl, Nat.le_of_ble_eq_true rfl⟩) (pS_v (ci := 4) (q0 := 0) rfl pw_0 hP hK hE) rfl rfl hl.1 rfl (lv_room (Nat.le_of_ble_eq_true rfl)) dL_law_234 ⟨rm_c (by omega), rm_s (by omega)⟩) hS (fun q h1 h2 => ro_A h1 h2) (fun q h => ro_F hS hA q h) (fun r u t H1 locs ht hvm hw9 hB9 hz1 hk1 hS => ?_)
    have hw9 : r = (iI (m_many g 14)) := hw9
    subst hw9
    have hP := ro_P hP hk1
    generalize H1 = H at hP hS ⊢
    refine lv_istore (lv' := [(15, .int (iI (m_many g 14))), (14, .int (iI (m_cnt (m_ent g) (g 0 0 4).toNat))), (13, .int (iI (g 0 0 8))), (12, .int (iI (g 0 0 9))), (11, .int (iI u13)), (10, .int (iI (-1))), (9, .int (iI (g 0 0 4))), (8, .int x8), (0, .ref b), (1, .ref (a 0)), (2, .int (iI hh)), (3, .int (iI jj)), (4, .int (iI paid)), (5, .int (iI printed)), (6, .int (iI called)), (7, .int (iI ((tn : Nat) : Int)))]) hx hb dL_law_237 hl (by decide) rfl (fun ls hl => ?_)
    refine lv_iload hx hb dL_law_239 (lv_at hl 7 rfl) ?_
    refine lv_bipush (v := iI 20) hx hb dL_law_241 (by decide) ?_
    refine va_calli (va_runS (As := [.int x8, .int (iI 20)]) (rest := []) ⟨hx, hb, hml, hown, hw⟩ (c_below l D a cH cB cJ cI ha g vt H.size x8 20 (by omega)) (va_cwS 2 hw (gA_S kw_64 kw_65 kw_61 kw_66) rfl rfl rfl (by decide +kernel) ⟨Nat.le_of_ble_eq_true rfl, Nat.le_of_ble_eq_true rfl⟩) (pS_s hP hK hE) rfl rfl hl.1 rfl (lv_room (Nat.le_of_ble_eq_true rfl)) dL_law_243 ⟨rm_c (by omega), rm_s (by omega)⟩) hS (fun q h1 h2 => ro_A h1 h2) (fun q h => ro_F hS hA q h) (fun r u t H1 locs ht hvm hw9 hB9 hz1 hk1 hS => ?_)
    have hw9 : r = (iI (m_bel x8 20)) := hw9
    subst hw9
    have hP := ro_P hP hk1
    generalize H1 = H at hP hS ⊢
    have s18 := bel_b x8 (n := 20) (by omega)
    obtain ⟨u17, hu17⟩ : ∃ z, z = (m_bel x8 20) := ⟨_, rfl⟩
    have hbu17 : 0 ≤ u17 ∧ u17 < 20 := by rw [hu17]; exact bel_b _ (by omega)
    rw [show (m_bel x8 20) = u17 from hu17.symm]
    have hl : lv_has ls 23 [(0, .ref b), (1, .ref (a 0)), (2, .int (iI hh)), (3, .int (iI jj)), (4, .int (iI paid)), (5, .int (iI printed)), (6, .int (iI called)), (7, .int (iI ((tn : Nat) : Int))), (8, .int x8), (9, .int (iI (g 0 0 4))), (10, .int (iI (-1))), (11, .int (iI u13)), (12, .int (iI (g 0 0 9))), (13, .int (iI (g 0 0 8))), (14, .int (iI (m_cnt (m_ent g) (g 0 0 4).toNat))), (15, .int (iI (m_many g 14)))] := lv_sub hl [8, 9, 10, 11, 12, 13, 14, 15, 7, 6, 5, 4, 3, 2, 1, 0] rfl
    rcases (show u17 = 0 ∨ u17 = 1 ∨ u17 = 2 ∨ u17 = 3 ∨ u17 = 4 ∨ u17 = 5 ∨ u17 = 6 ∨ u17 = 7 ∨ u17 = 8 ∨ u17 = 9 ∨ u17 = 10 ∨ u17 = 11 ∨ u17 = 12 ∨ u17 = 13 ∨ u17 = 14 ∨ u17 = 15 ∨ u17 = 16 ∨ u17 = 17 ∨ u17 = 18 ∨ u17 = 19 from by omega) with hs | hs | hs | hs | hs | hs | hs | hs | hs | hs | hs | hs | hs | hs | hs | hs | hs | hs | hs | hs
    · refine lv_tableIn (off := 82) (tgt := 328) hx hb dL_law_246 (by rw [hs]; decide) (by rw [hs]; decide) (by rw [hs]; decide +kernel) (by decide) ?_
      exact law_book hx hb hml hown hw ha hB hK hE ht9 hcc hss hhh hjj hIv (bk := (-1)) (jd := u13) (by omega) (by omega) hP hS hl kx
    · refine lv_tableIn (off := 82) (tgt := 328) hx hb dL_law_246 (by rw [hs]; decide) (by rw [hs]; decide) (by rw [hs]; decide +kernel) (by decide) ?_
      exact law_book hx hb hml hown hw ha hB hK hE ht9 hcc hss hhh hjj hIv (bk := (-1)) (jd := u13) (by omega) (by omega) hP hS hl kx
    · refine lv_tableIn (off := 82) (tgt := 328) hx hb dL_law_246 (by rw [hs]; decide) (by rw [hs]; decide) (by rw [hs]; decide +kernel) (by decide) ?_
      exact law_book hx hb hml hown hw ha hB hK hE ht9 hcc hss hhh hjj hIv (bk := (-1)) (jd := u13) (by omega) (by omega) hP hS hl kx
    · refine lv_tableIn (off := 173) (tgt := 419) hx hb dL_law_246 (by rw [hs]; decide) (by rw [hs]; decide) (by rw [hs]; decide +kernel) (by decide) ?_
      exact law_conflict hx hb hml hown hw ha hB hK hE ht9 hcc hss hhh hjj hIv (bk := (-1)) (jd := u13) (by omega) (by omega) hP hS hl kx
    · refine lv_tableIn (off := 215) (tgt := 461) hx hb dL_law_246 (by rw [hs]; decide) (by rw [hs]; decide) (by rw [hs]; decide +kernel) (by decide) ?_
      exact law_rules hx hb hml hown hw ha hB hK hE ht9 hcc hss hhh hjj hIv (bk := (-1)) (jd := u13) (by omega) (by omega) hP hS hl kx
    · refine lv_tableIn (off := 284) (tgt := 530) hx hb dL_law_246 (by rw [hs]; decide) (by rw [hs]; decide) (by rw [hs]; decide +kernel) (by decide) ?_
      exact law_enter hx hb hml hown hw ha hB hK hE ht9 hcc hss hhh hjj hIv (bk := (-1)) (jd := u13) (by omega) (by omega) hP hS hl kx
    · refine lv_tableIn (off := 284) (tgt := 530) hx hb dL_law_246 (by rw [hs]; decide) (by rw [hs]; decide) (by rw [hs]; decide +kernel) (by decide) ?_
      exact law_enter hx hb hml hown hw ha hB hK hE ht9 hcc hss hhh hjj hIv (bk := (-1)) (jd := u13) (by omega) (by omega) hP hS hl kx
    · refine lv_tableIn (off := 284) (tgt := 530) hx hb dL_law_246 (by rw [hs]; decide) (by rw [hs]; decide) (by rw [hs]; decide +kernel) (by decide) ?_
      exact law_enter hx hb hml hown hw ha hB hK hE ht9 hcc hss hhh hjj hIv (bk := (-1)) (jd := u13) (by omega) (by omega) hP hS hl kx
    · refine lv_tableIn (off := 284) (tgt := 530) hx hb dL_law_246 (by rw [hs]; decide) (by rw [hs]; decide) (by rw [hs]; decide +kernel) (by decide) ?_
      exact law_enter hx hb hml hown hw ha hB hK hE ht9 hcc hss hhh hjj hIv (bk := (-1)) (jd := u13) (by omega) (by omega) hP hS hl kx
    · refine lv_tableIn (off := 449) (tgt := 695) hx hb dL_law_246 (by rw [hs]; decide) (by rw [hs]; decide) (by rw [hs]; decide +kernel) (by decide) ?_
      exact law_callIn hx hb hml hown hw ha hB hK hE ht9 hcc hss hhh hjj hIv (bk := (-1)) (jd := u13) (by omega) (by omega) hP hS hl kx
    · refine lv_tableIn (off := 593) (tgt := 839) hx hb dL_law_246 (by rw [hs]; decide) (by rw [hs]; decide) (by rw [hs]; decide +kernel) (by decide) ?_
      exact law_print hx hb hml hown hw ha hB hK hE ht9 hcc hss hhh hjj hIv (bk := (-1)) (jd := u13) (by omega) (by omega) hP hS hl kx
    · refine lv_tableIn (off := 651) (tgt := 897) hx hb dL_law_246 (by rw [hs]; decide) (by rw [hs]; decide) (by rw [hs]; decide +kernel) (by decide) ?_
      exact law_move hx hb hml hown hw ha hB hK hE ht9 hcc hss hhh hjj hIv (bk := (-1)) (jd := u13) (by omega) (by omega) hP hS hl kx
    · refine lv_tableIn (off := 651) (tgt := 897) hx hb dL_law_246 (by rw [hs]; decide) (by rw [hs]; decide) (by rw [hs]; decide +kernel) (by decide) ?_
      exact law_move hx hb hml hown hw ha hB hK hE ht9 hcc hss hhh hjj hIv (bk := (-1)) (jd := u13) (by omega) (by omega) hP hS hl kx
    · refine lv_tableIn (off := 651) (tgt := 897) hx hb dL_law_246 (by rw [hs]; decide) (by rw [hs]; decide) (by rw [hs]; decide +kernel) (by decide) ?_
      exact law_move hx hb hml hown hw ha hB hK hE ht9 hcc hss hhh hjj hIv (bk := (-1)) (jd := u13) (by omega) (by omega) hP hS hl kx
    · refine lv_tableIn (off := 901) (tgt := 1147) hx hb dL_law_246 (by rw [hs]; decide) (by rw [hs]; decide) (by rw [hs]; decide +kernel) (by decide) ?_
      exact law_points hx hb hml hown hw ha hB hK hE ht9 hcc hss hhh hjj hIv (bk := (-1)) (jd := u13) (by omega) (by omega) hP hS hl kx
    · refine lv_tableIn (off := 1003) (tgt := 1249) hx hb dL_law_246 (by rw [hs]; decide) (by rw [hs]; decide) (by rw [hs]; decide +kernel) (by decide) ?_
      exact law_vote hx hb hml hown hw ha hB hK hE ht9 hcc hss hhh hjj hIv (bk := (-1)) (jd := u13) (by omega) (by omega) hP hS hl kx
    · refine lv_tableIn (off := 1102) (tgt := 1348) hx hb dL_law_246 (by rw [hs]; decide) (by rw [hs]; decide) (by rw [hs]; decide +kernel) (by decide) ?_
      exact law_strip hx hb hml hown hw ha hB hK hE ht9 hcc hss hhh hjj hIv (bk := (-1)) (jd := u13) (by omega) (by omega) hP hS hl kx
    · refine lv_tableOut (tgt := 1417) hx hb dL_law_246 (Or.inr (by rw [hs]; decide)) (by decide) ?_
      exact law_pass hx hb hml hown hw ha hB hK hE ht9 hcc hss hhh hjj hIv (bk := (-1)) (jd := u13) (by omega) (by omega) hP hS hl kx
    · refine lv_tableOut (tgt := 1417) hx hb dL_law_246 (Or.inr (by rw [hs]; decide)) (by decide) ?_
      exact law_pass hx hb hml hown hw ha hB hK hE ht9 hcc hss hhh hjj hIv (bk := (-1)) (jd := u13) (by omega) (by omega) hP hS hl kx
    · refine lv_tableOut (tgt := 1417) hx hb dL_law_246 (Or.inr (by rw [hs]; decide)) (by decide) ?_
      exact law_pass hx hb hml hown hw ha hB hK hE ht9 hcc hss hhh hjj hIv (bk := (-1)) (jd := u13) (by omega) (by omega) hP hS hl kx

set_option maxHeartbeats 4000000 in
set_option maxRecDepth 100000 in
theorem law_case0 {p : Program} {l : Launch} {e : Env} {R : Room} {s : State} {m : MethodId} {args : Array Value} {below : List Frame} {meth : Method} {c : Code} {H : Heap} {locs : List Loc} {cells slots : Nat} {Q : State → Prop} {ls : Array Slot} {G : Gx} {A : Nat → Prop} {H0 : Heap} {b L x0 y0 : Nat} {xs : Nat → Int32} {i : Int32} {ad adT : Nat → Nat} {nr nm cn : Nat} {s0 t0 : S2} (F : LF p R s m args c G A H0 b L xs) (hl : lv_has ls 4 [(3, .int i), (2, .ref y0), (1, .ref x0), (0, .ref b)]) (h1 : vp_in (i + 1) L) (h2 : vp_in (i + 2) L) (h3 : vp_in (i + 3) L) (hw : two G A ad nr nm s0 adT t0 H) (h0 : ad 0 = x0) (hT : adT 0 = y0) (hM : Sim cn nr nm s0 t0) (hc0 : cn ≤ 100000) (hS : va_S A H0 H locs) (hcell : cells + 3 ≤ R.cells) (hslot : slots + 24 ≤ R.slots)
    (kk : ∀ (ad1 : Nat → Nat) (nr1 nm1 : Nat) (s1 t1 : S2) (H1 : Heap) (locs1 : List Loc), ad1 0 = x0 → two G A ad1 nr1 nm1 s1 adT t1 H1 → Sim (cn + 1) nr1 nm1 s1 t1 → va_S A H0 H1 locs1 → W p l e R s m args below meth c H1 locs1 (cells + 3) (slots + 24) Q (F0 m 780 ls [])) : W p l e R s m args below meth c H locs cells slots Q (F0 m 128 ls []) := by
  refine lv_aload_n F.hx F.hb d_L_law_128 rfl (lv_at hl 2 rfl) ?_
  refine lv_aload_n F.hx F.hb d_L_law_129 rfl (lv_at hl 3 rfl) ?_
  refine lv_iload_n F.hx F.hb d_L_law_130 rfl (lv_at hl 0 rfl) ?_
  refine lv_iconst (v := 1) F.hx F.hb d_L_law_131 (by decide) ?_
  refine lv_iadd F.hx F.hb d_L_law_132 ?_
  refine va_sld F.hx F.hb F.hX F.hbl F.hbA hS h1 d_L_law_133 ?_
  refine lv_aload_n F.hx F.hb d_L_law_134 rfl (lv_at hl 3 rfl) ?_
  refine lv_iload_n F.hx F.hb d_L_law_135 rfl (lv_at hl 0 rfl) ?_
  refine lv_iconst (v := 2) F.hx F.hb d_L_law_136 (by decide) ?_
  refine lv_iadd F.hx F.hb d_L_law_137 ?_
  refine va_sld F.hx F.hb F.hX F.hbl F.hbA hS h2 d_L_law_138 ?_
  have kb139 : W p l e R s m args below meth c H locs cells slots Q (F0 m 147 ls [.int (bz (xs (Int32.toNatClampNeg (i + 2)))), .int (xs (Int32.toNatClampNeg (i + 1))), .ref x0]) := by
    refine lv_aload_n F.hx F.hb d_L_law_147 rfl (lv_at hl 3 rfl) ?_
    refine lv_iload_n F.hx F.hb d_L_law_148 rfl (lv_at hl 0 rfl) ?_
    refine lv_iconst (v := 3) F.hx F.hb d_L_law_149 (by decide) ?_
    refine lv_iadd F.hx F.hb d_L_law_150 ?_
    refine va_sld F.hx F.hb F.hX F.hbl F.hbA hS h3 d_L_law_151 ?_
    refine lawC (As := [.int (xs (Int32.toNatClampNeg (i + 1))), .int (bz (xs (Int32.toNatClampNeg (i + 2)))), .int (xs (Int32.toNatClampNeg (i + 3)))]) (rest := []) (st1 := [.int (f_C_release nr s0 (xs (Int32.toNatClampNeg (i + 1))) (bz (xs (Int32.toNatClampNeg (i + 2)))) (xs (Int32.toNatClampNeg (i + 3)))).1]) (mc := 3) (ms := 24) (nr1 := (f_C_release nr s0 (xs (Int32.toNatClampNeg (i + 1))) (bz (xs (Int32.toNatClampNeg (i + 2)))) (xs (Int32.toNatClampNeg (i + 3)))).2.1) (nm1 := nm) (sc1 := (f_C_release nr s0 (xs (Int32.toNatClampNeg (i + 1))) (bz (xs (Int32.toNatClampNeg (i + 2)))) (xs (Int32.toNatClampNeg (i + 3)))).2.2) (r := .int (f_C_release nr s0 (xs (Int32.toNatClampNeg (i + 1))) (bz (xs (Int32.toNatClampNeg (i + 2)))) (xs (Int32.toNatClampNeg (i + 3)))).1) ⟨F.hx, F.hb, F.hml, F.hown, F.hts⟩ (cc_C_release l G (fun q => A q ∧ ¬ TA adT q) ad nr nm hM.hnr hM.hnm s0 (xs (Int32.toNatClampNeg (i + 1))) (bz (xs (Int32.toNatClampNeg (i + 2)))) (xs (Int32.toNatClampNeg (i + 3))) hM.c4 (bz_01 _)) (fun _ _ h => h) tw_83 tw_80 tw_81 tw_82 tw_1 hd_C_release rfl rfl ⟨Nat.le_trans (m := 9) (Nat.le_of_ble_eq_true rfl) F.hR.1, Nat.le_trans (m := 318) (Nat.le_of_ble_eq_true rfl) F.hR.2⟩ F.hK hw h0 hS hl.1 rfl (Nat.le_of_ble_eq_true rfl) ⟨by omega, by omega⟩ d_L_law_152 rfl (fun ad1 H locs h0 hw hS => ?_)
    refine W.widen (k := cells + 3) (n := slots + 24) (by omega) (by omega) ?_
    refine lv_aload_n F.hx F.hb d_L_law_155 rfl (lv_at hl 1 rfl) ?_
    refine lv_aload_n F.hx F.hb d_L_law_156 rfl (lv_at hl 3 rfl) ?_
    refine lv_iload_n F.hx F.hb d_L_law_157 rfl (lv_at hl 0 rfl) ?_
    refine lv_iconst (v := 1) F.hx F.hb d_L_law_158 (by decide) ?_
    refine lv_iadd F.hx F.hb d_L_law_159 ?_
    refine va_sld F.hx F.hb F.hX F.hbl F.hbA hS h1 d_L_law_160 ?_
    refine lv_aload_n F.hx F.hb d_L_law_161 rfl (lv_at hl 3 rfl) ?_
    refine lv_iload_n F.hx F.hb d_L_law_162 rfl (lv_at hl 0 rfl) ?_
    refine lv_iconst (v := 2) F.hx F.hb d_L_law_163 (by decide) ?_
    refine lv_iadd F.hx F.hb d_L_law_164 ?_
    refine va_sld F.hx F.hb F.hX F.hbl F.hbA hS h2 d_L_law_165 ?_
    have kb166 : W p l e R s m args below meth c H locs (cells + 3) (slots + 24) Q (F0 m 174 ls [.int (bz (xs (Int32.toNatClampNeg (i + 2)))), .int (xs (Int32.toNatClampNeg (i + 1))), .ref y0, .int (f_C_release nr s0 (xs (Int32.toNatClampNeg (i + 1))) (bz (xs (Int32.toNatClampNeg (i + 2)))) (xs (Int32.toNatClampNeg (i + 3)))).1]) := by
      refine lv_aload_n F.hx F.hb d_L_law_174 rfl (lv_at hl 3 rfl) ?_
      refine lv_iload_n F.hx F.hb d_L_law_175 rfl (lv_at hl 0 rfl) ?_
      refine lv_iconst (v := 3) F.hx F.hb d_L_law_176 (by decide) ?_
      refine lv_iadd F.hx F.hb d_L_law_177 ?_
      refine va_sld F.hx F.hb F.hX F.hbl F.hbA hS h3 d_L_law_178 ?_
      refine lawT (As := [.int (xs (Int32.toNatClampNeg (i + 1))), .int (bz (xs (Int32.toNatClampNeg (i + 2)))), .int (xs (Int32.toNatClampNeg (i + 3)))]) (rest := [.int (f_C_release nr s0 (xs (Int32.toNatClampNeg (i + 1))) (bz (xs (Int32.toNatClampNeg (i + 2)))) (xs (Int32.toNatClampNeg (i + 3)))).1]) (st1 := [.int (f_T_release t0 (xs (Int32.toNatClampNeg (i + 1))) (bz (xs (Int32.toNatClampNeg (i + 2)))) (xs (Int32.toNatClampNeg (i + 3)))).1, .int (f_C_release nr s0 (xs (Int32.toNatClampNeg (i + 1))) (bz (xs (Int32.toNatClampNeg (i + 2)))) (xs (Int32.toNatClampNeg (i + 3)))).1]) (t1 := (f_T_release t0 (xs (Int32.toNatClampNeg (i + 1))) (bz (xs (Int32.toNatClampNeg (i + 2)))) (xs (Int32.toNatClampNeg (i + 3)))).2) (r := .int (f_T_release t0 (xs (Int32.toNatClampNeg (i + 1))) (bz (xs (Int32.toNatClampNeg (i + 2)))) (xs (Int32.toNatClampNeg (i + 3)))).1) ⟨F.hx, F.hb, F.hml, F.hown, F.hts⟩ (cc_T_release l G (fun q => A q ∧ ¬ CA G ad1 ((f_C_release nr s0 (xs (Int32.toNatClampNeg (i + 1))) (bz (xs (Int32.toNatClampNeg (i + 2)))) (xs (Int32.toNatClampNeg (i + 3)))).2.1) (nm) ((f_C_release nr s0 (xs (Int32.toNatClampNeg (i + 1))) (bz (xs (Int32.toNatClampNeg (i + 2)))) (xs (Int32.toNatClampNeg (i + 3)))).2.2) q) adT t0 (xs (Int32.toNatClampNeg (i + 1))) (bz (xs (Int32.toNatClampNeg (i + 2)))) (xs (Int32.toNatClampNeg (i + 3))) hM.wt (bz_n _)) tw_507 tw_504 tw_505 tw_506 tw_4 hd_T_release rfl rfl ⟨Nat.le_trans (m := 9) (Nat.le_of_ble_eq_true rfl) F.hR.1, Nat.le_trans (m := 318) (Nat.le_of_ble_eq_true rfl) F.hR.2⟩ F.hK hw hT hS hl.1 rfl (Nat.le_of_ble_eq_true rfl) ⟨by omega, by omega⟩ d_L_law_179 rfl (fun H locs hw hS => ?_)
      have sm := sim_release (a1 := xs (Int32.toNatClampNeg (i + 1))) (a2 := bz (xs (Int32.toNatClampNeg (i + 2)))) (a3 := xs (Int32.toNatClampNeg (i + 3))) hM
      refine lv_icmp_eq (tgt := 780) F.hx F.hb d_L_law_182 (by decide) (fun _ => ?_) (fun h => absurd sm.1 h)
      exact kk ad1 _ _ _ _ H locs h0 hw (sm.2.mono (Nat.le_succ _)) hS
    refine lv_if_eq (tgt := 173) F.hx F.hb d_L_law_166 (by decide) (fun hz166 => ?_) (fun hz166 => ?_)
    · refine lv_iconst (v := 0) F.hx F.hb d_L_law_173 (by decide) ?_
      have e0 : bz (xs (Int32.toNatClampNeg (i + 2))) = 0 := if_pos hz166
      refine W.eq (g2 := F0 m (173 + 1) ls [.int (bz (xs (Int32.toNatClampNeg (i + 2)))), .int (xs (Int32.toNatClampNeg (i + 1))), .ref y0, .int (f_C_release nr s0 (xs (Int32.toNatClampNeg (i + 1))) (bz (xs (Int32.toNatClampNeg (i + 2)))) (xs (Int32.toNatClampNeg (i + 3)))).1]) (by rw [e0]) ?_
      exact kb166
    · refine lv_iconst (v := 1) F.hx F.hb d_L_law_169 (by decide) ?_
      refine lv_goto (tgt := 174) F.hx F.hb d_L_law_170 (by decide) ?_
      have e0 : bz (xs (Int32.toNatClampNeg (i + 2))) = 1 := if_neg hz166
      refine W.eq (g2 := F0 m 174 ls [.int (bz (xs (Int32.toNatClampNeg (i + 2)))), .int (xs (Int32.toNatClampNeg (i + 1))), .ref y0, .int (f_C_release nr s0 (xs (Int32.toNatClampNeg (i + 1))) (bz (xs (Int32.toNatClampNeg (i + 2)))) (xs (Int32.toNatClampNeg (i + 3)))).1]) (by rw [e0]) ?_
      exact kb166
  refine lv_if_eq (tgt := 146) F.hx F.hb d_L_law_139 (by decide) (fun hz139 => ?_) (fun hz139 => ?_)
  · refine lv_iconst (v := 0) F.hx F.hb d_L_law_146 (by decide) ?_
    have e0 : bz (xs (Int32.toNatClampNeg (i + 2))) = 0 := if_pos hz139
    refine W.eq (g2 := F0 m (146 + 1) ls [.int (bz (xs (Int32.toNatClampNeg (i + 2)))), .int (xs (Int32.toNatClampNeg (i + 1))), .ref x0]) (by rw [e0]) ?_
    exact kb139
  · refine lv_iconst (v := 1) F.hx F.hb d_L_law_142 (by decide) ?_
    refine lv_goto (tgt := 147) F.hx F.hb d_L_law_143 (by decide) ?_
    have e0 : bz (xs (Int32.toNatClampNeg (i + 2))) = 1 := if_neg hz139
    refine W.eq (g2 := F0 m 147 ls [.int (bz (xs (Int32.toNatClampNeg (i + 2)))), .int (xs (Int32.toNatClampNeg (i + 1))), .ref x0]) (by rw [e0]) ?_
    exact kb139

set_option maxHeartbeats 4000000 in
set_option maxRecDepth 100000 in
theorem law_case1 {p : Program} {l : Launch} {e : Env} {R : Room} {s : State} {m : MethodId} {args : Array Value} {below : List Frame} {meth : Method} {c : Code} {H : Heap} {locs : List Loc} {cells slots : Nat} {Q : State → Prop} {ls : Array Slot} {G : Gx} {A : Nat → Prop} {H0 : Heap} {b L x0 y0 : Nat} {xs : Nat → Int32} {i : Int32} {ad adT : Nat → Nat} {nr nm cn : Nat} {s0 t0 : S2} (F : LF p R s m args c G A H0 b L xs) (hl : lv_has ls 4 [(3, .int i), (2, .ref y0), (1, .ref x0), (0, .ref b)]) (h1 : vp_in (i + 1) L) (h2 : vp_in (i + 2) L) (h3 : vp_in (i + 3) L) (hw : two G A ad nr nm s0 adT t0 H) (h0 : ad 0 = x0) (hT : adT 0 = y0) (hM : Sim cn nr nm s0 t0) (hc0 : cn ≤ 100000) (hS : va_S A H0 H locs) (hcell : cells + 3 ≤ R.cells) (hslot : slots + 24 ≤ R.slots)
    (kk : ∀ (ad1 : Nat → Nat) (nr1 nm1 : Nat) (s1 t1 : S2) (H1 : Heap) (locs1 : List Loc), ad1 0 = x0 → two G A ad1 nr1 nm1 s1 adT t1 H1 → Sim (cn + 1) nr1 nm1 s1 t1 → va_S A H0 H1 locs1 → W p l e R s m args below meth c H1 locs1 (cells + 3) (slots + 24) Q (F0 m 780 ls [])) : W p l e R s m args below meth c H locs cells slots Q (F0 m 187 ls []) := by
  refine lv_aload_n F.hx F.hb d_L_law_187 rfl (lv_at hl 2 rfl) ?_
  refine lv_aload_n F.hx F.hb d_L_law_188 rfl (lv_at hl 3 rfl) ?_
  refine lv_iload_n F.hx F.hb d_L_law_189 rfl (lv_at hl 0 rfl) ?_
  refine lv_iconst (v := 1) F.hx F.hb d_L_law_190 (by decide) ?_
  refine lv_iadd F.hx F.hb d_L_law_191 ?_
  refine va_sld F.hx F.hb F.hX F.hbl F.hbA hS h1 d_L_law_192 ?_
  refine lv_aload_n F.hx F.hb d_L_law_193 rfl (lv_at hl 3 rfl) ?_
  refine lv_iload_n F.hx F.hb d_L_law_194 rfl (lv_at hl 0 rfl) ?_
  refine lv_iconst (v := 2) F.hx F.hb d_L_law_195 (by decide) ?_
  refine lv_iadd F.hx F.hb d_L_law_196 ?_
  refine va_sld F.hx F.hb F.hX F.hbl F.hbA hS h2 d_L_law_197 ?_
  refine lv_aload_n F.hx F.hb d_L_law_198 rfl (lv_at hl 3 rfl) ?_
  refine lv_iload_n F.hx F.hb d_L_law_199 rfl (lv_at hl 0 rfl) ?_
  refine lv_iconst (v := 3) F.hx F.hb d_L_law_200 (by decide) ?_
  refine lv_iadd F.hx F.hb d_L_law_201 ?_
  refine va_sld F.hx F.hb F.hX F.hbl F.hbA hS h3 d_L_law_202 ?_
  refine lawC (As := [.int (xs (Int32.toNatClampNeg (i + 1))), .int (xs (Int32.toNatClampNeg (i + 2))), .int (xs (Int32.toNatClampNeg (i + 3)))]) (rest := []) (st1 := [.int (f_C_stage nr nm s0 (xs (Int32.toNatClampNeg (i + 1))) (xs (Int32.toNatClampNeg (i + 2))) (xs (Int32.toNatClampNeg (i + 3)))).1]) (mc := 0) (ms := 0) (nr1 := nr) (nm1 := nm) (sc1 := (f_C_stage nr nm s0 (xs (Int32.toNatClampNeg (i + 1))) (xs (Int32.toNatClampNeg (i + 2))) (xs (Int32.toNatClampNeg (i + 3)))).2) (r := .int (f_C_stage nr nm s0 (xs (Int32.toNatClampNeg (i + 1))) (xs (Int32.toNatClampNeg (i + 2))) (xs (Int32.toNatClampNeg (i + 3)))).1) ⟨F.hx, F.hb, F.hml, F.hown, F.hts⟩ (cc_C_stage l G (fun q => A q ∧ ¬ TA adT q) ad nr nm hM.hnr hM.hnm s0 (xs (Int32.toNatClampNeg (i + 1))) (xs (Int32.toNatClampNeg (i + 2))) (xs (Int32.toNatClampNeg (i + 3))) (fun i hi => by rw [(hM.rel i hi).r5]; exact (hM.rel i hi).r5b)) (fun _ _ h => ⟨congrFun h.1 0, by obtain ⟨rfl, rfl⟩ := h; rfl⟩) tw_147 tw_144 tw_145 tw_146 tw_1 hd_C_stage rfl rfl ⟨Nat.le_trans (m := 9) (Nat.le_of_ble_eq_true rfl) F.hR.1, Nat.le_trans (m := 318) (Nat.le_of_ble_eq_true rfl) F.hR.2⟩ F.hK hw h0 hS hl.1 rfl (Nat.le_of_ble_eq_true rfl) ⟨by omega, by omega⟩ d_L_law_203 rfl (fun ad1 H locs h0 hw hS => ?_)
  refine W.widen (k := cells + 3) (n := slots + 24) (by omega) (by omega) ?_
  refine lv_aload_n F.hx F.hb d_L_law_206 rfl (lv_at hl 1 rfl) ?_
  refine lv_aload_n F.hx F.hb d_L_law_207 rfl (lv_at hl 3 rfl) ?_
  refine lv_iload_n F.hx F.hb d_L_law_208 rfl (lv_at hl 0 rfl) ?_
  refine lv_iconst (v := 1) F.hx F.hb d_L_law_209 (by decide) ?_
  refine lv_iadd F.hx F.hb d_L_law_210 ?_
  refine va_sld F.hx F.hb F.hX F.hbl F.hbA hS h1 d_L_law_211 ?_
  refine lv_aload_n F.hx F.hb d_L_law_212 rfl (lv_at hl 3 rfl) ?_
  refine lv_iload_n F.hx F.hb d_L_law_213 rfl (lv_at hl 0 rfl) ?_
  refine lv_iconst (v := 2) F.hx F.hb d_L_law_214 (by decide) ?_
  refine lv_iadd F.hx F.hb d_L_law_215 ?_
  refine va_sld F.hx F.hb F.hX F.hbl F.hbA hS h2 d_L_law_216 ?_
  refine lv_aload_n F.hx F.hb d_L_law_217 rfl (lv_at hl 3 rfl) ?_
  refine lv_iload_n F.hx F.hb d_L_law_218 rfl (lv_at hl 0 rfl) ?_
  refine lv_iconst (v := 3) F.hx F.hb d_L_law_219 (by decide) ?_
  refine lv_iadd F.hx F.hb d_L_law_220 ?_
  refine va_sld F.hx F.hb F.hX F.hbl F.hbA hS h3 d_L_law_221 ?_
  refine lawT (As := [.int (xs (Int32.toNatClampNeg (i + 1))), .int (xs (Int32.toNatClampNeg (i + 2))), .int (xs (Int32.toNatClampNeg (i + 3)))]) (rest := [.int (f_C_stage nr nm s0 (xs (Int32.toNatClampNeg (i + 1))) (xs (Int32.toNatClampNeg (i + 2))) (xs (Int32.toNatClampNeg (i + 3)))).1]) (st1 := [.int (f_T_stage t0 (xs (Int32.toNatClampNeg (i + 1))) (xs (Int32.toNatClampNeg (i + 2))) (xs (Int32.toNatClampNeg (i + 3)))).1, .int (f_C_stage nr nm s0 (xs (Int32.toNatClampNeg (i + 1))) (xs (Int32.toNatClampNeg (i + 2))) (xs (Int32.toNatClampNeg (i + 3)))).1]) (t1 := (f_T_stage t0 (xs (Int32.toNatClampNeg (i + 1))) (xs (Int32.toNatClampNeg (i + 2))) (xs (Int32.toNatClampNeg (i + 3)))).2) (r := .int (f_T_stage t0 (xs (Int32.toNatClampNeg (i + 1))) (xs (Int32.toNatClampNeg (i + 2))) (xs (Int32.toNatClampNeg (i + 3)))).1) ⟨F.hx, F.hb, F.hml, F.hown, F.hts⟩ (cc_T_stage l G (fun q => A q ∧ ¬ CA G ad1 (nr) (nm) ((f_C_stage nr nm s0 (xs (Int32.toNatClampNeg (i + 1))) (xs (Int32.toNatClampNeg (i + 2))) (xs (Int32.toNatClampNeg (i + 3)))).2) q) adT t0 (xs (Int32.toNatClampNeg (i + 1))) (xs (Int32.toNatClampNeg (i + 2))) (xs (Int32.toNatClampNeg (i + 3))) hM.wt) tw_515 tw_512 tw_513 tw_514 tw_4 hd_T_stage rfl rfl ⟨Nat.le_trans (m := 9) (Nat.le_of_ble_eq_true rfl) F.hR.1, Nat.le_trans (m := 318) (Nat.le_of_ble_eq_true rfl) F.hR.2⟩ F.hK hw hT hS hl.1 rfl (Nat.le_of_ble_eq_true rfl) ⟨by omega, by omega⟩ d_L_law_222 rfl (fun H locs hw hS => ?_)
  have sm := sim_stage (a1 := xs (Int32.toNatClampNeg (i + 1))) (a2 := xs (Int32.toNatClampNeg (i + 2))) (a3 := xs (Int32.toNatClampNeg (i + 3))) hM
  refine lv_icmp_eq (tgt := 780) F.hx F.hb d_L_law_225 (by decide) (fun _ => ?_) (fun h => absurd sm.1 h)
  exact kk ad1 _ _ _ _ H locs h0 hw (sm.2.mono (Nat.le_succ _)) hS

set_option maxHeartbeats 4000000 in
set_option maxRecDepth 100000 in
theorem law_case2 {p : Program} {l : Launch} {e : Env} {R : Room} {s : State} {m : MethodId} {args : Array Value} {below : List Frame} {meth : Method} {c : Code} {H : Heap} {locs : List Loc} {cells slots : Nat} {Q : State → Prop} {ls : Array Slot} {G : Gx} {A : Nat → Prop} {H0 : Heap} {b L x0 y0 : Nat} {xs : Nat → Int32} {i : Int32} {ad adT : Nat → Nat} {nr nm cn : Nat} {s0 t0 : S2} (F : LF p R s m args c G A H0 b L xs) (hl : lv_has ls 4 [(3, .int i), (2, .ref y0), (1, .ref x0), (0, .ref b)]) (h1 : vp_in (i + 1) L) (h2 : vp_in (i + 2) L) (h3 : vp_in (i + 3) L) (hw : two G A ad nr nm s0 adT t0 H) (h0 : ad 0 = x0) (hT : adT 0 = y0) (hM : Sim cn nr nm s0 t0) (hc0 : cn ≤ 100000) (hS : va_S A H0 H locs) (hcell : cells + 3 ≤ R.cells) (hslot : slots + 24 ≤ R.slots)
    (kk : ∀ (ad1 : Nat → Nat) (nr1 nm1 : Nat) (s1 t1 : S2) (H1 : Heap) (locs1 : List Loc), ad1 0 = x0 → two G A ad1 nr1 nm1 s1 adT t1 H1 → Sim (cn + 1) nr1 nm1 s1 t1 → va_S A H0 H1 locs1 → W p l e R s m args below meth c H1 locs1 (cells + 3) (slots + 24) Q (F0 m 780 ls [])) : W p l e R s m args below meth c H locs cells slots Q (F0 m 230 ls []) := by
  refine lv_aload_n F.hx F.hb d_L_law_230 rfl (lv_at hl 2 rfl) ?_
  refine lv_aload_n F.hx F.hb d_L_law_231 rfl (lv_at hl 3 rfl) ?_
  refine lv_iload_n F.hx F.hb d_L_law_232 rfl (lv_at hl 0 rfl) ?_
  refine lv_iconst (v := 1) F.hx F.hb d_L_law_233 (by decide) ?_
  refine lv_iadd F.hx F.hb d_L_law_234 ?_
  refine va_sld F.hx F.hb F.hX F.hbl F.hbA hS h1 d_L_law_235 ?_
  refine lv_aload_n F.hx F.hb d_L_law_236 rfl (lv_at hl 3 rfl) ?_
  refine lv_iload_n F.hx F.hb d_L_law_237 rfl (lv_at hl 0 rfl) ?_
  refine lv_iconst (v := 2) F.hx F.hb d_L_law_238 (by decide) ?_
  refine lv_iadd F.hx F.hb d_L_law_239 ?_
  refine va_sld F.hx F.hb F.hX F.hbl F.hbA hS h2 d_L_law_240 ?_
  refine lv_aload_n F.hx F.hb d_L_law_241 rfl (lv_at hl 3 rfl) ?_
  refine lv_iload_n F.hx F.hb d_L_law_242 rfl (lv_at hl 0 rfl) ?_
  refine lv_iconst (v := 3) F.hx F.hb d_L_law_243 (by decide) ?_
  refine lv_iadd F.hx F.hb d_L_law_244 ?_
  refine va_sld F.hx F.hb F.hX F.hbl F.hbA hS h3 d_L_law_245 ?_
  refine lawC (As := [.int (xs (Int32.toNatClampNeg (i + 1))), .int (xs (Int32.toNatClampNeg (i + 2))), .int (xs (Int32.toNatClampNeg (i + 3)))]) (rest := []) (st1 := [.int (f_C_health nr nm s0 (xs (Int32.toNatClampNeg (i + 1))) (xs (Int32.toNatClampNeg (i + 2))) (xs (Int32.toNatClampNeg (i + 3)))).1]) (mc := 0) (ms := 0) (nr1 := nr) (nm1 := nm) (sc1 := (f_C_health nr nm s0 (xs (Int32.toNatClampNeg (i + 1))) (xs (Int32.toNatClampNeg (i + 2))) (xs (Int32.toNatClampNeg (i + 3)))).2) (r := .int (f_C_health nr nm s0 (xs (Int32.toNatClampNeg (i + 1))) (xs (Int32.toNatClampNeg (i + 2))) (xs (Int32.toNatClampNeg (i + 3)))).1) ⟨F.hx, F.hb, F.hml, F.hown, F.hts⟩ (cc_C_health l G (fun q => A q ∧ ¬ TA adT q) ad nr nm hM.hnr hM.hnm s0 (xs (Int32.toNatClampNeg (i + 1))) (xs (Int32.toNatClampNeg (i + 2))) (xs (Int32.toNatClampNeg (i + 3)))) (fun _ _ h => ⟨congrFun h.1 0, by obtain ⟨rfl, rfl⟩ := h; rfl⟩) tw_160 tw_157 tw_158 tw_159 tw_1 hd_C_health rfl rfl ⟨Nat.le_trans (m := 9) (Nat.le_of_ble_eq_true rfl) F.hR.1, Nat.le_trans (m := 318) (Nat.le_of_ble_eq_true rfl) F.hR.2⟩ F.hK hw h0 hS hl.1 rfl (Nat.le_of_ble_eq_true rfl) ⟨by omega, by omega⟩ d_L_law_246 rfl (fun ad1 H locs h0 hw hS => ?_)
  refine W.widen (k := cells + 3) (n := slots + 24) (by omega) (by omega) ?_
  refine lv_aload_n F.hx F.hb d_L_law_249 rfl (lv_at hl 1 rfl) ?_
  refine lv_aload_n F.hx F.hb d_L_law_250 rfl (lv_at hl 3 rfl) ?_
  refine lv_iload_n F.hx F.hb d_L_law_251 rfl (lv_at hl 0 rfl) ?_
  refine lv_iconst (v := 1) F.hx F.hb d_L_law_252 (by decide) ?_
  refine lv_iadd F.hx F.hb d_L_law_253 ?_
  refine va_sld F.hx F.hb F.hX F.hbl F.hbA hS h1 d_L_law_254 ?_
  refine lv_aload_n F.hx F.hb d_L_law_255 rfl (lv_at hl 3 rfl) ?_
  refine lv_iload_n F.hx F.hb d_L_law_256 rfl (lv_at hl 0 rfl) ?_
  refine lv_iconst (v := 2) F.hx F.hb d_L_law_257 (by decide) ?_
  refine lv_iadd F.hx F.hb d_L_law_258 ?_
  refine va_sld F.hx F.hb F.hX F.hbl F.hbA hS h2 d_L_law_259 ?_
  refine lv_aload_n F.hx F.hb d_L_law_260 rfl (lv_at hl 3 rfl) ?_
  refine lv_iload_n F.hx F.hb d_L_law_261 rfl (lv_at hl 0 rfl) ?_
  refine lv_iconst (v := 3) F.hx F.hb d_L_law_262 (by decide) ?_
  refine lv_iadd F.hx F.hb d_L_law_263 ?_
  refine va_sld F.hx F.hb F.hX F.hbl F.hbA hS h3 d_L_law_264 ?_
  refine lawT (As := [.int (xs (Int32.toNatClampNeg (i + 1))), .int (xs (Int32.toNatClampNeg (i + 2))), .int (xs (Int32.toNatClampNeg (i + 3)))]) (rest := [.int (f_C_health nr nm s0 (xs (Int32.toNatClampNeg (i + 1))) (xs (Int32.toNatClampNeg (i + 2))) (xs (Int32.toNatClampNeg (i + 3)))).1]) (st1 := [.int (f_T_health t0 (xs (Int32.toNatClampNeg (i + 1))) (xs (Int32.toNatClampNeg (i + 2))) (xs (Int32.toNatClampNeg (i + 3)))).1, .int (f_C_health nr nm s0 (xs (Int32.toNatClampNeg (i + 1))) (xs (Int32.toNatClampNeg (i + 2))) (xs (Int32.toNatClampNeg (i + 3)))).1]) (t1 := (f_T_health t0 (xs (Int32.toNatClampNeg (i + 1))) (xs (Int32.toNatClampNeg (i + 2))) (xs (Int32.toNatClampNeg (i + 3)))).2) (r := .int (f_T_health t0 (xs (Int32.toNatClampNeg (i + 1))) (xs (Int32.toNatClampNeg (i + 2))) (xs (Int32.toNatClampNeg (i + 3)))).1) ⟨F.hx, F.hb, F.hml, F.hown, F.hts⟩ (cc_T_health l G (fun q => A q ∧ ¬ CA G ad1 (nr) (nm) ((f_C_health nr nm s0 (xs (Int32.toNatClampNeg (i + 1))) (xs (Int32.toNatClampNeg (i + 2))) (xs (Int32.toNatClampNeg (i + 3)))).2) q) adT t0 (xs (Int32.toNatClampNeg (i + 1))) (xs (Int32.toNatClampNeg (i + 2))) (xs (Int32.toNatClampNeg (i + 3))) hM.wt) tw_523 tw_520 tw_521 tw_522 tw_4 hd_T_health rfl rfl ⟨Nat.le_trans (m := 9) (Nat.le_of_ble_eq_true rfl) F.hR.1, Nat.le_trans (m := 318) (Nat.le_of_ble_eq_true rfl) F.hR.2⟩ F.hK hw hT hS hl.1 rfl (Nat.le_of_ble_eq_true rfl) ⟨by omega, by omega⟩ d_L_law_265 rfl (fun H locs hw hS => ?_)
  have sm := sim_health (a1 := xs (Int32.toNatClampNeg (i + 1))) (a2 := xs (Int32.toNatClampNeg (i + 2))) (a3 := xs (Int32.toNatClampNeg (i + 3))) hM
  refine lv_icmp_eq (tgt := 780) F.hx F.hb d_L_law_268 (by decide) (fun _ => ?_) (fun h => absurd sm.1 h)
  exact kk ad1 _ _ _ _ H locs h0 hw (sm.2.mono (Nat.le_succ _)) hS

set_option maxHeartbeats 4000000 in
set_option maxRecDepth 100000 in
theorem law_case3 {p : Program} {l : Launch} {e : Env} {R : Room} {s : State} {m : MethodId} {args : Array Value} {below : List Frame} {meth : Method} {c : Code} {H : Heap} {locs : List Loc} {cells slots : Nat} {Q : State → Prop} {ls : Array Slot} {G : Gx} {A : Nat → Prop} {H0 : Heap} {b L x0 y0 : Nat} {xs : Nat → Int32} {i : Int32} {ad adT : Nat → Nat} {nr nm cn : Nat} {s0 t0 : S2} (F : LF p R s m args c G A H0 b L xs) (hl : lv_has ls 4 [(3, .int i), (2, .ref y0), (1, .ref x0), (0, .ref b)]) (h1 : vp_in (i + 1) L) (h2 : vp_in (i + 2) L) (h3 : vp_in (i + 3) L) (hw : two G A ad nr nm s0 adT t0 H) (h0 : ad 0 = x0) (hT : adT 0 = y0) (hM : Sim cn nr nm s0 t0) (hc0 : cn ≤ 100000) (hS : va_S A H0 H locs) (hcell : cells + 3 ≤ R.cells) (hslot : slots + 24 ≤ R.slots)
    (kk : ∀ (ad1 : Nat → Nat) (nr1 nm1 : Nat) (s1 t1 : S2) (H1 : Heap) (locs1 : List Loc), ad1 0 = x0 → two G A ad1 nr1 nm1 s1 adT t1 H1 → Sim (cn + 1) nr1 nm1 s1 t1 → va_S A H0 H1 locs1 → W p l e R s m args below meth c H1 locs1 (cells + 3) (slots + 24) Q (F0 m 780 ls [])) : W p l e R s m args below meth c H locs cells slots Q (F0 m 273 ls []) := by
  refine lv_aload_n F.hx F.hb d_L_law_273 rfl (lv_at hl 2 rfl) ?_
  refine lv_aload_n F.hx F.hb d_L_law_274 rfl (lv_at hl 3 rfl) ?_
  refine lv_iload_n F.hx F.hb d_L_law_275 rfl (lv_at hl 0 rfl) ?_
  refine lv_iconst (v := 1) F.hx F.hb d_L_law_276 (by decide) ?_
  refine lv_iadd F.hx F.hb d_L_law_277 ?_
  refine va_sld F.hx F.hb F.hX F.hbl F.hbA hS h1 d_L_law_278 ?_
  refine lawC (As := [.int (xs (Int32.toNatClampNeg (i + 1)))]) (rest := []) (st1 := [.int (f_C_start nr nm s0 (xs (Int32.toNatClampNeg (i + 1)))).1]) (mc := 0) (ms := 0) (nr1 := nr) (nm1 := nm) (sc1 := (f_C_start nr nm s0 (xs (Int32.toNatClampNeg (i + 1)))).2) (r := .int (f_C_start nr nm s0 (xs (Int32.toNatClampNeg (i + 1)))).1) ⟨F.hx, F.hb, F.hml, F.hown, F.hts⟩ (cc_C_start l G (fun q => A q ∧ ¬ TA adT q) ad nr nm hM.hnr hM.hnm s0 (xs (Int32.toNatClampNeg (i + 1)))) (fun _ _ h => ⟨congrFun h.1 0, by obtain ⟨rfl, rfl⟩ := h; rfl⟩) tw_168 tw_165 tw_166 tw_167 tw_1 hd_C_start rfl rfl ⟨Nat.le_trans (m := 9) (Nat.le_of_ble_eq_true rfl) F.hR.1, Nat.le_trans (m := 318) (Nat.le_of_ble_eq_true rfl) F.hR.2⟩ F.hK hw h0 hS hl.1 rfl (Nat.le_of_ble_eq_true rfl) ⟨by omega, by omega⟩ d_L_law_279 rfl (fun ad1 H locs h0 hw hS => ?_)
  refine W.widen (k := cells + 3) (n := slots + 24) (by omega) (by omega) ?_
  refine lv_aload_n F.hx F.hb d_L_law_282 rfl (lv_at hl 1 rfl) ?_
  refine lv_aload_n F.hx F.hb d_L_law_283 rfl (lv_at hl 3 rfl) ?_
  refine lv_iload_n F.hx F.hb d_L_law_284 rfl (lv_at hl 0 rfl) ?_
  refine lv_iconst (v := 1) F.hx F.hb d_L_law_285 (by decide) ?_
  refine lv_iadd F.hx F.hb d_L_law_286 ?_
  refine va_sld F.hx F.hb F.hX F.hbl F.hbA hS h1 d_L_law_287 ?_
  refine lawT (As := [.int (xs (Int32.toNatClampNeg (i + 1)))]) (rest := [.int (f_C_start nr nm s0 (xs (Int32.toNatClampNeg (i + 1)))).1]) (st1 := [.int (f_T_start t0 (xs (Int32.toNatClampNeg (i + 1)))).1, .int (f_C_start nr nm s0 (xs (Int32.toNatClampNeg (i + 1)))).1]) (t1 := (f_T_start t0 (xs (Int32.toNatClampNeg (i + 1)))).2) (r := .int (f_T_start t0 (xs (Int32.toNatClampNeg (i + 1)))).1) ⟨F.hx, F.hb, F.hml, F.hown, F.hts⟩ (cc_T_start l G (fun q => A q ∧ ¬ CA G ad1 (nr) (nm) ((f_C_start nr nm s0 (xs (Int32.toNatClampNeg (i + 1)))).2) q) adT t0 (xs (Int32.toNatClampNeg (i + 1))) hM.wt) tw_527 tw_524 tw_525 tw_526 tw_4 hd_T_start rfl rfl ⟨Nat.le_trans (m := 9) (Nat.le_of_ble_eq_true rfl) F.hR.1, Nat.le_trans (m := 318) (Nat.le_of_ble_eq_true rfl) F.hR.2⟩ F.hK hw hT hS hl.1 rfl (Nat.le_of_ble_eq_true rfl) ⟨by omega, by omega⟩ d_L_law_288 rfl (fun H locs hw hS => ?_)
  have sm := sim_start (a1 := xs (Int32.toNatClampNeg (i + 1))) hM
  refine lv_icmp_eq (tgt := 780) F.hx F.hb d_L_law_291 (by decide) (fun _ => ?_) (fun h => absurd sm.1 h)
  exact kk ad1 _ _ _ _ H locs h0 hw (sm.2.mono (Nat.le_succ _)) hS

set_option maxHeartbeats 4000000 in
set_option maxRecDepth 100000 in
theorem law_case4 {p : Program} {l : Launch} {e : Env} {R : Room} {s : State} {m : MethodId} {args : Array Value} {below : List Frame} {meth : Method} {c : Code} {H : Heap} {locs : List Loc} {cells slots : Nat} {Q : State → Prop} {ls : Array Slot} {G : Gx} {A : Nat → Prop} {H0 : Heap} {b L x0 y0 : Nat} {xs : Nat → Int32} {i : Int32} {ad adT : Nat → Nat} {nr nm cn : Nat} {s0 t0 : S2} (F : LF p R s m args c G A H0 b L xs) (hl : lv_has ls 4 [(3, .int i), (2, .ref y0), (1, .ref x0), (0, .ref b)]) (h1 : vp_in (i + 1) L) (h2 : vp_in (i + 2) L) (h3 : vp_in (i + 3) L) (hw : two G A ad nr nm s0 adT t0 H) (h0 : ad 0 = x0) (hT : adT 0 = y0) (hM : Sim cn nr nm s0 t0) (hc0 : cn ≤ 100000) (hS : va_S A H0 H locs) (hcell : cells + 3 ≤ R.cells) (hslot : slots + 24 ≤ R.slots)
    (kk : ∀ (ad1 : Nat → Nat) (nr1 nm1 : Nat) (s1 t1 : S2) (H1 : Heap) (locs1 : List Loc), ad1 0 = x0 → two G A ad1 nr1 nm1 s1 adT t1 H1 → Sim (cn + 1) nr1 nm1 s1 t1 → va_S A H0 H1 locs1 → W p l e R s m args below meth c H1 locs1 (cells + 3) (slots + 24) Q (F0 m 780 ls [])) : W p l e R s m args below meth c H locs cells slots Q (F0 m 296 ls []) := by
  refine lv_aload_n F.hx F.hb d_L_law_296 rfl (lv_at hl 2 rfl) ?_
  refine lv_aload_n F.hx F.hb d_L_law_297 rfl (lv_at hl 3 rfl) ?_
  refine lv_iload_n F.hx F.hb d_L_law_298 rfl (lv_at hl 0 rfl) ?_
  refine lv_iconst (v := 1) F.hx F.hb d_L_law_299 (by decide) ?_
  refine lv_iadd F.hx F.hb d_L_law_300 ?_
  refine va_sld F.hx F.hb F.hX F.hbl F.hbA hS h1 d_L_law_301 ?_
  refine lv_aload_n F.hx F.hb d_L_law_302 rfl (lv_at hl 3 rfl) ?_
  refine lv_iload_n F.hx F.hb d_L_law_303 rfl (lv_at hl 0 rfl) ?_
  refine lv_iconst (v := 2) F.hx F.hb d_L_law_304 (by decide) ?_
  refine lv_iadd F.hx F.hb d_L_law_305 ?_
  refine va_sld F.hx F.hb F.hX F.hbl F.hbA hS h2 d_L_law_306 ?_
  refine lv_aload_n F.hx F.hb d_L_law_307 rfl (lv_at hl 3 rfl) ?_
  refine lv_iload_n F.hx F.hb d_L_law_308 rfl (lv_at hl 0 rfl) ?_
  refine lv_iconst (v := 3) F.hx F.hb d_L_law_309 (by decide) ?_
  refine lv_iadd F.hx F.hb d_L_law_310 ?_
  refine va_sld F.hx F.hb F.hX F.hbl F.hbA hS h3 d_L_law_311 ?_
  refine lawC (As := [.int (xs (Int32.toNatClampNeg (i + 1))), .int (xs (Int32.toNatClampNeg (i + 2))), .int (xs (Int32.toNatClampNeg (i + 3)))]) (rest := []) (st1 := [.int (f_C_report nr nm s0 (xs (Int32.toNatClampNeg (i + 1))) (xs (Int32.toNatClampNeg (i + 2))) (xs (Int32.toNatClampNeg (i + 3)))).1]) (mc := 0) (ms := 0) (nr1 := nr) (nm1 := nm) (sc1 := (f_C_report nr nm s0 (xs (Int32.toNatClampNeg (i + 1))) (xs (Int32.toNatClampNeg (i + 2))) (xs (Int32.toNatClampNeg (i + 3)))).2) (r := .int (f_C_report nr nm s0 (xs (Int32.toNatClampNeg (i + 1))) (xs (Int32.toNatClampNeg (i + 2))) (xs (Int32.toNatClampNeg (i + 3)))).1) ⟨F.hx, F.hb, F.hml, F.hown, F.hts⟩ (cc_C_report l G (fun q => A q ∧ ¬ TA adT q) ad nr nm hM.hnr hM.hnm s0 (xs (Int32.toNatClampNeg (i + 1))) (xs (Int32.toNatClampNeg (i + 2))) (xs (Int32.toNatClampNeg (i + 3)))) (fun _ _ h => ⟨congrFun h.1 0, by obtain ⟨rfl, rfl⟩ := h; rfl⟩) tw_180 tw_177 tw_178 tw_179 tw_1 hd_C_report rfl rfl ⟨Nat.le_trans (m := 9) (Nat.le_of_ble_eq_true rfl) F.hR.1, Nat.le_trans (m := 318) (Nat.le_of_ble_eq_true rfl) F.hR.2⟩ F.hK hw h0 hS hl.1 rfl (Nat.le_of_ble_eq_true rfl) ⟨by omega, by omega⟩ d_L_law_312 rfl (fun ad1 H locs h0 hw hS => ?_)
  refine W.widen (k := cells + 3) (n := slots + 24) (by omega) (by omega) ?_
  refine lv_aload_n F.hx F.hb d_L_law_315 rfl (lv_at hl 1 rfl) ?_
  refine lv_aload_n F.hx F.hb d_L_law_316 rfl (lv_at hl 3 rfl) ?_
  refine lv_iload_n F.hx F.hb d_L_law_317 rfl (lv_at hl 0 rfl) ?_
  refine lv_iconst (v := 1) F.hx F.hb d_L_law_318 (by decide) ?_
  refine lv_iadd F.hx F.hb d_L_law_319 ?_
  refine va_sld F.hx F.hb F.hX F.hbl F.hbA hS h1 d_L_law_320 ?_
  refine lv_aload_n F.hx F.hb d_L_law_321 rfl (lv_at hl 3 rfl) ?_
  refine lv_iload_n F.hx F.hb d_L_law_322 rfl (lv_at hl 0 rfl) ?_
  refine lv_iconst (v := 2) F.hx F.hb d_L_law_323 (by decide) ?_
  refine lv_iadd F.hx F.hb d_L_law_324 ?_
  refine va_sld F.hx F.hb F.hX F.hbl F.hbA hS h2 d_L_law_325 ?_
  refine lv_aload_n F.hx F.hb d_L_law_326 rfl (lv_at hl 3 rfl) ?_
  refine lv_iload_n F.hx F.hb d_L_law_327 rfl (lv_at hl 0 rfl) ?_
  refine lv_iconst (v := 3) F.hx F.hb d_L_law_328 (by decide) ?_
  refine lv_iadd F.hx F.hb d_L_law_329 ?_
  refine va_sld F.hx F.hb F.hX F.hbl F.hbA hS h3 d_L_law_330 ?_
  refine lawT (As := [.int (xs (Int32.toNatClampNeg (i + 1))), .int (xs (Int32.toNatClampNeg (i + 2))), .int (xs (Int32.toNatClampNeg (i + 3)))]) (rest := [.int (f_C_report nr nm s0 (xs (Int32.toNatClampNeg (i + 1))) (xs (Int32.toNatClampNeg (i + 2))) (xs (Int32.toNatClampNeg (i + 3)))).1]) (st1 := [.int (f_T_report t0 (xs (Int32.toNatClampNeg (i + 1))) (xs (Int32.toNatClampNeg (i + 2))) (xs (Int32.toNatClampNeg (i + 3)))).1, .int (f_C_report nr nm s0 (xs (Int32.toNatClampNeg (i + 1))) (xs (Int32.toNatClampNeg (i + 2))) (xs (Int32.toNatClampNeg (i + 3)))).1]) (t1 := (f_T_report t0 (xs (Int32.toNatClampNeg (i + 1))) (xs (Int32.toNatClampNeg (i + 2))) (xs (Int32.toNatClampNeg (i + 3)))).2) (r := .int (f_T_report t0 (xs (Int32.toNatClampNeg (i + 1))) (xs (Int32.toNatClampNeg (i + 2))) (xs (Int32.toNatClampNeg (i + 3)))).1) ⟨F.hx, F.hb, F.hml, F.hown, F.hts⟩ (cc_T_report l G (fun q => A q ∧ ¬ CA G ad1 (nr) (nm) ((f_C_report nr nm s0 (xs (Int32.toNatClampNeg (i + 1))) (xs (Int32.toNatClampNeg (i + 2))) (xs (Int32.toNatClampNeg (i + 3)))).2) q) adT t0 (xs (Int32.toNatClampNeg (i + 1))) (xs (Int32.toNatClampNeg (i + 2))) (xs (Int32.toNatClampNeg (i + 3))) hM.wt) tw_535 tw_532 tw_533 tw_534 tw_4 hd_T_report rfl rfl ⟨Nat.le_trans (m := 9) (Nat.le_of_ble_eq_true rfl) F.hR.1, Nat.le_trans (m := 318) (Nat.le_of_ble_eq_true rfl) F.hR.2⟩ F.hK hw hT hS hl.1 rfl (Nat.le_of_ble_eq_true rfl) ⟨by omega, by omega⟩ d_L_law_331 rfl (fun H locs hw hS => ?_)
  have sm := sim_report (a1 := xs (Int32.toNatClampNeg (i + 1))) (a2 := xs (Int32.toNatClampNeg (i + 2))) (a3 := xs (Int32.toNatClampNeg (i + 3))) hM
  refine lv_icmp_eq (tgt := 780) F.hx F.hb d_L_law_334 (by decide) (fun _ => ?_) (fun h => absurd sm.1 h)
  exact kk ad1 _ _ _ _ H locs h0 hw (sm.2.mono (Nat.le_succ _)) hS

set_option maxHeartbeats 4000000 in
set_option maxRecDepth 100000 in
theorem law_case5 {p : Program} {l : Launch} {e : Env} {R : Room} {s : State} {m : MethodId} {args : Array Value} {below : List Frame} {meth : Method} {c : Code} {H : Heap} {locs : List Loc} {cells slots : Nat} {Q : State → Prop} {ls : Array Slot} {G : Gx} {A : Nat → Prop} {H0 : Heap} {b L x0 y0 : Nat} {xs : Nat → Int32} {i : Int32} {ad adT : Nat → Nat} {nr nm cn : Nat} {s0 t0 : S2} (F : LF p R s m args c G A H0 b L xs) (hl : lv_has ls 4 [(3, .int i), (2, .ref y0), (1, .ref x0), (0, .ref b)]) (h1 : vp_in (i + 1) L) (h2 : vp_in (i + 2) L) (h3 : vp_in (i + 3) L) (hw : two G A ad nr nm s0 adT t0 H) (h0 : ad 0 = x0) (hT : adT 0 = y0) (hM : Sim cn nr nm s0 t0) (hc0 : cn ≤ 100000) (hS : va_S A H0 H locs) (hcell : cells + 3 ≤ R.cells) (hslot : slots + 24 ≤ R.slots)
    (kk : ∀ (ad1 : Nat → Nat) (nr1 nm1 : Nat) (s1 t1 : S2) (H1 : Heap) (locs1 : List Loc), ad1 0 = x0 → two G A ad1 nr1 nm1 s1 adT t1 H1 → Sim (cn + 1) nr1 nm1 s1 t1 → va_S A H0 H1 locs1 → W p l e R s m args below meth c H1 locs1 (cells + 3) (slots + 24) Q (F0 m 780 ls [])) : W p l e R s m args below meth c H locs cells slots Q (F0 m 339 ls []) := by
  refine lv_aload_n F.hx F.hb d_L_law_339 rfl (lv_at hl 2 rfl) ?_
  refine lv_aload_n F.hx F.hb d_L_law_340 rfl (lv_at hl 3 rfl) ?_
  refine lv_iload_n F.hx F.hb d_L_law_341 rfl (lv_at hl 0 rfl) ?_
  refine lv_iconst (v := 1) F.hx F.hb d_L_law_342 (by decide) ?_
  refine lv_iadd F.hx F.hb d_L_law_343 ?_
  refine va_sld F.hx F.hb F.hX F.hbl F.hbA hS h1 d_L_law_344 ?_
  refine lv_aload_n F.hx F.hb d_L_law_345 rfl (lv_at hl 3 rfl) ?_
  refine lv_iload_n F.hx F.hb d_L_law_346 rfl (lv_at hl 0 rfl) ?_
  refine lv_iconst (v := 2) F.hx F.hb d_L_law_347 (by decide) ?_
  refine lv_iadd F.hx F.hb d_L_law_348 ?_
  refine va_sld F.hx F.hb F.hX F.hbl F.hbA hS h2 d_L_law_349 ?_
  have kb350 : W p l e R s m args below meth c H locs cells slots Q (F0 m 358 ls [.int (bz (xs (Int32.toNatClampNeg (i + 2)))), .int (xs (Int32.toNatClampNeg (i + 1))), .ref x0]) := by
    refine lawC (As := [.int (xs (Int32.toNatClampNeg (i + 1))), .int (bz (xs (Int32.toNatClampNeg (i + 2))))]) (rest := []) (st1 := [.int (f_C_hold nr nm s0 (xs (Int32.toNatClampNeg (i + 1))) (bz (xs (Int32.toNatClampNeg (i + 2))))).1]) (mc := 0) (ms := 0) (nr1 := nr) (nm1 := nm) (sc1 := (f_C_hold nr nm s0 (xs (Int32.toNatClampNeg (i + 1))) (bz (xs (Int32.toNatClampNeg (i + 2))))).2) (r := .int (f_C_hold nr nm s0 (xs (Int32.toNatClampNeg (i + 1))) (bz (xs (Int32.toNatClampNeg (i + 2))))).1) ⟨F.hx, F.hb, F.hml, F.hown, F.hts⟩ (cc_C_hold l G (fun q => A q ∧ ¬ TA adT q) ad nr nm hM.hnr hM.hnm s0 (xs (Int32.toNatClampNeg (i + 1))) (bz (xs (Int32.toNatClampNeg (i + 2))))) (fun _ _ h => ⟨congrFun h.1 0, by obtain ⟨rfl, rfl⟩ := h; rfl⟩) tw_188 tw_185 tw_186 tw_187 tw_1 hd_C_hold rfl rfl ⟨Nat.le_trans (m := 9) (Nat.le_of_ble_eq_true rfl) F.hR.1, Nat.le_trans (m := 318) (Nat.le_of_ble_eq_true rfl) F.hR.2⟩ F.hK hw h0 hS hl.1 rfl (Nat.le_of_ble_eq_true rfl) ⟨by omega, by omega⟩ d_L_law_358 rfl (fun ad1 H locs h0 hw hS => ?_)
    refine W.widen (k := cells + 3) (n := slots + 24) (by omega) (by omega) ?_
    refine lv_aload_n F.hx F.hb d_L_law_361 rfl (lv_at hl 1 rfl) ?_
    refine lv_aload_n F.hx F.hb d_L_law_362 rfl (lv_at hl 3 rfl) ?_
    refine lv_iload_n F.hx F.hb d_L_law_363 rfl (lv_at hl 0 rfl) ?_
    refine lv_iconst (v := 1) F.hx F.hb d_L_law_364 (by decide) ?_
    refine lv_iadd F.hx F.hb d_L_law_365 ?_
    refine va_sld F.hx F.hb F.hX F.hbl F.hbA hS h1 d_L_law_366 ?_
    refine lv_aload_n F.hx F.hb d_L_law_367 rfl (lv_at hl 3 rfl) ?_
    refine lv_iload_n F.hx F.hb d_L_law_368 rfl (lv_at hl 0 rfl) ?_
    refine lv_iconst (v := 2) F.hx F.hb d_L_law_369 (by decide) ?_
    refine lv_iadd F.hx F.hb d_L_law_370 ?_
    refine va_sld F.hx F.hb F.hX F.hbl F.hbA hS h2 d_L_law_371 ?_
    have kb372 : W p l e R s m args below meth c H locs (cells + 3) (slots + 24) Q (F0 m 380 ls [.int (bz (xs (Int32.toNatClampNeg (i + 2)))), .int (xs (Int32.toNatClampNeg (i + 1))), .ref y0, .int (f_C_hold nr nm s0 (xs (Int32.toNatClampNeg (i + 1))) (bz (xs (Int32.toNatClampNeg (i + 2))))).1]) := by
      refine lawT (As := [.int (xs (Int32.toNatClampNeg (i + 1))), .int (bz (xs (Int32.toNatClampNeg (i + 2))))]) (rest := [.int (f_C_hold nr nm s0 (xs (Int32.toNatClampNeg (i + 1))) (bz (xs (Int32.toNatClampNeg (i + 2))))).1]) (st1 := [.int (f_T_hold t0 (xs (Int32.toNatClampNeg (i + 1))) (bz (xs (Int32.toNatClampNeg (i + 2))))).1, .int (f_C_hold nr nm s0 (xs (Int32.toNatClampNeg (i + 1))) (bz (xs (Int32.toNatClampNeg (i + 2))))).1]) (t1 := (f_T_hold t0 (xs (Int32.toNatClampNeg (i + 1))) (bz (xs (Int32.toNatClampNeg (i + 2))))).2) (r := .int (f_T_hold t0 (xs (Int32.toNatClampNeg (i + 1))) (bz (xs (Int32.toNatClampNeg (i + 2))))).1) ⟨F.hx, F.hb, F.hml, F.hown, F.hts⟩ (cc_T_hold l G (fun q => A q ∧ ¬ CA G ad1 (nr) (nm) ((f_C_hold nr nm s0 (xs (Int32.toNatClampNeg (i + 1))) (bz (xs (Int32.toNatClampNeg (i + 2))))).2) q) adT t0 (xs (Int32.toNatClampNeg (i + 1))) (bz (xs (Int32.toNatClampNeg (i + 2)))) hM.wt) tw_539 tw_536 tw_537 tw_538 tw_4 hd_T_hold rfl rfl ⟨Nat.le_trans (m := 9) (Nat.le_of_ble_eq_true rfl) F.hR.1, Nat.le_trans (m := 318) (Nat.le_of_ble_eq_true rfl) F.hR.2⟩ F.hK hw hT hS hl.1 rfl (Nat.le_of_ble_eq_true rfl) ⟨by omega, by omega⟩ d_L_law_380 rfl (fun H locs hw hS => ?_)
      have sm := sim_hold (a1 := xs (Int32.toNatClampNeg (i + 1))) (a2 := bz (xs (Int32.toNatClampNeg (i + 2)))) hM
      refine lv_icmp_eq (tgt := 780) F.hx F.hb d_L_law_383 (by decide) (fun _ => ?_) (fun h => absurd sm.1 h)
      exact kk ad1 _ _ _ _ H locs h0 hw (sm.2.mono (Nat.le_succ _)) hS
    refine lv_if_eq (tgt := 379) F.hx F.hb d_L_law_372 (by decide) (fun hz372 => ?_) (fun hz372 => ?_)
    · refine lv_iconst (v := 0) F.hx F.hb d_L_law_379 (by decide) ?_
      have e0 : bz (xs (Int32.toNatClampNeg (i + 2))) = 0 := if_pos hz372
      refine W.eq (g2 := F0 m (379 + 1) ls [.int (bz (xs (Int32.toNatClampNeg (i + 2)))), .int (xs (Int32.toNatClampNeg (i + 1))), .ref y0, .int (f_C_hold nr nm s0 (xs (Int32.toNatClampNeg (i + 1))) (bz (xs (Int32.toNatClampNeg (i + 2))))).1]) (by rw [e0]) ?_
      exact kb372
    · refine lv_iconst (v := 1) F.hx F.hb d_L_law_375 (by decide) ?_
      refine lv_goto (tgt := 380) F.hx F.hb d_L_law_376 (by decide) ?_
      have e0 : bz (xs (Int32.toNatClampNeg (i + 2))) = 1 := if_neg hz372
      refine W.eq (g2 := F0 m 380 ls [.int (bz (xs (Int32.toNatClampNeg (i + 2)))), .int (xs (Int32.toNatClampNeg (i + 1))), .ref y0, .int (f_C_hold nr nm s0 (xs (Int32.toNatClampNeg (i + 1))) (bz (xs (Int32.toNatClampNeg (i + 2))))).1]) (by rw [e0]) ?_
      exact kb372
  refine lv_if_eq (tgt := 357) F.hx F.hb d_L_law_350 (by decide) (fun hz350 => ?_) (fun hz350 => ?_)
  · refine lv_iconst (v := 0) F.hx F.hb d_L_law_357 (by decide) ?_
    have e0 : bz (xs (Int32.toNatClampNeg (i + 2))) = 0 := if_pos hz350
    refine W.eq (g2 := F0 m (357 + 1) ls [.int (bz (xs (Int32.toNatClampNeg (i + 2)))), .int (xs (Int32.toNatClampNeg (i + 1))), .ref x0]) (by rw [e0]) ?_
    exact kb350
  · refine lv_iconst (v := 1) F.hx F.hb d_L_law_353 (by decide) ?_
    refine lv_goto (tgt := 358) F.hx F.hb d_L_law_354 (by decide) ?_
    have e0 : bz (xs (Int32.toNatClampNeg (i + 2))) = 1 := if_neg hz350
    refine W.eq (g2 := F0 m 358 ls [.int (bz (xs (Int32.toNatClampNeg (i + 2)))), .int (xs (Int32.toNatClampNeg (i + 1))), .ref x0]) (by rw [e0]) ?_
    exact kb350

set_option maxHeartbeats 4000000 in
set_option maxRecDepth 100000 in
theorem law_case6 {p : Program} {l : Launch} {e : Env} {R : Room} {s : State} {m : MethodId} {args : Array Value} {below : List Frame} {meth : Method} {c : Code} {H : Heap} {locs : List Loc} {cells slots : Nat} {Q : State → Prop} {ls : Array Slot} {G : Gx} {A : Nat → Prop} {H0 : Heap} {b L x0 y0 : Nat} {xs : Nat → Int32} {i : Int32} {ad adT : Nat → Nat} {nr nm cn : Nat} {s0 t0 : S2} (F : LF p R s m args c G A H0 b L xs) (hl : lv_has ls 4 [(3, .int i), (2, .ref y0), (1, .ref x0), (0, .ref b)]) (h1 : vp_in (i + 1) L) (h2 : vp_in (i + 2) L) (h3 : vp_in (i + 3) L) (hw : two G A ad nr nm s0 adT t0 H) (h0 : ad 0 = x0) (hT : adT 0 = y0) (hM : Sim cn nr nm s0 t0) (hc0 : cn ≤ 100000) (hS : va_S A H0 H locs) (hcell : cells + 3 ≤ R.cells) (hslot : slots + 24 ≤ R.slots)
    (kk : ∀ (ad1 : Nat → Nat) (nr1 nm1 : Nat) (s1 t1 : S2) (H1 : Heap) (locs1 : List Loc), ad1 0 = x0 → two G A ad1 nr1 nm1 s1 adT t1 H1 → Sim (cn + 1) nr1 nm1 s1 t1 → va_S A H0 H1 locs1 → W p l e R s m args below meth c H1 locs1 (cells + 3) (slots + 24) Q (F0 m 780 ls [])) : W p l e R s m args below meth c H locs cells slots Q (F0 m 388 ls []) := by
  refine lv_aload_n F.hx F.hb d_L_law_388 rfl (lv_at hl 2 rfl) ?_
  refine lv_aload_n F.hx F.hb d_L_law_389 rfl (lv_at hl 3 rfl) ?_
  refine lv_iload_n F.hx F.hb d_L_law_390 rfl (lv_at hl 0 rfl) ?_
  refine lv_iconst (v := 1) F.hx F.hb d_L_law_391 (by decide) ?_
  refine lv_iadd F.hx F.hb d_L_law_392 ?_
  refine va_sld F.hx F.hb F.hX F.hbl F.hbA hS h1 d_L_law_393 ?_
  refine lawC (As := [.int (xs (Int32.toNatClampNeg (i + 1)))]) (rest := []) (st1 := [.int (f_C_revoke nr nm s0 (xs (Int32.toNatClampNeg (i + 1)))).1]) (mc := 0) (ms := 0) (nr1 := nr) (nm1 := nm) (sc1 := (f_C_revoke nr nm s0 (xs (Int32.toNatClampNeg (i + 1)))).2) (r := .int (f_C_revoke nr nm s0 (xs (Int32.toNatClampNeg (i + 1)))).1) ⟨F.hx, F.hb, F.hml, F.hown, F.hts⟩ (cc_C_revoke l G (fun q => A q ∧ ¬ TA adT q) ad nr nm hM.hnr hM.hnm s0 (xs (Int32.toNatClampNeg (i + 1)))) (fun _ _ h => ⟨congrFun h.1 0, by obtain ⟨rfl, rfl⟩ := h; rfl⟩) tw_204 tw_201 tw_202 tw_203 tw_1 hd_C_revoke rfl rfl ⟨Nat.le_trans (m := 9) (Nat.le_of_ble_eq_true rfl) F.hR.1, Nat.le_trans (m := 318) (Nat.le_of_ble_eq_true rfl) F.hR.2⟩ F.hK hw h0 hS hl.1 rfl (Nat.le_of_ble_eq_true rfl) ⟨by omega, by omega⟩ d_L_law_394 rfl (fun ad1 H locs h0 hw hS => ?_)
  refine W.widen (k := cells + 3) (n := slots + 24) (by omega) (by omega) ?_
  refine lv_aload_n F.hx F.hb d_L_law_397 rfl (lv_at hl 1 rfl) ?_
  refine lv_aload_n F.hx F.hb d_L_law_398 rfl (lv_at hl 3 rfl) ?_
  refine lv_iload_n F.hx F.hb d_L_law_399 rfl (lv_at hl 0 rfl) ?_
  refine lv_iconst (v := 1) F.hx F.hb d_L_law_400 (by decide) ?_
  refine lv_iadd F.hx F.hb d_L_law_401 ?_
  refine va_sld F.hx F.hb F.hX F.hbl F.hbA hS h1 d_L_law_402 ?_
  refine lawT (As := [.int (xs (Int32.toNatClampNeg (i + 1)))]) (rest := [.int (f_C_revoke nr nm s0 (xs (Int32.toNatClampNeg (i + 1)))).1]) (st1 := [.int (f_T_revoke t0 (xs (Int32.toNatClampNeg (i + 1)))).1, .int (f_C_revoke nr nm s0 (xs (Int32.toNatClampNeg (i + 1)))).1]) (t1 := (f_T_revoke t0 (xs (Int32.toNatClampNeg (i + 1)))).2) (r := .int (f_T_revoke t0 (xs (Int32.toNatClampNeg (i + 1)))).1) ⟨F.hx, F.hb, F.hml, F.hown, F.hts⟩ (cc_T_revoke l G (fun q => A q ∧ ¬ CA G ad1 (nr) (nm) ((f_C_revoke nr nm s0 (xs (Int32.toNatClampNeg (i + 1)))).2) q) adT t0 (xs (Int32.toNatClampNeg (i + 1))) hM.wt) tw_547 tw_544 tw_545 tw_546 tw_4 hd_T_revoke rfl rfl ⟨Nat.le_trans (m := 9) (Nat.le_of_ble_eq_true rfl) F.hR.1, Nat.le_trans (m := 318) (Nat.le_of_ble_eq_true rfl) F.hR.2⟩ F.hK hw hT hS hl.1 rfl (Nat.le_of_ble_eq_true rfl) ⟨by omega, by omega⟩ d_L_law_403 rfl (fun H locs hw hS => ?_)
  have sm := sim_revoke (a1 := xs (Int32.toNatClampNeg (i + 1))) hM
  refine lv_icmp_eq (tgt := 780) F.hx F.hb d_L_law_406 (by decide) (fun _ => ?_) (fun h => absurd sm.1 h)
  exact kk ad1 _ _ _ _ H locs h0 hw (sm.2.mono (Nat.le_succ _)) hS

set_option maxHeartbeats 4000000 in
set_option maxRecDepth 100000 in
theorem law_case7 {p : Program} {l : Launch} {e : Env} {R : Room} {s : State} {m : MethodId} {args : Array Value} {below : List Frame} {meth : Method} {c : Code} {H : Heap} {locs : List Loc} {cells slots : Nat} {Q : State → Prop} {ls : Array Slot} {G : Gx} {A : Nat → Prop} {H0 : Heap} {b L x0 y0 : Nat} {xs : Nat → Int32} {i : Int32} {ad adT : Nat → Nat} {nr nm cn : Nat} {s0 t0 : S2} (F : LF p R s m args c G A H0 b L xs) (hl : lv_has ls 4 [(3, .int i), (2, .ref y0), (1, .ref x0), (0, .ref b)]) (h1 : vp_in (i + 1) L) (h2 : vp_in (i + 2) L) (h3 : vp_in (i + 3) L) (hw : two G A ad nr nm s0 adT t0 H) (h0 : ad 0 = x0) (hT : adT 0 = y0) (hM : Sim cn nr nm s0 t0) (hc0 : cn ≤ 100000) (hS : va_S A H0 H locs) (hcell : cells + 3 ≤ R.cells) (hslot : slots + 24 ≤ R.slots)
    (kk : ∀ (ad1 : Nat → Nat) (nr1 nm1 : Nat) (s1 t1 : S2) (H1 : Heap) (locs1 : List Loc), ad1 0 = x0 → two G A ad1 nr1 nm1 s1 adT t1 H1 → Sim (cn + 1) nr1 nm1 s1 t1 → va_S A H0 H1 locs1 → W p l e R s m args below meth c H1 locs1 (cells + 3) (slots + 24) Q (F0 m 780 ls [])) : W p l e R s m args below meth c H locs cells slots Q (F0 m 411 ls []) := by
  refine lv_aload_n F.hx F.hb d_L_law_411 rfl (lv_at hl 2 rfl) ?_
  refine lv_aload_n F.hx F.hb d_L_law_412 rfl (lv_at hl 3 rfl) ?_
  refine lv_iload_n F.hx F.hb d_L_law_413 rfl (lv_at hl 0 rfl) ?_
  refine lv_iconst (v := 1) F.hx F.hb d_L_law_414 (by decide) ?_
  refine lv_iadd F.hx F.hb d_L_law_415 ?_
  refine va_sld F.hx F.hb F.hX F.hbl F.hbA hS h1 d_L_law_416 ?_
  refine lawC (As := [.int (xs (Int32.toNatClampNeg (i + 1)))]) (rest := []) (st1 := [.int (f_C_tick nr nm s0 (xs (Int32.toNatClampNeg (i + 1)))).1]) (mc := 0) (ms := 0) (nr1 := nr) (nm1 := nm) (sc1 := (f_C_tick nr nm s0 (xs (Int32.toNatClampNeg (i + 1)))).2) (r := .int (f_C_tick nr nm s0 (xs (Int32.toNatClampNeg (i + 1)))).1) ⟨F.hx, F.hb, F.hml, F.hown, F.hts⟩ (cc_C_tick l G (fun q => A q ∧ ¬ TA adT q) ad nr nm hM.hnr hM.hnm s0 (xs (Int32.toNatClampNeg (i + 1))) hM.c4) (fun _ _ h => ⟨congrFun h.1 0, by obtain ⟨rfl, rfl⟩ := h; rfl⟩) tw_212 tw_209 tw_210 tw_211 tw_1 hd_C_tick rfl rfl ⟨Nat.le_trans (m := 9) (Nat.le_of_ble_eq_true rfl) F.hR.1, Nat.le_trans (m := 318) (Nat.le_of_ble_eq_true rfl) F.hR.2⟩ F.hK hw h0 hS hl.1 rfl (Nat.le_of_ble_eq_true rfl) ⟨by omega, by omega⟩ d_L_law_417 rfl (fun ad1 H locs h0 hw hS => ?_)
  refine W.widen (k := cells + 3) (n := slots + 24) (by omega) (by omega) ?_
  refine lv_aload_n F.hx F.hb d_L_law_420 rfl (lv_at hl 1 rfl) ?_
  refine lv_aload_n F.hx F.hb d_L_law_421 rfl (lv_at hl 3 rfl) ?_
  refine lv_iload_n F.hx F.hb d_L_law_422 rfl (lv_at hl 0 rfl) ?_
  refine lv_iconst (v := 1) F.hx F.hb d_L_law_423 (by decide) ?_
  refine lv_iadd F.hx F.hb d_L_law_424 ?_
  refine va_sld F.hx F.hb F.hX F.hbl F.hbA hS h1 d_L_law_425 ?_
  refine lawT (As := [.int (xs (Int32.toNatClampNeg (i + 1)))]) (rest := [.int (f_C_tick nr nm s0 (xs (Int32.toNatClampNeg (i + 1)))).1]) (st1 := [.int (f_T_tick t0 (xs (Int32.toNatClampNeg (i + 1)))).1, .int (f_C_tick nr nm s0 (xs (Int32.toNatClampNeg (i + 1)))).1]) (t1 := (f_T_tick t0 (xs (Int32.toNatClampNeg (i + 1)))).2) (r := .int (f_T_tick t0 (xs (Int32.toNatClampNeg (i + 1)))).1) ⟨F.hx, F.hb, F.hml, F.hown, F.hts⟩ (cc_T_tick l G (fun q => A q ∧ ¬ CA G ad1 (nr) (nm) ((f_C_tick nr nm s0 (xs (Int32.toNatClampNeg (i + 1)))).2) q) adT t0 (xs (Int32.toNatClampNeg (i + 1))) hM.wt) tw_551 tw_548 tw_549 tw_550 tw_4 hd_T_tick rfl rfl ⟨Nat.le_trans (m := 9) (Nat.le_of_ble_eq_true rfl) F.hR.1, Nat.le_trans (m := 318) (Nat.le_of_ble_eq_true rfl) F.hR.2⟩ F.hK hw hT hS hl.1 rfl (Nat.le_of_ble_eq_true rfl) ⟨by omega, by omega⟩ d_L_law_426 rfl (fun H locs hw hS => ?_)
  have sm := sim_tick (a1 := xs (Int32.toNatClampNeg (i + 1))) hM hc0
  refine lv_icmp_eq (tgt := 780) F.hx F.hb d_L_law_429 (by decide) (fun _ => ?_) (fun h => absurd sm.1 h)
  exact kk ad1 _ _ _ _ H locs h0 hw sm.2 hS

set_option maxHeartbeats 4000000 in
set_option maxRecDepth 100000 in
theorem law_case8 {p : Program} {l : Launch} {e : Env} {R : Room} {s : State} {m : MethodId} {args : Array Value} {below : List Frame} {meth : Method} {c : Code} {H : Heap} {locs : List Loc} {cells slots : Nat} {Q : State → Prop} {ls : Array Slot} {G : Gx} {A : Nat → Prop} {H0 : Heap} {b L x0 y0 : Nat} {xs : Nat → Int32} {i : Int32} {ad adT : Nat → Nat} {nr nm cn : Nat} {s0 t0 : S2} (F : LF p R s m args c G A H0 b L xs) (hl : lv_has ls 4 [(3, .int i), (2, .ref y0), (1, .ref x0), (0, .ref b)]) (h1 : vp_in (i + 1) L) (h2 : vp_in (i + 2) L) (h3 : vp_in (i + 3) L) (hw : two G A ad nr nm s0 adT t0 H) (h0 : ad 0 = x0) (hT : adT 0 = y0) (hM : Sim cn nr nm s0 t0) (hc0 : cn ≤ 100000) (hS : va_S A H0 H locs) (hcell : cells + 3 ≤ R.cells) (hslot : slots + 24 ≤ R.slots)
    (kk : ∀ (ad1 : Nat → Nat) (nr1 nm1 : Nat) (s1 t1 : S2) (H1 : Heap) (locs1 : List Loc), ad1 0 = x0 → two G A ad1 nr1 nm1 s1 adT t1 H1 → Sim (cn + 1) nr1 nm1 s1 t1 → va_S A H0 H1 locs1 → W p l e R s m args below meth c H1 locs1 (cells + 3) (slots + 24) Q (F0 m 780 ls [])) : W p l e R s m args below meth c H locs cells slots Q (F0 m 434 ls []) := by
  refine lv_aload_n F.hx F.hb d_L_law_434 rfl (lv_at hl 2 rfl) ?_
  refine lv_aload_n F.hx F.hb d_L_law_435 rfl (lv_at hl 3 rfl) ?_
  refine lv_iload_n F.hx F.hb d_L_law_436 rfl (lv_at hl 0 rfl) ?_
  refine lv_iconst (v := 1) F.hx F.hb d_L_law_437 (by decide) ?_
  refine lv_iadd F.hx F.hb d_L_law_438 ?_
  refine va_sld F.hx F.hb F.hX F.hbl F.hbA hS h1 d_L_law_439 ?_
  refine lv_aload_n F.hx F.hb d_L_law_440 rfl (lv_at hl 3 rfl) ?_
  refine lv_iload_n F.hx F.hb d_L_law_441 rfl (lv_at hl 0 rfl) ?_
  refine lv_iconst (v := 2) F.hx F.hb d_L_law_442 (by decide) ?_
  refine lv_iadd F.hx F.hb d_L_law_443 ?_
  refine va_sld F.hx F.hb F.hX F.hbl F.hbA hS h2 d_L_law_444 ?_
  refine lawC (As := [.int (xs (Int32.toNatClampNeg (i + 1))), .int (xs (Int32.toNatClampNeg (i + 2)))]) (rest := []) (st1 := [.int (f_C_about nr nm s0 (xs (Int32.toNatClampNeg (i + 1))) (xs (Int32.toNatClampNeg (i + 2))))]) (mc := 0) (ms := 0) (nr1 := nr) (nm1 := nm) (sc1 := s0) (r := .int (f_C_about nr nm s0 (xs (Int32.toNatClampNeg (i + 1))) (xs (Int32.toNatClampNeg (i + 2))))) ⟨F.hx, F.hb, F.hml, F.hown, F.hts⟩ (cc_C_about l G (fun q => A q ∧ ¬ TA adT q) ad nr nm hM.hnr hM.hnm s0 (xs (Int32.toNatClampNeg (i + 1))) (xs (Int32.toNatClampNeg (i + 2)))) (fun _ _ h => ⟨congrFun h.1 0, by obtain ⟨rfl, rfl⟩ := h; rfl⟩) tw_239 tw_236 tw_237 tw_238 tw_1 hd_C_about rfl rfl ⟨Nat.le_trans (m := 9) (Nat.le_of_ble_eq_true rfl) F.hR.1, Nat.le_trans (m := 318) (Nat.le_of_ble_eq_true rfl) F.hR.2⟩ F.hK hw h0 hS hl.1 rfl (Nat.le_of_ble_eq_true rfl) ⟨by omega, by omega⟩ d_L_law_445 rfl (fun ad1 H locs h0 hw hS => ?_)
  refine W.widen (k := cells + 3) (n := slots + 24) (by omega) (by omega) ?_
  refine lv_aload_n F.hx F.hb d_L_law_448 rfl (lv_at hl 1 rfl) ?_
  refine lv_aload_n F.hx F.hb d_L_law_449 rfl (lv_at hl 3 rfl) ?_
  refine lv_iload_n F.hx F.hb d_L_law_450 rfl (lv_at hl 0 rfl) ?_
  refine lv_iconst (v := 1) F.hx F.hb d_L_law_451 (by decide) ?_
  refine lv_iadd F.hx F.hb d_L_law_452 ?_
  refine va_sld F.hx F.hb F.hX F.hbl F.hbA hS h1 d_L_law_453 ?_
  refine lv_aload_n F.hx F.hb d_L_law_454 rfl (lv_at hl 3 rfl) ?_
  refine lv_iload_n F.hx F.hb d_L_law_455 rfl (lv_at hl 0 rfl) ?_
  refine lv_iconst (v := 2) F.hx F.hb d_L_law_456 (by decide) ?_
  refine lv_iadd F.hx F.hb d_L_law_457 ?_
  refine va_sld F.hx F.hb F.hX F.hbl F.hbA hS h2 d_L_law_458 ?_
  refine lawT (As := [.int (xs (Int32.toNatClampNeg (i + 1))), .int (xs (Int32.toNatClampNeg (i + 2)))]) (rest := [.int (f_C_about nr nm s0 (xs (Int32.toNatClampNeg (i + 1))) (xs (Int32.toNatClampNeg (i + 2))))]) (st1 := [.int (f_T_about t0 (xs (Int32.toNatClampNeg (i + 1))) (xs (Int32.toNatClampNeg (i + 2)))).1, .int (f_C_about nr nm s0 (xs (Int32.toNatClampNeg (i + 1))) (xs (Int32.toNatClampNeg (i + 2))))]) (t1 := (f_T_about t0 (xs (Int32.toNatClampNeg (i + 1))) (xs (Int32.toNatClampNeg (i + 2)))).2) (r := .int (f_T_about t0 (xs (Int32.toNatClampNeg (i + 1))) (xs (Int32.toNatClampNeg (i + 2)))).1) ⟨F.hx, F.hb, F.hml, F.hown, F.hts⟩ (cc_T_about l G (fun q => A q ∧ ¬ CA G ad1 (nr) (nm) (s0) q) adT t0 (xs (Int32.toNatClampNeg (i + 1))) (xs (Int32.toNatClampNeg (i + 2))) hM.wt) tw_559 tw_556 tw_557 tw_558 tw_4 hd_T_about rfl rfl ⟨Nat.le_trans (m := 9) (Nat.le_of_ble_eq_true rfl) F.hR.1, Nat.le_trans (m := 318) (Nat.le_of_ble_eq_true rfl) F.hR.2⟩ F.hK hw hT hS hl.1 rfl (Nat.le_of_ble_eq_true rfl) ⟨by omega, by omega⟩ d_L_law_459 rfl (fun H locs hw hS => ?_)
  have sm := sim_about (a1 := xs (Int32.toNatClampNeg (i + 1))) (a2 := xs (Int32.toNatClampNeg (i + 2))) hM
  refine lv_icmp_eq (tgt := 780) F.hx F.hb d_L_law_462 (by decide) (fun _ => ?_) (fun h => absurd sm.1 h)
  exact kk ad1 _ _ _ _ H locs h0 hw (sm.2.mono (Nat.le_succ _)) hS

set_option maxHeartbeats 4000000 in
set_option maxRecDepth 100000 in
theorem law_case9 {p : Program} {l : Launch} {e : Env} {R : Room} {s : State} {m : MethodId} {args : Array Value} {below : List Frame} {meth : Method} {c : Code} {H : Heap} {locs : List Loc} {cells slots : Nat} {Q : State → Prop} {ls : Array Slot} {G : Gx} {A : Nat → Prop} {H0 : Heap} {b L x0 y0 : Nat} {xs : Nat → Int32} {i : Int32} {ad adT : Nat → Nat} {nr nm cn : Nat} {s0 t0 : S2} (F : LF p R s m args c G A H0 b L xs) (hl : lv_has ls 4 [(3, .int i), (2, .ref y0), (1, .ref x0), (0, .ref b)]) (h1 : vp_in (i + 1) L) (h2 : vp_in (i + 2) L) (h3 : vp_in (i + 3) L) (hw : two G A ad nr nm s0 adT t0 H) (h0 : ad 0 = x0) (hT : adT 0 = y0) (hM : Sim cn nr nm s0 t0) (hc0 : cn ≤ 100000) (hS : va_S A H0 H locs) (hcell : cells + 3 ≤ R.cells) (hslot : slots + 24 ≤ R.slots)
    (kk : ∀ (ad1 : Nat → Nat) (nr1 nm1 : Nat) (s1 t1 : S2) (H1 : Heap) (locs1 : List Loc), ad1 0 = x0 → two G A ad1 nr1 nm1 s1 adT t1 H1 → Sim (cn + 1) nr1 nm1 s1 t1 → va_S A H0 H1 locs1 → W p l e R s m args below meth c H1 locs1 (cells + 3) (slots + 24) Q (F0 m 780 ls [])) : W p l e R s m args below meth c H locs cells slots Q (F0 m 467 ls []) := by
  refine lv_aload_n F.hx F.hb d_L_law_467 rfl (lv_at hl 2 rfl) ?_
  refine lv_aload_n F.hx F.hb d_L_law_468 rfl (lv_at hl 3 rfl) ?_
  refine lv_iload_n F.hx F.hb d_L_law_469 rfl (lv_at hl 0 rfl) ?_
  refine lv_iconst (v := 1) F.hx F.hb d_L_law_470 (by decide) ?_
  refine lv_iadd F.hx F.hb d_L_law_471 ?_
  refine va_sld F.hx F.hb F.hX F.hbl F.hbA hS h1 d_L_law_472 ?_
  refine lv_aload_n F.hx F.hb d_L_law_473 rfl (lv_at hl 3 rfl) ?_
  refine lv_iload_n F.hx F.hb d_L_law_474 rfl (lv_at hl 0 rfl) ?_
  refine lv_iconst (v := 2) F.hx F.hb d_L_law_475 (by decide) ?_
  refine lv_iadd F.hx F.hb d_L_law_476 ?_
  refine va_sld F.hx F.hb F.hX F.hbl F.hbA hS h2 d_L_law_477 ?_
  refine lawC (As := [.int (xs (Int32.toNatClampNeg (i + 1))), .int (xs (Int32.toNatClampNeg (i + 2)))]) (rest := []) (st1 := [.int (f_C_back nr nm s0 (xs (Int32.toNatClampNeg (i + 1))) (xs (Int32.toNatClampNeg (i + 2)))).1]) (mc := 0) (ms := 0) (nr1 := nr) (nm1 := nm) (sc1 := (f_C_back nr nm s0 (xs (Int32.toNatClampNeg (i + 1))) (xs (Int32.toNatClampNeg (i + 2)))).2) (r := .int (f_C_back nr nm s0 (xs (Int32.toNatClampNeg (i + 1))) (xs (Int32.toNatClampNeg (i + 2)))).1) ⟨F.hx, F.hb, F.hml, F.hown, F.hts⟩ (cc_C_back l G (fun q => A q ∧ ¬ TA adT q) ad nr nm hM.hnr hM.hnm s0 (xs (Int32.toNatClampNeg (i + 1))) (xs (Int32.toNatClampNeg (i + 2)))) (fun _ _ h => ⟨congrFun h.1 0, by obtain ⟨rfl, rfl⟩ := h; rfl⟩) tw_256 tw_253 tw_254 tw_255 tw_1 hd_C_back rfl rfl ⟨Nat.le_trans (m := 9) (Nat.le_of_ble_eq_true rfl) F.hR.1, Nat.le_trans (m := 318) (Nat.le_of_ble_eq_true rfl) F.hR.2⟩ F.hK hw h0 hS hl.1 rfl (Nat.le_of_ble_eq_true rfl) ⟨by omega, by omega⟩ d_L_law_478 rfl (fun ad1 H locs h0 hw hS => ?_)
  refine W.widen (k := cells + 3) (n := slots + 24) (by omega) (by omega) ?_
  refine lv_aload_n F.hx F.hb d_L_law_481 rfl (lv_at hl 1 rfl) ?_
  refine lv_aload_n F.hx F.hb d_L_law_482 rfl (lv_at hl 3 rfl) ?_
  refine lv_iload_n F.hx F.hb d_L_law_483 rfl (lv_at hl 0 rfl) ?_
  refine lv_iconst (v := 1) F.hx F.hb d_L_law_484 (by decide) ?_
  refine lv_iadd F.hx F.hb d_L_law_485 ?_
  refine va_sld F.hx F.hb F.hX F.hbl F.hbA hS h1 d_L_law_486 ?_
  refine lv_aload_n F.hx F.hb d_L_law_487 rfl (lv_at hl 3 rfl) ?_
  refine lv_iload_n F.hx F.hb d_L_law_488 rfl (lv_at hl 0 rfl) ?_
  refine lv_iconst (v := 2) F.hx F.hb d_L_law_489 (by decide) ?_
  refine lv_iadd F.hx F.hb d_L_law_490 ?_
  refine va_sld F.hx F.hb F.hX F.hbl F.hbA hS h2 d_L_law_491 ?_
  refine lawT (As := [.int (xs (Int32.toNatClampNeg (i + 1))), .int (xs (Int32.toNatClampNeg (i + 2)))]) (rest := [.int (f_C_back nr nm s0 (xs (Int32.toNatClampNeg (i + 1))) (xs (Int32.toNatClampNeg (i + 2)))).1]) (st1 := [.int (f_T_back t0 (xs (Int32.toNatClampNeg (i + 1))) (xs (Int32.toNatClampNeg (i + 2)))).1, .int (f_C_back nr nm s0 (xs (Int32.toNatClampNeg (i + 1))) (xs (Int32.toNatClampNeg (i + 2)))).1]) (t1 := (f_T_back t0 (xs (Int32.toNatClampNeg (i + 1))) (xs (Int32.toNatClampNeg (i + 2)))).2) (r := .int (f_T_back t0 (xs (Int32.toNatClampNeg (i + 1))) (xs (Int32.toNatClampNeg (i + 2)))).1) ⟨F.hx, F.hb, F.hml, F.hown, F.hts⟩ (cc_T_back l G (fun q => A q ∧ ¬ CA G ad1 (nr) (nm) ((f_C_back nr nm s0 (xs (Int32.toNatClampNeg (i + 1))) (xs (Int32.toNatClampNeg (i + 2)))).2) q) adT t0 (xs (Int32.toNatClampNeg (i + 1))) (xs (Int32.toNatClampNeg (i + 2))) hM.wt) tw_567 tw_564 tw_565 tw_566 tw_4 hd_T_back rfl rfl ⟨Nat.le_trans (m := 9) (Nat.le_of_ble_eq_true rfl) F.hR.1, Nat.le_trans (m := 318) (Nat.le_of_ble_eq_true rfl) F.hR.2⟩ F.hK hw hT hS hl.1 rfl (Nat.le_of_ble_eq_true rfl) ⟨by omega, by omega⟩ d_L_law_492 rfl (fun H locs hw hS => ?_)
  have sm := sim_back (a1 := xs (Int32.toNatClampNeg (i + 1))) (a2 := xs (Int32.toNatClampNeg (i + 2))) hM
  refine lv_icmp_eq (tgt := 780) F.hx F.hb d_L_law_495 (by decide) (fun _ => ?_) (fun h => absurd sm.1 h)
  exact kk ad1 _ _ _ _ H locs h0 hw (sm.2.mono (Nat.le_succ _)) hS

set_option maxHeartbeats 4000000 in
set_option maxRecDepth 100000 in
theorem law_case10 {p : Program} {l : Launch} {e : Env} {R : Room} {s : State} {m : MethodId} {args : Array Value} {below : List Frame} {meth : Method} {c : Code} {H : Heap} {locs : List Loc} {cells slots : Nat} {Q : State → Prop} {ls : Array Slot} {G : Gx} {A : Nat → Prop} {H0 : Heap} {b L x0 y0 : Nat} {xs : Nat → Int32} {i : Int32} {ad adT : Nat → Nat} {nr nm cn : Nat} {s0 t0 : S2} (F : LF p R s m args c G A H0 b L xs) (hl : lv_has ls 4 [(3, .int i), (2, .ref y0), (1, .ref x0), (0, .ref b)]) (h1 : vp_in (i + 1) L) (h2 : vp_in (i + 2) L) (h3 : vp_in (i + 3) L) (hw : two G A ad nr nm s0 adT t0 H) (h0 : ad 0 = x0) (hT : adT 0 = y0) (hM : Sim cn nr nm s0 t0) (hc0 : cn ≤ 100000) (hS : va_S A H0 H locs) (hcell : cells + 3 ≤ R.cells) (hslot : slots + 24 ≤ R.slots)
    (kk : ∀ (ad1 : Nat → Nat) (nr1 nm1 : Nat) (s1 t1 : S2) (H1 : Heap) (locs1 : List Loc), ad1 0 = x0 → two G A ad1 nr1 nm1 s1 adT t1 H1 → Sim (cn + 1) nr1 nm1 s1 t1 → va_S A H0 H1 locs1 → W p l e R s m args below meth c H1 locs1 (cells + 3) (slots + 24) Q (F0 m 780 ls [])) : W p l e R s m args below meth c H locs cells slots Q (F0 m 500 ls []) := by
  refine lv_aload_n F.hx F.hb d_L_law_500 rfl (lv_at hl 2 rfl) ?_
  refine lv_aload_n F.hx F.hb d_L_law_501 rfl (lv_at hl 3 rfl) ?_
  refine lv_iload_n F.hx F.hb d_L_law_502 rfl (lv_at hl 0 rfl) ?_
  refine lv_iconst (v := 1) F.hx F.hb d_L_law_503 (by decide) ?_
  refine lv_iadd F.hx F.hb d_L_law_504 ?_
  refine va_sld F.hx F.hb F.hX F.hbl F.hbA hS h1 d_L_law_505 ?_
  refine lv_aload_n F.hx F.hb d_L_law_506 rfl (lv_at hl 3 rfl) ?_
  refine lv_iload_n F.hx F.hb d_L_law_507 rfl (lv_at hl 0 rfl) ?_
  refine lv_iconst (v := 2) F.hx F.hb d_L_law_508 (by decide) ?_
  refine lv_iadd F.hx F.hb d_L_law_509 ?_
  refine va_sld F.hx F.hb F.hX F.hbl F.hbA hS h2 d_L_law_510 ?_
  refine lawC (As := [.int (xs (Int32.toNatClampNeg (i + 1))), .int (xs (Int32.toNatClampNeg (i + 2)))]) (rest := []) (st1 := [.int (f_C_machine nm s0 (xs (Int32.toNatClampNeg (i + 1))) (xs (Int32.toNatClampNeg (i + 2)))).1]) (mc := 1) (ms := 5) (nr1 := nr) (nm1 := (f_C_machine nm s0 (xs (Int32.toNatClampNeg (i + 1))) (xs (Int32.toNatClampNeg (i + 2)))).2.1) (sc1 := (f_C_machine nm s0 (xs (Int32.toNatClampNeg (i + 1))) (xs (Int32.toNatClampNeg (i + 2)))).2.2) (r := .int (f_C_machine nm s0 (xs (Int32.toNatClampNeg (i + 1))) (xs (Int32.toNatClampNeg (i + 2)))).1) ⟨F.hx, F.hb, F.hml, F.hown, F.hts⟩ (cc_C_machine l G (fun q => A q ∧ ¬ TA adT q) ad nr nm hM.hnr hM.hnm s0 (xs (Int32.toNatClampNeg (i + 1))) (xs (Int32.toNatClampNeg (i + 2))) hM.c5) (fun _ _ h => h) tw_260 tw_257 tw_258 tw_259 tw_1 hd_C_machine rfl rfl ⟨Nat.le_trans (m := 9) (Nat.le_of_ble_eq_true rfl) F.hR.1, Nat.le_trans (m := 318) (Nat.le_of_ble_eq_true rfl) F.hR.2⟩ F.hK hw h0 hS hl.1 rfl (Nat.le_of_ble_eq_true rfl) ⟨by omega, by omega⟩ d_L_law_511 rfl (fun ad1 H locs h0 hw hS => ?_)
  refine W.widen (k := cells + 3) (n := slots + 24) (by omega) (by omega) ?_
  refine lv_aload_n F.hx F.hb d_L_law_514 rfl (lv_at hl 1 rfl) ?_
  refine lv_aload_n F.hx F.hb d_L_law_515 rfl (lv_at hl 3 rfl) ?_
  refine lv_iload_n F.hx F.hb d_L_law_516 rfl (lv_at hl 0 rfl) ?_
  refine lv_iconst (v := 1) F.hx F.hb d_L_law_517 (by decide) ?_
  refine lv_iadd F.hx F.hb d_L_law_518 ?_
  refine va_sld F.hx F.hb F.hX F.hbl F.hbA hS h1 d_L_law_519 ?_
  refine lv_aload_n F.hx F.hb d_L_law_520 rfl (lv_at hl 3 rfl) ?_
  refine lv_iload_n F.hx F.hb d_L_law_521 rfl (lv_at hl 0 rfl) ?_
  refine lv_iconst (v := 2) F.hx F.hb d_L_law_522 (by decide) ?_
  refine lv_iadd F.hx F.hb d_L_law_523 ?_
  refine va_sld F.hx F.hb F.hX F.hbl F.hbA hS h2 d_L_law_524 ?_
  refine lawT (As := [.int (xs (Int32.toNatClampNeg (i + 1))), .int (xs (Int32.toNatClampNeg (i + 2)))]) (rest := [.int (f_C_machine nm s0 (xs (Int32.toNatClampNeg (i + 1))) (xs (Int32.toNatClampNeg (i + 2)))).1]) (st1 := [.int (f_T_machine t0 (xs (Int32.toNatClampNeg (i + 1))) (xs (Int32.toNatClampNeg (i + 2)))).1, .int (f_C_machine nm s0 (xs (Int32.toNatClampNeg (i + 1))) (xs (Int32.toNatClampNeg (i + 2)))).1]) (t1 := (f_T_machine t0 (xs (Int32.toNatClampNeg (i + 1))) (xs (Int32.toNatClampNeg (i + 2)))).2) (r := .int (f_T_machine t0 (xs (Int32.toNatClampNeg (i + 1))) (xs (Int32.toNatClampNeg (i + 2)))).1) ⟨F.hx, F.hb, F.hml, F.hown, F.hts⟩ (cc_T_machine l G (fun q => A q ∧ ¬ CA G ad1 (nr) ((f_C_machine nm s0 (xs (Int32.toNatClampNeg (i + 1))) (xs (Int32.toNatClampNeg (i + 2)))).2.1) ((f_C_machine nm s0 (xs (Int32.toNatClampNeg (i + 1))) (xs (Int32.toNatClampNeg (i + 2)))).2.2) q) adT t0 (xs (Int32.toNatClampNeg (i + 1))) (xs (Int32.toNatClampNeg (i + 2))) hM.wt) tw_571 tw_568 tw_569 tw_570 tw_4 hd_T_machine rfl rfl ⟨Nat.le_trans (m := 9) (Nat.le_of_ble_eq_true rfl) F.hR.1, Nat.le_trans (m := 318) (Nat.le_of_ble_eq_true rfl) F.hR.2⟩ F.hK hw hT hS hl.1 rfl (Nat.le_of_ble_eq_true rfl) ⟨by omega, by omega⟩ d_L_law_525 rfl (fun H locs hw hS => ?_)
  have sm := sim_machine (a1 := xs (Int32.toNatClampNeg (i + 1))) (a2 := xs (Int32.toNatClampNeg (i + 2))) hM
  refine lv_icmp_eq (tgt := 780) F.hx F.hb d_L_law_528 (by decide) (fun _ => ?_) (fun h => absurd sm.1 h)
  exact kk ad1 _ _ _ _ H locs h0 hw (sm.2.mono (Nat.le_succ _)) hS

set_option maxHeartbeats 4000000 in
set_option maxRecDepth 100000 in
theorem law_case11 {p : Program} {l : Launch} {e : Env} {R : Room} {s : State} {m : MethodId} {args : Array Value} {below : List Frame} {meth : Method} {c : Code} {H : Heap} {locs : List Loc} {cells slots : Nat} {Q : State → Prop} {ls : Array Slot} {G : Gx} {A : Nat → Prop} {H0 : Heap} {b L x0 y0 : Nat} {xs : Nat → Int32} {i : Int32} {ad adT : Nat → Nat} {nr nm cn : Nat} {s0 t0 : S2} (F : LF p R s m args c G A H0 b L xs) (hl : lv_has ls 4 [(3, .int i), (2, .ref y0), (1, .ref x0), (0, .ref b)]) (h1 : vp_in (i + 1) L) (h2 : vp_in (i + 2) L) (h3 : vp_in (i + 3) L) (hw : two G A ad nr nm s0 adT t0 H) (h0 : ad 0 = x0) (hT : adT 0 = y0) (hM : Sim cn nr nm s0 t0) (hc0 : cn ≤ 100000) (hS : va_S A H0 H locs) (hcell : cells + 3 ≤ R.cells) (hslot : slots + 24 ≤ R.slots)
    (kk : ∀ (ad1 : Nat → Nat) (nr1 nm1 : Nat) (s1 t1 : S2) (H1 : Heap) (locs1 : List Loc), ad1 0 = x0 → two G A ad1 nr1 nm1 s1 adT t1 H1 → Sim (cn + 1) nr1 nm1 s1 t1 → va_S A H0 H1 locs1 → W p l e R s m args below meth c H1 locs1 (cells + 3) (slots + 24) Q (F0 m 780 ls [])) : W p l e R s m args below meth c H locs cells slots Q (F0 m 533 ls []) := by
  refine lv_aload_n F.hx F.hb d_L_law_533 rfl (lv_at hl 2 rfl) ?_
  refine lv_aload_n F.hx F.hb d_L_law_534 rfl (lv_at hl 3 rfl) ?_
  refine lv_iload_n F.hx F.hb d_L_law_535 rfl (lv_at hl 0 rfl) ?_
  refine lv_iconst (v := 1) F.hx F.hb d_L_law_536 (by decide) ?_
  refine lv_iadd F.hx F.hb d_L_law_537 ?_
  refine va_sld F.hx F.hb F.hX F.hbl F.hbA hS h1 d_L_law_538 ?_
  refine lawC (As := [.int (xs (Int32.toNatClampNeg (i + 1)))]) (rest := []) (st1 := [.int (f_C_row nr nm s0 (xs (Int32.toNatClampNeg (i + 1))))]) (mc := 0) (ms := 0) (nr1 := nr) (nm1 := nm) (sc1 := s0) (r := .int (f_C_row nr nm s0 (xs (Int32.toNatClampNeg (i + 1))))) ⟨F.hx, F.hb, F.hml, F.hown, F.hts⟩ (cc_C_row l G (fun q => A q ∧ ¬ TA adT q) ad nr nm hM.hnr hM.hnm s0 (xs (Int32.toNatClampNeg (i + 1)))) (fun _ _ h => ⟨congrFun h.1 0, by obtain ⟨rfl, rfl⟩ := h; rfl⟩) tw_296 tw_293 tw_294 tw_295 tw_1 hd_C_row rfl rfl ⟨Nat.le_trans (m := 9) (Nat.le_of_ble_eq_true rfl) F.hR.1, Nat.le_trans (m := 318) (Nat.le_of_ble_eq_true rfl) F.hR.2⟩ F.hK hw h0 hS hl.1 rfl (Nat.le_of_ble_eq_true rfl) ⟨by omega, by omega⟩ d_L_law_539 rfl (fun ad1 H locs h0 hw hS => ?_)
  refine W.widen (k := cells + 3) (n := slots + 24) (by omega) (by omega) ?_
  refine lv_aload_n F.hx F.hb d_L_law_542 rfl (lv_at hl 1 rfl) ?_
  refine lv_aload_n F.hx F.hb d_L_law_543 rfl (lv_at hl 3 rfl) ?_
  refine lv_iload_n F.hx F.hb d_L_law_544 rfl (lv_at hl 0 rfl) ?_
  refine lv_iconst (v := 1) F.hx F.hb d_L_law_545 (by decide) ?_
  refine lv_iadd F.hx F.hb d_L_law_546 ?_
  refine va_sld F.hx F.hb F.hX F.hbl F.hbA hS h1 d_L_law_547 ?_
  refine lawT (As := [.int (xs (Int32.toNatClampNeg (i + 1)))]) (rest := [.int (f_C_row nr nm s0 (xs (Int32.toNatClampNeg (i + 1))))]) (st1 := [.int (f_T_row t0 (xs (Int32.toNatClampNeg (i + 1)))).1, .int (f_C_row nr nm s0 (xs (Int32.toNatClampNeg (i + 1))))]) (t1 := (f_T_row t0 (xs (Int32.toNatClampNeg (i + 1)))).2) (r := .int (f_T_row t0 (xs (Int32.toNatClampNeg (i + 1)))).1) ⟨F.hx, F.hb, F.hml, F.hown, F.hts⟩ (cc_T_row l G (fun q => A q ∧ ¬ CA G ad1 (nr) (nm) (s0) q) adT t0 (xs (Int32.toNatClampNeg (i + 1))) hM.wt) tw_575 tw_572 tw_573 tw_574 tw_4 hd_T_row rfl rfl ⟨Nat.le_trans (m := 9) (Nat.le_of_ble_eq_true rfl) F.hR.1, Nat.le_trans (m := 318) (Nat.le_of_ble_eq_true rfl) F.hR.2⟩ F.hK hw hT hS hl.1 rfl (Nat.le_of_ble_eq_true rfl) ⟨by omega, by omega⟩ d_L_law_548 rfl (fun H locs hw hS => ?_)
  have sm := sim_row (a1 := xs (Int32.toNatClampNeg (i + 1))) hM
  refine lv_icmp_eq (tgt := 780) F.hx F.hb d_L_law_551 (by decide) (fun _ => ?_) (fun h => absurd sm.1 h)
  exact kk ad1 _ _ _ _ H locs h0 hw (sm.2.mono (Nat.le_succ _)) hS

set_option maxHeartbeats 4000000 in
set_option maxRecDepth 100000 in
theorem law_case12 {p : Program} {l : Launch} {e : Env} {R : Room} {s : State} {m : MethodId} {args : Array Value} {below : List Frame} {meth : Method} {c : Code} {H : Heap} {locs : List Loc} {cells slots : Nat} {Q : State → Prop} {ls : Array Slot} {G : Gx} {A : Nat → Prop} {H0 : Heap} {b L x0 y0 : Nat} {xs : Nat → Int32} {i : Int32} {ad adT : Nat → Nat} {nr nm cn : Nat} {s0 t0 : S2} (F : LF p R s m args c G A H0 b L xs) (hl : lv_has ls 4 [(3, .int i), (2, .ref y0), (1, .ref x0), (0, .ref b)]) (h1 : vp_in (i + 1) L) (h2 : vp_in (i + 2) L) (h3 : vp_in (i + 3) L) (hw : two G A ad nr nm s0 adT t0 H) (h0 : ad 0 = x0) (hT : adT 0 = y0) (hM : Sim cn nr nm s0 t0) (hc0 : cn ≤ 100000) (hS : va_S A H0 H locs) (hcell : cells + 3 ≤ R.cells) (hslot : slots + 24 ≤ R.slots)
    (kk : ∀ (ad1 : Nat → Nat) (nr1 nm1 : Nat) (s1 t1 : S2) (H1 : Heap) (locs1 : List Loc), ad1 0 = x0 → two G A ad1 nr1 nm1 s1 adT t1 H1 → Sim (cn + 1) nr1 nm1 s1 t1 → va_S A H0 H1 locs1 → W p l e R s m args below meth c H1 locs1 (cells + 3) (slots + 24) Q (F0 m 780 ls [])) : W p l e R s m args below meth c H locs cells slots Q (F0 m 556 ls []) := by
  refine lv_aload_n F.hx F.hb d_L_law_556 rfl (lv_at hl 2 rfl) ?_
  refine lv_aload_n F.hx F.hb d_L_law_557 rfl (lv_at hl 3 rfl) ?_
  refine lv_iload_n F.hx F.hb d_L_law_558 rfl (lv_at hl 0 rfl) ?_
  refine lv_iconst (v := 1) F.hx F.hb d_L_law_559 (by decide) ?_
  refine lv_iadd F.hx F.hb d_L_law_560 ?_
  refine va_sld F.hx F.hb F.hX F.hbl F.hbA hS h1 d_L_law_561 ?_
  refine lv_aload_n F.hx F.hb d_L_law_562 rfl (lv_at hl 3 rfl) ?_
  refine lv_iload_n F.hx F.hb d_L_law_563 rfl (lv_at hl 0 rfl) ?_
  refine lv_iconst (v := 2) F.hx F.hb d_L_law_564 (by decide) ?_
  refine lv_iadd F.hx F.hb d_L_law_565 ?_
  refine va_sld F.hx F.hb F.hX F.hbl F.hbA hS h2 d_L_law_566 ?_
  refine lawC (As := [.int (xs (Int32.toNatClampNeg (i + 1))), .int (xs (Int32.toNatClampNeg (i + 2)))]) (rest := []) (st1 := [.int (f_C_pin nr nm s0 (xs (Int32.toNatClampNeg (i + 1))) (xs (Int32.toNatClampNeg (i + 2)))).1]) (mc := 0) (ms := 0) (nr1 := nr) (nm1 := nm) (sc1 := (f_C_pin nr nm s0 (xs (Int32.toNatClampNeg (i + 1))) (xs (Int32.toNatClampNeg (i + 2)))).2) (r := .int (f_C_pin nr nm s0 (xs (Int32.toNatClampNeg (i + 1))) (xs (Int32.toNatClampNeg (i + 2)))).1) ⟨F.hx, F.hb, F.hml, F.hown, F.hts⟩ (cc_C_pin l G (fun q => A q ∧ ¬ TA adT q) ad nr nm hM.hnr hM.hnm s0 (xs (Int32.toNatClampNeg (i + 1))) (xs (Int32.toNatClampNeg (i + 2)))) (fun _ _ h => ⟨congrFun h.1 0, by obtain ⟨rfl, rfl⟩ := h; rfl⟩) tw_304 tw_301 tw_302 tw_303 tw_1 hd_C_pin rfl rfl ⟨Nat.le_trans (m := 9) (Nat.le_of_ble_eq_true rfl) F.hR.1, Nat.le_trans (m := 318) (Nat.le_of_ble_eq_true rfl) F.hR.2⟩ F.hK hw h0 hS hl.1 rfl (Nat.le_of_ble_eq_true rfl) ⟨by omega, by omega⟩ d_L_law_567 rfl (fun ad1 H locs h0 hw hS => ?_)
  refine W.widen (k := cells + 3) (n := slots + 24) (by omega) (by omega) ?_
  refine lv_aload_n F.hx F.hb d_L_law_570 rfl (lv_at hl 1 rfl) ?_
  refine lv_aload_n F.hx F.hb d_L_law_571 rfl (lv_at hl 3 rfl) ?_
  refine lv_iload_n F.hx F.hb d_L_law_572 rfl (lv_at hl 0 rfl) ?_
  refine lv_iconst (v := 1) F.hx F.hb d_L_law_573 (by decide) ?_
  refine lv_iadd F.hx F.hb d_L_law_574 ?_
  refine va_sld F.hx F.hb F.hX F.hbl F.hbA hS h1 d_L_law_575 ?_
  refine lv_aload_n F.hx F.hb d_L_law_576 rfl (lv_at hl 3 rfl) ?_
  refine lv_iload_n F.hx F.hb d_L_law_577 rfl (lv_at hl 0 rfl) ?_
  refine lv_iconst (v := 2) F.hx F.hb d_L_law_578 (by decide) ?_
  refine lv_iadd F.hx F.hb d_L_law_579 ?_
  refine va_sld F.hx F.hb F.hX F.hbl F.hbA hS h2 d_L_law_580 ?_
  refine lawT (As := [.int (xs (Int32.toNatClampNeg (i + 1))), .int (xs (Int32.toNatClampNeg (i + 2)))]) (rest := [.int (f_C_pin nr nm s0 (xs (Int32.toNatClampNeg (i + 1))) (xs (Int32.toNatClampNeg (i + 2)))).1]) (st1 := [.int (f_T_pin t0 (xs (Int32.toNatClampNeg (i + 1))) (xs (Int32.toNatClampNeg (i + 2)))).1, .int (f_C_pin nr nm s0 (xs (Int32.toNatClampNeg (i + 1))) (xs (Int32.toNatClampNeg (i + 2)))).1]) (t1 := (f_T_pin t0 (xs (Int32.toNatClampNeg (i + 1))) (xs (Int32.toNatClampNeg (i + 2)))).2) (r := .int (f_T_pin t0 (xs (Int32.toNatClampNeg (i + 1))) (xs (Int32.toNatClampNeg (i + 2)))).1) ⟨F.hx, F.hb, F.hml, F.hown, F.hts⟩ (cc_T_pin l G (fun q => A q ∧ ¬ CA G ad1 (nr) (nm) ((f_C_pin nr nm s0 (xs (Int32.toNatClampNeg (i + 1))) (xs (Int32.toNatClampNeg (i + 2)))).2) q) adT t0 (xs (Int32.toNatClampNeg (i + 1))) (xs (Int32.toNatClampNeg (i + 2))) hM.wt) tw_590 tw_587 tw_588 tw_589 tw_4 hd_T_pin rfl rfl ⟨Nat.le_trans (m := 9) (Nat.le_of_ble_eq_true rfl) F.hR.1, Nat.le_trans (m := 318) (Nat.le_of_ble_eq_true rfl) F.hR.2⟩ F.hK hw hT hS hl.1 rfl (Nat.le_of_ble_eq_true rfl) ⟨by omega, by omega⟩ d_L_law_581 rfl (fun H locs hw hS => ?_)
  have sm := sim_pin (a1 := xs (Int32.toNatClampNeg (i + 1))) (a2 := xs (Int32.toNatClampNeg (i + 2))) hM
  refine lv_icmp_eq (tgt := 780) F.hx F.hb d_L_law_584 (by decide) (fun _ => ?_) (fun h => absurd sm.1 h)
  exact kk ad1 _ _ _ _ H locs h0 hw (sm.2.mono (Nat.le_succ _)) hS

set_option maxHeartbeats 4000000 in
set_option maxRecDepth 100000 in
theorem law_case13 {p : Program} {l : Launch} {e : Env} {R : Room} {s : State} {m : MethodId} {args : Array Value} {below : List Frame} {meth : Method} {c : Code} {H : Heap} {locs : List Loc} {cells slots : Nat} {Q : State → Prop} {ls : Array Slot} {G : Gx} {A : Nat → Prop} {H0 : Heap} {b L x0 y0 : Nat} {xs : Nat → Int32} {i : Int32} {ad adT : Nat → Nat} {nr nm cn : Nat} {s0 t0 : S2} (F : LF p R s m args c G A H0 b L xs) (hl : lv_has ls 4 [(3, .int i), (2, .ref y0), (1, .ref x0), (0, .ref b)]) (h1 : vp_in (i + 1) L) (h2 : vp_in (i + 2) L) (h3 : vp_in (i + 3) L) (hw : two G A ad nr nm s0 adT t0 H) (h0 : ad 0 = x0) (hT : adT 0 = y0) (hM : Sim cn nr nm s0 t0) (hc0 : cn ≤ 100000) (hS : va_S A H0 H locs) (hcell : cells + 3 ≤ R.cells) (hslot : slots + 24 ≤ R.slots)
    (kk : ∀ (ad1 : Nat → Nat) (nr1 nm1 : Nat) (s1 t1 : S2) (H1 : Heap) (locs1 : List Loc), ad1 0 = x0 → two G A ad1 nr1 nm1 s1 adT t1 H1 → Sim (cn + 1) nr1 nm1 s1 t1 → va_S A H0 H1 locs1 → W p l e R s m args below meth c H1 locs1 (cells + 3) (slots + 24) Q (F0 m 780 ls [])) : W p l e R s m args below meth c H locs cells slots Q (F0 m 589 ls []) := by
  refine lv_aload_n F.hx F.hb d_L_law_589 rfl (lv_at hl 2 rfl) ?_
  refine lv_aload_n F.hx F.hb d_L_law_590 rfl (lv_at hl 3 rfl) ?_
  refine lv_iload_n F.hx F.hb d_L_law_591 rfl (lv_at hl 0 rfl) ?_
  refine lv_iconst (v := 1) F.hx F.hb d_L_law_592 (by decide) ?_
  refine lv_iadd F.hx F.hb d_L_law_593 ?_
  refine va_sld F.hx F.hb F.hX F.hbl F.hbA hS h1 d_L_law_594 ?_
  refine lawC (As := [.int (xs (Int32.toNatClampNeg (i + 1)))]) (rest := []) (st1 := [.int (f_C_offered nr nm s0 (xs (Int32.toNatClampNeg (i + 1))))]) (mc := 0) (ms := 0) (nr1 := nr) (nm1 := nm) (sc1 := s0) (r := .int (f_C_offered nr nm s0 (xs (Int32.toNatClampNeg (i + 1))))) ⟨F.hx, F.hb, F.hml, F.hown, F.hts⟩ (cc_C_offered l G (fun q => A q ∧ ¬ TA adT q) ad nr nm hM.hnr hM.hnm s0 (xs (Int32.toNatClampNeg (i + 1))) hM.c4) (fun _ _ h => ⟨congrFun h.1 0, by obtain ⟨rfl, rfl⟩ := h; rfl⟩) tw_308 tw_305 tw_306 tw_307 tw_1 hd_C_offered rfl rfl ⟨Nat.le_trans (m := 9) (Nat.le_of_ble_eq_true rfl) F.hR.1, Nat.le_trans (m := 318) (Nat.le_of_ble_eq_true rfl) F.hR.2⟩ F.hK hw h0 hS hl.1 rfl (Nat.le_of_ble_eq_true rfl) ⟨by omega, by omega⟩ d_L_law_595 rfl (fun ad1 H locs h0 hw hS => ?_)
  refine W.widen (k := cells + 3) (n := slots + 24) (by omega) (by omega) ?_
  refine lv_aload_n F.hx F.hb d_L_law_598 rfl (lv_at hl 1 rfl) ?_
  refine lv_aload_n F.hx F.hb d_L_law_599 rfl (lv_at hl 3 rfl) ?_
  refine lv_iload_n F.hx F.hb d_L_law_600 rfl (lv_at hl 0 rfl) ?_
  refine lv_iconst (v := 1) F.hx F.hb d_L_law_601 (by decide) ?_
  refine lv_iadd F.hx F.hb d_L_law_602 ?_
  refine va_sld F.hx F.hb F.hX F.hbl F.hbA hS h1 d_L_law_603 ?_
  refine lawT (As := [.int (xs (Int32.toNatClampNeg (i + 1)))]) (rest := [.int (f_C_offered nr nm s0 (xs (Int32.toNatClampNeg (i + 1))))]) (st1 := [.int (f_T_offered t0 (xs (Int32.toNatClampNeg (i + 1)))).1, .int (f_C_offered nr nm s0 (xs (Int32.toNatClampNeg (i + 1))))]) (t1 := (f_T_offered t0 (xs (Int32.toNatClampNeg (i + 1)))).2) (r := .int (f_T_offered t0 (xs (Int32.toNatClampNeg (i + 1)))).1) ⟨F.hx, F.hb, F.hml, F.hown, F.hts⟩ (cc_T_offered l G (fun q => A q ∧ ¬ CA G ad1 (nr) (nm) (s0) q) adT t0 (xs (Int32.toNatClampNeg (i + 1))) hM.wt) tw_594 tw_591 tw_592 tw_593 tw_4 hd_T_offered rfl rfl ⟨Nat.le_trans (m := 9) (Nat.le_of_ble_eq_true rfl) F.hR.1, Nat.le_trans (m := 318) (Nat.le_of_ble_eq_true rfl) F.hR.2⟩ F.hK hw hT hS hl.1 rfl (Nat.le_of_ble_eq_true rfl) ⟨by omega, by omega⟩ d_L_law_604 rfl (fun H locs hw hS => ?_)
  have sm := sim_offered (a1 := xs (Int32.toNatClampNeg (i + 1))) hM
  refine lv_icmp_eq (tgt := 780) F.hx F.hb d_L_law_607 (by decide) (fun _ => ?_) (fun h => absurd sm.1 h)
  exact kk ad1 _ _ _ _ H locs h0 hw (sm.2.mono (Nat.le_succ _)) hS

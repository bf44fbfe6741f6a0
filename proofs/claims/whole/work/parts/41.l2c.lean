set_option maxHeartbeats 4000000 in
set_option maxRecDepth 100000 in
theorem law_case14 {p : Program} {l : Launch} {e : Env} {R : Room} {s : State} {m : MethodId} {args : Array Value} {below : List Frame} {meth : Method} {c : Code} {H : Heap} {locs : List Loc} {cells slots : Nat} {Q : State → Prop} {ls : Array Slot} {G : Gx} {A : Nat → Prop} {H0 : Heap} {b L x0 y0 : Nat} {xs : Nat → Int32} {i : Int32} {ad adT : Nat → Nat} {nr nm cn : Nat} {s0 t0 : S2} (F : LF p R s m args c G A H0 b L xs) (hl : lv_has ls 4 [(3, .int i), (2, .ref y0), (1, .ref x0), (0, .ref b)]) (h1 : vp_in (i + 1) L) (h2 : vp_in (i + 2) L) (h3 : vp_in (i + 3) L) (hw : two G A ad nr nm s0 adT t0 H) (h0 : ad 0 = x0) (hT : adT 0 = y0) (hM : Sim cn nr nm s0 t0) (hc0 : cn ≤ 100000) (hS : va_S A H0 H locs) (hcell : cells + 3 ≤ R.cells) (hslot : slots + 24 ≤ R.slots)
    (kk : ∀ (ad1 : Nat → Nat) (nr1 nm1 : Nat) (s1 t1 : S2) (H1 : Heap) (locs1 : List Loc), ad1 0 = x0 → two G A ad1 nr1 nm1 s1 adT t1 H1 → Sim (cn + 1) nr1 nm1 s1 t1 → va_S A H0 H1 locs1 → W p l e R s m args below meth c H1 locs1 (cells + 3) (slots + 24) Q (F0 m 780 ls [])) : W p l e R s m args below meth c H locs cells slots Q (F0 m 612 ls []) := by
  refine lv_aload_n F.hx F.hb d_L_law_612 rfl (lv_at hl 2 rfl) ?_
  refine lv_aload_n F.hx F.hb d_L_law_613 rfl (lv_at hl 3 rfl) ?_
  refine lv_iload_n F.hx F.hb d_L_law_614 rfl (lv_at hl 0 rfl) ?_
  refine lv_iconst (v := 1) F.hx F.hb d_L_law_615 (by decide) ?_
  refine lv_iadd F.hx F.hb d_L_law_616 ?_
  refine va_sld F.hx F.hb F.hX F.hbl F.hbA hS h1 d_L_law_617 ?_
  refine lv_aload_n F.hx F.hb d_L_law_618 rfl (lv_at hl 3 rfl) ?_
  refine lv_iload_n F.hx F.hb d_L_law_619 rfl (lv_at hl 0 rfl) ?_
  refine lv_iconst (v := 2) F.hx F.hb d_L_law_620 (by decide) ?_
  refine lv_iadd F.hx F.hb d_L_law_621 ?_
  refine va_sld F.hx F.hb F.hX F.hbl F.hbA hS h2 d_L_law_622 ?_
  refine lawC (As := [.int (xs (Int32.toNatClampNeg (i + 1))), .int (xs (Int32.toNatClampNeg (i + 2)))]) (rest := []) (st1 := [.int (f_C_may nr nm s0 (xs (Int32.toNatClampNeg (i + 1))) (xs (Int32.toNatClampNeg (i + 2))))]) (mc := 0) (ms := 0) (nr1 := nr) (nm1 := nm) (sc1 := s0) (r := .int (f_C_may nr nm s0 (xs (Int32.toNatClampNeg (i + 1))) (xs (Int32.toNatClampNeg (i + 2))))) ⟨F.hx, F.hb, F.hml, F.hown, F.hts⟩ (cc_C_may l G (fun q => A q ∧ ¬ TA adT q) ad nr nm hM.hnr hM.hnm s0 (xs (Int32.toNatClampNeg (i + 1))) (xs (Int32.toNatClampNeg (i + 2)))) (fun _ _ h => ⟨congrFun h.1 0, by obtain ⟨rfl, rfl⟩ := h; rfl⟩) tw_340 tw_337 tw_338 tw_339 tw_1 hd_C_may rfl rfl ⟨Nat.le_trans (m := 9) (Nat.le_of_ble_eq_true rfl) F.hR.1, Nat.le_trans (m := 318) (Nat.le_of_ble_eq_true rfl) F.hR.2⟩ F.hK hw h0 hS hl.1 rfl (Nat.le_of_ble_eq_true rfl) ⟨by omega, by omega⟩ d_L_law_623 rfl (fun ad1 H locs h0 hw hS => ?_)
  refine W.widen (k := cells + 3) (n := slots + 24) (by omega) (by omega) ?_
  refine lv_aload_n F.hx F.hb d_L_law_626 rfl (lv_at hl 1 rfl) ?_
  refine lv_aload_n F.hx F.hb d_L_law_627 rfl (lv_at hl 3 rfl) ?_
  refine lv_iload_n F.hx F.hb d_L_law_628 rfl (lv_at hl 0 rfl) ?_
  refine lv_iconst (v := 1) F.hx F.hb d_L_law_629 (by decide) ?_
  refine lv_iadd F.hx F.hb d_L_law_630 ?_
  refine va_sld F.hx F.hb F.hX F.hbl F.hbA hS h1 d_L_law_631 ?_
  refine lv_aload_n F.hx F.hb d_L_law_632 rfl (lv_at hl 3 rfl) ?_
  refine lv_iload_n F.hx F.hb d_L_law_633 rfl (lv_at hl 0 rfl) ?_
  refine lv_iconst (v := 2) F.hx F.hb d_L_law_634 (by decide) ?_
  refine lv_iadd F.hx F.hb d_L_law_635 ?_
  refine va_sld F.hx F.hb F.hX F.hbl F.hbA hS h2 d_L_law_636 ?_
  refine lawT (As := [.int (xs (Int32.toNatClampNeg (i + 1))), .int (xs (Int32.toNatClampNeg (i + 2)))]) (rest := [.int (f_C_may nr nm s0 (xs (Int32.toNatClampNeg (i + 1))) (xs (Int32.toNatClampNeg (i + 2))))]) (st1 := [.int (f_T_may t0 (xs (Int32.toNatClampNeg (i + 1))) (xs (Int32.toNatClampNeg (i + 2)))).1, .int (f_C_may nr nm s0 (xs (Int32.toNatClampNeg (i + 1))) (xs (Int32.toNatClampNeg (i + 2))))]) (t1 := (f_T_may t0 (xs (Int32.toNatClampNeg (i + 1))) (xs (Int32.toNatClampNeg (i + 2)))).2) (r := .int (f_T_may t0 (xs (Int32.toNatClampNeg (i + 1))) (xs (Int32.toNatClampNeg (i + 2)))).1) ⟨F.hx, F.hb, F.hml, F.hown, F.hts⟩ (cc_T_may l G (fun q => A q ∧ ¬ CA G ad1 (nr) (nm) (s0) q) adT t0 (xs (Int32.toNatClampNeg (i + 1))) (xs (Int32.toNatClampNeg (i + 2))) hM.wt) tw_610 tw_607 tw_608 tw_609 tw_4 hd_T_may rfl rfl ⟨Nat.le_trans (m := 9) (Nat.le_of_ble_eq_true rfl) F.hR.1, Nat.le_trans (m := 318) (Nat.le_of_ble_eq_true rfl) F.hR.2⟩ F.hK hw hT hS hl.1 rfl (Nat.le_of_ble_eq_true rfl) ⟨by omega, by omega⟩ d_L_law_637 rfl (fun H locs hw hS => ?_)
  have sm := sim_may (a1 := xs (Int32.toNatClampNeg (i + 1))) (a2 := xs (Int32.toNatClampNeg (i + 2))) hM
  refine lv_icmp_eq (tgt := 780) F.hx F.hb d_L_law_640 (by decide) (fun _ => ?_) (fun h => absurd sm.1 h)
  exact kk ad1 _ _ _ _ H locs h0 hw (sm.2.mono (Nat.le_succ _)) hS

set_option maxHeartbeats 4000000 in
set_option maxRecDepth 100000 in
theorem law_case15 {p : Program} {l : Launch} {e : Env} {R : Room} {s : State} {m : MethodId} {args : Array Value} {below : List Frame} {meth : Method} {c : Code} {H : Heap} {locs : List Loc} {cells slots : Nat} {Q : State → Prop} {ls : Array Slot} {G : Gx} {A : Nat → Prop} {H0 : Heap} {b L x0 y0 : Nat} {xs : Nat → Int32} {i : Int32} {ad adT : Nat → Nat} {nr nm cn : Nat} {s0 t0 : S2} (F : LF p R s m args c G A H0 b L xs) (hl : lv_has ls 4 [(3, .int i), (2, .ref y0), (1, .ref x0), (0, .ref b)]) (h1 : vp_in (i + 1) L) (h2 : vp_in (i + 2) L) (h3 : vp_in (i + 3) L) (hw : two G A ad nr nm s0 adT t0 H) (h0 : ad 0 = x0) (hT : adT 0 = y0) (hM : Sim cn nr nm s0 t0) (hc0 : cn ≤ 100000) (hS : va_S A H0 H locs) (hcell : cells + 3 ≤ R.cells) (hslot : slots + 24 ≤ R.slots)
    (kk : ∀ (ad1 : Nat → Nat) (nr1 nm1 : Nat) (s1 t1 : S2) (H1 : Heap) (locs1 : List Loc), ad1 0 = x0 → two G A ad1 nr1 nm1 s1 adT t1 H1 → Sim (cn + 1) nr1 nm1 s1 t1 → va_S A H0 H1 locs1 → W p l e R s m args below meth c H1 locs1 (cells + 3) (slots + 24) Q (F0 m 780 ls [])) : W p l e R s m args below meth c H locs cells slots Q (F0 m 645 ls []) := by
  refine lv_aload_n F.hx F.hb d_L_law_645 rfl (lv_at hl 2 rfl) ?_
  refine lv_aload_n F.hx F.hb d_L_law_646 rfl (lv_at hl 3 rfl) ?_
  refine lv_iload_n F.hx F.hb d_L_law_647 rfl (lv_at hl 0 rfl) ?_
  refine lv_iconst (v := 1) F.hx F.hb d_L_law_648 (by decide) ?_
  refine lv_iadd F.hx F.hb d_L_law_649 ?_
  refine va_sld F.hx F.hb F.hX F.hbl F.hbA hS h1 d_L_law_650 ?_
  refine lv_aload_n F.hx F.hb d_L_law_651 rfl (lv_at hl 3 rfl) ?_
  refine lv_iload_n F.hx F.hb d_L_law_652 rfl (lv_at hl 0 rfl) ?_
  refine lv_iconst (v := 2) F.hx F.hb d_L_law_653 (by decide) ?_
  refine lv_iadd F.hx F.hb d_L_law_654 ?_
  refine va_sld F.hx F.hb F.hX F.hbl F.hbA hS h2 d_L_law_655 ?_
  refine lv_aload_n F.hx F.hb d_L_law_656 rfl (lv_at hl 3 rfl) ?_
  refine lv_iload_n F.hx F.hb d_L_law_657 rfl (lv_at hl 0 rfl) ?_
  refine lv_iconst (v := 3) F.hx F.hb d_L_law_658 (by decide) ?_
  refine lv_iadd F.hx F.hb d_L_law_659 ?_
  refine va_sld F.hx F.hb F.hX F.hbl F.hbA hS h3 d_L_law_660 ?_
  refine lawC (As := [.int (xs (Int32.toNatClampNeg (i + 1))), .int (xs (Int32.toNatClampNeg (i + 2))), .int (xs (Int32.toNatClampNeg (i + 3)))]) (rest := []) (st1 := [.int (f_C_delta nr nm s0 (xs (Int32.toNatClampNeg (i + 1))) (xs (Int32.toNatClampNeg (i + 2))) (xs (Int32.toNatClampNeg (i + 3)))).1]) (mc := 0) (ms := 0) (nr1 := nr) (nm1 := nm) (sc1 := (f_C_delta nr nm s0 (xs (Int32.toNatClampNeg (i + 1))) (xs (Int32.toNatClampNeg (i + 2))) (xs (Int32.toNatClampNeg (i + 3)))).2) (r := .int (f_C_delta nr nm s0 (xs (Int32.toNatClampNeg (i + 1))) (xs (Int32.toNatClampNeg (i + 2))) (xs (Int32.toNatClampNeg (i + 3)))).1) ⟨F.hx, F.hb, F.hml, F.hown, F.hts⟩ (cc_C_delta l G (fun q => A q ∧ ¬ TA adT q) ad nr nm hM.hnr hM.hnm s0 (xs (Int32.toNatClampNeg (i + 1))) (xs (Int32.toNatClampNeg (i + 2))) (xs (Int32.toNatClampNeg (i + 3))) (by rw [hM.dc]; exact hM.dcb)) (fun _ _ h => ⟨congrFun h.1 0, by obtain ⟨rfl, rfl⟩ := h; rfl⟩) tw_344 tw_341 tw_342 tw_343 tw_1 hd_C_delta rfl rfl ⟨Nat.le_trans (m := 9) (Nat.le_of_ble_eq_true rfl) F.hR.1, Nat.le_trans (m := 318) (Nat.le_of_ble_eq_true rfl) F.hR.2⟩ F.hK hw h0 hS hl.1 rfl (Nat.le_of_ble_eq_true rfl) ⟨by omega, by omega⟩ d_L_law_661 rfl (fun ad1 H locs h0 hw hS => ?_)
  refine W.widen (k := cells + 3) (n := slots + 24) (by omega) (by omega) ?_
  refine lv_aload_n F.hx F.hb d_L_law_664 rfl (lv_at hl 1 rfl) ?_
  refine lv_aload_n F.hx F.hb d_L_law_665 rfl (lv_at hl 3 rfl) ?_
  refine lv_iload_n F.hx F.hb d_L_law_666 rfl (lv_at hl 0 rfl) ?_
  refine lv_iconst (v := 1) F.hx F.hb d_L_law_667 (by decide) ?_
  refine lv_iadd F.hx F.hb d_L_law_668 ?_
  refine va_sld F.hx F.hb F.hX F.hbl F.hbA hS h1 d_L_law_669 ?_
  refine lv_aload_n F.hx F.hb d_L_law_670 rfl (lv_at hl 3 rfl) ?_
  refine lv_iload_n F.hx F.hb d_L_law_671 rfl (lv_at hl 0 rfl) ?_
  refine lv_iconst (v := 2) F.hx F.hb d_L_law_672 (by decide) ?_
  refine lv_iadd F.hx F.hb d_L_law_673 ?_
  refine va_sld F.hx F.hb F.hX F.hbl F.hbA hS h2 d_L_law_674 ?_
  refine lv_aload_n F.hx F.hb d_L_law_675 rfl (lv_at hl 3 rfl) ?_
  refine lv_iload_n F.hx F.hb d_L_law_676 rfl (lv_at hl 0 rfl) ?_
  refine lv_iconst (v := 3) F.hx F.hb d_L_law_677 (by decide) ?_
  refine lv_iadd F.hx F.hb d_L_law_678 ?_
  refine va_sld F.hx F.hb F.hX F.hbl F.hbA hS h3 d_L_law_679 ?_
  refine lawT (As := [.int (xs (Int32.toNatClampNeg (i + 1))), .int (xs (Int32.toNatClampNeg (i + 2))), .int (xs (Int32.toNatClampNeg (i + 3)))]) (rest := [.int (f_C_delta nr nm s0 (xs (Int32.toNatClampNeg (i + 1))) (xs (Int32.toNatClampNeg (i + 2))) (xs (Int32.toNatClampNeg (i + 3)))).1]) (st1 := [.int (f_T_delta t0 (xs (Int32.toNatClampNeg (i + 1))) (xs (Int32.toNatClampNeg (i + 2))) (xs (Int32.toNatClampNeg (i + 3)))).1, .int (f_C_delta nr nm s0 (xs (Int32.toNatClampNeg (i + 1))) (xs (Int32.toNatClampNeg (i + 2))) (xs (Int32.toNatClampNeg (i + 3)))).1]) (t1 := (f_T_delta t0 (xs (Int32.toNatClampNeg (i + 1))) (xs (Int32.toNatClampNeg (i + 2))) (xs (Int32.toNatClampNeg (i + 3)))).2) (r := .int (f_T_delta t0 (xs (Int32.toNatClampNeg (i + 1))) (xs (Int32.toNatClampNeg (i + 2))) (xs (Int32.toNatClampNeg (i + 3)))).1) ⟨F.hx, F.hb, F.hml, F.hown, F.hts⟩ (cc_T_delta l G (fun q => A q ∧ ¬ CA G ad1 (nr) (nm) ((f_C_delta nr nm s0 (xs (Int32.toNatClampNeg (i + 1))) (xs (Int32.toNatClampNeg (i + 2))) (xs (Int32.toNatClampNeg (i + 3)))).2) q) adT t0 (xs (Int32.toNatClampNeg (i + 1))) (xs (Int32.toNatClampNeg (i + 2))) (xs (Int32.toNatClampNeg (i + 3))) hM.wt) tw_614 tw_611 tw_612 tw_613 tw_4 hd_T_delta rfl rfl ⟨Nat.le_trans (m := 9) (Nat.le_of_ble_eq_true rfl) F.hR.1, Nat.le_trans (m := 318) (Nat.le_of_ble_eq_true rfl) F.hR.2⟩ F.hK hw hT hS hl.1 rfl (Nat.le_of_ble_eq_true rfl) ⟨by omega, by omega⟩ d_L_law_680 rfl (fun H locs hw hS => ?_)
  have sm := sim_delta (a1 := xs (Int32.toNatClampNeg (i + 1))) (a2 := xs (Int32.toNatClampNeg (i + 2))) (a3 := xs (Int32.toNatClampNeg (i + 3))) hM
  refine lv_icmp_eq (tgt := 780) F.hx F.hb d_L_law_683 (by decide) (fun _ => ?_) (fun h => absurd sm.1 h)
  exact kk ad1 _ _ _ _ H locs h0 hw (sm.2.mono (Nat.le_succ _)) hS

set_option maxHeartbeats 4000000 in
set_option maxRecDepth 100000 in
theorem law_case16 {p : Program} {l : Launch} {e : Env} {R : Room} {s : State} {m : MethodId} {args : Array Value} {below : List Frame} {meth : Method} {c : Code} {H : Heap} {locs : List Loc} {cells slots : Nat} {Q : State → Prop} {ls : Array Slot} {G : Gx} {A : Nat → Prop} {H0 : Heap} {b L x0 y0 : Nat} {xs : Nat → Int32} {i : Int32} {ad adT : Nat → Nat} {nr nm cn : Nat} {s0 t0 : S2} (F : LF p R s m args c G A H0 b L xs) (hl : lv_has ls 4 [(3, .int i), (2, .ref y0), (1, .ref x0), (0, .ref b)]) (h1 : vp_in (i + 1) L) (h2 : vp_in (i + 2) L) (h3 : vp_in (i + 3) L) (hw : two G A ad nr nm s0 adT t0 H) (h0 : ad 0 = x0) (hT : adT 0 = y0) (hM : Sim cn nr nm s0 t0) (hc0 : cn ≤ 100000) (hS : va_S A H0 H locs) (hcell : cells + 3 ≤ R.cells) (hslot : slots + 24 ≤ R.slots)
    (kk : ∀ (ad1 : Nat → Nat) (nr1 nm1 : Nat) (s1 t1 : S2) (H1 : Heap) (locs1 : List Loc), ad1 0 = x0 → two G A ad1 nr1 nm1 s1 adT t1 H1 → Sim (cn + 1) nr1 nm1 s1 t1 → va_S A H0 H1 locs1 → W p l e R s m args below meth c H1 locs1 (cells + 3) (slots + 24) Q (F0 m 780 ls [])) : W p l e R s m args below meth c H locs cells slots Q (F0 m 688 ls []) := by
  refine lv_aload_n F.hx F.hb d_L_law_688 rfl (lv_at hl 2 rfl) ?_
  refine lv_aload_n F.hx F.hb d_L_law_689 rfl (lv_at hl 3 rfl) ?_
  refine lv_iload_n F.hx F.hb d_L_law_690 rfl (lv_at hl 0 rfl) ?_
  refine lv_iconst (v := 1) F.hx F.hb d_L_law_691 (by decide) ?_
  refine lv_iadd F.hx F.hb d_L_law_692 ?_
  refine va_sld F.hx F.hb F.hX F.hbl F.hbA hS h1 d_L_law_693 ?_
  refine lawC (As := [.int (xs (Int32.toNatClampNeg (i + 1)))]) (rest := []) (st1 := [.int (f_C_cost nr nm s0 (xs (Int32.toNatClampNeg (i + 1)))).1]) (mc := 0) (ms := 0) (nr1 := nr) (nm1 := nm) (sc1 := (f_C_cost nr nm s0 (xs (Int32.toNatClampNeg (i + 1)))).2) (r := .int (f_C_cost nr nm s0 (xs (Int32.toNatClampNeg (i + 1)))).1) ⟨F.hx, F.hb, F.hml, F.hown, F.hts⟩ (cc_C_cost l G (fun q => A q ∧ ¬ TA adT q) ad nr nm hM.hnr hM.hnm s0 (xs (Int32.toNatClampNeg (i + 1))) hM.c4 (by rw [hM.dc]; exact hM.dcb)) (fun _ _ h => ⟨congrFun h.1 0, by obtain ⟨rfl, rfl⟩ := h; rfl⟩) tw_358 tw_355 tw_356 tw_357 tw_1 hd_C_cost rfl rfl ⟨Nat.le_trans (m := 9) (Nat.le_of_ble_eq_true rfl) F.hR.1, Nat.le_trans (m := 318) (Nat.le_of_ble_eq_true rfl) F.hR.2⟩ F.hK hw h0 hS hl.1 rfl (Nat.le_of_ble_eq_true rfl) ⟨by omega, by omega⟩ d_L_law_694 rfl (fun ad1 H locs h0 hw hS => ?_)
  refine W.widen (k := cells + 3) (n := slots + 24) (by omega) (by omega) ?_
  refine lv_aload_n F.hx F.hb d_L_law_697 rfl (lv_at hl 1 rfl) ?_
  refine lv_aload_n F.hx F.hb d_L_law_698 rfl (lv_at hl 3 rfl) ?_
  refine lv_iload_n F.hx F.hb d_L_law_699 rfl (lv_at hl 0 rfl) ?_
  refine lv_iconst (v := 1) F.hx F.hb d_L_law_700 (by decide) ?_
  refine lv_iadd F.hx F.hb d_L_law_701 ?_
  refine va_sld F.hx F.hb F.hX F.hbl F.hbA hS h1 d_L_law_702 ?_
  refine lawT (As := [.int (xs (Int32.toNatClampNeg (i + 1)))]) (rest := [.int (f_C_cost nr nm s0 (xs (Int32.toNatClampNeg (i + 1)))).1]) (st1 := [.int (f_T_cost t0 (xs (Int32.toNatClampNeg (i + 1)))).1, .int (f_C_cost nr nm s0 (xs (Int32.toNatClampNeg (i + 1)))).1]) (t1 := (f_T_cost t0 (xs (Int32.toNatClampNeg (i + 1)))).2) (r := .int (f_T_cost t0 (xs (Int32.toNatClampNeg (i + 1)))).1) ⟨F.hx, F.hb, F.hml, F.hown, F.hts⟩ (cc_T_cost l G (fun q => A q ∧ ¬ CA G ad1 (nr) (nm) ((f_C_cost nr nm s0 (xs (Int32.toNatClampNeg (i + 1)))).2) q) adT t0 (xs (Int32.toNatClampNeg (i + 1))) hM.wt) tw_618 tw_615 tw_616 tw_617 tw_4 hd_T_cost rfl rfl ⟨Nat.le_trans (m := 9) (Nat.le_of_ble_eq_true rfl) F.hR.1, Nat.le_trans (m := 318) (Nat.le_of_ble_eq_true rfl) F.hR.2⟩ F.hK hw hT hS hl.1 rfl (Nat.le_of_ble_eq_true rfl) ⟨by omega, by omega⟩ d_L_law_703 rfl (fun H locs hw hS => ?_)
  have sm := sim_cost (a1 := xs (Int32.toNatClampNeg (i + 1))) hM
  refine lv_icmp_eq (tgt := 780) F.hx F.hb d_L_law_706 (by decide) (fun _ => ?_) (fun h => absurd sm.1 h)
  exact kk ad1 _ _ _ _ H locs h0 hw (sm.2.mono (Nat.le_succ _)) hS

set_option maxHeartbeats 4000000 in
set_option maxRecDepth 100000 in
theorem law_case17 {p : Program} {l : Launch} {e : Env} {R : Room} {s : State} {m : MethodId} {args : Array Value} {below : List Frame} {meth : Method} {c : Code} {H : Heap} {locs : List Loc} {cells slots : Nat} {Q : State → Prop} {ls : Array Slot} {G : Gx} {A : Nat → Prop} {H0 : Heap} {b L x0 y0 : Nat} {xs : Nat → Int32} {i : Int32} {ad adT : Nat → Nat} {nr nm cn : Nat} {s0 t0 : S2} (F : LF p R s m args c G A H0 b L xs) (hl : lv_has ls 4 [(3, .int i), (2, .ref y0), (1, .ref x0), (0, .ref b)]) (h1 : vp_in (i + 1) L) (h2 : vp_in (i + 2) L) (h3 : vp_in (i + 3) L) (hw : two G A ad nr nm s0 adT t0 H) (h0 : ad 0 = x0) (hT : adT 0 = y0) (hM : Sim cn nr nm s0 t0) (hc0 : cn ≤ 100000) (hS : va_S A H0 H locs) (hcell : cells + 3 ≤ R.cells) (hslot : slots + 24 ≤ R.slots)
    (kk : ∀ (ad1 : Nat → Nat) (nr1 nm1 : Nat) (s1 t1 : S2) (H1 : Heap) (locs1 : List Loc), ad1 0 = x0 → two G A ad1 nr1 nm1 s1 adT t1 H1 → Sim (cn + 1) nr1 nm1 s1 t1 → va_S A H0 H1 locs1 → W p l e R s m args below meth c H1 locs1 (cells + 3) (slots + 24) Q (F0 m 780 ls [])) : W p l e R s m args below meth c H locs cells slots Q (F0 m 711 ls []) := by
  refine lv_aload_n F.hx F.hb d_L_law_711 rfl (lv_at hl 2 rfl) ?_
  refine lv_aload_n F.hx F.hb d_L_law_712 rfl (lv_at hl 3 rfl) ?_
  refine lv_iload_n F.hx F.hb d_L_law_713 rfl (lv_at hl 0 rfl) ?_
  refine lv_iconst (v := 1) F.hx F.hb d_L_law_714 (by decide) ?_
  refine lv_iadd F.hx F.hb d_L_law_715 ?_
  refine va_sld F.hx F.hb F.hX F.hbl F.hbA hS h1 d_L_law_716 ?_
  refine lawC (As := [.int (xs (Int32.toNatClampNeg (i + 1)))]) (rest := []) (st1 := [.int (f_C_steps nr nm s0 (xs (Int32.toNatClampNeg (i + 1)))).1]) (mc := 0) (ms := 0) (nr1 := nr) (nm1 := nm) (sc1 := (f_C_steps nr nm s0 (xs (Int32.toNatClampNeg (i + 1)))).2) (r := .int (f_C_steps nr nm s0 (xs (Int32.toNatClampNeg (i + 1)))).1) ⟨F.hx, F.hb, F.hml, F.hown, F.hts⟩ (cc_C_steps l G (fun q => A q ∧ ¬ TA adT q) ad nr nm hM.hnr hM.hnm s0 (xs (Int32.toNatClampNeg (i + 1))) hM.c4 (by rw [hM.dc]; exact hM.dcb)) (fun _ _ h => ⟨congrFun h.1 0, by obtain ⟨rfl, rfl⟩ := h; rfl⟩) tw_394 tw_391 tw_392 tw_393 tw_1 hd_C_steps rfl rfl ⟨Nat.le_trans (m := 9) (Nat.le_of_ble_eq_true rfl) F.hR.1, Nat.le_trans (m := 318) (Nat.le_of_ble_eq_true rfl) F.hR.2⟩ F.hK hw h0 hS hl.1 rfl (Nat.le_of_ble_eq_true rfl) ⟨by omega, by omega⟩ d_L_law_717 rfl (fun ad1 H locs h0 hw hS => ?_)
  refine W.widen (k := cells + 3) (n := slots + 24) (by omega) (by omega) ?_
  refine lv_aload_n F.hx F.hb d_L_law_720 rfl (lv_at hl 1 rfl) ?_
  refine lv_aload_n F.hx F.hb d_L_law_721 rfl (lv_at hl 3 rfl) ?_
  refine lv_iload_n F.hx F.hb d_L_law_722 rfl (lv_at hl 0 rfl) ?_
  refine lv_iconst (v := 1) F.hx F.hb d_L_law_723 (by decide) ?_
  refine lv_iadd F.hx F.hb d_L_law_724 ?_
  refine va_sld F.hx F.hb F.hX F.hbl F.hbA hS h1 d_L_law_725 ?_
  refine lawT (As := [.int (xs (Int32.toNatClampNeg (i + 1)))]) (rest := [.int (f_C_steps nr nm s0 (xs (Int32.toNatClampNeg (i + 1)))).1]) (st1 := [.int (f_T_steps t0 (xs (Int32.toNatClampNeg (i + 1)))).1, .int (f_C_steps nr nm s0 (xs (Int32.toNatClampNeg (i + 1)))).1]) (t1 := (f_T_steps t0 (xs (Int32.toNatClampNeg (i + 1)))).2) (r := .int (f_T_steps t0 (xs (Int32.toNatClampNeg (i + 1)))).1) ⟨F.hx, F.hb, F.hml, F.hown, F.hts⟩ (cc_T_steps l G (fun q => A q ∧ ¬ CA G ad1 (nr) (nm) ((f_C_steps nr nm s0 (xs (Int32.toNatClampNeg (i + 1)))).2) q) adT t0 (xs (Int32.toNatClampNeg (i + 1))) hM.wt) tw_631 tw_628 tw_629 tw_630 tw_4 hd_T_steps rfl rfl ⟨Nat.le_trans (m := 9) (Nat.le_of_ble_eq_true rfl) F.hR.1, Nat.le_trans (m := 318) (Nat.le_of_ble_eq_true rfl) F.hR.2⟩ F.hK hw hT hS hl.1 rfl (Nat.le_of_ble_eq_true rfl) ⟨by omega, by omega⟩ d_L_law_726 rfl (fun H locs hw hS => ?_)
  have sm := sim_steps (a1 := xs (Int32.toNatClampNeg (i + 1))) hM
  refine lv_icmp_eq (tgt := 780) F.hx F.hb d_L_law_729 (by decide) (fun _ => ?_) (fun h => absurd sm.1 h)
  exact kk ad1 _ _ _ _ H locs h0 hw (sm.2.mono (Nat.le_succ _)) hS

set_option maxHeartbeats 4000000 in
set_option maxRecDepth 100000 in
theorem law_case18 {p : Program} {l : Launch} {e : Env} {R : Room} {s : State} {m : MethodId} {args : Array Value} {below : List Frame} {meth : Method} {c : Code} {H : Heap} {locs : List Loc} {cells slots : Nat} {Q : State → Prop} {ls : Array Slot} {G : Gx} {A : Nat → Prop} {H0 : Heap} {b L x0 y0 : Nat} {xs : Nat → Int32} {i : Int32} {ad adT : Nat → Nat} {nr nm cn : Nat} {s0 t0 : S2} (F : LF p R s m args c G A H0 b L xs) (hl : lv_has ls 4 [(3, .int i), (2, .ref y0), (1, .ref x0), (0, .ref b)]) (h1 : vp_in (i + 1) L) (h2 : vp_in (i + 2) L) (h3 : vp_in (i + 3) L) (hw : two G A ad nr nm s0 adT t0 H) (h0 : ad 0 = x0) (hT : adT 0 = y0) (hM : Sim cn nr nm s0 t0) (hc0 : cn ≤ 100000) (hS : va_S A H0 H locs) (hcell : cells + 3 ≤ R.cells) (hslot : slots + 24 ≤ R.slots)
    (kk : ∀ (ad1 : Nat → Nat) (nr1 nm1 : Nat) (s1 t1 : S2) (H1 : Heap) (locs1 : List Loc), ad1 0 = x0 → two G A ad1 nr1 nm1 s1 adT t1 H1 → Sim (cn + 1) nr1 nm1 s1 t1 → va_S A H0 H1 locs1 → W p l e R s m args below meth c H1 locs1 (cells + 3) (slots + 24) Q (F0 m 780 ls [])) : W p l e R s m args below meth c H locs cells slots Q (F0 m 734 ls []) := by
  refine lv_aload_n F.hx F.hb d_L_law_734 rfl (lv_at hl 2 rfl) ?_
  refine lv_aload_n F.hx F.hb d_L_law_735 rfl (lv_at hl 3 rfl) ?_
  refine lv_iload_n F.hx F.hb d_L_law_736 rfl (lv_at hl 0 rfl) ?_
  refine lv_iconst (v := 1) F.hx F.hb d_L_law_737 (by decide) ?_
  refine lv_iadd F.hx F.hb d_L_law_738 ?_
  refine va_sld F.hx F.hb F.hX F.hbl F.hbA hS h1 d_L_law_739 ?_
  refine lawC (As := [.int (xs (Int32.toNatClampNeg (i + 1)))]) (rest := []) (st1 := [.int (f_C_update nr nm s0 (xs (Int32.toNatClampNeg (i + 1)))).1]) (mc := 0) (ms := 0) (nr1 := nr) (nm1 := nm) (sc1 := (f_C_update nr nm s0 (xs (Int32.toNatClampNeg (i + 1)))).2) (r := .int (f_C_update nr nm s0 (xs (Int32.toNatClampNeg (i + 1)))).1) ⟨F.hx, F.hb, F.hml, F.hown, F.hts⟩ (cc_C_update l G (fun q => A q ∧ ¬ TA adT q) ad nr nm hM.hnr hM.hnm s0 (xs (Int32.toNatClampNeg (i + 1))) hM.c4) (fun _ _ h => ⟨congrFun h.1 0, by obtain ⟨rfl, rfl⟩ := h; rfl⟩) tw_398 tw_395 tw_396 tw_397 tw_1 hd_C_update rfl rfl ⟨Nat.le_trans (m := 9) (Nat.le_of_ble_eq_true rfl) F.hR.1, Nat.le_trans (m := 318) (Nat.le_of_ble_eq_true rfl) F.hR.2⟩ F.hK hw h0 hS hl.1 rfl (Nat.le_of_ble_eq_true rfl) ⟨by omega, by omega⟩ d_L_law_740 rfl (fun ad1 H locs h0 hw hS => ?_)
  refine W.widen (k := cells + 3) (n := slots + 24) (by omega) (by omega) ?_
  refine lv_aload_n F.hx F.hb d_L_law_743 rfl (lv_at hl 1 rfl) ?_
  refine lv_aload_n F.hx F.hb d_L_law_744 rfl (lv_at hl 3 rfl) ?_
  refine lv_iload_n F.hx F.hb d_L_law_745 rfl (lv_at hl 0 rfl) ?_
  refine lv_iconst (v := 1) F.hx F.hb d_L_law_746 (by decide) ?_
  refine lv_iadd F.hx F.hb d_L_law_747 ?_
  refine va_sld F.hx F.hb F.hX F.hbl F.hbA hS h1 d_L_law_748 ?_
  refine lawT (As := [.int (xs (Int32.toNatClampNeg (i + 1)))]) (rest := [.int (f_C_update nr nm s0 (xs (Int32.toNatClampNeg (i + 1)))).1]) (st1 := [.int (f_T_update t0 (xs (Int32.toNatClampNeg (i + 1)))).1, .int (f_C_update nr nm s0 (xs (Int32.toNatClampNeg (i + 1)))).1]) (t1 := (f_T_update t0 (xs (Int32.toNatClampNeg (i + 1)))).2) (r := .int (f_T_update t0 (xs (Int32.toNatClampNeg (i + 1)))).1) ⟨F.hx, F.hb, F.hml, F.hown, F.hts⟩ (cc_T_update l G (fun q => A q ∧ ¬ CA G ad1 (nr) (nm) ((f_C_update nr nm s0 (xs (Int32.toNatClampNeg (i + 1)))).2) q) adT t0 (xs (Int32.toNatClampNeg (i + 1))) hM.wt) tw_635 tw_632 tw_633 tw_634 tw_4 hd_T_update rfl rfl ⟨Nat.le_trans (m := 9) (Nat.le_of_ble_eq_true rfl) F.hR.1, Nat.le_trans (m := 318) (Nat.le_of_ble_eq_true rfl) F.hR.2⟩ F.hK hw hT hS hl.1 rfl (Nat.le_of_ble_eq_true rfl) ⟨by omega, by omega⟩ d_L_law_749 rfl (fun H locs hw hS => ?_)
  have sm := sim_update (a1 := xs (Int32.toNatClampNeg (i + 1))) hM
  refine lv_icmp_eq (tgt := 780) F.hx F.hb d_L_law_752 (by decide) (fun _ => ?_) (fun h => absurd sm.1 h)
  exact kk ad1 _ _ _ _ H locs h0 hw (sm.2.mono (Nat.le_succ _)) hS

set_option maxHeartbeats 4000000 in
set_option maxRecDepth 100000 in
theorem law_case19 {p : Program} {l : Launch} {e : Env} {R : Room} {s : State} {m : MethodId} {args : Array Value} {below : List Frame} {meth : Method} {c : Code} {H : Heap} {locs : List Loc} {cells slots : Nat} {Q : State → Prop} {ls : Array Slot} {G : Gx} {A : Nat → Prop} {H0 : Heap} {b L x0 y0 : Nat} {xs : Nat → Int32} {i : Int32} {ad adT : Nat → Nat} {nr nm cn : Nat} {s0 t0 : S2} (F : LF p R s m args c G A H0 b L xs) (hl : lv_has ls 4 [(3, .int i), (2, .ref y0), (1, .ref x0), (0, .ref b)]) (h1 : vp_in (i + 1) L) (h2 : vp_in (i + 2) L) (h3 : vp_in (i + 3) L) (hw : two G A ad nr nm s0 adT t0 H) (h0 : ad 0 = x0) (hT : adT 0 = y0) (hM : Sim cn nr nm s0 t0) (hc0 : cn ≤ 100000) (hS : va_S A H0 H locs) (hcell : cells + 3 ≤ R.cells) (hslot : slots + 24 ≤ R.slots)
    (kk : ∀ (ad1 : Nat → Nat) (nr1 nm1 : Nat) (s1 t1 : S2) (H1 : Heap) (locs1 : List Loc), ad1 0 = x0 → two G A ad1 nr1 nm1 s1 adT t1 H1 → Sim (cn + 1) nr1 nm1 s1 t1 → va_S A H0 H1 locs1 → W p l e R s m args below meth c H1 locs1 (cells + 3) (slots + 24) Q (F0 m 780 ls [])) : W p l e R s m args below meth c H locs cells slots Q (F0 m 757 ls []) := by
  refine lv_aload_n F.hx F.hb d_L_law_757 rfl (lv_at hl 2 rfl) ?_
  refine lv_aload_n F.hx F.hb d_L_law_758 rfl (lv_at hl 3 rfl) ?_
  refine lv_iload_n F.hx F.hb d_L_law_759 rfl (lv_at hl 0 rfl) ?_
  refine lv_iconst (v := 1) F.hx F.hb d_L_law_760 (by decide) ?_
  refine lv_iadd F.hx F.hb d_L_law_761 ?_
  refine va_sld F.hx F.hb F.hX F.hbl F.hbA hS h1 d_L_law_762 ?_
  refine lawC (As := [.int (xs (Int32.toNatClampNeg (i + 1)))]) (rest := []) (st1 := [.int (f_C_has nr nm s0 (xs (Int32.toNatClampNeg (i + 1))))]) (mc := 0) (ms := 0) (nr1 := nr) (nm1 := nm) (sc1 := s0) (r := .int (f_C_has nr nm s0 (xs (Int32.toNatClampNeg (i + 1))))) ⟨F.hx, F.hb, F.hml, F.hown, F.hts⟩ (cc_C_has l G (fun q => A q ∧ ¬ TA adT q) ad nr nm hM.hnr hM.hnm s0 (xs (Int32.toNatClampNeg (i + 1)))) (fun _ _ h => ⟨congrFun h.1 0, by obtain ⟨rfl, rfl⟩ := h; rfl⟩) tw_402 tw_399 tw_400 tw_401 tw_1 hd_C_has rfl rfl ⟨Nat.le_trans (m := 9) (Nat.le_of_ble_eq_true rfl) F.hR.1, Nat.le_trans (m := 318) (Nat.le_of_ble_eq_true rfl) F.hR.2⟩ F.hK hw h0 hS hl.1 rfl (Nat.le_of_ble_eq_true rfl) ⟨by omega, by omega⟩ d_L_law_763 rfl (fun ad1 H locs h0 hw hS => ?_)
  refine W.widen (k := cells + 3) (n := slots + 24) (by omega) (by omega) ?_
  refine lv_aload_n F.hx F.hb d_L_law_766 rfl (lv_at hl 1 rfl) ?_
  refine lv_aload_n F.hx F.hb d_L_law_767 rfl (lv_at hl 3 rfl) ?_
  refine lv_iload_n F.hx F.hb d_L_law_768 rfl (lv_at hl 0 rfl) ?_
  refine lv_iconst (v := 1) F.hx F.hb d_L_law_769 (by decide) ?_
  refine lv_iadd F.hx F.hb d_L_law_770 ?_
  refine va_sld F.hx F.hb F.hX F.hbl F.hbA hS h1 d_L_law_771 ?_
  refine lawT (As := [.int (xs (Int32.toNatClampNeg (i + 1)))]) (rest := [.int (f_C_has nr nm s0 (xs (Int32.toNatClampNeg (i + 1))))]) (st1 := [.int (f_T_has t0 (xs (Int32.toNatClampNeg (i + 1)))).1, .int (f_C_has nr nm s0 (xs (Int32.toNatClampNeg (i + 1))))]) (t1 := (f_T_has t0 (xs (Int32.toNatClampNeg (i + 1)))).2) (r := .int (f_T_has t0 (xs (Int32.toNatClampNeg (i + 1)))).1) ⟨F.hx, F.hb, F.hml, F.hown, F.hts⟩ (cc_T_has l G (fun q => A q ∧ ¬ CA G ad1 (nr) (nm) (s0) q) adT t0 (xs (Int32.toNatClampNeg (i + 1))) hM.wt) tw_639 tw_636 tw_637 tw_638 tw_4 hd_T_has rfl rfl ⟨Nat.le_trans (m := 9) (Nat.le_of_ble_eq_true rfl) F.hR.1, Nat.le_trans (m := 318) (Nat.le_of_ble_eq_true rfl) F.hR.2⟩ F.hK hw hT hS hl.1 rfl (Nat.le_of_ble_eq_true rfl) ⟨by omega, by omega⟩ d_L_law_772 rfl (fun H locs hw hS => ?_)
  have sm := sim_has (a1 := xs (Int32.toNatClampNeg (i + 1))) hM
  refine lv_icmp_eq (tgt := 780) F.hx F.hb d_L_law_775 (by decide) (fun _ => ?_) (fun h => absurd sm.1 h)
  exact kk ad1 _ _ _ _ H locs h0 hw (sm.2.mono (Nat.le_succ _)) hS

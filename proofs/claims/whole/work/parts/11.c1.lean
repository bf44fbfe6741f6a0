def g_R_passTicks (i : Nat) (a1 : Int32) (a2 : Int32) : Nat → S2 → Int32 → Int32 → S2
  | 0, s1, _, _ => s1
  | n + 1, s1, x3, x4 =>
    if 5 ≤ x4 then
      s1
    else
      if (s1 (10 + 3 * i) 8) = 1 then
        if (if (x3 + 1) < ((s1 (10 + 3 * i) 11) + (f_R_valueOfStage s1 i (10 + 3 * i + 2) 5)) then (s1 (10 + 3 * i) 11) + (f_R_valueOfStage s1 i (10 + 3 * i + 2) 5) else x3 + 1) ≤ a2 then
          g_R_passTicks i a1 a2 n (f_R_judge s1 i (if (x3 + 1) < ((s1 (10 + 3 * i) 11) + (f_R_valueOfStage s1 i (10 + 3 * i + 2) 5)) then (s1 (10 + 3 * i) 11) + (f_R_valueOfStage s1 i (10 + 3 * i + 2) 5) else x3 + 1)) (if (x3 + 1) < ((s1 (10 + 3 * i) 11) + (f_R_valueOfStage s1 i (10 + 3 * i + 2) 5)) then (s1 (10 + 3 * i) 11) + (f_R_valueOfStage s1 i (10 + 3 * i + 2) 5) else x3 + 1) (x4 + 1)
        else
          s1
      else
        s1
def f_R_passTicks (s0 : S2) (i : Nat) (a1 : Int32) (a2 : Int32) : S2 :=
  g_R_passTicks i a1 a2 6 s0 a1 0
set_option maxHeartbeats 4000000 in
set_option maxRecDepth 100000 in
theorem cc_R_passTicks (l : Launch) (G : Gx) (A : Nat → Prop) (ad : Nat → Nat) (nr nm : Nat) (hnr : nr ≤ 16) (hnm : nm ≤ 30) (s0 : S2) (i : Nat) (hi : i < nr) (a1 : Int32) (a2 : Int32) : Met l y_R_passTicks ws_R_passTicks { frames := 3, cells := 0, slots := 0, locals := 61 } (PG G [.ref (ad (10 + 3 * i)), .int (a1), .int (a2)] A ad (encC G.2 ad nr nm s0)) (EG G A none ad (encC G.2 ad nr nm (f_R_passTicks s0 i a1 a2))) 0 0 A := by
  refine Met.ofW (cc := c_R_passTicks) (maxL := 5) (ret := none) (by decide) rfl ?_
  intro p e s m args below meth c s₁ B hml hv
  obtain ⟨rfl, hw, hK⟩ := hv
  have hx := B.exec
  have hb := B.bytes
  have hr := B.returns
  have hts : ∀ w ∈ tbG, w.before [.ref (ad (10 + 3 * i)), .int (a1), .int (a2)].toArray s = true := fun w h => atoms_spec (ws := ws_R_passTicks) B.pre w (List.mem_cons_of_mem _ h)
  have hown : s.vm.findClass "RollStages$Release" = some m.cls := findClass_of_methodNamed B.named
  have hlocks := B.notSynchronized
  have hS : va_S A s.heap s.heap [] := va_S.rf
  have hw : mwG G A ad (encC G.2 ad nr nm s0) s.heap := hw
  have loop : ∀ (n : Nat) (s1 : S2) (x3 : Int32) (x4 : Int32), 0 ≤ x4.toInt ∧ x4.toInt ≤ 5 ∧ 6 ≤ x4.toInt + n → ∀ (H : Heap) (locs : List Loc) (ls : Array Slot), mwG G A ad (encC G.2 ad nr nm s1) H → va_S A s.heap H locs → lv_has ls 5 [(0, .ref (ad (10 + 3 * i))), (1, .int (a1)), (2, .int (a2)), (3, .int (x3)), (4, .int (x4))] → W p l e (headSpec ws_R_passTicks { frames := 3, cells := 0, slots := 0, locals := 61 }).room s m [.ref (ad (10 + 3 * i)), .int (a1), .int (a2)].toArray below meth c H locs 0 0 (MQ below (EG G A none ad (encC G.2 ad nr nm (g_R_passTicks i a1 a2 n s1 x3 x4))) [.ref (ad (10 + 3 * i)), .int (a1), .int (a2)].toArray s 0 0 A) (F0 m 5 ls []) := by
    intro n
    induction n with
    | zero =>
      intro s1 x3 x4 hI
      exact absurd hI (by omega)
    | succ n ih =>
      intro s1 x3 x4 hI H locs ls hw hS hl
      refine lv_iload hx hb d_R_passTicks_5 (lv_at hl 4 rfl) ?_
      refine lv_iconst (v := 5) hx hb d_R_passTicks_7 (by decide) ?_
      refine lv_icmp_ge (tgt := 56) hx hb d_R_passTicks_8 (by decide) (fun h501 => ?_) (fun h501 => ?_)
      · skip
        have e9 : g_R_passTicks i a1 a2 (n + 1) s1 x3 x4 = s1 := by rw [g_R_passTicks]; exact if_pos h501
        exact mw_vret hx hb hr hw hS ⟨rfl, congrArg (fun z => encC G.2 ad nr nm z) e9.symm⟩ hlocks d_R_passTicks_56
      · skip
        refine lv_aload_n hx hb d_R_passTicks_11 rfl (lv_at hl 0 rfl) ?_
        refine mw_get (v := .int (s1 (10 + 3 * i) 8)) hx hb hts in_R hown hK.1 hw (10 + 3 * i) (cC_rel hnr hi) rfl 8 (by decide) (hts _ tw_106) rfl d_R_passTicks_12 ?_
        refine lv_iconst (v := 1) hx hb d_R_passTicks_15 (by decide) ?_
        refine lv_icmp_ne (tgt := 56) hx hb d_R_passTicks_16 (by decide) (fun h502 => ?_) (fun h502 => ?_)
        · skip
          have e9 : g_R_passTicks i a1 a2 (n + 1) s1 x3 x4 = s1 := by rw [g_R_passTicks]; exact (if_neg h501).trans (if_neg h502)
          exact mw_vret hx hb hr hw hS ⟨rfl, congrArg (fun z => encC G.2 ad nr nm z) e9.symm⟩ hlocks d_R_passTicks_56
        · skip
          refine lv_iload_n hx hb d_R_passTicks_19 rfl (lv_at hl 3 rfl) ?_
          refine lv_iconst (v := 1) hx hb d_R_passTicks_20 (by decide) ?_
          refine lv_iadd hx hb d_R_passTicks_21 ?_
          refine lv_aload_n hx hb d_R_passTicks_22 rfl (lv_at hl 0 rfl) ?_
          refine mw_get (v := .int (s1 (10 + 3 * i) 11)) hx hb hts in_R hown hK.1 hw (10 + 3 * i) (cC_rel hnr hi) rfl 11 (by decide) (hts _ tw_112) rfl d_R_passTicks_23 ?_
          refine lv_aload_n hx hb d_R_passTicks_26 rfl (lv_at hl 0 rfl) ?_
          refine lv_aload_n hx hb d_R_passTicks_27 rfl (lv_at hl 0 rfl) ?_
          refine mw_get (v := .ref (ad (10 + 3 * i + 2))) hx hb hts in_R hown hK.1 hw (10 + 3 * i) (cC_rel hnr hi) rfl 4 (by decide) (hts _ tw_102) rfl d_R_passTicks_28 ?_
          refine gV (As := [.ref (ad (10 + 3 * i + 2))]) (rest := [.int (s1 (10 + 3 * i) 11), .int (x3 + 1)]) (st1 := [.int (f_R_valueOfStage s1 i (10 + 3 * i + 2) 5), .int (s1 (10 + 3 * i) 11), .int (x3 + 1)]) ⟨hx, hb, hml, hown, hts⟩ (cc_R_valueOfStage l G A ad nr nm hnr hnm s1 i hi (10 + 3 * i + 2) 5 (fun _ => cC_wa hnr hi) (by decide)) (cC_rel hnr hi) rfl tw_220 tw_217 tw_219 tw_p11 tw_5 hd_R_valueOfStage rfl rfl ⟨Nat.le_of_ble_eq_true rfl, Nat.le_of_ble_eq_true rfl⟩ hK hw hS hl.1 rfl (Nat.le_of_ble_eq_true rfl) ⟨Nat.zero_le _, Nat.zero_le _⟩ d_R_passTicks_31 rfl (fun H locs hw hS => ?_)
          refine lv_iadd hx hb d_R_passTicks_34 ?_
          refine va_mmax hx hb (hml.trans hl.1.symm) hown (hts _ tw_221) (hts _ tw_222) (hts _ tw_6) (hts _ tw_223) (Nat.le_of_ble_eq_true rfl) (Nat.le_of_ble_eq_true rfl) (Nat.le_of_ble_eq_true rfl) (Nat.le_of_ble_eq_true rfl) d_R_passTicks_35 ?_
          refine lv_istore_n (lv' := [(3, .int (if (x3 + 1) < ((s1 (10 + 3 * i) 11) + (f_R_valueOfStage s1 i (10 + 3 * i + 2) 5)) then (s1 (10 + 3 * i) 11) + (f_R_valueOfStage s1 i (10 + 3 * i + 2) 5) else x3 + 1)), (0, .ref (ad (10 + 3 * i))), (1, .int (a1)), (2, .int (a2)), (4, .int (x4))]) hx hb d_R_passTicks_38 rfl hl (by decide) rfl (fun ls hl => ?_)
          refine lv_iload_n hx hb d_R_passTicks_39 rfl (lv_at hl 0 rfl) ?_
          refine lv_iload_n hx hb d_R_passTicks_40 rfl (lv_at hl 3 rfl) ?_
          refine lv_icmp_le (tgt := 45) hx hb d_R_passTicks_41 (by decide) (fun h503 => ?_) (fun h503 => ?_)
          · skip
            refine lv_aload_n hx hb d_R_passTicks_45 rfl (lv_at hl 1 rfl) ?_
            refine lv_iload_n hx hb d_R_passTicks_46 rfl (lv_at hl 0 rfl) ?_
            refine gV (As := [.int (if (x3 + 1) < ((s1 (10 + 3 * i) 11) + (f_R_valueOfStage s1 i (10 + 3 * i + 2) 5)) then (s1 (10 + 3 * i) 11) + (f_R_valueOfStage s1 i (10 + 3 * i + 2) 5) else x3 + 1)]) (rest := []) (st1 := []) ⟨hx, hb, hml, hown, hts⟩ (cc_R_judge l G A ad nr nm hnr hnm s1 i hi (if (x3 + 1) < ((s1 (10 + 3 * i) 11) + (f_R_valueOfStage s1 i (10 + 3 * i + 2) 5)) then (s1 (10 + 3 * i) 11) + (f_R_valueOfStage s1 i (10 + 3 * i + 2) 5) else x3 + 1)) (cC_rel hnr hi) rfl tw_227 tw_224 tw_226 tw_p12 tw_5 hd_R_judge rfl rfl ⟨Nat.le_of_ble_eq_true rfl, Nat.le_of_ble_eq_true rfl⟩ hK hw hS hl.1 rfl (Nat.le_of_ble_eq_true rfl) ⟨Nat.zero_le _, Nat.zero_le _⟩ d_R_passTicks_47 rfl (fun H locs hw hS => ?_)
            refine lv_iinc (v := x4 + 1) (lv' := [(4, .int (x4 + 1)), (3, .int (if (x3 + 1) < ((s1 (10 + 3 * i) 11) + (f_R_valueOfStage s1 i (10 + 3 * i + 2) 5)) then (s1 (10 + 3 * i) 11) + (f_R_valueOfStage s1 i (10 + 3 * i + 2) 5) else x3 + 1)), (0, .ref (ad (10 + 3 * i))), (1, .int (a1)), (2, .int (a2))]) hx hb d_R_passTicks_50 hl (k := 4) rfl (by first | rfl | decide) (by decide) rfl (fun ls hl => ?_)
            refine lv_goto (tgt := 5) hx hb d_R_passTicks_53 (by decide) ?_
            have e9 : g_R_passTicks i a1 a2 (n + 1) s1 x3 x4 = g_R_passTicks i a1 a2 n (f_R_judge s1 i (if (x3 + 1) < ((s1 (10 + 3 * i) 11) + (f_R_valueOfStage s1 i (10 + 3 * i + 2) 5)) then (s1 (10 + 3 * i) 11) + (f_R_valueOfStage s1 i (10 + 3 * i + 2) 5) else x3 + 1)) (if (x3 + 1) < ((s1 (10 + 3 * i) 11) + (f_R_valueOfStage s1 i (10 + 3 * i + 2) 5)) then (s1 (10 + 3 * i) 11) + (f_R_valueOfStage s1 i (10 + 3 * i + 2) 5) else x3 + 1) (x4 + 1) := by rw [g_R_passTicks]; exact (if_neg h501).trans ((if_pos h502).trans (if_pos h503))
            rw [e9]
            exact ih (f_R_judge s1 i (if (x3 + 1) < ((s1 (10 + 3 * i) 11) + (f_R_valueOfStage s1 i (10 + 3 * i + 2) 5)) then (s1 (10 + 3 * i) 11) + (f_R_valueOfStage s1 i (10 + 3 * i + 2) 5) else x3 + 1)) (if (x3 + 1) < ((s1 (10 + 3 * i) 11) + (f_R_valueOfStage s1 i (10 + 3 * i + 2) 5)) then (s1 (10 + 3 * i) 11) + (f_R_valueOfStage s1 i (10 + 3 * i + 2) 5) else x3 + 1) (x4 + 1) (lp_up hI h501) _ _ _ hw hS (lv_sub hl [2, 3, 4, 1, 0] rfl)
          · skip
            have e9 : g_R_passTicks i a1 a2 (n + 1) s1 x3 x4 = s1 := by rw [g_R_passTicks]; exact (if_neg h501).trans ((if_pos h502).trans (if_neg h503))
            exact mw_vret hx hb hr hw hS ⟨rfl, congrArg (fun z => encC G.2 ad nr nm z) e9.symm⟩ hlocks d_R_passTicks_44
  have hl := lv_entry ([.ref (ad (10 + 3 * i)), .int (a1), .int (a2)]) (n := 5) (Nat.le_of_ble_eq_true rfl)
  rw [lg_entry_eq]
  generalize (lg_sl ([.ref (ad (10 + 3 * i)), .int (a1), .int (a2)]) ++ List.replicate (5 - (lg_sl ([.ref (ad (10 + 3 * i)), .int (a1), .int (a2)])).length) Slot.unset).toArray = ls at hl ⊢
  have hl : lv_has ls 5 [(0, .ref (ad (10 + 3 * i))), (1, .int (a1)), (2, .int (a2))] := hl
  refine lv_iload_n hx hb d_R_passTicks_0 rfl (lv_at hl 1 rfl) ?_
  refine lv_istore_n (lv' := [(3, .int (a1)), (0, .ref (ad (10 + 3 * i))), (1, .int (a1)), (2, .int (a2))]) hx hb d_R_passTicks_1 rfl hl (by decide) rfl (fun ls hl => ?_)
  refine lv_iconst (v := 0) hx hb d_R_passTicks_2 (by decide) ?_
  refine lv_istore (lv' := [(4, .int (0)), (3, .int (a1)), (0, .ref (ad (10 + 3 * i))), (1, .int (a1)), (2, .int (a2))]) hx hb d_R_passTicks_3 hl (by decide) rfl (fun ls hl => ?_)
  have e9 : f_R_passTicks s0 i a1 a2 = g_R_passTicks i a1 a2 6 s0 a1 0 := rfl
  rw [e9]
  exact loop 6 s0 a1 0 (by decide) _ _ _ hw hS (lv_sub hl [2, 3, 4, 1, 0] rfl)

theorem rollAt_fr {s : S2} {i : Nat} {a1 a2 : Int32} {q : Nat} (h : q ≠ 10 + 3 * i) : f_R_rollAt s i a1 a2 q = s q := by
  unfold f_R_rollAt
  simp only [up2_ne h]
theorem holdFor_fr {s : S2} {i : Nat} {a1 : Int32} {q : Nat} (h : q ≠ 10 + 3 * i) : f_R_holdFor s i a1 q = s q := by
  unfold f_R_holdFor
  simp only [up2_ne h]
theorem judge_fr {s : S2} {i : Nat} {a1 : Int32} {q : Nat} (h : q ≠ 10 + 3 * i) : f_R_judge s i a1 q = s q := by
  unfold f_R_judge
  repeat' split
  all_goals first | exact holdFor_fr h | exact rollAt_fr h | exact up2_ne h
theorem ptg_fr (i : Nat) (a1 a2 : Int32) : ∀ (n : Nat) (s : S2) (x3 x4 : Int32) (q : Nat), q ≠ 10 + 3 * i → g_R_passTicks i a1 a2 n s x3 x4 q = s q := by
  intro n
  induction n with
  | zero => intro s x3 x4 q h; rfl
  | succ n ih =>
    intro s x3 x4 q h
    rw [g_R_passTicks]
    repeat' split
    all_goals first | rfl | rw [ih _ _ _ _ h, judge_fr h]
theorem pt_fr {s : S2} {i : Nat} {a1 a2 : Int32} {q : Nat} (h : q ≠ 10 + 3 * i) : f_R_passTicks s i a1 a2 q = s q := ptg_fr i a1 a2 _ s _ _ q h

set_option maxHeartbeats 4000000 in
set_option maxRecDepth 100000 in
theorem cc_C_releaseAt (l : Launch) (G : Gx) (A : Nat → Prop) (ad : Nat → Nat) (nr nm : Nat) (hnr : nr ≤ 16) (hnm : nm ≤ 30) (s0 : S2) (a1 : Int32) : Met l y_C_releaseAt ws_C_releaseAt { frames := 1, cells := 0, slots := 0, locals := 22 } (PG G [.ref (ad (0)), .int (a1)] A ad (encC G.2 ad nr nm s0)) (EG G A (some (rVal ad nr a1)) ad (encC G.2 ad nr nm s0)) 0 0 A := by
  refine Met.ofW (cc := c_C_releaseAt) (maxL := 2) (ret := (some (.object "RollStages$Release"))) (by decide) rfl ?_
  intro p e s m args below meth c s₁ B hml hv
  obtain ⟨rfl, hw, hK⟩ := hv
  have hx := B.exec
  have hb := B.bytes
  have hr := B.returns
  have hts : ∀ w ∈ tbG, w.before [.ref (ad (0)), .int (a1)].toArray s = true := fun w h => atoms_spec (ws := ws_C_releaseAt) B.pre w (List.mem_cons_of_mem _ h)
  have hown : s.vm.findClass "RollStages" = some m.cls := findClass_of_methodNamed B.named
  have hlocks := B.notSynchronized
  have hS : va_S A s.heap s.heap [] := va_S.rf
  have hw : mwG G A ad (encC G.2 ad nr nm s0) s.heap := hw
  have hl := lv_entry ([.ref (ad (0)), .int (a1)]) (n := 2) (Nat.le_of_ble_eq_true rfl)
  rw [lg_entry_eq]
  generalize (lg_sl ([.ref (ad (0)), .int (a1)]) ++ List.replicate (2 - (lg_sl ([.ref (ad (0)), .int (a1)])).length) Slot.unset).toArray = ls at hl ⊢
  have hl : lv_has ls 2 [(0, .ref (ad (0))), (1, .int (a1))] := hl
  refine lv_iload_n hx hb d_C_releaseAt_0 rfl (lv_at hl 1 rfl) ?_
  refine lv_iconst (v := 0) hx hb d_C_releaseAt_1 (by decide) ?_
  refine lv_bipush (v := 15) hx hb d_C_releaseAt_2 (by decide) ?_
  refine gS (As := [.int (a1), .int (0), .int (15)]) (rest := []) (st1 := [.int (f_C_within a1 0 15)]) ⟨hx, hb, hml, hown, hts⟩ (cc_C_within l G A ad nr nm hnr hnm s0 a1 0 15) tw_89 tw_87 tw_88 tw_1 hd_C_within rfl rfl ⟨Nat.le_of_ble_eq_true rfl, Nat.le_of_ble_eq_true rfl⟩ hK hw hS hl.1 rfl (Nat.le_of_ble_eq_true rfl) ⟨Nat.zero_le _, Nat.zero_le _⟩ d_C_releaseAt_4 rfl (fun H locs hw hS => ?_)
  refine lv_if_eq (tgt := 19) hx hb d_C_releaseAt_7 (by decide) (fun h1 => ?_) (fun h1 => ?_)
  · skip
    refine lv_null hx hb d_C_releaseAt_19 ?_
    exact mw_aret hx hb hr (Or.inl ⟨_, rfl⟩) (Or.inl rfl) hw hS (congrArg some (rVal_out h1 hnr)) ⟨rfl, rfl⟩ hlocks d_C_releaseAt_20
  · skip
    refine lv_aload_n hx hb d_C_releaseAt_10 rfl (lv_at hl 0 rfl) ?_
    refine mw_get (v := .ref (ad (1))) hx hb hts in_C hown hK.1 hw (0) cC_0 rfl 0 (by decide) (hts _ tw_58) rfl d_C_releaseAt_11 ?_
    refine lv_iload_n hx hb d_C_releaseAt_14 rfl (lv_at hl 1 rfl) ?_
    refine mw_aldq hx hb hK.1 hw (1) 1 cC_1 rfl (within_inC h1 (by decide)) d_C_releaseAt_15 ?_
    refine lv_goto (tgt := 20) hx hb d_C_releaseAt_16 (by decide) ?_
    exact mw_aret hx hb hr (Or.inl ⟨_, rfl⟩) (va_rf_or _) hw hS (congrArg some (rVal_in h1)) ⟨rfl, rfl⟩ hlocks d_C_releaseAt_20

set_option maxHeartbeats 4000000 in
set_option maxRecDepth 100000 in
theorem cc_C_machineAt (l : Launch) (G : Gx) (A : Nat → Prop) (ad : Nat → Nat) (nr nm : Nat) (hnr : nr ≤ 16) (hnm : nm ≤ 30) (s0 : S2) (a1 : Int32) : Met l y_C_machineAt ws_C_machineAt { frames := 1, cells := 0, slots := 0, locals := 22 } (PG G [.ref (ad (0)), .int (a1)] A ad (encC G.2 ad nr nm s0)) (EG G A (some (mVal ad nm a1)) ad (encC G.2 ad nr nm s0)) 0 0 A := by
  refine Met.ofW (cc := c_C_machineAt) (maxL := 2) (ret := (some (.object "RollStages$Machine"))) (by decide) rfl ?_
  intro p e s m args below meth c s₁ B hml hv
  obtain ⟨rfl, hw, hK⟩ := hv
  have hx := B.exec
  have hb := B.bytes
  have hr := B.returns
  have hts : ∀ w ∈ tbG, w.before [.ref (ad (0)), .int (a1)].toArray s = true := fun w h => atoms_spec (ws := ws_C_machineAt) B.pre w (List.mem_cons_of_mem _ h)
  have hown : s.vm.findClass "RollStages" = some m.cls := findClass_of_methodNamed B.named
  have hlocks := B.notSynchronized
  have hS : va_S A s.heap s.heap [] := va_S.rf
  have hw : mwG G A ad (encC G.2 ad nr nm s0) s.heap := hw
  have hl := lv_entry ([.ref (ad (0)), .int (a1)]) (n := 2) (Nat.le_of_ble_eq_true rfl)
  rw [lg_entry_eq]
  generalize (lg_sl ([.ref (ad (0)), .int (a1)]) ++ List.replicate (2 - (lg_sl ([.ref (ad (0)), .int (a1)])).length) Slot.unset).toArray = ls at hl ⊢
  have hl : lv_has ls 2 [(0, .ref (ad (0))), (1, .int (a1))] := hl
  refine lv_iload_n hx hb d_C_machineAt_0 rfl (lv_at hl 1 rfl) ?_
  refine lv_iconst (v := 0) hx hb d_C_machineAt_1 (by decide) ?_
  refine lv_bipush (v := 29) hx hb d_C_machineAt_2 (by decide) ?_
  refine gS (As := [.int (a1), .int (0), .int (29)]) (rest := []) (st1 := [.int (f_C_within a1 0 29)]) ⟨hx, hb, hml, hown, hts⟩ (cc_C_within l G A ad nr nm hnr hnm s0 a1 0 29) tw_89 tw_87 tw_88 tw_1 hd_C_within rfl rfl ⟨Nat.le_of_ble_eq_true rfl, Nat.le_of_ble_eq_true rfl⟩ hK hw hS hl.1 rfl (Nat.le_of_ble_eq_true rfl) ⟨Nat.zero_le _, Nat.zero_le _⟩ d_C_machineAt_4 rfl (fun H locs hw hS => ?_)
  refine lv_if_eq (tgt := 19) hx hb d_C_machineAt_7 (by decide) (fun h1 => ?_) (fun h1 => ?_)
  · skip
    refine lv_null hx hb d_C_machineAt_19 ?_
    exact mw_aret hx hb hr (Or.inl ⟨_, rfl⟩) (Or.inl rfl) hw hS (congrArg some (mVal_out h1 hnm)) ⟨rfl, rfl⟩ hlocks d_C_machineAt_20
  · skip
    refine lv_aload_n hx hb d_C_machineAt_10 rfl (lv_at hl 0 rfl) ?_
    refine mw_get (v := .ref (ad (2))) hx hb hts in_C hown hK.1 hw (0) cC_0 rfl 1 (by decide) (hts _ tw_59) rfl d_C_machineAt_11 ?_
    refine lv_iload_n hx hb d_C_machineAt_14 rfl (lv_at hl 1 rfl) ?_
    refine mw_aldq hx hb hK.1 hw (2) 2 cC_2 rfl (within_inC h1 (by decide)) d_C_machineAt_15 ?_
    refine lv_goto (tgt := 20) hx hb d_C_machineAt_16 (by decide) ?_
    exact mw_aret hx hb hr (Or.inl ⟨_, rfl⟩) (va_rf_or _) hw hS (congrArg some (mVal_in h1)) ⟨rfl, rfl⟩ hlocks d_C_machineAt_20

def f_C_isOpenTo (nr nm : Nat) (s0 : S2) (j : Nat) (i : Nat) (a1 : Int32) : Int32 :=
  if (s0 (10 + 3 * i) 0) = (s0 (58 + j) 0) then
    if (f_C_within (s0 (58 + j) 0) 0 (3 - 1)) = 0 then
      0
    else
      if (s0 (3) (Int32.toNatClampNeg (s0 (58 + j) 0))) = (-1) then
        1
      else
        if (s0 (3) (Int32.toNatClampNeg (s0 (58 + j) 0))) < a1 then
          0
        else
          1
  else
    0
theorem fb_C_isOpenTo (nr nm : Nat) (s0 : S2) (j : Nat) (i : Nat) (a1 : Int32) : narrow .boolean (.int (f_C_isOpenTo nr nm s0 j i a1)) = .int (f_C_isOpenTo nr nm s0 j i a1) := by
  unfold f_C_isOpenTo
  repeat' split
  all_goals first | rfl | exact narrow_b0 | exact narrow_b1
set_option maxHeartbeats 4000000 in
set_option maxRecDepth 100000 in
theorem cc_C_isOpenTo (l : Launch) (G : Gx) (A : Nat → Prop) (ad : Nat → Nat) (nr nm : Nat) (hnr : nr ≤ 16) (hnm : nm ≤ 30) (s0 : S2) (j : Nat) (hj : j < nm) (i : Nat) (hi : i < nr) (a1 : Int32) : Met l y_C_isOpenTo ws_C_isOpenTo { frames := 1, cells := 0, slots := 0, locals := 22 } (PG G [.ref (ad (0)), .ref (ad (58 + j)), .ref (ad (10 + 3 * i)), .int (a1)] A ad (encC G.2 ad nr nm s0)) (EG G A (some (.int (f_C_isOpenTo nr nm s0 j i a1))) ad (encC G.2 ad nr nm s0)) 0 0 A := by
  refine Met.ofW (cc := c_C_isOpenTo) (maxL := 5) (ret := (some .boolean)) (by decide) rfl ?_
  intro p e s m args below meth c s₁ B hml hv
  obtain ⟨rfl, hw, hK⟩ := hv
  have hx := B.exec
  have hb := B.bytes
  have hr := B.returns
  have hts : ∀ w ∈ tbG, w.before [.ref (ad (0)), .ref (ad (58 + j)), .ref (ad (10 + 3 * i)), .int (a1)].toArray s = true := fun w h => atoms_spec (ws := ws_C_isOpenTo) B.pre w (List.mem_cons_of_mem _ h)
  have hown : s.vm.findClass "RollStages" = some m.cls := findClass_of_methodNamed B.named
  have hlocks := B.notSynchronized
  have hS : va_S A s.heap s.heap [] := va_S.rf
  have hw : mwG G A ad (encC G.2 ad nr nm s0) s.heap := hw
  have hl := lv_entry ([.ref (ad (0)), .ref (ad (58 + j)), .ref (ad (10 + 3 * i)), .int (a1)]) (n := 5) (Nat.le_of_ble_eq_true rfl)
  rw [lg_entry_eq]
  generalize (lg_sl ([.ref (ad (0)), .ref (ad (58 + j)), .ref (ad (10 + 3 * i)), .int (a1)]) ++ List.replicate (5 - (lg_sl ([.ref (ad (0)), .ref (ad (58 + j)), .ref (ad (10 + 3 * i)), .int (a1)])).length) Slot.unset).toArray = ls at hl ⊢
  have hl : lv_has ls 5 [(0, .ref (ad (0))), (1, .ref (ad (58 + j))), (2, .ref (ad (10 + 3 * i))), (3, .int (a1))] := hl
  refine lv_aload_n hx hb d_C_isOpenTo_0 rfl (lv_at hl 2 rfl) ?_
  refine mw_getN (v := .int (s0 (10 + 3 * i) 0)) hx hb hts in_R hown hK.1 hw (10 + 3 * i) (cC_rel hnr hi) rfl 0 (by decide) (hK.2.1 _ nf_2) rfl d_C_isOpenTo_1 ?_
  refine lv_aload_n hx hb d_C_isOpenTo_4 rfl (lv_at hl 1 rfl) ?_
  refine mw_getN (v := .int (s0 (58 + j) 0)) hx hb hts in_M hown hK.1 hw (58 + j) (cC_mac hj) rfl 0 (by decide) (hK.2.1 _ nf_7) rfl d_C_isOpenTo_5 ?_
  refine lv_icmp_ne (tgt := 29) hx hb d_C_isOpenTo_8 (by decide) (fun h1 => ?_) (fun h1 => ?_)
  · skip
    refine lv_iconst (v := 0) hx hb d_C_isOpenTo_29 (by decide) ?_
    have e9 : f_C_isOpenTo nr nm s0 j i a1 = 0 := by unfold f_C_isOpenTo; exact if_neg h1
    exact mw_iret hx hb hr rfl hw hS (congrArg (fun z => some (Value.int z)) e9.symm) ⟨rfl, rfl⟩ hlocks d_C_isOpenTo_30
  · skip
    refine lv_aload_n hx hb d_C_isOpenTo_11 rfl (lv_at hl 1 rfl) ?_
    refine mw_getN (v := .int (s0 (58 + j) 0)) hx hb hts in_M hown hK.1 hw (58 + j) (cC_mac hj) rfl 0 (by decide) (hK.2.1 _ nf_7) rfl d_C_isOpenTo_12 ?_
    refine lv_iconst (v := 0) hx hb d_C_isOpenTo_15 (by decide) ?_
    refine lv_aload_n hx hb d_C_isOpenTo_16 rfl (lv_at hl 0 rfl) ?_
    refine mw_get (v := .ref (ad (3))) hx hb hts in_C hown hK.1 hw (0) cC_0 rfl 2 (by decide) (hts _ tw_60) rfl d_C_isOpenTo_17 ?_
    refine mw_alen (v := 3) hx hb hK.1 hw (3) 0 cC_3 rfl (by first | rfl | decide) d_C_isOpenTo_20 ?_
    refine lv_iconst (v := 1) hx hb d_C_isOpenTo_21 (by decide) ?_
    refine lv_isub hx hb d_C_isOpenTo_22 ?_
    refine gS (As := [.int (s0 (58 + j) 0), .int (0), .int (3 - 1)]) (rest := []) (st1 := [.int (f_C_within (s0 (58 + j) 0) 0 (3 - 1))]) ⟨hx, hb, hml, hown, hts⟩ (cc_C_within l G A ad nr nm hnr hnm s0 (s0 (58 + j) 0) 0 (3 - 1)) tw_89 tw_87 tw_88 tw_1 hd_C_within rfl rfl ⟨Nat.le_of_ble_eq_true rfl, Nat.le_of_ble_eq_true rfl⟩ hK hw hS hl.1 rfl (Nat.le_of_ble_eq_true rfl) ⟨Nat.zero_le _, Nat.zero_le _⟩ d_C_isOpenTo_23 rfl (fun H locs hw hS => ?_)
    refine lv_if_ne (tgt := 31) hx hb d_C_isOpenTo_26 (by decide) (fun h2 => ?_) (fun h2 => ?_)
    · skip
      refine lv_aload_n hx hb d_C_isOpenTo_31 rfl (lv_at hl 0 rfl) ?_
      refine mw_get (v := .ref (ad (3))) hx hb hts in_C hown hK.1 hw (0) cC_0 rfl 2 (by decide) (hts _ tw_60) rfl d_C_isOpenTo_32 ?_
      refine lv_aload_n hx hb d_C_isOpenTo_35 rfl (lv_at hl 1 rfl) ?_
      refine mw_getN (v := .int (s0 (58 + j) 0)) hx hb hts in_M hown hK.1 hw (58 + j) (cC_mac hj) rfl 0 (by decide) (hK.2.1 _ nf_7) rfl d_C_isOpenTo_36 ?_
      refine mw_iald hx hb hK.1 hw (3) 0 cC_3 rfl (within_inC h2 (by decide)) d_C_isOpenTo_39 ?_
      refine lv_istore (lv' := [(4, .int (s0 (3) (Int32.toNatClampNeg (s0 (58 + j) 0)))), (0, .ref (ad (0))), (1, .ref (ad (58 + j))), (2, .ref (ad (10 + 3 * i))), (3, .int (a1))]) hx hb d_C_isOpenTo_40 hl (by decide) rfl (fun ls hl => ?_)
      refine lv_iload hx hb d_C_isOpenTo_42 (lv_at hl 0 rfl) ?_
      refine lv_iconst (v := -1) hx hb d_C_isOpenTo_44 (by decide) ?_
      refine lv_icmp_eq (tgt := 54) hx hb d_C_isOpenTo_45 (by decide) (fun h3 => ?_) (fun h3 => ?_)
      · skip
        refine lv_iconst (v := 1) hx hb d_C_isOpenTo_54 (by decide) ?_
        refine lv_goto (tgt := 59) hx hb d_C_isOpenTo_55 (by decide) ?_
        have e9 : f_C_isOpenTo nr nm s0 j i a1 = 1 := by unfold f_C_isOpenTo; exact (if_pos h1).trans ((if_neg h2).trans (if_pos h3))
        exact mw_iret hx hb hr rfl hw hS (congrArg (fun z => some (Value.int z)) e9.symm) ⟨rfl, rfl⟩ hlocks d_C_isOpenTo_59
      · skip
        refine lv_iload_n hx hb d_C_isOpenTo_48 rfl (lv_at hl 4 rfl) ?_
        refine lv_iload hx hb d_C_isOpenTo_49 (lv_at hl 0 rfl) ?_
        refine lv_icmp_gt (tgt := 58) hx hb d_C_isOpenTo_51 (by decide) (fun h4 => ?_) (fun h4 => ?_)
        · skip
          refine lv_iconst (v := 0) hx hb d_C_isOpenTo_58 (by decide) ?_
          have e9 : f_C_isOpenTo nr nm s0 j i a1 = 0 := by unfold f_C_isOpenTo; exact (if_pos h1).trans ((if_neg h2).trans ((if_neg h3).trans (if_pos h4)))
          exact mw_iret hx hb hr rfl hw hS (congrArg (fun z => some (Value.int z)) e9.symm) ⟨rfl, rfl⟩ hlocks d_C_isOpenTo_59
        · skip
          refine lv_iconst (v := 1) hx hb d_C_isOpenTo_54 (by decide) ?_
          refine lv_goto (tgt := 59) hx hb d_C_isOpenTo_55 (by decide) ?_
          have e9 : f_C_isOpenTo nr nm s0 j i a1 = 1 := by unfold f_C_isOpenTo; exact (if_pos h1).trans ((if_neg h2).trans ((if_neg h3).trans (if_neg h4)))
          exact mw_iret hx hb hr rfl hw hS (congrArg (fun z => some (Value.int z)) e9.symm) ⟨rfl, rfl⟩ hlocks d_C_isOpenTo_59
    · skip
      refine lv_iconst (v := 0) hx hb d_C_isOpenTo_29 (by decide) ?_
      have e9 : f_C_isOpenTo nr nm s0 j i a1 = 0 := by unfold f_C_isOpenTo; exact (if_pos h1).trans (if_pos h2)
      exact mw_iret hx hb hr rfl hw hS (congrArg (fun z => some (Value.int z)) e9.symm) ⟨rfl, rfl⟩ hlocks d_C_isOpenTo_30

def f_C_mayGet (nr nm : Nat) (s0 : S2) (j : Nat) (a1 : Int32) : Int32 :=
  if rOk nr a1 then
    if (f_C_isOpenTo nr nm s0 j (Int32.toNatClampNeg a1) a1) = 0 then
      0
    else
      if (f_R_isForced s0 (Int32.toNatClampNeg a1)) = 0 then
        if (f_R_shareNow s0 (Int32.toNatClampNeg a1)) ≤ (s0 (58 + j) 2) then
          0
        else
          if (f_R_reachesRing s0 (Int32.toNatClampNeg a1) (s0 (58 + j) 1)) = 0 then
            0
          else
            1
      else
        1
  else
    0
theorem fb_C_mayGet (nr nm : Nat) (s0 : S2) (j : Nat) (a1 : Int32) : narrow .boolean (.int (f_C_mayGet nr nm s0 j a1)) = .int (f_C_mayGet nr nm s0 j a1) := by
  unfold f_C_mayGet
  repeat' split
  all_goals first | rfl | exact narrow_b0 | exact narrow_b1
set_option maxHeartbeats 4000000 in
set_option maxRecDepth 100000 in
theorem cc_C_mayGet (l : Launch) (G : Gx) (A : Nat → Prop) (ad : Nat → Nat) (nr nm : Nat) (hnr : nr ≤ 16) (hnm : nm ≤ 30) (s0 : S2) (j : Nat) (hj : j < nm) (a1 : Int32) : Met l y_C_mayGet ws_C_mayGet { frames := 2, cells := 0, slots := 0, locals := 46 } (PG G [.ref (ad (0)), .ref (ad (58 + j)), .int (a1)] A ad (encC G.2 ad nr nm s0)) (EG G A (some (.int (f_C_mayGet nr nm s0 j a1))) ad (encC G.2 ad nr nm s0)) 0 0 A := by
  refine Met.ofW (cc := c_C_mayGet) (maxL := 4) (ret := (some .boolean)) (by decide) rfl ?_
  intro p e s m args below meth c s₁ B hml hv
  obtain ⟨rfl, hw, hK⟩ := hv
  have hx := B.exec
  have hb := B.bytes
  have hr := B.returns
  have hts : ∀ w ∈ tbG, w.before [.ref (ad (0)), .ref (ad (58 + j)), .int (a1)].toArray s = true := fun w h => atoms_spec (ws := ws_C_mayGet) B.pre w (List.mem_cons_of_mem _ h)
  have hown : s.vm.findClass "RollStages" = some m.cls := findClass_of_methodNamed B.named
  have hlocks := B.notSynchronized
  have hS : va_S A s.heap s.heap [] := va_S.rf
  have hw : mwG G A ad (encC G.2 ad nr nm s0) s.heap := hw
  have hl := lv_entry ([.ref (ad (0)), .ref (ad (58 + j)), .int (a1)]) (n := 4) (Nat.le_of_ble_eq_true rfl)
  rw [lg_entry_eq]
  generalize (lg_sl ([.ref (ad (0)), .ref (ad (58 + j)), .int (a1)]) ++ List.replicate (4 - (lg_sl ([.ref (ad (0)), .ref (ad (58 + j)), .int (a1)])).length) Slot.unset).toArray = ls at hl ⊢
  have hl : lv_has ls 4 [(0, .ref (ad (0))), (1, .ref (ad (58 + j))), (2, .int (a1))] := hl
  refine lv_aload_n hx hb d_C_mayGet_0 rfl (lv_at hl 0 rfl) ?_
  refine lv_iload_n hx hb d_C_mayGet_1 rfl (lv_at hl 2 rfl) ?_
  refine gV (As := [.int (a1)]) (rest := []) (st1 := [rVal ad nr a1]) ⟨hx, hb, hml, hown, hts⟩ (cc_C_releaseAt l G A ad nr nm hnr hnm s0 a1) cC_0 rfl tw_151 tw_148 tw_150 tw_p0 tw_1 hd_C_releaseAt rfl rfl ⟨Nat.le_of_ble_eq_true rfl, Nat.le_of_ble_eq_true rfl⟩ hK hw hS hl.1 rfl (Nat.le_of_ble_eq_true rfl) ⟨Nat.zero_le _, Nat.zero_le _⟩ d_C_mayGet_2 rfl (fun H locs hw hS => ?_)
  by_cases h1 : rOk nr a1
  · skip
    refine W.eq (g2 := F0 m (2 + 3) ls [.ref (ad (10 + 3 * (Int32.toNatClampNeg a1)))]) (by rw [rVal_p h1]) ?_
    refine lv_astore_n (lv' := [(3, .ref (ad (10 + 3 * (Int32.toNatClampNeg a1)))), (0, .ref (ad (0))), (1, .ref (ad (58 + j))), (2, .int (a1))]) hx hb d_C_mayGet_5 rfl hl (by decide) rfl (fun ls hl => ?_)
    refine lv_aload_n hx hb d_C_mayGet_6 rfl (lv_at hl 0 rfl) ?_
    refine lv_ifnull hx hb d_C_mayGet_7 ?_
    refine lv_aload_n hx hb d_C_mayGet_10 rfl (lv_at hl 1 rfl) ?_
    refine lv_aload_n hx hb d_C_mayGet_11 rfl (lv_at hl 2 rfl) ?_
    refine lv_aload_n hx hb d_C_mayGet_12 rfl (lv_at hl 0 rfl) ?_
    refine lv_iload_n hx hb d_C_mayGet_13 rfl (lv_at hl 3 rfl) ?_
    refine gV (As := [.ref (ad (58 + j)), .ref (ad (10 + 3 * (Int32.toNatClampNeg a1))), .int (a1)]) (rest := []) (st1 := [.int (f_C_isOpenTo nr nm s0 j (Int32.toNatClampNeg a1) a1)]) ⟨hx, hb, hml, hown, hts⟩ (cc_C_isOpenTo l G A ad nr nm hnr hnm s0 j hj (Int32.toNatClampNeg a1) h1.2 a1) cC_0 rfl tw_324 tw_321 tw_323 tw_p22 tw_1 hd_C_isOpenTo rfl rfl ⟨Nat.le_of_ble_eq_true rfl, Nat.le_of_ble_eq_true rfl⟩ hK hw hS hl.1 rfl (Nat.le_of_ble_eq_true rfl) ⟨Nat.zero_le _, Nat.zero_le _⟩ d_C_mayGet_14 rfl (fun H locs hw hS => ?_)
    refine lv_if_ne (tgt := 22) hx hb d_C_mayGet_17 (by decide) (fun h2 => ?_) (fun h2 => ?_)
    · skip
      refine lv_aload_n hx hb d_C_mayGet_22 rfl (lv_at hl 0 rfl) ?_
      refine gVN (As := []) (rest := []) (st1 := [.int (f_R_isForced s0 (Int32.toNatClampNeg a1))]) ⟨hx, hb, hml, hown, hts⟩ (cc_R_isForced l G A ad nr nm hnr hnm s0 (Int32.toNatClampNeg a1) h1.2) (cC_rel hnr h1.2) rfl tw_328 nw_15 tw_327 tw_p23 tw_5 hd_R_isForced rfl rfl ⟨Nat.le_of_ble_eq_true rfl, Nat.le_of_ble_eq_true rfl⟩ hK hw hS hl.1 rfl (Nat.le_of_ble_eq_true rfl) ⟨Nat.zero_le _, Nat.zero_le _⟩ d_C_mayGet_23 rfl (fun H locs hw hS => ?_)
      refine lv_if_ne (tgt := 51) hx hb d_C_mayGet_26 (by decide) (fun h3 => ?_) (fun h3 => ?_)
      · skip
        refine lv_iconst (v := 1) hx hb d_C_mayGet_51 (by decide) ?_
        refine lv_goto (tgt := 56) hx hb d_C_mayGet_52 (by decide) ?_
        have e9 : f_C_mayGet nr nm s0 j a1 = 1 := by unfold f_C_mayGet; exact (if_pos h1).trans ((if_neg h2).trans (if_neg h3))
        exact mw_iret hx hb hr rfl hw hS (congrArg (fun z => some (Value.int z)) e9.symm) ⟨rfl, rfl⟩ hlocks d_C_mayGet_56
      · skip
        refine lv_aload_n hx hb d_C_mayGet_29 rfl (lv_at hl 2 rfl) ?_
        refine mw_getN (v := .int (s0 (58 + j) 2)) hx hb hts in_M hown hK.1 hw (58 + j) (cC_mac hj) rfl 2 (by decide) (hK.2.1 _ nf_9) rfl d_C_mayGet_30 ?_
        refine lv_aload_n hx hb d_C_mayGet_33 rfl (lv_at hl 0 rfl) ?_
        refine gVN (As := []) (rest := [.int (s0 (58 + j) 2)]) (st1 := [.int (f_R_shareNow s0 (Int32.toNatClampNeg a1)), .int (s0 (58 + j) 2)]) ⟨hx, hb, hml, hown, hts⟩ (cc_R_shareNow l G A ad nr nm hnr hnm s0 (Int32.toNatClampNeg a1) h1.2) (cC_rel hnr h1.2) rfl tw_251 nw_12 tw_250 tw_p17 tw_5 hd_R_shareNow rfl rfl ⟨Nat.le_of_ble_eq_true rfl, Nat.le_of_ble_eq_true rfl⟩ hK hw hS hl.1 rfl (Nat.le_of_ble_eq_true rfl) ⟨Nat.zero_le _, Nat.zero_le _⟩ d_C_mayGet_34 rfl (fun H locs hw hS => ?_)
        refine lv_icmp_ge (tgt := 55) hx hb d_C_mayGet_37 (by decide) (fun h4 => ?_) (fun h4 => ?_)
        · skip
          refine lv_iconst (v := 0) hx hb d_C_mayGet_55 (by decide) ?_
          have e9 : f_C_mayGet nr nm s0 j a1 = 0 := by unfold f_C_mayGet; exact (if_pos h1).trans ((if_neg h2).trans ((if_pos h3).trans (if_pos h4)))
          exact mw_iret hx hb hr rfl hw hS (congrArg (fun z => some (Value.int z)) e9.symm) ⟨rfl, rfl⟩ hlocks d_C_mayGet_56
        · skip
          refine lv_aload_n hx hb d_C_mayGet_40 rfl (lv_at hl 0 rfl) ?_
          refine lv_aload_n hx hb d_C_mayGet_41 rfl (lv_at hl 2 rfl) ?_
          refine mw_getN (v := .int (s0 (58 + j) 1)) hx hb hts in_M hown hK.1 hw (58 + j) (cC_mac hj) rfl 1 (by decide) (hK.2.1 _ nf_8) rfl d_C_mayGet_42 ?_
          refine gVN (As := [.int (s0 (58 + j) 1)]) (rest := []) (st1 := [.int (f_R_reachesRing s0 (Int32.toNatClampNeg a1) (s0 (58 + j) 1))]) ⟨hx, hb, hml, hown, hts⟩ (cc_R_reachesRing l G A ad nr nm hnr hnm s0 (Int32.toNatClampNeg a1) h1.2 (s0 (58 + j) 1)) (cC_rel hnr h1.2) rfl tw_332 nw_16 tw_331 tw_p24 tw_5 hd_R_reachesRing rfl rfl ⟨Nat.le_of_ble_eq_true rfl, Nat.le_of_ble_eq_true rfl⟩ hK hw hS hl.1 rfl (Nat.le_of_ble_eq_true rfl) ⟨Nat.zero_le _, Nat.zero_le _⟩ d_C_mayGet_45 rfl (fun H locs hw hS => ?_)
          refine lv_if_eq (tgt := 55) hx hb d_C_mayGet_48 (by decide) (fun h5 => ?_) (fun h5 => ?_)
          · skip
            refine lv_iconst (v := 0) hx hb d_C_mayGet_55 (by decide) ?_
            have e9 : f_C_mayGet nr nm s0 j a1 = 0 := by unfold f_C_mayGet; exact (if_pos h1).trans ((if_neg h2).trans ((if_pos h3).trans ((if_neg h4).trans (if_pos h5))))
            exact mw_iret hx hb hr rfl hw hS (congrArg (fun z => some (Value.int z)) e9.symm) ⟨rfl, rfl⟩ hlocks d_C_mayGet_56
          · skip
            refine lv_iconst (v := 1) hx hb d_C_mayGet_51 (by decide) ?_
            refine lv_goto (tgt := 56) hx hb d_C_mayGet_52 (by decide) ?_
            have e9 : f_C_mayGet nr nm s0 j a1 = 1 := by unfold f_C_mayGet; exact (if_pos h1).trans ((if_neg h2).trans ((if_pos h3).trans ((if_neg h4).trans (if_neg h5))))
            exact mw_iret hx hb hr rfl hw hS (congrArg (fun z => some (Value.int z)) e9.symm) ⟨rfl, rfl⟩ hlocks d_C_mayGet_56
    · skip
      refine lv_iconst (v := 0) hx hb d_C_mayGet_20 (by decide) ?_
      have e9 : f_C_mayGet nr nm s0 j a1 = 0 := by unfold f_C_mayGet; exact (if_pos h1).trans (if_pos h2)
      exact mw_iret hx hb hr rfl hw hS (congrArg (fun z => some (Value.int z)) e9.symm) ⟨rfl, rfl⟩ hlocks d_C_mayGet_21
  · skip
    refine W.eq (g2 := F0 m (2 + 3) ls [.null]) (by rw [rVal_n h1]) ?_
    refine lv_astore_nN (lv' := [(3, .null), (0, .ref (ad (0))), (1, .ref (ad (58 + j))), (2, .int (a1))]) hx hb d_C_mayGet_5 rfl hl (by decide) rfl (fun ls hl => ?_)
    refine lv_aload_nN hx hb d_C_mayGet_6 rfl (lv_at hl 0 rfl) ?_
    refine lv_ifnullN (tgt := 20) hx hb d_C_mayGet_7 (by decide) ?_
    refine lv_iconst (v := 0) hx hb d_C_mayGet_20 (by decide) ?_
    have e9 : f_C_mayGet nr nm s0 j a1 = 0 := by unfold f_C_mayGet; exact if_neg h1
    exact mw_iret hx hb hr rfl hw hS (congrArg (fun z => some (Value.int z)) e9.symm) ⟨rfl, rfl⟩ hlocks d_C_mayGet_21

def f_C_mayKeep (nr nm : Nat) (s0 : S2) (j : Nat) : Int32 :=
  if rOk nr (s0 (58 + j) 3) then
    if (s0 (10 + 3 * (Int32.toNatClampNeg (s0 (58 + j) 3))) 8) = 4 then
      0
    else
      if (f_C_isOpenTo nr nm s0 j (Int32.toNatClampNeg (s0 (58 + j) 3)) (s0 (58 + j) 3)) = 0 then
        0
      else
        1
  else
    0
theorem fb_C_mayKeep (nr nm : Nat) (s0 : S2) (j : Nat) : narrow .boolean (.int (f_C_mayKeep nr nm s0 j)) = .int (f_C_mayKeep nr nm s0 j) := by
  unfold f_C_mayKeep
  repeat' split
  all_goals first | rfl | exact narrow_b0 | exact narrow_b1
set_option maxHeartbeats 4000000 in
set_option maxRecDepth 100000 in
theorem cc_C_mayKeep (l : Launch) (G : Gx) (A : Nat → Prop) (ad : Nat → Nat) (nr nm : Nat) (hnr : nr ≤ 16) (hnm : nm ≤ 30) (s0 : S2) (j : Nat) (hj : j < nm) : Met l y_C_mayKeep ws_C_mayKeep { frames := 2, cells := 0, slots := 0, locals := 46 } (PG G [.ref (ad (0)), .ref (ad (58 + j))] A ad (encC G.2 ad nr nm s0)) (EG G A (some (.int (f_C_mayKeep nr nm s0 j))) ad (encC G.2 ad nr nm s0)) 0 0 A := by
  refine Met.ofW (cc := c_C_mayKeep) (maxL := 3) (ret := (some .boolean)) (by decide) rfl ?_
  intro p e s m args below meth c s₁ B hml hv
  obtain ⟨rfl, hw, hK⟩ := hv
  have hx := B.exec
  have hb := B.bytes
  have hr := B.returns
  have hts : ∀ w ∈ tbG, w.before [.ref (ad (0)), .ref (ad (58 + j))].toArray s = true := fun w h => atoms_spec (ws := ws_C_mayKeep) B.pre w (List.mem_cons_of_mem _ h)
  have hown : s.vm.findClass "RollStages" = some m.cls := findClass_of_methodNamed B.named
  have hlocks := B.notSynchronized
  have hS : va_S A s.heap s.heap [] := va_S.rf
  have hw : mwG G A ad (encC G.2 ad nr nm s0) s.heap := hw
  have hl := lv_entry ([.ref (ad (0)), .ref (ad (58 + j))]) (n := 3) (Nat.le_of_ble_eq_true rfl)
  rw [lg_entry_eq]
  generalize (lg_sl ([.ref (ad (0)), .ref (ad (58 + j))]) ++ List.replicate (3 - (lg_sl ([.ref (ad (0)), .ref (ad (58 + j))])).length) Slot.unset).toArray = ls at hl ⊢
  have hl : lv_has ls 3 [(0, .ref (ad (0))), (1, .ref (ad (58 + j)))] := hl
  refine lv_aload_n hx hb d_C_mayKeep_0 rfl (lv_at hl 0 rfl) ?_
  refine lv_aload_n hx hb d_C_mayKeep_1 rfl (lv_at hl 1 rfl) ?_
  refine mw_getN (v := .int (s0 (58 + j) 3)) hx hb hts in_M hown hK.1 hw (58 + j) (cC_mac hj) rfl 3 (by decide) (hK.2.1 _ nf_10) rfl d_C_mayKeep_2 ?_
  refine gV (As := [.int (s0 (58 + j) 3)]) (rest := []) (st1 := [rVal ad nr (s0 (58 + j) 3)]) ⟨hx, hb, hml, hown, hts⟩ (cc_C_releaseAt l G A ad nr nm hnr hnm s0 (s0 (58 + j) 3)) cC_0 rfl tw_151 tw_148 tw_150 tw_p0 tw_1 hd_C_releaseAt rfl rfl ⟨Nat.le_of_ble_eq_true rfl, Nat.le_of_ble_eq_true rfl⟩ hK hw hS hl.1 rfl (Nat.le_of_ble_eq_true rfl) ⟨Nat.zero_le _, Nat.zero_le _⟩ d_C_mayKeep_5 rfl (fun H locs hw hS => ?_)
  by_cases h1 : rOk nr (s0 (58 + j) 3)
  · skip
    refine W.eq (g2 := F0 m (5 + 3) ls [.ref (ad (10 + 3 * (Int32.toNatClampNeg (s0 (58 + j) 3))))]) (by rw [rVal_p h1]) ?_
    refine lv_astore_n (lv' := [(2, .ref (ad (10 + 3 * (Int32.toNatClampNeg (s0 (58 + j) 3))))), (0, .ref (ad (0))), (1, .ref (ad (58 + j)))]) hx hb d_C_mayKeep_8 rfl hl (by decide) rfl (fun ls hl => ?_)
    refine lv_aload_n hx hb d_C_mayKeep_9 rfl (lv_at hl 0 rfl) ?_
    refine lv_ifnull hx hb d_C_mayKeep_10 ?_
    refine lv_aload_n hx hb d_C_mayKeep_13 rfl (lv_at hl 0 rfl) ?_
    refine mw_getN (v := .int (s0 (10 + 3 * (Int32.toNatClampNeg (s0 (58 + j) 3))) 8)) hx hb hts in_R hown hK.1 hw (10 + 3 * (Int32.toNatClampNeg (s0 (58 + j) 3))) (cC_rel hnr h1.2) rfl 8 (by decide) (hK.2.1 _ nf_5) rfl d_C_mayKeep_14 ?_
    refine lv_iconst (v := 4) hx hb d_C_mayKeep_17 (by decide) ?_
    refine lv_icmp_eq (tgt := 38) hx hb d_C_mayKeep_18 (by decide) (fun h2 => ?_) (fun h2 => ?_)
    · skip
      refine lv_iconst (v := 0) hx hb d_C_mayKeep_38 (by decide) ?_
      have e9 : f_C_mayKeep nr nm s0 j = 0 := by unfold f_C_mayKeep; exact (if_pos h1).trans (if_pos h2)
      exact mw_iret hx hb hr rfl hw hS (congrArg (fun z => some (Value.int z)) e9.symm) ⟨rfl, rfl⟩ hlocks d_C_mayKeep_39
    · skip
      refine lv_aload_n hx hb d_C_mayKeep_21 rfl (lv_at hl 1 rfl) ?_
      refine lv_aload_n hx hb d_C_mayKeep_22 rfl (lv_at hl 2 rfl) ?_
      refine lv_aload_n hx hb d_C_mayKeep_23 rfl (lv_at hl 0 rfl) ?_
      refine lv_aload_n hx hb d_C_mayKeep_24 rfl (lv_at hl 2 rfl) ?_
      refine mw_getN (v := .int (s0 (58 + j) 3)) hx hb hts in_M hown hK.1 hw (58 + j) (cC_mac hj) rfl 3 (by decide) (hK.2.1 _ nf_10) rfl d_C_mayKeep_25 ?_
      refine gV (As := [.ref (ad (58 + j)), .ref (ad (10 + 3 * (Int32.toNatClampNeg (s0 (58 + j) 3)))), .int (s0 (58 + j) 3)]) (rest := []) (st1 := [.int (f_C_isOpenTo nr nm s0 j (Int32.toNatClampNeg (s0 (58 + j) 3)) (s0 (58 + j) 3))]) ⟨hx, hb, hml, hown, hts⟩ (cc_C_isOpenTo l G A ad nr nm hnr hnm s0 j hj (Int32.toNatClampNeg (s0 (58 + j) 3)) h1.2 (s0 (58 + j) 3)) cC_0 rfl tw_324 tw_321 tw_323 tw_p22 tw_1 hd_C_isOpenTo rfl rfl ⟨Nat.le_of_ble_eq_true rfl, Nat.le_of_ble_eq_true rfl⟩ hK hw hS hl.1 rfl (Nat.le_of_ble_eq_true rfl) ⟨Nat.zero_le _, Nat.zero_le _⟩ d_C_mayKeep_28 rfl (fun H locs hw hS => ?_)
      refine lv_if_eq (tgt := 38) hx hb d_C_mayKeep_31 (by decide) (fun h3 => ?_) (fun h3 => ?_)
      · skip
        refine lv_iconst (v := 0) hx hb d_C_mayKeep_38 (by decide) ?_
        have e9 : f_C_mayKeep nr nm s0 j = 0 := by unfold f_C_mayKeep; exact (if_pos h1).trans ((if_neg h2).trans (if_pos h3))
        exact mw_iret hx hb hr rfl hw hS (congrArg (fun z => some (Value.int z)) e9.symm) ⟨rfl, rfl⟩ hlocks d_C_mayKeep_39
      · skip
        refine lv_iconst (v := 1) hx hb d_C_mayKeep_34 (by decide) ?_
        refine lv_goto (tgt := 39) hx hb d_C_mayKeep_35 (by decide) ?_
        have e9 : f_C_mayKeep nr nm s0 j = 1 := by unfold f_C_mayKeep; exact (if_pos h1).trans ((if_neg h2).trans (if_neg h3))
        exact mw_iret hx hb hr rfl hw hS (congrArg (fun z => some (Value.int z)) e9.symm) ⟨rfl, rfl⟩ hlocks d_C_mayKeep_39
  · skip
    refine W.eq (g2 := F0 m (5 + 3) ls [.null]) (by rw [rVal_n h1]) ?_
    refine lv_astore_nN (lv' := [(2, .null), (0, .ref (ad (0))), (1, .ref (ad (58 + j)))]) hx hb d_C_mayKeep_8 rfl hl (by decide) rfl (fun ls hl => ?_)
    refine lv_aload_nN hx hb d_C_mayKeep_9 rfl (lv_at hl 0 rfl) ?_
    refine lv_ifnullN (tgt := 38) hx hb d_C_mayKeep_10 (by decide) ?_
    refine lv_iconst (v := 0) hx hb d_C_mayKeep_38 (by decide) ?_
    have e9 : f_C_mayKeep nr nm s0 j = 0 := by unfold f_C_mayKeep; exact if_neg h1
    exact mw_iret hx hb hr rfl hw hS (congrArg (fun z => some (Value.int z)) e9.symm) ⟨rfl, rfl⟩ hlocks d_C_mayKeep_39

def g_C_newestFor (nr nm : Nat) (s0 : S2) (j : Nat) : Nat → Int32 → Int32
  | 0, _ => 0
  | n + 1, x2 =>
    if x2 < 0 then
      -1
    else
      if (f_C_mayGet nr nm s0 j x2) = 0 then
        g_C_newestFor nr nm s0 j n (x2 + (-1))
      else
        x2
def f_C_newestFor (nr nm : Nat) (s0 : S2) (j : Nat) : Int32 :=
  g_C_newestFor nr nm s0 j 17 ((s0 0 4) - 1)
set_option maxHeartbeats 4000000 in
set_option maxRecDepth 100000 in
theorem cc_C_newestFor (l : Launch) (G : Gx) (A : Nat → Prop) (ad : Nat → Nat) (nr nm : Nat) (hnr : nr ≤ 16) (hnm : nm ≤ 30) (s0 : S2) (j : Nat) (hj : j < nm) (hcnt : s0 0 4 = nI nr) : Met l y_C_newestFor ws_C_newestFor { frames := 3, cells := 0, slots := 0, locals := 69 } (PG G [.ref (ad (0)), .ref (ad (58 + j))] A ad (encC G.2 ad nr nm s0)) (EG G A (some (.int (f_C_newestFor nr nm s0 j))) ad (encC G.2 ad nr nm s0)) 0 0 A := by
  refine Met.ofW (cc := c_C_newestFor) (maxL := 3) (ret := (some .int)) (by decide) rfl ?_
  intro p e s m args below meth c s₁ B hml hv
  obtain ⟨rfl, hw, hK⟩ := hv
  have hx := B.exec
  have hb := B.bytes
  have hr := B.returns
  have hts : ∀ w ∈ tbG, w.before [.ref (ad (0)), .ref (ad (58 + j))].toArray s = true := fun w h => atoms_spec (ws := ws_C_newestFor) B.pre w (List.mem_cons_of_mem _ h)
  have hown : s.vm.findClass "RollStages" = some m.cls := findClass_of_methodNamed B.named
  have hlocks := B.notSynchronized
  have hS : va_S A s.heap s.heap [] := va_S.rf
  have hw : mwG G A ad (encC G.2 ad nr nm s0) s.heap := hw
  have loop : ∀ (n : Nat) (x2 : Int32), -1 ≤ x2.toInt ∧ x2.toInt + 2 ≤ n → ∀ (H : Heap) (locs : List Loc) (ls : Array Slot), mwG G A ad (encC G.2 ad nr nm s0) H → va_S A s.heap H locs → lv_has ls 3 [(0, .ref (ad (0))), (1, .ref (ad (58 + j))), (2, .int (x2))] → W p l e (headSpec ws_C_newestFor { frames := 3, cells := 0, slots := 0, locals := 69 }).room s m [.ref (ad (0)), .ref (ad (58 + j))].toArray below meth c H locs 0 0 (MQ below (EG G A (some (.int (g_C_newestFor nr nm s0 j n x2))) ad (encC G.2 ad nr nm s0)) [.ref (ad (0)), .ref (ad (58 + j))].toArray s 0 0 A) (F0 m 7 ls []) := by
    intro n
    induction n with
    | zero =>
      intro x2 hI
      exact absurd hI (by omega)
    | succ n ih =>
      intro x2 hI H locs ls hw hS hl
      refine lv_iload_n hx hb d_C_newestFor_7 rfl (lv_at hl 2 rfl) ?_
      refine lv_if_lt (tgt := 28) hx hb d_C_newestFor_8 (by decide) (fun h501 => ?_) (fun h501 => ?_)
      · skip
        refine lv_iconst (v := -1) hx hb d_C_newestFor_28 (by decide) ?_
        have e9 : g_C_newestFor nr nm s0 j (n + 1) x2 = -1 := by rw [g_C_newestFor]; exact if_pos h501
        exact mw_iret hx hb hr rfl hw hS (congrArg (fun z => some (Value.int z)) e9.symm) ⟨rfl, rfl⟩ hlocks d_C_newestFor_29
      · skip
        refine lv_aload_n hx hb d_C_newestFor_11 rfl (lv_at hl 0 rfl) ?_
        refine lv_aload_n hx hb d_C_newestFor_12 rfl (lv_at hl 1 rfl) ?_
        refine lv_iload_n hx hb d_C_newestFor_13 rfl (lv_at hl 2 rfl) ?_
        refine gV (As := [.ref (ad (58 + j)), .int (x2)]) (rest := []) (st1 := [.int (f_C_mayGet nr nm s0 j x2)]) ⟨hx, hb, hml, hown, hts⟩ (cc_C_mayGet l G A ad nr nm hnr hnm s0 j hj x2) cC_0 rfl tw_320 tw_317 tw_319 tw_p21 tw_1 hd_C_mayGet rfl rfl ⟨Nat.le_of_ble_eq_true rfl, Nat.le_of_ble_eq_true rfl⟩ hK hw hS hl.1 rfl (Nat.le_of_ble_eq_true rfl) ⟨Nat.zero_le _, Nat.zero_le _⟩ d_C_newestFor_14 rfl (fun H locs hw hS => ?_)
        refine lv_if_eq (tgt := 22) hx hb d_C_newestFor_17 (by decide) (fun h502 => ?_) (fun h502 => ?_)
        · skip
          refine lv_iinc (v := x2 + (-1)) (lv' := [(2, .int (x2 + (-1))), (0, .ref (ad (0))), (1, .ref (ad (58 + j)))]) hx hb d_C_newestFor_22 hl (k := 2) rfl (by first | rfl | decide) (by decide) rfl (fun ls hl => ?_)
          refine lv_goto (tgt := 7) hx hb d_C_newestFor_25 (by decide) ?_
          have e9 : g_C_newestFor nr nm s0 j (n + 1) x2 = g_C_newestFor nr nm s0 j n (x2 + (-1)) := by rw [g_C_newestFor]; exact (if_neg h501).trans (if_pos h502)
          rw [e9]
          exact ih (x2 + (-1)) (nft_S hI h501) _ _ _ hw hS (lv_sub hl [1, 2, 0] rfl)
        · skip
          refine lv_iload_n hx hb d_C_newestFor_20 rfl (lv_at hl 2 rfl) ?_
          have e9 : g_C_newestFor nr nm s0 j (n + 1) x2 = x2 := by rw [g_C_newestFor]; exact (if_neg h501).trans (if_neg h502)
          exact mw_iret hx hb hr rfl hw hS (congrArg (fun z => some (Value.int z)) e9.symm) ⟨rfl, rfl⟩ hlocks d_C_newestFor_21
  have hl := lv_entry ([.ref (ad (0)), .ref (ad (58 + j))]) (n := 3) (Nat.le_of_ble_eq_true rfl)
  rw [lg_entry_eq]
  generalize (lg_sl ([.ref (ad (0)), .ref (ad (58 + j))]) ++ List.replicate (3 - (lg_sl ([.ref (ad (0)), .ref (ad (58 + j))])).length) Slot.unset).toArray = ls at hl ⊢
  have hl : lv_has ls 3 [(0, .ref (ad (0))), (1, .ref (ad (58 + j)))] := hl
  refine lv_aload_n hx hb d_C_newestFor_0 rfl (lv_at hl 0 rfl) ?_
  refine mw_get (v := .int (s0 0 4)) hx hb hts in_C hown hK.1 hw (0) cC_0 rfl 4 (by decide) (hts _ tw_62) rfl d_C_newestFor_1 ?_
  refine lv_iconst (v := 1) hx hb d_C_newestFor_4 (by decide) ?_
  refine lv_isub hx hb d_C_newestFor_5 ?_
  refine lv_istore_n (lv' := [(2, .int ((s0 0 4) - 1)), (0, .ref (ad (0))), (1, .ref (ad (58 + j)))]) hx hb d_C_newestFor_6 rfl hl (by decide) rfl (fun ls hl => ?_)
  have e9 : f_C_newestFor nr nm s0 j = g_C_newestFor nr nm s0 j 17 ((s0 0 4) - 1) := rfl
  rw [e9]
  exact loop 17 ((s0 0 4) - 1) (nft_0 hcnt hnr) _ _ _ hw hS (lv_sub hl [1, 2, 0] rfl)

def f_C_offerTo (nr nm : Nat) (s0 : S2) (j : Nat) : Int32 :=
  if rOk nr (s0 (58 + j) 4) then
    if (s0 (10 + 3 * (Int32.toNatClampNeg (s0 (58 + j) 4))) 8) = 4 then
      if (s0 (58 + j) 3) ≤ (f_C_newestFor nr nm s0 j) then
        f_C_newestFor nr nm s0 j
      else
        if (f_C_mayKeep nr nm s0 j) = 0 then
          f_C_newestFor nr nm s0 j
        else
          s0 (58 + j) 3
    else
      s0 (58 + j) 4
  else
    if (s0 (58 + j) 3) ≤ (f_C_newestFor nr nm s0 j) then
      f_C_newestFor nr nm s0 j
    else
      if (f_C_mayKeep nr nm s0 j) = 0 then
        f_C_newestFor nr nm s0 j
      else
        s0 (58 + j) 3
set_option maxHeartbeats 4000000 in
set_option maxRecDepth 100000 in
theorem cc_C_offerTo (l : Launch) (G : Gx) (A : Nat → Prop) (ad : Nat → Nat) (nr nm : Nat) (hnr : nr ≤ 16) (hnm : nm ≤ 30) (s0 : S2) (j : Nat) (hj : j < nm) (hcnt : s0 0 4 = nI nr) : Met l y_C_offerTo ws_C_offerTo { frames := 4, cells := 0, slots := 0, locals := 91 } (PG G [.ref (ad (0)), .ref (ad (58 + j))] A ad (encC G.2 ad nr nm s0)) (EG G A (some (.int (f_C_offerTo nr nm s0 j))) ad (encC G.2 ad nr nm s0)) 0 0 A := by
  refine Met.ofW (cc := c_C_offerTo) (maxL := 4) (ret := (some .int)) (by decide) rfl ?_
  intro p e s m args below meth c s₁ B hml hv
  obtain ⟨rfl, hw, hK⟩ := hv
  have hx := B.exec
  have hb := B.bytes
  have hr := B.returns
  have hts : ∀ w ∈ tbG, w.before [.ref (ad (0)), .ref (ad (58 + j))].toArray s = true := fun w h => atoms_spec (ws := ws_C_offerTo) B.pre w (List.mem_cons_of_mem _ h)
  have hown : s.vm.findClass "RollStages" = some m.cls := findClass_of_methodNamed B.named
  have hlocks := B.notSynchronized
  have hS : va_S A s.heap s.heap [] := va_S.rf
  have hw : mwG G A ad (encC G.2 ad nr nm s0) s.heap := hw
  have hl := lv_entry ([.ref (ad (0)), .ref (ad (58 + j))]) (n := 4) (Nat.le_of_ble_eq_true rfl)
  rw [lg_entry_eq]
  generalize (lg_sl ([.ref (ad (0)), .ref (ad (58 + j))]) ++ List.replicate (4 - (lg_sl ([.ref (ad (0)), .ref (ad (58 + j))])).length) Slot.unset).toArray = ls at hl ⊢
  have hl : lv_has ls 4 [(0, .ref (ad (0))), (1, .ref (ad (58 + j)))] := hl
  refine lv_aload_n hx hb d_C_offerTo_0 rfl (lv_at hl 0 rfl) ?_
  refine lv_aload_n hx hb d_C_offerTo_1 rfl (lv_at hl 1 rfl) ?_
  refine mw_getN (v := .int (s0 (58 + j) 4)) hx hb hts in_M hown hK.1 hw (58 + j) (cC_mac hj) rfl 4 (by decide) (hK.2.1 _ nf_11) rfl d_C_offerTo_2 ?_
  refine gV (As := [.int (s0 (58 + j) 4)]) (rest := []) (st1 := [rVal ad nr (s0 (58 + j) 4)]) ⟨hx, hb, hml, hown, hts⟩ (cc_C_releaseAt l G A ad nr nm hnr hnm s0 (s0 (58 + j) 4)) cC_0 rfl tw_151 tw_148 tw_150 tw_p0 tw_1 hd_C_releaseAt rfl rfl ⟨Nat.le_of_ble_eq_true rfl, Nat.le_of_ble_eq_true rfl⟩ hK hw hS hl.1 rfl (Nat.le_of_ble_eq_true rfl) ⟨Nat.zero_le _, Nat.zero_le _⟩ d_C_offerTo_5 rfl (fun H locs hw hS => ?_)
  by_cases h1 : rOk nr (s0 (58 + j) 4)
  · skip
    refine W.eq (g2 := F0 m (5 + 3) ls [.ref (ad (10 + 3 * (Int32.toNatClampNeg (s0 (58 + j) 4))))]) (by rw [rVal_p h1]) ?_
    refine lv_astore_n (lv' := [(2, .ref (ad (10 + 3 * (Int32.toNatClampNeg (s0 (58 + j) 4))))), (0, .ref (ad (0))), (1, .ref (ad (58 + j)))]) hx hb d_C_offerTo_8 rfl hl (by decide) rfl (fun ls hl => ?_)
    refine lv_aload_n hx hb d_C_offerTo_9 rfl (lv_at hl 0 rfl) ?_
    refine lv_ifnull hx hb d_C_offerTo_10 ?_
    refine lv_aload_n hx hb d_C_offerTo_13 rfl (lv_at hl 0 rfl) ?_
    refine mw_getN (v := .int (s0 (10 + 3 * (Int32.toNatClampNeg (s0 (58 + j) 4))) 8)) hx hb hts in_R hown hK.1 hw (10 + 3 * (Int32.toNatClampNeg (s0 (58 + j) 4))) (cC_rel hnr h1.2) rfl 8 (by decide) (hK.2.1 _ nf_5) rfl d_C_offerTo_14 ?_
    refine lv_iconst (v := 4) hx hb d_C_offerTo_17 (by decide) ?_
    refine lv_icmp_eq (tgt := 26) hx hb d_C_offerTo_18 (by decide) (fun h2 => ?_) (fun h2 => ?_)
    · skip
      refine lv_aload_n hx hb d_C_offerTo_26 rfl (lv_at hl 1 rfl) ?_
      refine lv_aload_n hx hb d_C_offerTo_27 rfl (lv_at hl 2 rfl) ?_
      refine gV (As := [.ref (ad (58 + j))]) (rest := []) (st1 := [.int (f_C_newestFor nr nm s0 j)]) ⟨hx, hb, hml, hown, hts⟩ (cc_C_newestFor l G A ad nr nm hnr hnm s0 j hj hcnt) cC_0 rfl tw_316 tw_313 tw_315 tw_p20 tw_1 hd_C_newestFor rfl rfl ⟨Nat.le_of_ble_eq_true rfl, Nat.le_of_ble_eq_true rfl⟩ hK hw hS hl.1 rfl (Nat.le_of_ble_eq_true rfl) ⟨Nat.zero_le _, Nat.zero_le _⟩ d_C_offerTo_28 rfl (fun H locs hw hS => ?_)
      refine lv_istore_n (lv' := [(3, .int (f_C_newestFor nr nm s0 j)), (2, .ref (ad (10 + 3 * (Int32.toNatClampNeg (s0 (58 + j) 4))))), (0, .ref (ad (0))), (1, .ref (ad (58 + j)))]) hx hb d_C_offerTo_31 rfl hl (by decide) rfl (fun ls hl => ?_)
      refine lv_aload_n hx hb d_C_offerTo_32 rfl (lv_at hl 3 rfl) ?_
      refine mw_getN (v := .int (s0 (58 + j) 3)) hx hb hts in_M hown hK.1 hw (58 + j) (cC_mac hj) rfl 3 (by decide) (hK.2.1 _ nf_10) rfl d_C_offerTo_33 ?_
      refine lv_iload_n hx hb d_C_offerTo_36 rfl (lv_at hl 0 rfl) ?_
      refine lv_icmp_le (tgt := 55) hx hb d_C_offerTo_37 (by decide) (fun h3 => ?_) (fun h3 => ?_)
      · skip
        refine lv_iload_n hx hb d_C_offerTo_55 rfl (lv_at hl 0 rfl) ?_
        have e9 : f_C_offerTo nr nm s0 j = f_C_newestFor nr nm s0 j := by unfold f_C_offerTo; exact (if_pos h1).trans ((if_pos h2).trans (if_pos h3))
        exact mw_iret hx hb hr rfl hw hS (congrArg (fun z => some (Value.int z)) e9.symm) ⟨rfl, rfl⟩ hlocks d_C_offerTo_56
      · skip
        refine lv_aload_n hx hb d_C_offerTo_40 rfl (lv_at hl 2 rfl) ?_
        refine lv_aload_n hx hb d_C_offerTo_41 rfl (lv_at hl 3 rfl) ?_
        refine gV (As := [.ref (ad (58 + j))]) (rest := []) (st1 := [.int (f_C_mayKeep nr nm s0 j)]) ⟨hx, hb, hml, hown, hts⟩ (cc_C_mayKeep l G A ad nr nm hnr hnm s0 j hj) cC_0 rfl tw_336 tw_333 tw_335 tw_p25 tw_1 hd_C_mayKeep rfl rfl ⟨Nat.le_of_ble_eq_true rfl, Nat.le_of_ble_eq_true rfl⟩ hK hw hS hl.1 rfl (Nat.le_of_ble_eq_true rfl) ⟨Nat.zero_le _, Nat.zero_le _⟩ d_C_offerTo_42 rfl (fun H locs hw hS => ?_)
        refine lv_if_eq (tgt := 55) hx hb d_C_offerTo_45 (by decide) (fun h4 => ?_) (fun h4 => ?_)
        · skip
          refine lv_iload_n hx hb d_C_offerTo_55 rfl (lv_at hl 0 rfl) ?_
          have e9 : f_C_offerTo nr nm s0 j = f_C_newestFor nr nm s0 j := by unfold f_C_offerTo; exact (if_pos h1).trans ((if_pos h2).trans ((if_neg h3).trans (if_pos h4)))
          exact mw_iret hx hb hr rfl hw hS (congrArg (fun z => some (Value.int z)) e9.symm) ⟨rfl, rfl⟩ hlocks d_C_offerTo_56
        · skip
          refine lv_aload_n hx hb d_C_offerTo_48 rfl (lv_at hl 3 rfl) ?_
          refine mw_getN (v := .int (s0 (58 + j) 3)) hx hb hts in_M hown hK.1 hw (58 + j) (cC_mac hj) rfl 3 (by decide) (hK.2.1 _ nf_10) rfl d_C_offerTo_49 ?_
          refine lv_goto (tgt := 56) hx hb d_C_offerTo_52 (by decide) ?_
          have e9 : f_C_offerTo nr nm s0 j = s0 (58 + j) 3 := by unfold f_C_offerTo; exact (if_pos h1).trans ((if_pos h2).trans ((if_neg h3).trans (if_neg h4)))
          exact mw_iret hx hb hr rfl hw hS (congrArg (fun z => some (Value.int z)) e9.symm) ⟨rfl, rfl⟩ hlocks d_C_offerTo_56
    · skip
      refine lv_aload_n hx hb d_C_offerTo_21 rfl (lv_at hl 2 rfl) ?_
      refine mw_getN (v := .int (s0 (58 + j) 4)) hx hb hts in_M hown hK.1 hw (58 + j) (cC_mac hj) rfl 4 (by decide) (hK.2.1 _ nf_11) rfl d_C_offerTo_22 ?_
      have e9 : f_C_offerTo nr nm s0 j = s0 (58 + j) 4 := by unfold f_C_offerTo; exact (if_pos h1).trans (if_neg h2)
      exact mw_iret hx hb hr rfl hw hS (congrArg (fun z => some (Value.int z)) e9.symm) ⟨rfl, rfl⟩ hlocks d_C_offerTo_25
  · skip
    refine W.eq (g2 := F0 m (5 + 3) ls [.null]) (by rw [rVal_n h1]) ?_
    refine lv_astore_nN (lv' := [(2, .null), (0, .ref (ad (0))), (1, .ref (ad (58 + j)))]) hx hb d_C_offerTo_8 rfl hl (by decide) rfl (fun ls hl => ?_)
    refine lv_aload_nN hx hb d_C_offerTo_9 rfl (lv_at hl 0 rfl) ?_
    refine lv_ifnullN (tgt := 26) hx hb d_C_offerTo_10 (by decide) ?_
    refine lv_aload_n hx hb d_C_offerTo_26 rfl (lv_at hl 1 rfl) ?_
    refine lv_aload_n hx hb d_C_offerTo_27 rfl (lv_at hl 2 rfl) ?_
    refine gV (As := [.ref (ad (58 + j))]) (rest := []) (st1 := [.int (f_C_newestFor nr nm s0 j)]) ⟨hx, hb, hml, hown, hts⟩ (cc_C_newestFor l G A ad nr nm hnr hnm s0 j hj hcnt) cC_0 rfl tw_316 tw_313 tw_315 tw_p20 tw_1 hd_C_newestFor rfl rfl ⟨Nat.le_of_ble_eq_true rfl, Nat.le_of_ble_eq_true rfl⟩ hK hw hS hl.1 rfl (Nat.le_of_ble_eq_true rfl) ⟨Nat.zero_le _, Nat.zero_le _⟩ d_C_offerTo_28 rfl (fun H locs hw hS => ?_)
    refine lv_istore_n (lv' := [(3, .int (f_C_newestFor nr nm s0 j)), (2, .null), (0, .ref (ad (0))), (1, .ref (ad (58 + j)))]) hx hb d_C_offerTo_31 rfl hl (by decide) rfl (fun ls hl => ?_)
    refine lv_aload_n hx hb d_C_offerTo_32 rfl (lv_at hl 3 rfl) ?_
    refine mw_getN (v := .int (s0 (58 + j) 3)) hx hb hts in_M hown hK.1 hw (58 + j) (cC_mac hj) rfl 3 (by decide) (hK.2.1 _ nf_10) rfl d_C_offerTo_33 ?_
    refine lv_iload_n hx hb d_C_offerTo_36 rfl (lv_at hl 0 rfl) ?_
    refine lv_icmp_le (tgt := 55) hx hb d_C_offerTo_37 (by decide) (fun h5 => ?_) (fun h5 => ?_)
    · skip
      refine lv_iload_n hx hb d_C_offerTo_55 rfl (lv_at hl 0 rfl) ?_
      have e9 : f_C_offerTo nr nm s0 j = f_C_newestFor nr nm s0 j := by unfold f_C_offerTo; exact (if_neg h1).trans (if_pos h5)
      exact mw_iret hx hb hr rfl hw hS (congrArg (fun z => some (Value.int z)) e9.symm) ⟨rfl, rfl⟩ hlocks d_C_offerTo_56
    · skip
      refine lv_aload_n hx hb d_C_offerTo_40 rfl (lv_at hl 2 rfl) ?_
      refine lv_aload_n hx hb d_C_offerTo_41 rfl (lv_at hl 3 rfl) ?_
      refine gV (As := [.ref (ad (58 + j))]) (rest := []) (st1 := [.int (f_C_mayKeep nr nm s0 j)]) ⟨hx, hb, hml, hown, hts⟩ (cc_C_mayKeep l G A ad nr nm hnr hnm s0 j hj) cC_0 rfl tw_336 tw_333 tw_335 tw_p25 tw_1 hd_C_mayKeep rfl rfl ⟨Nat.le_of_ble_eq_true rfl, Nat.le_of_ble_eq_true rfl⟩ hK hw hS hl.1 rfl (Nat.le_of_ble_eq_true rfl) ⟨Nat.zero_le _, Nat.zero_le _⟩ d_C_offerTo_42 rfl (fun H locs hw hS => ?_)
      refine lv_if_eq (tgt := 55) hx hb d_C_offerTo_45 (by decide) (fun h6 => ?_) (fun h6 => ?_)
      · skip
        refine lv_iload_n hx hb d_C_offerTo_55 rfl (lv_at hl 0 rfl) ?_
        have e9 : f_C_offerTo nr nm s0 j = f_C_newestFor nr nm s0 j := by unfold f_C_offerTo; exact (if_neg h1).trans ((if_neg h5).trans (if_pos h6))
        exact mw_iret hx hb hr rfl hw hS (congrArg (fun z => some (Value.int z)) e9.symm) ⟨rfl, rfl⟩ hlocks d_C_offerTo_56
      · skip
        refine lv_aload_n hx hb d_C_offerTo_48 rfl (lv_at hl 3 rfl) ?_
        refine mw_getN (v := .int (s0 (58 + j) 3)) hx hb hts in_M hown hK.1 hw (58 + j) (cC_mac hj) rfl 3 (by decide) (hK.2.1 _ nf_10) rfl d_C_offerTo_49 ?_
        refine lv_goto (tgt := 56) hx hb d_C_offerTo_52 (by decide) ?_
        have e9 : f_C_offerTo nr nm s0 j = s0 (58 + j) 3 := by unfold f_C_offerTo; exact (if_neg h1).trans ((if_neg h5).trans (if_neg h6))
        exact mw_iret hx hb hr rfl hw hS (congrArg (fun z => some (Value.int z)) e9.symm) ⟨rfl, rfl⟩ hlocks d_C_offerTo_56

def f_C_findWay (nr nm : Nat) (s0 : S2) (j : Nat) : S2 :=
  if rOk nr (f_C_offerTo nr nm s0 j) then
    if (f_C_offerTo nr nm s0 j) = (s0 (58 + j) 3) then
      f_D_setWay s0 0 0
    else
      if ((f_D_setWay s0 (s0 (10 + 3 * (Int32.toNatClampNeg (f_C_offerTo nr nm s0 j))) 2) 0) (58 + j) 3) = (-1) then
        f_D_setWay s0 (s0 (10 + 3 * (Int32.toNatClampNeg (f_C_offerTo nr nm s0 j))) 2) 0
      else
        f_D_searchCheaper nr nm (f_D_setWay s0 (s0 (10 + 3 * (Int32.toNatClampNeg (f_C_offerTo nr nm s0 j))) 2) 0) ((f_D_setWay s0 (s0 (10 + 3 * (Int32.toNatClampNeg (f_C_offerTo nr nm s0 j))) 2) 0) (58 + j) 3) (f_C_offerTo nr nm s0 j)
  else
    f_D_setWay s0 0 0
set_option maxHeartbeats 4000000 in
set_option maxRecDepth 100000 in
theorem cc_C_findWay (l : Launch) (G : Gx) (A : Nat → Prop) (ad : Nat → Nat) (nr nm : Nat) (hnr : nr ≤ 16) (hnm : nm ≤ 30) (s0 : S2) (j : Nat) (hj : j < nm) (hcnt : s0 0 4 = nI nr) (hct : 0 ≤ (s0 4 3).toInt ∧ (s0 4 3).toInt ≤ 40) : Met l y_C_findWay ws_C_findWay { frames := 5, cells := 0, slots := 0, locals := 114 } (PG G [.ref (ad (0)), .ref (ad (58 + j))] A ad (encC G.2 ad nr nm s0)) (EG G A none ad (encC G.2 ad nr nm (f_C_findWay nr nm s0 j))) 0 0 A := by
  refine Met.ofW (cc := c_C_findWay) (maxL := 4) (ret := none) (by decide) rfl ?_
  intro p e s m args below meth c s₁ B hml hv
  obtain ⟨rfl, hw, hK⟩ := hv
  have hx := B.exec
  have hb := B.bytes
  have hr := B.returns
  have hts : ∀ w ∈ tbG, w.before [.ref (ad (0)), .ref (ad (58 + j))].toArray s = true := fun w h => atoms_spec (ws := ws_C_findWay) B.pre w (List.mem_cons_of_mem _ h)
  have hown : s.vm.findClass "RollStages" = some m.cls := findClass_of_methodNamed B.named
  have hlocks := B.notSynchronized
  have hS : va_S A s.heap s.heap [] := va_S.rf
  have hw : mwG G A ad (encC G.2 ad nr nm s0) s.heap := hw
  have hl := lv_entry ([.ref (ad (0)), .ref (ad (58 + j))]) (n := 4) (Nat.le_of_ble_eq_true rfl)
  rw [lg_entry_eq]
  generalize (lg_sl ([.ref (ad (0)), .ref (ad (58 + j))]) ++ List.replicate (4 - (lg_sl ([.ref (ad (0)), .ref (ad (58 + j))])).length) Slot.unset).toArray = ls at hl ⊢
  have hl : lv_has ls 4 [(0, .ref (ad (0))), (1, .ref (ad (58 + j)))] := hl
  refine lv_aload_n hx hb d_C_findWay_0 rfl (lv_at hl 0 rfl) ?_
  refine lv_aload_n hx hb d_C_findWay_1 rfl (lv_at hl 1 rfl) ?_
  refine gV (As := [.ref (ad (58 + j))]) (rest := []) (st1 := [.int (f_C_offerTo nr nm s0 j)]) ⟨hx, hb, hml, hown, hts⟩ (cc_C_offerTo l G A ad nr nm hnr hnm s0 j hj hcnt) cC_0 rfl tw_312 tw_309 tw_311 tw_p19 tw_1 hd_C_offerTo rfl rfl ⟨Nat.le_of_ble_eq_true rfl, Nat.le_of_ble_eq_true rfl⟩ hK hw hS hl.1 rfl (Nat.le_of_ble_eq_true rfl) ⟨Nat.zero_le _, Nat.zero_le _⟩ d_C_findWay_2 rfl (fun H locs hw hS => ?_)
  refine lv_istore_n (lv' := [(2, .int (f_C_offerTo nr nm s0 j)), (0, .ref (ad (0))), (1, .ref (ad (58 + j)))]) hx hb d_C_findWay_5 rfl hl (by decide) rfl (fun ls hl => ?_)
  refine lv_aload_n hx hb d_C_findWay_6 rfl (lv_at hl 1 rfl) ?_
  refine lv_iload_n hx hb d_C_findWay_7 rfl (lv_at hl 0 rfl) ?_
  refine gV (As := [.int (f_C_offerTo nr nm s0 j)]) (rest := []) (st1 := [rVal ad nr (f_C_offerTo nr nm s0 j)]) ⟨hx, hb, hml, hown, hts⟩ (cc_C_releaseAt l G A ad nr nm hnr hnm s0 (f_C_offerTo nr nm s0 j)) cC_0 rfl tw_151 tw_148 tw_150 tw_p0 tw_1 hd_C_releaseAt rfl rfl ⟨Nat.le_of_ble_eq_true rfl, Nat.le_of_ble_eq_true rfl⟩ hK hw hS hl.1 rfl (Nat.le_of_ble_eq_true rfl) ⟨Nat.zero_le _, Nat.zero_le _⟩ d_C_findWay_8 rfl (fun H locs hw hS => ?_)
  by_cases h1 : rOk nr (f_C_offerTo nr nm s0 j)
  · skip
    refine W.eq (g2 := F0 m (8 + 3) ls [.ref (ad (10 + 3 * (Int32.toNatClampNeg (f_C_offerTo nr nm s0 j))))]) (by rw [rVal_p h1]) ?_
    refine lv_astore_n (lv' := [(3, .ref (ad (10 + 3 * (Int32.toNatClampNeg (f_C_offerTo nr nm s0 j))))), (2, .int (f_C_offerTo nr nm s0 j)), (0, .ref (ad (0))), (1, .ref (ad (58 + j)))]) hx hb d_C_findWay_11 rfl hl (by decide) rfl (fun ls hl => ?_)
    refine lv_aload_n hx hb d_C_findWay_12 rfl (lv_at hl 0 rfl) ?_
    refine lv_ifnull hx hb d_C_findWay_13 ?_
    refine lv_iload_n hx hb d_C_findWay_16 rfl (lv_at hl 1 rfl) ?_
    refine lv_aload_n hx hb d_C_findWay_17 rfl (lv_at hl 3 rfl) ?_
    refine mw_getN (v := .int (s0 (58 + j) 3)) hx hb hts in_M hown hK.1 hw (58 + j) (cC_mac hj) rfl 3 (by decide) (hK.2.1 _ nf_10) rfl d_C_findWay_18 ?_
    refine lv_icmp_ne (tgt := 34) hx hb d_C_findWay_21 (by decide) (fun h2 => ?_) (fun h2 => ?_)
    · skip
      refine lv_aload_n hx hb d_C_findWay_34 rfl (lv_at hl 2 rfl) ?_
      refine mw_get (v := .ref (ad (4))) hx hb hts in_C hown hK.1 hw (0) cC_0 rfl 3 (by decide) (hts _ tw_61) rfl d_C_findWay_35 ?_
      refine lv_aload_n hx hb d_C_findWay_38 rfl (lv_at hl 0 rfl) ?_
      refine mw_getN (v := .int (s0 (10 + 3 * (Int32.toNatClampNeg (f_C_offerTo nr nm s0 j))) 2)) hx hb hts in_R hown hK.1 hw (10 + 3 * (Int32.toNatClampNeg (f_C_offerTo nr nm s0 j))) (cC_rel hnr h1.2) rfl 2 (by decide) (hK.2.1 _ nf_3) rfl d_C_findWay_39 ?_
      refine lv_iconst (v := 0) hx hb d_C_findWay_42 (by decide) ?_
      refine gVN (As := [.int (s0 (10 + 3 * (Int32.toNatClampNeg (f_C_offerTo nr nm s0 j))) 2), .int (0)]) (rest := []) (st1 := []) ⟨hx, hb, hml, hown, hts⟩ (cc_D_setWay l G A ad nr nm hnr hnm s0 (s0 (10 + 3 * (Int32.toNatClampNeg (f_C_offerTo nr nm s0 j))) 2) 0) cC_4 rfl tw_366 nw_19 tw_365 tw_p29 tw_2 hd_D_setWay rfl rfl ⟨Nat.le_of_ble_eq_true rfl, Nat.le_of_ble_eq_true rfl⟩ hK hw hS hl.1 rfl (Nat.le_of_ble_eq_true rfl) ⟨Nat.zero_le _, Nat.zero_le _⟩ d_C_findWay_43 rfl (fun H locs hw hS => ?_)
      refine lv_aload_n hx hb d_C_findWay_46 rfl (lv_at hl 3 rfl) ?_
      refine mw_getN (v := .int ((f_D_setWay s0 (s0 (10 + 3 * (Int32.toNatClampNeg (f_C_offerTo nr nm s0 j))) 2) 0) (58 + j) 3)) hx hb hts in_M hown hK.1 hw (58 + j) (cC_mac hj) rfl 3 (by decide) (hK.2.1 _ nf_10) rfl d_C_findWay_47 ?_
      refine lv_iconst (v := -1) hx hb d_C_findWay_50 (by decide) ?_
      refine lv_icmp_eq (tgt := 70) hx hb d_C_findWay_51 (by decide) (fun h3 => ?_) (fun h3 => ?_)
      · skip
        have e9 : f_C_findWay nr nm s0 j = f_D_setWay s0 (s0 (10 + 3 * (Int32.toNatClampNeg (f_C_offerTo nr nm s0 j))) 2) 0 := by unfold f_C_findWay; exact (if_pos h1).trans ((if_neg h2).trans (if_pos h3))
        exact mw_vret hx hb hr hw hS ⟨rfl, congrArg (fun z => encC G.2 ad nr nm z) e9.symm⟩ hlocks d_C_findWay_70
      · skip
        refine lv_aload_n hx hb d_C_findWay_54 rfl (lv_at hl 2 rfl) ?_
        refine mw_get (v := .ref (ad (4))) hx hb hts in_C hown hK.1 hw (0) cC_0 rfl 3 (by decide) (hts _ tw_61) rfl d_C_findWay_55 ?_
        refine lv_aload_n hx hb d_C_findWay_58 rfl (lv_at hl 3 rfl) ?_
        refine mw_getN (v := .int ((f_D_setWay s0 (s0 (10 + 3 * (Int32.toNatClampNeg (f_C_offerTo nr nm s0 j))) 2) 0) (58 + j) 3)) hx hb hts in_M hown hK.1 hw (58 + j) (cC_mac hj) rfl 3 (by decide) (hK.2.1 _ nf_10) rfl d_C_findWay_59 ?_
        refine lv_iload_n hx hb d_C_findWay_62 rfl (lv_at hl 1 rfl) ?_
        refine lv_aload_n hx hb d_C_findWay_63 rfl (lv_at hl 2 rfl) ?_
        refine mw_get (v := .ref (ad (1))) hx hb hts in_C hown hK.1 hw (0) cC_0 rfl 0 (by decide) (hts _ tw_58) rfl d_C_findWay_64 ?_
        refine gVN (As := [.int ((f_D_setWay s0 (s0 (10 + 3 * (Int32.toNatClampNeg (f_C_offerTo nr nm s0 j))) 2) 0) (58 + j) 3), .int (f_C_offerTo nr nm s0 j), .ref (ad (1))]) (rest := []) (st1 := []) ⟨hx, hb, hml, hown, hts⟩ (cc_D_searchCheaper l G A ad nr nm hnr hnm (f_D_setWay s0 (s0 (10 + 3 * (Int32.toNatClampNeg (f_C_offerTo nr nm s0 j))) 2) 0) ((f_D_setWay s0 (s0 (10 + 3 * (Int32.toNatClampNeg (f_C_offerTo nr nm s0 j))) 2) 0) (58 + j) 3) (f_C_offerTo nr nm s0 j) (by rw [setWay_3]; exact hct)) cC_4 rfl tw_370 nw_20 tw_369 tw_p30 tw_2 hd_D_searchCheaper rfl rfl ⟨Nat.le_of_ble_eq_true rfl, Nat.le_of_ble_eq_true rfl⟩ hK hw hS hl.1 rfl (Nat.le_of_ble_eq_true rfl) ⟨Nat.zero_le _, Nat.zero_le _⟩ d_C_findWay_67 rfl (fun H locs hw hS => ?_)
        have e9 : f_C_findWay nr nm s0 j = f_D_searchCheaper nr nm (f_D_setWay s0 (s0 (10 + 3 * (Int32.toNatClampNeg (f_C_offerTo nr nm s0 j))) 2) 0) ((f_D_setWay s0 (s0 (10 + 3 * (Int32.toNatClampNeg (f_C_offerTo nr nm s0 j))) 2) 0) (58 + j) 3) (f_C_offerTo nr nm s0 j) := by unfold f_C_findWay; exact (if_pos h1).trans ((if_neg h2).trans (if_neg h3))
        exact mw_vret hx hb hr hw hS ⟨rfl, congrArg (fun z => encC G.2 ad nr nm z) e9.symm⟩ hlocks d_C_findWay_70
    · skip
      refine lv_aload_n hx hb d_C_findWay_24 rfl (lv_at hl 2 rfl) ?_
      refine mw_get (v := .ref (ad (4))) hx hb hts in_C hown hK.1 hw (0) cC_0 rfl 3 (by decide) (hts _ tw_61) rfl d_C_findWay_25 ?_
      refine lv_iconst (v := 0) hx hb d_C_findWay_28 (by decide) ?_
      refine lv_iconst (v := 0) hx hb d_C_findWay_29 (by decide) ?_
      refine gVN (As := [.int (0), .int (0)]) (rest := []) (st1 := []) ⟨hx, hb, hml, hown, hts⟩ (cc_D_setWay l G A ad nr nm hnr hnm s0 0 0) cC_4 rfl tw_366 nw_19 tw_365 tw_p29 tw_2 hd_D_setWay rfl rfl ⟨Nat.le_of_ble_eq_true rfl, Nat.le_of_ble_eq_true rfl⟩ hK hw hS hl.1 rfl (Nat.le_of_ble_eq_true rfl) ⟨Nat.zero_le _, Nat.zero_le _⟩ d_C_findWay_30 rfl (fun H locs hw hS => ?_)
      have e9 : f_C_findWay nr nm s0 j = f_D_setWay s0 0 0 := by unfold f_C_findWay; exact (if_pos h1).trans (if_pos h2)
      exact mw_vret hx hb hr hw hS ⟨rfl, congrArg (fun z => encC G.2 ad nr nm z) e9.symm⟩ hlocks d_C_findWay_33
  · skip
    refine W.eq (g2 := F0 m (8 + 3) ls [.null]) (by rw [rVal_n h1]) ?_
    refine lv_astore_nN (lv' := [(3, .null), (2, .int (f_C_offerTo nr nm s0 j)), (0, .ref (ad (0))), (1, .ref (ad (58 + j)))]) hx hb d_C_findWay_11 rfl hl (by decide) rfl (fun ls hl => ?_)
    refine lv_aload_nN hx hb d_C_findWay_12 rfl (lv_at hl 0 rfl) ?_
    refine lv_ifnullN (tgt := 24) hx hb d_C_findWay_13 (by decide) ?_
    refine lv_aload_n hx hb d_C_findWay_24 rfl (lv_at hl 2 rfl) ?_
    refine mw_get (v := .ref (ad (4))) hx hb hts in_C hown hK.1 hw (0) cC_0 rfl 3 (by decide) (hts _ tw_61) rfl d_C_findWay_25 ?_
    refine lv_iconst (v := 0) hx hb d_C_findWay_28 (by decide) ?_
    refine lv_iconst (v := 0) hx hb d_C_findWay_29 (by decide) ?_
    refine gVN (As := [.int (0), .int (0)]) (rest := []) (st1 := []) ⟨hx, hb, hml, hown, hts⟩ (cc_D_setWay l G A ad nr nm hnr hnm s0 0 0) cC_4 rfl tw_366 nw_19 tw_365 tw_p29 tw_2 hd_D_setWay rfl rfl ⟨Nat.le_of_ble_eq_true rfl, Nat.le_of_ble_eq_true rfl⟩ hK hw hS hl.1 rfl (Nat.le_of_ble_eq_true rfl) ⟨Nat.zero_le _, Nat.zero_le _⟩ d_C_findWay_30 rfl (fun H locs hw hS => ?_)
    have e9 : f_C_findWay nr nm s0 j = f_D_setWay s0 0 0 := by unfold f_C_findWay; exact if_neg h1
    exact mw_vret hx hb hr hw hS ⟨rfl, congrArg (fun z => encC G.2 ad nr nm z) e9.symm⟩ hlocks d_C_findWay_33

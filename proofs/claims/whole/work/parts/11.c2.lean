def f_C_stage (nr nm : Nat) (s0 : S2) (a1 : Int32) (a2 : Int32) (a3 : Int32) : Int32 × S2 :=
  if rOk nr a1 then
    if ((f_R_addStage s0 (Int32.toNatClampNeg a1) a2 a3).1) = 0 then
      (0, (f_R_addStage s0 (Int32.toNatClampNeg a1) a2 a3).2)
    else
      (1, (f_R_addStage s0 (Int32.toNatClampNeg a1) a2 a3).2)
  else
    (0, s0)
theorem fb_C_stage (nr nm : Nat) (s0 : S2) (a1 : Int32) (a2 : Int32) (a3 : Int32) : narrow .boolean (.int ((f_C_stage nr nm s0 a1 a2 a3).1)) = .int ((f_C_stage nr nm s0 a1 a2 a3).1) := by
  unfold f_C_stage
  repeat' split
  all_goals first | rfl | exact narrow_b0 | exact narrow_b1
set_option maxHeartbeats 4000000 in
set_option maxRecDepth 100000 in
theorem cc_C_stage (l : Launch) (G : Gx) (A : Nat → Prop) (ad : Nat → Nat) (nr nm : Nat) (hnr : nr ≤ 16) (hnm : nm ≤ 30) (s0 : S2) (a1 : Int32) (a2 : Int32) (a3 : Int32) (hwf : ∀ i, i < nr → 0 ≤ (s0 (10 + 3 * i) 5).toInt ∧ (s0 (10 + 3 * i) 5).toInt ≤ 5) : Met l y_C_stage ws_C_stage { frames := 2, cells := 0, slots := 0, locals := 45 } (PG G [.ref (ad (0)), .int (a1), .int (a2), .int (a3)] A ad (encC G.2 ad nr nm s0)) (EG G A (some (.int (f_C_stage nr nm s0 a1 a2 a3).1)) ad (encC G.2 ad nr nm ((f_C_stage nr nm s0 a1 a2 a3).2))) 0 0 A := by
  refine Met.ofW (cc := c_C_stage) (maxL := 5) (ret := (some .boolean)) (by decide) rfl ?_
  intro p e s m args below meth c s₁ B hml hv
  obtain ⟨rfl, hw, hK⟩ := hv
  have hx := B.exec
  have hb := B.bytes
  have hr := B.returns
  have hts : ∀ w ∈ tbG, w.before [.ref (ad (0)), .int (a1), .int (a2), .int (a3)].toArray s = true := fun w h => atoms_spec (ws := ws_C_stage) B.pre w (List.mem_cons_of_mem _ h)
  have hown : s.vm.findClass "RollStages" = some m.cls := findClass_of_methodNamed B.named
  have hlocks := B.notSynchronized
  have hS : va_S A s.heap s.heap [] := va_S.rf
  have hw : mwG G A ad (encC G.2 ad nr nm s0) s.heap := hw
  have hl := lv_entry ([.ref (ad (0)), .int (a1), .int (a2), .int (a3)]) (n := 5) (Nat.le_of_ble_eq_true rfl)
  rw [lg_entry_eq]
  generalize (lg_sl ([.ref (ad (0)), .int (a1), .int (a2), .int (a3)]) ++ List.replicate (5 - (lg_sl ([.ref (ad (0)), .int (a1), .int (a2), .int (a3)])).length) Slot.unset).toArray = ls at hl ⊢
  have hl : lv_has ls 5 [(0, .ref (ad (0))), (1, .int (a1)), (2, .int (a2)), (3, .int (a3))] := hl
  refine lv_aload_n hx hb d_C_stage_0 rfl (lv_at hl 0 rfl) ?_
  refine lv_iload_n hx hb d_C_stage_1 rfl (lv_at hl 1 rfl) ?_
  refine gV (As := [.int (a1)]) (rest := []) (st1 := [rVal ad nr a1]) ⟨hx, hb, hml, hown, hts⟩ (cc_C_releaseAt l G A ad nr nm hnr hnm s0 a1) cC_0 rfl tw_151 tw_148 tw_150 tw_p0 tw_1 hd_C_releaseAt rfl rfl ⟨Nat.le_of_ble_eq_true rfl, Nat.le_of_ble_eq_true rfl⟩ hK hw hS hl.1 rfl (Nat.le_of_ble_eq_true rfl) ⟨Nat.zero_le _, Nat.zero_le _⟩ d_C_stage_2 rfl (fun H locs hw hS => ?_)
  by_cases h1 : rOk nr a1
  · skip
    refine W.eq (g2 := F0 m (2 + 3) ls [.ref (ad (10 + 3 * (Int32.toNatClampNeg a1)))]) (by rw [rVal_p h1]) ?_
    refine lv_astore (lv' := [(4, .ref (ad (10 + 3 * (Int32.toNatClampNeg a1)))), (0, .ref (ad (0))), (1, .int (a1)), (2, .int (a2)), (3, .int (a3))]) hx hb d_C_stage_5 hl (by decide) rfl (fun ls hl => ?_)
    refine lv_aload hx hb d_C_stage_7 (lv_at hl 0 rfl) ?_
    refine lv_ifnull hx hb d_C_stage_9 ?_
    refine lv_aload hx hb d_C_stage_12 (lv_at hl 0 rfl) ?_
    refine lv_iload_n hx hb d_C_stage_14 rfl (lv_at hl 3 rfl) ?_
    refine lv_iload_n hx hb d_C_stage_15 rfl (lv_at hl 4 rfl) ?_
    refine gVN (As := [.int (a2), .int (a3)]) (rest := []) (st1 := [.int ((f_R_addStage s0 (Int32.toNatClampNeg a1) a2 a3).1)]) ⟨hx, hb, hml, hown, hts⟩ (cc_R_addStage l G A ad nr nm hnr hnm s0 (Int32.toNatClampNeg a1) h1.2 a2 a3 (hwf _ h1.2)) (cC_rel hnr h1.2) rfl tw_155 nw_2 tw_154 tw_p1 tw_5 hd_R_addStage rfl rfl ⟨Nat.le_of_ble_eq_true rfl, Nat.le_of_ble_eq_true rfl⟩ hK hw hS hl.1 rfl (Nat.le_of_ble_eq_true rfl) ⟨Nat.zero_le _, Nat.zero_le _⟩ d_C_stage_16 rfl (fun H locs hw hS => ?_)
    refine lv_if_eq (tgt := 26) hx hb d_C_stage_19 (by decide) (fun h2 => ?_) (fun h2 => ?_)
    · skip
      refine lv_iconst (v := 0) hx hb d_C_stage_26 (by decide) ?_
      have e9 : f_C_stage nr nm s0 a1 a2 a3 = (0, (f_R_addStage s0 (Int32.toNatClampNeg a1) a2 a3).2) := by unfold f_C_stage; exact (if_pos h1).trans (if_pos h2)
      exact mw_iret hx hb hr rfl hw hS (congrArg (fun z => some (Value.int z.1)) e9.symm) ⟨rfl, congrArg (fun z => encC G.2 ad nr nm z.2) e9.symm⟩ hlocks d_C_stage_27
    · skip
      refine lv_iconst (v := 1) hx hb d_C_stage_22 (by decide) ?_
      refine lv_goto (tgt := 27) hx hb d_C_stage_23 (by decide) ?_
      have e9 : f_C_stage nr nm s0 a1 a2 a3 = (1, (f_R_addStage s0 (Int32.toNatClampNeg a1) a2 a3).2) := by unfold f_C_stage; exact (if_pos h1).trans (if_neg h2)
      exact mw_iret hx hb hr rfl hw hS (congrArg (fun z => some (Value.int z.1)) e9.symm) ⟨rfl, congrArg (fun z => encC G.2 ad nr nm z.2) e9.symm⟩ hlocks d_C_stage_27
  · skip
    refine W.eq (g2 := F0 m (2 + 3) ls [.null]) (by rw [rVal_n h1]) ?_
    refine lv_astoreN (lv' := [(4, .null), (0, .ref (ad (0))), (1, .int (a1)), (2, .int (a2)), (3, .int (a3))]) hx hb d_C_stage_5 hl (by decide) rfl (fun ls hl => ?_)
    refine lv_aloadN hx hb d_C_stage_7 (lv_at hl 0 rfl) ?_
    refine lv_ifnullN (tgt := 26) hx hb d_C_stage_9 (by decide) ?_
    refine lv_iconst (v := 0) hx hb d_C_stage_26 (by decide) ?_
    have e9 : f_C_stage nr nm s0 a1 a2 a3 = (0, s0) := by unfold f_C_stage; exact if_neg h1
    exact mw_iret hx hb hr rfl hw hS (congrArg (fun z => some (Value.int z.1)) e9.symm) ⟨rfl, congrArg (fun z => encC G.2 ad nr nm z.2) e9.symm⟩ hlocks d_C_stage_27

def f_C_health (nr nm : Nat) (s0 : S2) (a1 : Int32) (a2 : Int32) (a3 : Int32) : Int32 × S2 :=
  if rOk nr a1 then
    if ((f_R_setHealth s0 (Int32.toNatClampNeg a1) a2 a3).1) = 0 then
      (0, (f_R_setHealth s0 (Int32.toNatClampNeg a1) a2 a3).2)
    else
      (1, (f_R_setHealth s0 (Int32.toNatClampNeg a1) a2 a3).2)
  else
    (0, s0)
theorem fb_C_health (nr nm : Nat) (s0 : S2) (a1 : Int32) (a2 : Int32) (a3 : Int32) : narrow .boolean (.int ((f_C_health nr nm s0 a1 a2 a3).1)) = .int ((f_C_health nr nm s0 a1 a2 a3).1) := by
  unfold f_C_health
  repeat' split
  all_goals first | rfl | exact narrow_b0 | exact narrow_b1
set_option maxHeartbeats 4000000 in
set_option maxRecDepth 100000 in
theorem cc_C_health (l : Launch) (G : Gx) (A : Nat → Prop) (ad : Nat → Nat) (nr nm : Nat) (hnr : nr ≤ 16) (hnm : nm ≤ 30) (s0 : S2) (a1 : Int32) (a2 : Int32) (a3 : Int32) : Met l y_C_health ws_C_health { frames := 2, cells := 0, slots := 0, locals := 44 } (PG G [.ref (ad (0)), .int (a1), .int (a2), .int (a3)] A ad (encC G.2 ad nr nm s0)) (EG G A (some (.int (f_C_health nr nm s0 a1 a2 a3).1)) ad (encC G.2 ad nr nm ((f_C_health nr nm s0 a1 a2 a3).2))) 0 0 A := by
  refine Met.ofW (cc := c_C_health) (maxL := 5) (ret := (some .boolean)) (by decide) rfl ?_
  intro p e s m args below meth c s₁ B hml hv
  obtain ⟨rfl, hw, hK⟩ := hv
  have hx := B.exec
  have hb := B.bytes
  have hr := B.returns
  have hts : ∀ w ∈ tbG, w.before [.ref (ad (0)), .int (a1), .int (a2), .int (a3)].toArray s = true := fun w h => atoms_spec (ws := ws_C_health) B.pre w (List.mem_cons_of_mem _ h)
  have hown : s.vm.findClass "RollStages" = some m.cls := findClass_of_methodNamed B.named
  have hlocks := B.notSynchronized
  have hS : va_S A s.heap s.heap [] := va_S.rf
  have hw : mwG G A ad (encC G.2 ad nr nm s0) s.heap := hw
  have hl := lv_entry ([.ref (ad (0)), .int (a1), .int (a2), .int (a3)]) (n := 5) (Nat.le_of_ble_eq_true rfl)
  rw [lg_entry_eq]
  generalize (lg_sl ([.ref (ad (0)), .int (a1), .int (a2), .int (a3)]) ++ List.replicate (5 - (lg_sl ([.ref (ad (0)), .int (a1), .int (a2), .int (a3)])).length) Slot.unset).toArray = ls at hl ⊢
  have hl : lv_has ls 5 [(0, .ref (ad (0))), (1, .int (a1)), (2, .int (a2)), (3, .int (a3))] := hl
  refine lv_aload_n hx hb d_C_health_0 rfl (lv_at hl 0 rfl) ?_
  refine lv_iload_n hx hb d_C_health_1 rfl (lv_at hl 1 rfl) ?_
  refine gV (As := [.int (a1)]) (rest := []) (st1 := [rVal ad nr a1]) ⟨hx, hb, hml, hown, hts⟩ (cc_C_releaseAt l G A ad nr nm hnr hnm s0 a1) cC_0 rfl tw_151 tw_148 tw_150 tw_p0 tw_1 hd_C_releaseAt rfl rfl ⟨Nat.le_of_ble_eq_true rfl, Nat.le_of_ble_eq_true rfl⟩ hK hw hS hl.1 rfl (Nat.le_of_ble_eq_true rfl) ⟨Nat.zero_le _, Nat.zero_le _⟩ d_C_health_2 rfl (fun H locs hw hS => ?_)
  by_cases h1 : rOk nr a1
  · skip
    refine W.eq (g2 := F0 m (2 + 3) ls [.ref (ad (10 + 3 * (Int32.toNatClampNeg a1)))]) (by rw [rVal_p h1]) ?_
    refine lv_astore (lv' := [(4, .ref (ad (10 + 3 * (Int32.toNatClampNeg a1)))), (0, .ref (ad (0))), (1, .int (a1)), (2, .int (a2)), (3, .int (a3))]) hx hb d_C_health_5 hl (by decide) rfl (fun ls hl => ?_)
    refine lv_aload hx hb d_C_health_7 (lv_at hl 0 rfl) ?_
    refine lv_ifnull hx hb d_C_health_9 ?_
    refine lv_aload hx hb d_C_health_12 (lv_at hl 0 rfl) ?_
    refine lv_iload_n hx hb d_C_health_14 rfl (lv_at hl 3 rfl) ?_
    refine lv_iload_n hx hb d_C_health_15 rfl (lv_at hl 4 rfl) ?_
    refine gVN (As := [.int (a2), .int (a3)]) (rest := []) (st1 := [.int ((f_R_setHealth s0 (Int32.toNatClampNeg a1) a2 a3).1)]) ⟨hx, hb, hml, hown, hts⟩ (cc_R_setHealth l G A ad nr nm hnr hnm s0 (Int32.toNatClampNeg a1) h1.2 a2 a3) (cC_rel hnr h1.2) rfl tw_164 nw_4 tw_163 tw_p2 tw_5 hd_R_setHealth rfl rfl ⟨Nat.le_of_ble_eq_true rfl, Nat.le_of_ble_eq_true rfl⟩ hK hw hS hl.1 rfl (Nat.le_of_ble_eq_true rfl) ⟨Nat.zero_le _, Nat.zero_le _⟩ d_C_health_16 rfl (fun H locs hw hS => ?_)
    refine lv_if_eq (tgt := 26) hx hb d_C_health_19 (by decide) (fun h2 => ?_) (fun h2 => ?_)
    · skip
      refine lv_iconst (v := 0) hx hb d_C_health_26 (by decide) ?_
      have e9 : f_C_health nr nm s0 a1 a2 a3 = (0, (f_R_setHealth s0 (Int32.toNatClampNeg a1) a2 a3).2) := by unfold f_C_health; exact (if_pos h1).trans (if_pos h2)
      exact mw_iret hx hb hr rfl hw hS (congrArg (fun z => some (Value.int z.1)) e9.symm) ⟨rfl, congrArg (fun z => encC G.2 ad nr nm z.2) e9.symm⟩ hlocks d_C_health_27
    · skip
      refine lv_iconst (v := 1) hx hb d_C_health_22 (by decide) ?_
      refine lv_goto (tgt := 27) hx hb d_C_health_23 (by decide) ?_
      have e9 : f_C_health nr nm s0 a1 a2 a3 = (1, (f_R_setHealth s0 (Int32.toNatClampNeg a1) a2 a3).2) := by unfold f_C_health; exact (if_pos h1).trans (if_neg h2)
      exact mw_iret hx hb hr rfl hw hS (congrArg (fun z => some (Value.int z.1)) e9.symm) ⟨rfl, congrArg (fun z => encC G.2 ad nr nm z.2) e9.symm⟩ hlocks d_C_health_27
  · skip
    refine W.eq (g2 := F0 m (2 + 3) ls [.null]) (by rw [rVal_n h1]) ?_
    refine lv_astoreN (lv' := [(4, .null), (0, .ref (ad (0))), (1, .int (a1)), (2, .int (a2)), (3, .int (a3))]) hx hb d_C_health_5 hl (by decide) rfl (fun ls hl => ?_)
    refine lv_aloadN hx hb d_C_health_7 (lv_at hl 0 rfl) ?_
    refine lv_ifnullN (tgt := 26) hx hb d_C_health_9 (by decide) ?_
    refine lv_iconst (v := 0) hx hb d_C_health_26 (by decide) ?_
    have e9 : f_C_health nr nm s0 a1 a2 a3 = (0, s0) := by unfold f_C_health; exact if_neg h1
    exact mw_iret hx hb hr rfl hw hS (congrArg (fun z => some (Value.int z.1)) e9.symm) ⟨rfl, congrArg (fun z => encC G.2 ad nr nm z.2) e9.symm⟩ hlocks d_C_health_27

def f_C_start (nr nm : Nat) (s0 : S2) (a1 : Int32) : Int32 × S2 :=
  if rOk nr a1 then
    if ((f_R_begin s0 (Int32.toNatClampNeg a1) (s0 0 6)).1) = 0 then
      (0, (f_R_begin s0 (Int32.toNatClampNeg a1) (s0 0 6)).2)
    else
      (1, (f_R_begin s0 (Int32.toNatClampNeg a1) (s0 0 6)).2)
  else
    (0, s0)
theorem fb_C_start (nr nm : Nat) (s0 : S2) (a1 : Int32) : narrow .boolean (.int ((f_C_start nr nm s0 a1).1)) = .int ((f_C_start nr nm s0 a1).1) := by
  unfold f_C_start
  repeat' split
  all_goals first | rfl | exact narrow_b0 | exact narrow_b1
set_option maxHeartbeats 4000000 in
set_option maxRecDepth 100000 in
theorem cc_C_start (l : Launch) (G : Gx) (A : Nat → Prop) (ad : Nat → Nat) (nr nm : Nat) (hnr : nr ≤ 16) (hnm : nm ≤ 30) (s0 : S2) (a1 : Int32) : Met l y_C_start ws_C_start { frames := 2, cells := 0, slots := 0, locals := 43 } (PG G [.ref (ad (0)), .int (a1)] A ad (encC G.2 ad nr nm s0)) (EG G A (some (.int (f_C_start nr nm s0 a1).1)) ad (encC G.2 ad nr nm ((f_C_start nr nm s0 a1).2))) 0 0 A := by
  refine Met.ofW (cc := c_C_start) (maxL := 3) (ret := (some .boolean)) (by decide) rfl ?_
  intro p e s m args below meth c s₁ B hml hv
  obtain ⟨rfl, hw, hK⟩ := hv
  have hx := B.exec
  have hb := B.bytes
  have hr := B.returns
  have hts : ∀ w ∈ tbG, w.before [.ref (ad (0)), .int (a1)].toArray s = true := fun w h => atoms_spec (ws := ws_C_start) B.pre w (List.mem_cons_of_mem _ h)
  have hown : s.vm.findClass "RollStages" = some m.cls := findClass_of_methodNamed B.named
  have hlocks := B.notSynchronized
  have hS : va_S A s.heap s.heap [] := va_S.rf
  have hw : mwG G A ad (encC G.2 ad nr nm s0) s.heap := hw
  have hl := lv_entry ([.ref (ad (0)), .int (a1)]) (n := 3) (Nat.le_of_ble_eq_true rfl)
  rw [lg_entry_eq]
  generalize (lg_sl ([.ref (ad (0)), .int (a1)]) ++ List.replicate (3 - (lg_sl ([.ref (ad (0)), .int (a1)])).length) Slot.unset).toArray = ls at hl ⊢
  have hl : lv_has ls 3 [(0, .ref (ad (0))), (1, .int (a1))] := hl
  refine lv_aload_n hx hb d_C_start_0 rfl (lv_at hl 0 rfl) ?_
  refine lv_iload_n hx hb d_C_start_1 rfl (lv_at hl 1 rfl) ?_
  refine gV (As := [.int (a1)]) (rest := []) (st1 := [rVal ad nr a1]) ⟨hx, hb, hml, hown, hts⟩ (cc_C_releaseAt l G A ad nr nm hnr hnm s0 a1) cC_0 rfl tw_151 tw_148 tw_150 tw_p0 tw_1 hd_C_releaseAt rfl rfl ⟨Nat.le_of_ble_eq_true rfl, Nat.le_of_ble_eq_true rfl⟩ hK hw hS hl.1 rfl (Nat.le_of_ble_eq_true rfl) ⟨Nat.zero_le _, Nat.zero_le _⟩ d_C_start_2 rfl (fun H locs hw hS => ?_)
  by_cases h1 : rOk nr a1
  · skip
    refine W.eq (g2 := F0 m (2 + 3) ls [.ref (ad (10 + 3 * (Int32.toNatClampNeg a1)))]) (by rw [rVal_p h1]) ?_
    refine lv_astore_n (lv' := [(2, .ref (ad (10 + 3 * (Int32.toNatClampNeg a1)))), (0, .ref (ad (0))), (1, .int (a1))]) hx hb d_C_start_5 rfl hl (by decide) rfl (fun ls hl => ?_)
    refine lv_aload_n hx hb d_C_start_6 rfl (lv_at hl 0 rfl) ?_
    refine lv_ifnull hx hb d_C_start_7 ?_
    refine lv_aload_n hx hb d_C_start_10 rfl (lv_at hl 0 rfl) ?_
    refine lv_aload_n hx hb d_C_start_11 rfl (lv_at hl 1 rfl) ?_
    refine mw_get (v := .int (s0 0 6)) hx hb hts in_C hown hK.1 hw (0) cC_0 rfl 6 (by decide) (hts _ tw_64) rfl d_C_start_12 ?_
    refine gVN (As := [.int (s0 0 6)]) (rest := []) (st1 := [.int ((f_R_begin s0 (Int32.toNatClampNeg a1) (s0 0 6)).1)]) ⟨hx, hb, hml, hown, hts⟩ (cc_R_begin l G A ad nr nm hnr hnm s0 (Int32.toNatClampNeg a1) h1.2 (s0 0 6)) (cC_rel hnr h1.2) rfl tw_172 nw_5 tw_171 tw_p3 tw_5 hd_R_begin rfl rfl ⟨Nat.le_of_ble_eq_true rfl, Nat.le_of_ble_eq_true rfl⟩ hK hw hS hl.1 rfl (Nat.le_of_ble_eq_true rfl) ⟨Nat.zero_le _, Nat.zero_le _⟩ d_C_start_15 rfl (fun H locs hw hS => ?_)
    refine lv_if_eq (tgt := 25) hx hb d_C_start_18 (by decide) (fun h2 => ?_) (fun h2 => ?_)
    · skip
      refine lv_iconst (v := 0) hx hb d_C_start_25 (by decide) ?_
      have e9 : f_C_start nr nm s0 a1 = (0, (f_R_begin s0 (Int32.toNatClampNeg a1) (s0 0 6)).2) := by unfold f_C_start; exact (if_pos h1).trans (if_pos h2)
      exact mw_iret hx hb hr rfl hw hS (congrArg (fun z => some (Value.int z.1)) e9.symm) ⟨rfl, congrArg (fun z => encC G.2 ad nr nm z.2) e9.symm⟩ hlocks d_C_start_26
    · skip
      refine lv_iconst (v := 1) hx hb d_C_start_21 (by decide) ?_
      refine lv_goto (tgt := 26) hx hb d_C_start_22 (by decide) ?_
      have e9 : f_C_start nr nm s0 a1 = (1, (f_R_begin s0 (Int32.toNatClampNeg a1) (s0 0 6)).2) := by unfold f_C_start; exact (if_pos h1).trans (if_neg h2)
      exact mw_iret hx hb hr rfl hw hS (congrArg (fun z => some (Value.int z.1)) e9.symm) ⟨rfl, congrArg (fun z => encC G.2 ad nr nm z.2) e9.symm⟩ hlocks d_C_start_26
  · skip
    refine W.eq (g2 := F0 m (2 + 3) ls [.null]) (by rw [rVal_n h1]) ?_
    refine lv_astore_nN (lv' := [(2, .null), (0, .ref (ad (0))), (1, .int (a1))]) hx hb d_C_start_5 rfl hl (by decide) rfl (fun ls hl => ?_)
    refine lv_aload_nN hx hb d_C_start_6 rfl (lv_at hl 0 rfl) ?_
    refine lv_ifnullN (tgt := 25) hx hb d_C_start_7 (by decide) ?_
    refine lv_iconst (v := 0) hx hb d_C_start_25 (by decide) ?_
    have e9 : f_C_start nr nm s0 a1 = (0, s0) := by unfold f_C_start; exact if_neg h1
    exact mw_iret hx hb hr rfl hw hS (congrArg (fun z => some (Value.int z.1)) e9.symm) ⟨rfl, congrArg (fun z => encC G.2 ad nr nm z.2) e9.symm⟩ hlocks d_C_start_26

def f_C_report (nr nm : Nat) (s0 : S2) (a1 : Int32) (a2 : Int32) (a3 : Int32) : Int32 × S2 :=
  if rOk nr a1 then
    if ((f_R_addReports s0 (Int32.toNatClampNeg a1) a2 a3).1) = 0 then
      (0, (f_R_addReports s0 (Int32.toNatClampNeg a1) a2 a3).2)
    else
      (1, (f_R_addReports s0 (Int32.toNatClampNeg a1) a2 a3).2)
  else
    (0, s0)
theorem fb_C_report (nr nm : Nat) (s0 : S2) (a1 : Int32) (a2 : Int32) (a3 : Int32) : narrow .boolean (.int ((f_C_report nr nm s0 a1 a2 a3).1)) = .int ((f_C_report nr nm s0 a1 a2 a3).1) := by
  unfold f_C_report
  repeat' split
  all_goals first | rfl | exact narrow_b0 | exact narrow_b1
set_option maxHeartbeats 4000000 in
set_option maxRecDepth 100000 in
theorem cc_C_report (l : Launch) (G : Gx) (A : Nat → Prop) (ad : Nat → Nat) (nr nm : Nat) (hnr : nr ≤ 16) (hnm : nm ≤ 30) (s0 : S2) (a1 : Int32) (a2 : Int32) (a3 : Int32) : Met l y_C_report ws_C_report { frames := 2, cells := 0, slots := 0, locals := 44 } (PG G [.ref (ad (0)), .int (a1), .int (a2), .int (a3)] A ad (encC G.2 ad nr nm s0)) (EG G A (some (.int (f_C_report nr nm s0 a1 a2 a3).1)) ad (encC G.2 ad nr nm ((f_C_report nr nm s0 a1 a2 a3).2))) 0 0 A := by
  refine Met.ofW (cc := c_C_report) (maxL := 5) (ret := (some .boolean)) (by decide) rfl ?_
  intro p e s m args below meth c s₁ B hml hv
  obtain ⟨rfl, hw, hK⟩ := hv
  have hx := B.exec
  have hb := B.bytes
  have hr := B.returns
  have hts : ∀ w ∈ tbG, w.before [.ref (ad (0)), .int (a1), .int (a2), .int (a3)].toArray s = true := fun w h => atoms_spec (ws := ws_C_report) B.pre w (List.mem_cons_of_mem _ h)
  have hown : s.vm.findClass "RollStages" = some m.cls := findClass_of_methodNamed B.named
  have hlocks := B.notSynchronized
  have hS : va_S A s.heap s.heap [] := va_S.rf
  have hw : mwG G A ad (encC G.2 ad nr nm s0) s.heap := hw
  have hl := lv_entry ([.ref (ad (0)), .int (a1), .int (a2), .int (a3)]) (n := 5) (Nat.le_of_ble_eq_true rfl)
  rw [lg_entry_eq]
  generalize (lg_sl ([.ref (ad (0)), .int (a1), .int (a2), .int (a3)]) ++ List.replicate (5 - (lg_sl ([.ref (ad (0)), .int (a1), .int (a2), .int (a3)])).length) Slot.unset).toArray = ls at hl ⊢
  have hl : lv_has ls 5 [(0, .ref (ad (0))), (1, .int (a1)), (2, .int (a2)), (3, .int (a3))] := hl
  refine lv_aload_n hx hb d_C_report_0 rfl (lv_at hl 0 rfl) ?_
  refine lv_iload_n hx hb d_C_report_1 rfl (lv_at hl 1 rfl) ?_
  refine gV (As := [.int (a1)]) (rest := []) (st1 := [rVal ad nr a1]) ⟨hx, hb, hml, hown, hts⟩ (cc_C_releaseAt l G A ad nr nm hnr hnm s0 a1) cC_0 rfl tw_151 tw_148 tw_150 tw_p0 tw_1 hd_C_releaseAt rfl rfl ⟨Nat.le_of_ble_eq_true rfl, Nat.le_of_ble_eq_true rfl⟩ hK hw hS hl.1 rfl (Nat.le_of_ble_eq_true rfl) ⟨Nat.zero_le _, Nat.zero_le _⟩ d_C_report_2 rfl (fun H locs hw hS => ?_)
  by_cases h1 : rOk nr a1
  · skip
    refine W.eq (g2 := F0 m (2 + 3) ls [.ref (ad (10 + 3 * (Int32.toNatClampNeg a1)))]) (by rw [rVal_p h1]) ?_
    refine lv_astore (lv' := [(4, .ref (ad (10 + 3 * (Int32.toNatClampNeg a1)))), (0, .ref (ad (0))), (1, .int (a1)), (2, .int (a2)), (3, .int (a3))]) hx hb d_C_report_5 hl (by decide) rfl (fun ls hl => ?_)
    refine lv_aload hx hb d_C_report_7 (lv_at hl 0 rfl) ?_
    refine lv_ifnull hx hb d_C_report_9 ?_
    refine lv_aload hx hb d_C_report_12 (lv_at hl 0 rfl) ?_
    refine lv_iload_n hx hb d_C_report_14 rfl (lv_at hl 3 rfl) ?_
    refine lv_iload_n hx hb d_C_report_15 rfl (lv_at hl 4 rfl) ?_
    refine gVN (As := [.int (a2), .int (a3)]) (rest := []) (st1 := [.int ((f_R_addReports s0 (Int32.toNatClampNeg a1) a2 a3).1)]) ⟨hx, hb, hml, hown, hts⟩ (cc_R_addReports l G A ad nr nm hnr hnm s0 (Int32.toNatClampNeg a1) h1.2 a2 a3) (cC_rel hnr h1.2) rfl tw_184 nw_6 tw_183 tw_p5 tw_5 hd_R_addReports rfl rfl ⟨Nat.le_of_ble_eq_true rfl, Nat.le_of_ble_eq_true rfl⟩ hK hw hS hl.1 rfl (Nat.le_of_ble_eq_true rfl) ⟨Nat.zero_le _, Nat.zero_le _⟩ d_C_report_16 rfl (fun H locs hw hS => ?_)
    refine lv_if_eq (tgt := 26) hx hb d_C_report_19 (by decide) (fun h2 => ?_) (fun h2 => ?_)
    · skip
      refine lv_iconst (v := 0) hx hb d_C_report_26 (by decide) ?_
      have e9 : f_C_report nr nm s0 a1 a2 a3 = (0, (f_R_addReports s0 (Int32.toNatClampNeg a1) a2 a3).2) := by unfold f_C_report; exact (if_pos h1).trans (if_pos h2)
      exact mw_iret hx hb hr rfl hw hS (congrArg (fun z => some (Value.int z.1)) e9.symm) ⟨rfl, congrArg (fun z => encC G.2 ad nr nm z.2) e9.symm⟩ hlocks d_C_report_27
    · skip
      refine lv_iconst (v := 1) hx hb d_C_report_22 (by decide) ?_
      refine lv_goto (tgt := 27) hx hb d_C_report_23 (by decide) ?_
      have e9 : f_C_report nr nm s0 a1 a2 a3 = (1, (f_R_addReports s0 (Int32.toNatClampNeg a1) a2 a3).2) := by unfold f_C_report; exact (if_pos h1).trans (if_neg h2)
      exact mw_iret hx hb hr rfl hw hS (congrArg (fun z => some (Value.int z.1)) e9.symm) ⟨rfl, congrArg (fun z => encC G.2 ad nr nm z.2) e9.symm⟩ hlocks d_C_report_27
  · skip
    refine W.eq (g2 := F0 m (2 + 3) ls [.null]) (by rw [rVal_n h1]) ?_
    refine lv_astoreN (lv' := [(4, .null), (0, .ref (ad (0))), (1, .int (a1)), (2, .int (a2)), (3, .int (a3))]) hx hb d_C_report_5 hl (by decide) rfl (fun ls hl => ?_)
    refine lv_aloadN hx hb d_C_report_7 (lv_at hl 0 rfl) ?_
    refine lv_ifnullN (tgt := 26) hx hb d_C_report_9 (by decide) ?_
    refine lv_iconst (v := 0) hx hb d_C_report_26 (by decide) ?_
    have e9 : f_C_report nr nm s0 a1 a2 a3 = (0, s0) := by unfold f_C_report; exact if_neg h1
    exact mw_iret hx hb hr rfl hw hS (congrArg (fun z => some (Value.int z.1)) e9.symm) ⟨rfl, congrArg (fun z => encC G.2 ad nr nm z.2) e9.symm⟩ hlocks d_C_report_27

def f_C_revoke (nr nm : Nat) (s0 : S2) (a1 : Int32) : Int32 × S2 :=
  if rOk nr a1 then
    if ((f_R_bar s0 (Int32.toNatClampNeg a1)).1) = 0 then
      (0, (f_R_bar s0 (Int32.toNatClampNeg a1)).2)
    else
      (1, (f_R_bar s0 (Int32.toNatClampNeg a1)).2)
  else
    (0, s0)
theorem fb_C_revoke (nr nm : Nat) (s0 : S2) (a1 : Int32) : narrow .boolean (.int ((f_C_revoke nr nm s0 a1).1)) = .int ((f_C_revoke nr nm s0 a1).1) := by
  unfold f_C_revoke
  repeat' split
  all_goals first | rfl | exact narrow_b0 | exact narrow_b1
set_option maxHeartbeats 4000000 in
set_option maxRecDepth 100000 in
theorem cc_C_revoke (l : Launch) (G : Gx) (A : Nat → Prop) (ad : Nat → Nat) (nr nm : Nat) (hnr : nr ≤ 16) (hnm : nm ≤ 30) (s0 : S2) (a1 : Int32) : Met l y_C_revoke ws_C_revoke { frames := 2, cells := 0, slots := 0, locals := 43 } (PG G [.ref (ad (0)), .int (a1)] A ad (encC G.2 ad nr nm s0)) (EG G A (some (.int (f_C_revoke nr nm s0 a1).1)) ad (encC G.2 ad nr nm ((f_C_revoke nr nm s0 a1).2))) 0 0 A := by
  refine Met.ofW (cc := c_C_revoke) (maxL := 3) (ret := (some .boolean)) (by decide) rfl ?_
  intro p e s m args below meth c s₁ B hml hv
  obtain ⟨rfl, hw, hK⟩ := hv
  have hx := B.exec
  have hb := B.bytes
  have hr := B.returns
  have hts : ∀ w ∈ tbG, w.before [.ref (ad (0)), .int (a1)].toArray s = true := fun w h => atoms_spec (ws := ws_C_revoke) B.pre w (List.mem_cons_of_mem _ h)
  have hown : s.vm.findClass "RollStages" = some m.cls := findClass_of_methodNamed B.named
  have hlocks := B.notSynchronized
  have hS : va_S A s.heap s.heap [] := va_S.rf
  have hw : mwG G A ad (encC G.2 ad nr nm s0) s.heap := hw
  have hl := lv_entry ([.ref (ad (0)), .int (a1)]) (n := 3) (Nat.le_of_ble_eq_true rfl)
  rw [lg_entry_eq]
  generalize (lg_sl ([.ref (ad (0)), .int (a1)]) ++ List.replicate (3 - (lg_sl ([.ref (ad (0)), .int (a1)])).length) Slot.unset).toArray = ls at hl ⊢
  have hl : lv_has ls 3 [(0, .ref (ad (0))), (1, .int (a1))] := hl
  refine lv_aload_n hx hb d_C_revoke_0 rfl (lv_at hl 0 rfl) ?_
  refine lv_iload_n hx hb d_C_revoke_1 rfl (lv_at hl 1 rfl) ?_
  refine gV (As := [.int (a1)]) (rest := []) (st1 := [rVal ad nr a1]) ⟨hx, hb, hml, hown, hts⟩ (cc_C_releaseAt l G A ad nr nm hnr hnm s0 a1) cC_0 rfl tw_151 tw_148 tw_150 tw_p0 tw_1 hd_C_releaseAt rfl rfl ⟨Nat.le_of_ble_eq_true rfl, Nat.le_of_ble_eq_true rfl⟩ hK hw hS hl.1 rfl (Nat.le_of_ble_eq_true rfl) ⟨Nat.zero_le _, Nat.zero_le _⟩ d_C_revoke_2 rfl (fun H locs hw hS => ?_)
  by_cases h1 : rOk nr a1
  · skip
    refine W.eq (g2 := F0 m (2 + 3) ls [.ref (ad (10 + 3 * (Int32.toNatClampNeg a1)))]) (by rw [rVal_p h1]) ?_
    refine lv_astore_n (lv' := [(2, .ref (ad (10 + 3 * (Int32.toNatClampNeg a1)))), (0, .ref (ad (0))), (1, .int (a1))]) hx hb d_C_revoke_5 rfl hl (by decide) rfl (fun ls hl => ?_)
    refine lv_aload_n hx hb d_C_revoke_6 rfl (lv_at hl 0 rfl) ?_
    refine lv_ifnull hx hb d_C_revoke_7 ?_
    refine lv_aload_n hx hb d_C_revoke_10 rfl (lv_at hl 0 rfl) ?_
    refine gVN (As := []) (rest := []) (st1 := [.int ((f_R_bar s0 (Int32.toNatClampNeg a1)).1)]) ⟨hx, hb, hml, hown, hts⟩ (cc_R_bar l G A ad nr nm hnr hnm s0 (Int32.toNatClampNeg a1) h1.2) (cC_rel hnr h1.2) rfl tw_208 nw_9 tw_207 tw_p9 tw_5 hd_R_bar rfl rfl ⟨Nat.le_of_ble_eq_true rfl, Nat.le_of_ble_eq_true rfl⟩ hK hw hS hl.1 rfl (Nat.le_of_ble_eq_true rfl) ⟨Nat.zero_le _, Nat.zero_le _⟩ d_C_revoke_11 rfl (fun H locs hw hS => ?_)
    refine lv_if_eq (tgt := 21) hx hb d_C_revoke_14 (by decide) (fun h2 => ?_) (fun h2 => ?_)
    · skip
      refine lv_iconst (v := 0) hx hb d_C_revoke_21 (by decide) ?_
      have e9 : f_C_revoke nr nm s0 a1 = (0, (f_R_bar s0 (Int32.toNatClampNeg a1)).2) := by unfold f_C_revoke; exact (if_pos h1).trans (if_pos h2)
      exact mw_iret hx hb hr rfl hw hS (congrArg (fun z => some (Value.int z.1)) e9.symm) ⟨rfl, congrArg (fun z => encC G.2 ad nr nm z.2) e9.symm⟩ hlocks d_C_revoke_22
    · skip
      refine lv_iconst (v := 1) hx hb d_C_revoke_17 (by decide) ?_
      refine lv_goto (tgt := 22) hx hb d_C_revoke_18 (by decide) ?_
      have e9 : f_C_revoke nr nm s0 a1 = (1, (f_R_bar s0 (Int32.toNatClampNeg a1)).2) := by unfold f_C_revoke; exact (if_pos h1).trans (if_neg h2)
      exact mw_iret hx hb hr rfl hw hS (congrArg (fun z => some (Value.int z.1)) e9.symm) ⟨rfl, congrArg (fun z => encC G.2 ad nr nm z.2) e9.symm⟩ hlocks d_C_revoke_22
  · skip
    refine W.eq (g2 := F0 m (2 + 3) ls [.null]) (by rw [rVal_n h1]) ?_
    refine lv_astore_nN (lv' := [(2, .null), (0, .ref (ad (0))), (1, .int (a1))]) hx hb d_C_revoke_5 rfl hl (by decide) rfl (fun ls hl => ?_)
    refine lv_aload_nN hx hb d_C_revoke_6 rfl (lv_at hl 0 rfl) ?_
    refine lv_ifnullN (tgt := 21) hx hb d_C_revoke_7 (by decide) ?_
    refine lv_iconst (v := 0) hx hb d_C_revoke_21 (by decide) ?_
    have e9 : f_C_revoke nr nm s0 a1 = (0, s0) := by unfold f_C_revoke; exact if_neg h1
    exact mw_iret hx hb hr rfl hw hS (congrArg (fun z => some (Value.int z.1)) e9.symm) ⟨rfl, congrArg (fun z => encC G.2 ad nr nm z.2) e9.symm⟩ hlocks d_C_revoke_22

def f_C_hold (nr nm : Nat) (s0 : S2) (a1 : Int32) (a2 : Int32) : Int32 × S2 :=
  if rOk nr a1 then
    if a2 = 0 then
      ((f_R_goOn s0 (Int32.toNatClampNeg a1) (s0 0 6)).1, (f_R_goOn s0 (Int32.toNatClampNeg a1) (s0 0 6)).2)
    else
      ((f_R_holdByHand s0 (Int32.toNatClampNeg a1)).1, (f_R_holdByHand s0 (Int32.toNatClampNeg a1)).2)
  else
    (0, s0)
theorem fb_C_hold (nr nm : Nat) (s0 : S2) (a1 : Int32) (a2 : Int32) : narrow .boolean (.int ((f_C_hold nr nm s0 a1 a2).1)) = .int ((f_C_hold nr nm s0 a1 a2).1) := by
  unfold f_C_hold
  repeat' split
  all_goals first | rfl | exact narrow_b0 | exact fb_R_holdByHand _ _ | exact fb_R_goOn _ _ _
set_option maxHeartbeats 4000000 in
set_option maxRecDepth 100000 in
theorem cc_C_hold (l : Launch) (G : Gx) (A : Nat → Prop) (ad : Nat → Nat) (nr nm : Nat) (hnr : nr ≤ 16) (hnm : nm ≤ 30) (s0 : S2) (a1 : Int32) (a2 : Int32) : Met l y_C_hold ws_C_hold { frames := 2, cells := 0, slots := 0, locals := 43 } (PG G [.ref (ad (0)), .int (a1), .int (a2)] A ad (encC G.2 ad nr nm s0)) (EG G A (some (.int (f_C_hold nr nm s0 a1 a2).1)) ad (encC G.2 ad nr nm ((f_C_hold nr nm s0 a1 a2).2))) 0 0 A := by
  refine Met.ofW (cc := c_C_hold) (maxL := 4) (ret := (some .boolean)) (by decide) rfl ?_
  intro p e s m args below meth c s₁ B hml hv
  obtain ⟨rfl, hw, hK⟩ := hv
  have hx := B.exec
  have hb := B.bytes
  have hr := B.returns
  have hts : ∀ w ∈ tbG, w.before [.ref (ad (0)), .int (a1), .int (a2)].toArray s = true := fun w h => atoms_spec (ws := ws_C_hold) B.pre w (List.mem_cons_of_mem _ h)
  have hown : s.vm.findClass "RollStages" = some m.cls := findClass_of_methodNamed B.named
  have hlocks := B.notSynchronized
  have hS : va_S A s.heap s.heap [] := va_S.rf
  have hw : mwG G A ad (encC G.2 ad nr nm s0) s.heap := hw
  have hl := lv_entry ([.ref (ad (0)), .int (a1), .int (a2)]) (n := 4) (Nat.le_of_ble_eq_true rfl)
  rw [lg_entry_eq]
  generalize (lg_sl ([.ref (ad (0)), .int (a1), .int (a2)]) ++ List.replicate (4 - (lg_sl ([.ref (ad (0)), .int (a1), .int (a2)])).length) Slot.unset).toArray = ls at hl ⊢
  have hl : lv_has ls 4 [(0, .ref (ad (0))), (1, .int (a1)), (2, .int (a2))] := hl
  refine lv_aload_n hx hb d_C_hold_0 rfl (lv_at hl 0 rfl) ?_
  refine lv_iload_n hx hb d_C_hold_1 rfl (lv_at hl 1 rfl) ?_
  refine gV (As := [.int (a1)]) (rest := []) (st1 := [rVal ad nr a1]) ⟨hx, hb, hml, hown, hts⟩ (cc_C_releaseAt l G A ad nr nm hnr hnm s0 a1) cC_0 rfl tw_151 tw_148 tw_150 tw_p0 tw_1 hd_C_releaseAt rfl rfl ⟨Nat.le_of_ble_eq_true rfl, Nat.le_of_ble_eq_true rfl⟩ hK hw hS hl.1 rfl (Nat.le_of_ble_eq_true rfl) ⟨Nat.zero_le _, Nat.zero_le _⟩ d_C_hold_2 rfl (fun H locs hw hS => ?_)
  by_cases h1 : rOk nr a1
  · skip
    refine W.eq (g2 := F0 m (2 + 3) ls [.ref (ad (10 + 3 * (Int32.toNatClampNeg a1)))]) (by rw [rVal_p h1]) ?_
    refine lv_astore_n (lv' := [(3, .ref (ad (10 + 3 * (Int32.toNatClampNeg a1)))), (0, .ref (ad (0))), (1, .int (a1)), (2, .int (a2))]) hx hb d_C_hold_5 rfl hl (by decide) rfl (fun ls hl => ?_)
    refine lv_aload_n hx hb d_C_hold_6 rfl (lv_at hl 0 rfl) ?_
    refine lv_ifnonnull (tgt := 12) hx hb d_C_hold_7 (by decide) ?_
    refine lv_iload_n hx hb d_C_hold_12 rfl (lv_at hl 3 rfl) ?_
    refine lv_if_eq (tgt := 23) hx hb d_C_hold_13 (by decide) (fun h2 => ?_) (fun h2 => ?_)
    · skip
      refine lv_aload_n hx hb d_C_hold_23 rfl (lv_at hl 0 rfl) ?_
      refine lv_aload_n hx hb d_C_hold_24 rfl (lv_at hl 1 rfl) ?_
      refine mw_get (v := .int (s0 0 6)) hx hb hts in_C hown hK.1 hw (0) cC_0 rfl 6 (by decide) (hts _ tw_64) rfl d_C_hold_25 ?_
      refine gVN (As := [.int (s0 0 6)]) (rest := []) (st1 := [.int ((f_R_goOn s0 (Int32.toNatClampNeg a1) (s0 0 6)).1)]) ⟨hx, hb, hml, hown, hts⟩ (cc_R_goOn l G A ad nr nm hnr hnm s0 (Int32.toNatClampNeg a1) h1.2 (s0 0 6)) (cC_rel hnr h1.2) rfl tw_200 nw_8 tw_199 tw_p8 tw_5 hd_R_goOn rfl rfl ⟨Nat.le_of_ble_eq_true rfl, Nat.le_of_ble_eq_true rfl⟩ hK hw hS hl.1 rfl (Nat.le_of_ble_eq_true rfl) ⟨Nat.zero_le _, Nat.zero_le _⟩ d_C_hold_28 rfl (fun H locs hw hS => ?_)
      have e9 : f_C_hold nr nm s0 a1 a2 = ((f_R_goOn s0 (Int32.toNatClampNeg a1) (s0 0 6)).1, (f_R_goOn s0 (Int32.toNatClampNeg a1) (s0 0 6)).2) := by unfold f_C_hold; exact (if_pos h1).trans (if_pos h2)
      exact mw_iret hx hb hr (fb_R_goOn _ _ _) hw hS (congrArg (fun z => some (Value.int z.1)) e9.symm) ⟨rfl, congrArg (fun z => encC G.2 ad nr nm z.2) e9.symm⟩ hlocks d_C_hold_31
    · skip
      refine lv_aload_n hx hb d_C_hold_16 rfl (lv_at hl 0 rfl) ?_
      refine gVN (As := []) (rest := []) (st1 := [.int ((f_R_holdByHand s0 (Int32.toNatClampNeg a1)).1)]) ⟨hx, hb, hml, hown, hts⟩ (cc_R_holdByHand l G A ad nr nm hnr hnm s0 (Int32.toNatClampNeg a1) h1.2) (cC_rel hnr h1.2) rfl tw_192 nw_7 tw_191 tw_p6 tw_5 hd_R_holdByHand rfl rfl ⟨Nat.le_of_ble_eq_true rfl, Nat.le_of_ble_eq_true rfl⟩ hK hw hS hl.1 rfl (Nat.le_of_ble_eq_true rfl) ⟨Nat.zero_le _, Nat.zero_le _⟩ d_C_hold_17 rfl (fun H locs hw hS => ?_)
      refine lv_goto (tgt := 31) hx hb d_C_hold_20 (by decide) ?_
      have e9 : f_C_hold nr nm s0 a1 a2 = ((f_R_holdByHand s0 (Int32.toNatClampNeg a1)).1, (f_R_holdByHand s0 (Int32.toNatClampNeg a1)).2) := by unfold f_C_hold; exact (if_pos h1).trans (if_neg h2)
      exact mw_iret hx hb hr (fb_R_holdByHand _ _) hw hS (congrArg (fun z => some (Value.int z.1)) e9.symm) ⟨rfl, congrArg (fun z => encC G.2 ad nr nm z.2) e9.symm⟩ hlocks d_C_hold_31
  · skip
    refine W.eq (g2 := F0 m (2 + 3) ls [.null]) (by rw [rVal_n h1]) ?_
    refine lv_astore_nN (lv' := [(3, .null), (0, .ref (ad (0))), (1, .int (a1)), (2, .int (a2))]) hx hb d_C_hold_5 rfl hl (by decide) rfl (fun ls hl => ?_)
    refine lv_aload_nN hx hb d_C_hold_6 rfl (lv_at hl 0 rfl) ?_
    refine lv_ifnonnullN hx hb d_C_hold_7 ?_
    refine lv_iconst (v := 0) hx hb d_C_hold_10 (by decide) ?_
    have e9 : f_C_hold nr nm s0 a1 a2 = (0, s0) := by unfold f_C_hold; exact if_neg h1
    exact mw_iret hx hb hr rfl hw hS (congrArg (fun z => some (Value.int z.1)) e9.symm) ⟨rfl, congrArg (fun z => encC G.2 ad nr nm z.2) e9.symm⟩ hlocks d_C_hold_11

def f_C_about (nr nm : Nat) (s0 : S2) (a1 : Int32) (a2 : Int32) : Int32 :=
  if rOk nr a1 then
    if a2 = 0 then
      s0 (10 + 3 * (Int32.toNatClampNeg a1)) 8
    else
      if a2 = 1 then
        f_R_stageNow s0 (Int32.toNatClampNeg a1)
      else
        if a2 = 2 then
          s0 (10 + 3 * (Int32.toNatClampNeg a1)) 9
        else
          if a2 = 3 then
            f_R_shareNow s0 (Int32.toNatClampNeg a1)
          else
            if a2 = 4 then
              f_R_allReports s0 (Int32.toNatClampNeg a1)
            else
              -1
  else
    -1
set_option maxHeartbeats 4000000 in
set_option maxRecDepth 100000 in
theorem cc_C_about (l : Launch) (G : Gx) (A : Nat → Prop) (ad : Nat → Nat) (nr nm : Nat) (hnr : nr ≤ 16) (hnm : nm ≤ 30) (s0 : S2) (a1 : Int32) (a2 : Int32) : Met l y_C_about ws_C_about { frames := 2, cells := 0, slots := 0, locals := 43 } (PG G [.ref (ad (0)), .int (a1), .int (a2)] A ad (encC G.2 ad nr nm s0)) (EG G A (some (.int (f_C_about nr nm s0 a1 a2))) ad (encC G.2 ad nr nm s0)) 0 0 A := by
  refine Met.ofW (cc := c_C_about) (maxL := 4) (ret := (some .int)) (by decide) rfl ?_
  intro p e s m args below meth c s₁ B hml hv
  obtain ⟨rfl, hw, hK⟩ := hv
  have hx := B.exec
  have hb := B.bytes
  have hr := B.returns
  have hts : ∀ w ∈ tbG, w.before [.ref (ad (0)), .int (a1), .int (a2)].toArray s = true := fun w h => atoms_spec (ws := ws_C_about) B.pre w (List.mem_cons_of_mem _ h)
  have hown : s.vm.findClass "RollStages" = some m.cls := findClass_of_methodNamed B.named
  have hlocks := B.notSynchronized
  have hS : va_S A s.heap s.heap [] := va_S.rf
  have hw : mwG G A ad (encC G.2 ad nr nm s0) s.heap := hw
  have hl := lv_entry ([.ref (ad (0)), .int (a1), .int (a2)]) (n := 4) (Nat.le_of_ble_eq_true rfl)
  rw [lg_entry_eq]
  generalize (lg_sl ([.ref (ad (0)), .int (a1), .int (a2)]) ++ List.replicate (4 - (lg_sl ([.ref (ad (0)), .int (a1), .int (a2)])).length) Slot.unset).toArray = ls at hl ⊢
  have hl : lv_has ls 4 [(0, .ref (ad (0))), (1, .int (a1)), (2, .int (a2))] := hl
  refine lv_aload_n hx hb d_C_about_0 rfl (lv_at hl 0 rfl) ?_
  refine lv_iload_n hx hb d_C_about_1 rfl (lv_at hl 1 rfl) ?_
  refine gV (As := [.int (a1)]) (rest := []) (st1 := [rVal ad nr a1]) ⟨hx, hb, hml, hown, hts⟩ (cc_C_releaseAt l G A ad nr nm hnr hnm s0 a1) cC_0 rfl tw_151 tw_148 tw_150 tw_p0 tw_1 hd_C_releaseAt rfl rfl ⟨Nat.le_of_ble_eq_true rfl, Nat.le_of_ble_eq_true rfl⟩ hK hw hS hl.1 rfl (Nat.le_of_ble_eq_true rfl) ⟨Nat.zero_le _, Nat.zero_le _⟩ d_C_about_2 rfl (fun H locs hw hS => ?_)
  by_cases h1 : rOk nr a1
  · skip
    refine W.eq (g2 := F0 m (2 + 3) ls [.ref (ad (10 + 3 * (Int32.toNatClampNeg a1)))]) (by rw [rVal_p h1]) ?_
    refine lv_astore_n (lv' := [(3, .ref (ad (10 + 3 * (Int32.toNatClampNeg a1)))), (0, .ref (ad (0))), (1, .int (a1)), (2, .int (a2))]) hx hb d_C_about_5 rfl hl (by decide) rfl (fun ls hl => ?_)
    refine lv_aload_n hx hb d_C_about_6 rfl (lv_at hl 0 rfl) ?_
    refine lv_ifnonnull (tgt := 12) hx hb d_C_about_7 (by decide) ?_
    refine lv_iload_n hx hb d_C_about_12 rfl (lv_at hl 3 rfl) ?_
    by_cases h2 : a2 = 0
    · skip
      refine lv_tableIn (tgt := 48) hx hb d_C_about_13 (by rw [h2]; decide) (by rw [h2]; decide) (by rw [h2]; rfl) (by decide) ?_
      refine lv_aload_n hx hb d_C_about_48 rfl (lv_at hl 0 rfl) ?_
      refine mw_getN (v := .int (s0 (10 + 3 * (Int32.toNatClampNeg a1)) 8)) hx hb hts in_R hown hK.1 hw (10 + 3 * (Int32.toNatClampNeg a1)) (cC_rel hnr h1.2) rfl 8 (by decide) (hK.2.1 _ nf_5) rfl d_C_about_49 ?_
      have e9 : f_C_about nr nm s0 a1 a2 = s0 (10 + 3 * (Int32.toNatClampNeg a1)) 8 := by unfold f_C_about; exact (if_pos h1).trans (if_pos h2)
      exact mw_iret hx hb hr rfl hw hS (congrArg (fun z => some (Value.int z)) e9.symm) ⟨rfl, rfl⟩ hlocks d_C_about_52
    · skip
      by_cases h3 : a2 = 1
      · skip
        refine lv_tableIn (tgt := 53) hx hb d_C_about_13 (by rw [h3]; decide) (by rw [h3]; decide) (by rw [h3]; rfl) (by decide) ?_
        refine lv_aload_n hx hb d_C_about_53 rfl (lv_at hl 0 rfl) ?_
        refine gVN (As := []) (rest := []) (st1 := [.int (f_R_stageNow s0 (Int32.toNatClampNeg a1))]) ⟨hx, hb, hml, hown, hts⟩ (cc_R_stageNow l G A ad nr nm hnr hnm s0 (Int32.toNatClampNeg a1) h1.2) (cC_rel hnr h1.2) rfl tw_243 nw_11 tw_242 tw_p15 tw_5 hd_R_stageNow rfl rfl ⟨Nat.le_of_ble_eq_true rfl, Nat.le_of_ble_eq_true rfl⟩ hK hw hS hl.1 rfl (Nat.le_of_ble_eq_true rfl) ⟨Nat.zero_le _, Nat.zero_le _⟩ d_C_about_54 rfl (fun H locs hw hS => ?_)
        have e9 : f_C_about nr nm s0 a1 a2 = f_R_stageNow s0 (Int32.toNatClampNeg a1) := by unfold f_C_about; exact (if_pos h1).trans ((if_neg h2).trans (if_pos h3))
        exact mw_iret hx hb hr rfl hw hS (congrArg (fun z => some (Value.int z)) e9.symm) ⟨rfl, rfl⟩ hlocks d_C_about_57
      · skip
        by_cases h4 : a2 = 2
        · skip
          refine lv_tableIn (tgt := 58) hx hb d_C_about_13 (by rw [h4]; decide) (by rw [h4]; decide) (by rw [h4]; rfl) (by decide) ?_
          refine lv_aload_n hx hb d_C_about_58 rfl (lv_at hl 0 rfl) ?_
          refine mw_getN (v := .int (s0 (10 + 3 * (Int32.toNatClampNeg a1)) 9)) hx hb hts in_R hown hK.1 hw (10 + 3 * (Int32.toNatClampNeg a1)) (cC_rel hnr h1.2) rfl 9 (by decide) (hK.2.1 _ nf_6) rfl d_C_about_59 ?_
          have e9 : f_C_about nr nm s0 a1 a2 = s0 (10 + 3 * (Int32.toNatClampNeg a1)) 9 := by unfold f_C_about; exact (if_pos h1).trans ((if_neg h2).trans ((if_neg h3).trans (if_pos h4)))
          exact mw_iret hx hb hr rfl hw hS (congrArg (fun z => some (Value.int z)) e9.symm) ⟨rfl, rfl⟩ hlocks d_C_about_62
        · skip
          by_cases h5 : a2 = 3
          · skip
            refine lv_tableIn (tgt := 63) hx hb d_C_about_13 (by rw [h5]; decide) (by rw [h5]; decide) (by rw [h5]; rfl) (by decide) ?_
            refine lv_aload_n hx hb d_C_about_63 rfl (lv_at hl 0 rfl) ?_
            refine gVN (As := []) (rest := []) (st1 := [.int (f_R_shareNow s0 (Int32.toNatClampNeg a1))]) ⟨hx, hb, hml, hown, hts⟩ (cc_R_shareNow l G A ad nr nm hnr hnm s0 (Int32.toNatClampNeg a1) h1.2) (cC_rel hnr h1.2) rfl tw_251 nw_12 tw_250 tw_p17 tw_5 hd_R_shareNow rfl rfl ⟨Nat.le_of_ble_eq_true rfl, Nat.le_of_ble_eq_true rfl⟩ hK hw hS hl.1 rfl (Nat.le_of_ble_eq_true rfl) ⟨Nat.zero_le _, Nat.zero_le _⟩ d_C_about_64 rfl (fun H locs hw hS => ?_)
            have e9 : f_C_about nr nm s0 a1 a2 = f_R_shareNow s0 (Int32.toNatClampNeg a1) := by unfold f_C_about; exact (if_pos h1).trans ((if_neg h2).trans ((if_neg h3).trans ((if_neg h4).trans (if_pos h5))))
            exact mw_iret hx hb hr rfl hw hS (congrArg (fun z => some (Value.int z)) e9.symm) ⟨rfl, rfl⟩ hlocks d_C_about_67
          · skip
            by_cases h6 : a2 = 4
            · skip
              refine lv_tableIn (tgt := 68) hx hb d_C_about_13 (by rw [h6]; decide) (by rw [h6]; decide) (by rw [h6]; rfl) (by decide) ?_
              refine lv_aload_n hx hb d_C_about_68 rfl (lv_at hl 0 rfl) ?_
              refine gVN (As := []) (rest := []) (st1 := [.int (f_R_allReports s0 (Int32.toNatClampNeg a1))]) ⟨hx, hb, hml, hown, hts⟩ (cc_R_allReports l G A ad nr nm hnr hnm s0 (Int32.toNatClampNeg a1) h1.2) (cC_rel hnr h1.2) rfl tw_231 nw_13 tw_230 tw_p13 tw_5 hd_R_allReports rfl rfl ⟨Nat.le_of_ble_eq_true rfl, Nat.le_of_ble_eq_true rfl⟩ hK hw hS hl.1 rfl (Nat.le_of_ble_eq_true rfl) ⟨Nat.zero_le _, Nat.zero_le _⟩ d_C_about_69 rfl (fun H locs hw hS => ?_)
              have e9 : f_C_about nr nm s0 a1 a2 = f_R_allReports s0 (Int32.toNatClampNeg a1) := by unfold f_C_about; exact (if_pos h1).trans ((if_neg h2).trans ((if_neg h3).trans ((if_neg h4).trans ((if_neg h5).trans (if_pos h6)))))
              exact mw_iret hx hb hr rfl hw hS (congrArg (fun z => some (Value.int z)) e9.symm) ⟨rfl, rfl⟩ hlocks d_C_about_72
            · skip
              refine lv_tableOut (tgt := 73) hx hb d_C_about_13 (by have q0 := lv_neT (a := 0) h2 (by decide); have q1 := lv_neT (a := 1) h3 (by decide); have q2 := lv_neT (a := 2) h4 (by decide); have q3 := lv_neT (a := 3) h5 (by decide); have q4 := lv_neT (a := 4) h6 (by decide); omega) (by decide) ?_
              refine lv_iconst (v := -1) hx hb d_C_about_73 (by decide) ?_
              have e9 : f_C_about nr nm s0 a1 a2 = -1 := by unfold f_C_about; exact (if_pos h1).trans ((if_neg h2).trans ((if_neg h3).trans ((if_neg h4).trans ((if_neg h5).trans (if_neg h6)))))
              exact mw_iret hx hb hr rfl hw hS (congrArg (fun z => some (Value.int z)) e9.symm) ⟨rfl, rfl⟩ hlocks d_C_about_74
  · skip
    refine W.eq (g2 := F0 m (2 + 3) ls [.null]) (by rw [rVal_n h1]) ?_
    refine lv_astore_nN (lv' := [(3, .null), (0, .ref (ad (0))), (1, .int (a1)), (2, .int (a2))]) hx hb d_C_about_5 rfl hl (by decide) rfl (fun ls hl => ?_)
    refine lv_aload_nN hx hb d_C_about_6 rfl (lv_at hl 0 rfl) ?_
    refine lv_ifnonnullN hx hb d_C_about_7 ?_
    refine lv_iconst (v := -1) hx hb d_C_about_10 (by decide) ?_
    have e9 : f_C_about nr nm s0 a1 a2 = -1 := by unfold f_C_about; exact if_neg h1
    exact mw_iret hx hb hr rfl hw hS (congrArg (fun z => some (Value.int z)) e9.symm) ⟨rfl, rfl⟩ hlocks d_C_about_11

def f_C_back (nr nm : Nat) (s0 : S2) (a1 : Int32) (a2 : Int32) : Int32 × S2 :=
  if (f_C_isChannel a1) = 0 then
    (0, s0)
  else
    if a2 = (-1) then
      (1, up2 s0 (3) (Int32.toNatClampNeg a1) a2)
    else
      if rOk nr a2 then
        if (s0 (10 + 3 * (Int32.toNatClampNeg a2)) 0) = a1 then
          (1, up2 s0 (3) (Int32.toNatClampNeg a1) a2)
        else
          (0, s0)
      else
        (0, s0)
theorem fb_C_back (nr nm : Nat) (s0 : S2) (a1 : Int32) (a2 : Int32) : narrow .boolean (.int ((f_C_back nr nm s0 a1 a2).1)) = .int ((f_C_back nr nm s0 a1 a2).1) := by
  unfold f_C_back
  repeat' split
  all_goals first | rfl | exact narrow_b0 | exact narrow_b1
set_option maxHeartbeats 4000000 in
set_option maxRecDepth 100000 in
theorem cc_C_back (l : Launch) (G : Gx) (A : Nat → Prop) (ad : Nat → Nat) (nr nm : Nat) (hnr : nr ≤ 16) (hnm : nm ≤ 30) (s0 : S2) (a1 : Int32) (a2 : Int32) : Met l y_C_back ws_C_back { frames := 2, cells := 0, slots := 0, locals := 43 } (PG G [.ref (ad (0)), .int (a1), .int (a2)] A ad (encC G.2 ad nr nm s0)) (EG G A (some (.int (f_C_back nr nm s0 a1 a2).1)) ad (encC G.2 ad nr nm ((f_C_back nr nm s0 a1 a2).2))) 0 0 A := by
  refine Met.ofW (cc := c_C_back) (maxL := 4) (ret := (some .boolean)) (by decide) rfl ?_
  intro p e s m args below meth c s₁ B hml hv
  obtain ⟨rfl, hw, hK⟩ := hv
  have hx := B.exec
  have hb := B.bytes
  have hr := B.returns
  have hts : ∀ w ∈ tbG, w.before [.ref (ad (0)), .int (a1), .int (a2)].toArray s = true := fun w h => atoms_spec (ws := ws_C_back) B.pre w (List.mem_cons_of_mem _ h)
  have hown : s.vm.findClass "RollStages" = some m.cls := findClass_of_methodNamed B.named
  have hlocks := B.notSynchronized
  have hS : va_S A s.heap s.heap [] := va_S.rf
  have hw : mwG G A ad (encC G.2 ad nr nm s0) s.heap := hw
  have hl := lv_entry ([.ref (ad (0)), .int (a1), .int (a2)]) (n := 4) (Nat.le_of_ble_eq_true rfl)
  rw [lg_entry_eq]
  generalize (lg_sl ([.ref (ad (0)), .int (a1), .int (a2)]) ++ List.replicate (4 - (lg_sl ([.ref (ad (0)), .int (a1), .int (a2)])).length) Slot.unset).toArray = ls at hl ⊢
  have hl : lv_has ls 4 [(0, .ref (ad (0))), (1, .int (a1)), (2, .int (a2))] := hl
  refine lv_iload_n hx hb d_C_back_0 rfl (lv_at hl 1 rfl) ?_
  refine gS (As := [.int (a1)]) (rest := []) (st1 := [.int (f_C_isChannel a1)]) ⟨hx, hb, hml, hown, hts⟩ (cc_C_isChannel l G A ad nr nm hnr hnm s0 a1) tw_86 tw_84 tw_85 tw_1 hd_C_isChannel rfl rfl ⟨Nat.le_of_ble_eq_true rfl, Nat.le_of_ble_eq_true rfl⟩ hK hw hS hl.1 rfl (Nat.le_of_ble_eq_true rfl) ⟨Nat.zero_le _, Nat.zero_le _⟩ d_C_back_1 rfl (fun H locs hw hS => ?_)
  refine lv_if_ne (tgt := 9) hx hb d_C_back_4 (by decide) (fun h1 => ?_) (fun h1 => ?_)
  · skip
    refine lv_iload_n hx hb d_C_back_9 rfl (lv_at hl 2 rfl) ?_
    refine lv_iconst (v := -1) hx hb d_C_back_10 (by decide) ?_
    refine lv_icmp_eq (tgt := 34) hx hb d_C_back_11 (by decide) (fun h2 => ?_) (fun h2 => ?_)
    · skip
      refine lv_aload_n hx hb d_C_back_34 rfl (lv_at hl 0 rfl) ?_
      refine mw_get (v := .ref (ad (3))) hx hb hts in_C hown hK.1 hw (0) cC_0 rfl 2 (by decide) (hts _ tw_60) rfl d_C_back_35 ?_
      refine lv_iload_n hx hb d_C_back_38 rfl (lv_at hl 1 rfl) ?_
      refine lv_iload_n hx hb d_C_back_39 rfl (lv_at hl 2 rfl) ?_
      refine mw_iast hx hb hK.1 hw hS (3) 0 cC_3 rfl (chan_in h1) d_C_back_40 (fun H locs hw hS => ?_)
      replace hw := mw_encC (r := upd (s0 (3)) (Int32.toNatClampNeg a1) a2) hw cC_3
      have hw : mwG G A ad (encC G.2 ad nr nm (up2 s0 (3) (Int32.toNatClampNeg a1) a2)) H := hw
      refine lv_iconst (v := 1) hx hb d_C_back_41 (by decide) ?_
      have e9 : f_C_back nr nm s0 a1 a2 = (1, up2 s0 (3) (Int32.toNatClampNeg a1) a2) := by unfold f_C_back; exact (if_neg h1).trans (if_pos h2)
      exact mw_iret hx hb hr rfl hw hS (congrArg (fun z => some (Value.int z.1)) e9.symm) ⟨rfl, congrArg (fun z => encC G.2 ad nr nm z.2) e9.symm⟩ hlocks d_C_back_42
    · skip
      refine lv_aload_n hx hb d_C_back_14 rfl (lv_at hl 0 rfl) ?_
      refine lv_iload_n hx hb d_C_back_15 rfl (lv_at hl 2 rfl) ?_
      refine gV (As := [.int (a2)]) (rest := []) (st1 := [rVal ad nr a2]) ⟨hx, hb, hml, hown, hts⟩ (cc_C_releaseAt l G A ad nr nm hnr hnm s0 a2) cC_0 rfl tw_151 tw_148 tw_150 tw_p0 tw_1 hd_C_releaseAt rfl rfl ⟨Nat.le_of_ble_eq_true rfl, Nat.le_of_ble_eq_true rfl⟩ hK hw hS hl.1 rfl (Nat.le_of_ble_eq_true rfl) ⟨Nat.zero_le _, Nat.zero_le _⟩ d_C_back_16 rfl (fun H locs hw hS => ?_)
      by_cases h3 : rOk nr a2
      · skip
        refine W.eq (g2 := F0 m (16 + 3) ls [.ref (ad (10 + 3 * (Int32.toNatClampNeg a2)))]) (by rw [rVal_p h3]) ?_
        refine lv_astore_n (lv' := [(3, .ref (ad (10 + 3 * (Int32.toNatClampNeg a2)))), (0, .ref (ad (0))), (1, .int (a1)), (2, .int (a2))]) hx hb d_C_back_19 rfl hl (by decide) rfl (fun ls hl => ?_)
        refine lv_aload_n hx hb d_C_back_20 rfl (lv_at hl 0 rfl) ?_
        refine lv_ifnull hx hb d_C_back_21 ?_
        refine lv_aload_n hx hb d_C_back_24 rfl (lv_at hl 0 rfl) ?_
        refine mw_getN (v := .int (s0 (10 + 3 * (Int32.toNatClampNeg a2)) 0)) hx hb hts in_R hown hK.1 hw (10 + 3 * (Int32.toNatClampNeg a2)) (cC_rel hnr h3.2) rfl 0 (by decide) (hK.2.1 _ nf_2) rfl d_C_back_25 ?_
        refine lv_iload_n hx hb d_C_back_28 rfl (lv_at hl 2 rfl) ?_
        refine lv_icmp_eq (tgt := 34) hx hb d_C_back_29 (by decide) (fun h4 => ?_) (fun h4 => ?_)
        · skip
          refine lv_aload_n hx hb d_C_back_34 rfl (lv_at hl 1 rfl) ?_
          refine mw_get (v := .ref (ad (3))) hx hb hts in_C hown hK.1 hw (0) cC_0 rfl 2 (by decide) (hts _ tw_60) rfl d_C_back_35 ?_
          refine lv_iload_n hx hb d_C_back_38 rfl (lv_at hl 2 rfl) ?_
          refine lv_iload_n hx hb d_C_back_39 rfl (lv_at hl 3 rfl) ?_
          refine mw_iast hx hb hK.1 hw hS (3) 0 cC_3 rfl (chan_in h1) d_C_back_40 (fun H locs hw hS => ?_)
          replace hw := mw_encC (r := upd (s0 (3)) (Int32.toNatClampNeg a1) a2) hw cC_3
          have hw : mwG G A ad (encC G.2 ad nr nm (up2 s0 (3) (Int32.toNatClampNeg a1) a2)) H := hw
          refine lv_iconst (v := 1) hx hb d_C_back_41 (by decide) ?_
          have e9 : f_C_back nr nm s0 a1 a2 = (1, up2 s0 (3) (Int32.toNatClampNeg a1) a2) := by unfold f_C_back; exact (if_neg h1).trans ((if_neg h2).trans ((if_pos h3).trans (if_pos h4)))
          exact mw_iret hx hb hr rfl hw hS (congrArg (fun z => some (Value.int z.1)) e9.symm) ⟨rfl, congrArg (fun z => encC G.2 ad nr nm z.2) e9.symm⟩ hlocks d_C_back_42
        · skip
          refine lv_iconst (v := 0) hx hb d_C_back_32 (by decide) ?_
          have e9 : f_C_back nr nm s0 a1 a2 = (0, s0) := by unfold f_C_back; exact (if_neg h1).trans ((if_neg h2).trans ((if_pos h3).trans (if_neg h4)))
          exact mw_iret hx hb hr rfl hw hS (congrArg (fun z => some (Value.int z.1)) e9.symm) ⟨rfl, congrArg (fun z => encC G.2 ad nr nm z.2) e9.symm⟩ hlocks d_C_back_33
      · skip
        refine W.eq (g2 := F0 m (16 + 3) ls [.null]) (by rw [rVal_n h3]) ?_
        refine lv_astore_nN (lv' := [(3, .null), (0, .ref (ad (0))), (1, .int (a1)), (2, .int (a2))]) hx hb d_C_back_19 rfl hl (by decide) rfl (fun ls hl => ?_)
        refine lv_aload_nN hx hb d_C_back_20 rfl (lv_at hl 0 rfl) ?_
        refine lv_ifnullN (tgt := 32) hx hb d_C_back_21 (by decide) ?_
        refine lv_iconst (v := 0) hx hb d_C_back_32 (by decide) ?_
        have e9 : f_C_back nr nm s0 a1 a2 = (0, s0) := by unfold f_C_back; exact (if_neg h1).trans ((if_neg h2).trans (if_neg h3))
        exact mw_iret hx hb hr rfl hw hS (congrArg (fun z => some (Value.int z.1)) e9.symm) ⟨rfl, congrArg (fun z => encC G.2 ad nr nm z.2) e9.symm⟩ hlocks d_C_back_33
  · skip
    refine lv_iconst (v := 0) hx hb d_C_back_7 (by decide) ?_
    have e9 : f_C_back nr nm s0 a1 a2 = (0, s0) := by unfold f_C_back; exact if_pos h1
    exact mw_iret hx hb hr rfl hw hS (congrArg (fun z => some (Value.int z.1)) e9.symm) ⟨rfl, congrArg (fun z => encC G.2 ad nr nm z.2) e9.symm⟩ hlocks d_C_back_8

def f_C_row (nr nm : Nat) (s0 : S2) (a1 : Int32) : Int32 :=
  if rOk nm a1 then
    s0 (58 + (Int32.toNatClampNeg a1)) 2
  else
    -1
set_option maxHeartbeats 4000000 in
set_option maxRecDepth 100000 in
theorem cc_C_row (l : Launch) (G : Gx) (A : Nat → Prop) (ad : Nat → Nat) (nr nm : Nat) (hnr : nr ≤ 16) (hnm : nm ≤ 30) (s0 : S2) (a1 : Int32) : Met l y_C_row ws_C_row { frames := 2, cells := 0, slots := 0, locals := 43 } (PG G [.ref (ad (0)), .int (a1)] A ad (encC G.2 ad nr nm s0)) (EG G A (some (.int (f_C_row nr nm s0 a1))) ad (encC G.2 ad nr nm s0)) 0 0 A := by
  refine Met.ofW (cc := c_C_row) (maxL := 3) (ret := (some .int)) (by decide) rfl ?_
  intro p e s m args below meth c s₁ B hml hv
  obtain ⟨rfl, hw, hK⟩ := hv
  have hx := B.exec
  have hb := B.bytes
  have hr := B.returns
  have hts : ∀ w ∈ tbG, w.before [.ref (ad (0)), .int (a1)].toArray s = true := fun w h => atoms_spec (ws := ws_C_row) B.pre w (List.mem_cons_of_mem _ h)
  have hown : s.vm.findClass "RollStages" = some m.cls := findClass_of_methodNamed B.named
  have hlocks := B.notSynchronized
  have hS : va_S A s.heap s.heap [] := va_S.rf
  have hw : mwG G A ad (encC G.2 ad nr nm s0) s.heap := hw
  have hl := lv_entry ([.ref (ad (0)), .int (a1)]) (n := 3) (Nat.le_of_ble_eq_true rfl)
  rw [lg_entry_eq]
  generalize (lg_sl ([.ref (ad (0)), .int (a1)]) ++ List.replicate (3 - (lg_sl ([.ref (ad (0)), .int (a1)])).length) Slot.unset).toArray = ls at hl ⊢
  have hl : lv_has ls 3 [(0, .ref (ad (0))), (1, .int (a1))] := hl
  refine lv_aload_n hx hb d_C_row_0 rfl (lv_at hl 0 rfl) ?_
  refine lv_iload_n hx hb d_C_row_1 rfl (lv_at hl 1 rfl) ?_
  refine gV (As := [.int (a1)]) (rest := []) (st1 := [mVal ad nm a1]) ⟨hx, hb, hml, hown, hts⟩ (cc_C_machineAt l G A ad nr nm hnr hnm s0 a1) cC_0 rfl tw_300 tw_297 tw_299 tw_p18 tw_1 hd_C_machineAt rfl rfl ⟨Nat.le_of_ble_eq_true rfl, Nat.le_of_ble_eq_true rfl⟩ hK hw hS hl.1 rfl (Nat.le_of_ble_eq_true rfl) ⟨Nat.zero_le _, Nat.zero_le _⟩ d_C_row_2 rfl (fun H locs hw hS => ?_)
  by_cases h1 : rOk nm a1
  · skip
    refine W.eq (g2 := F0 m (2 + 3) ls [.ref (ad (58 + (Int32.toNatClampNeg a1)))]) (by rw [mVal_p h1]) ?_
    refine lv_astore_n (lv' := [(2, .ref (ad (58 + (Int32.toNatClampNeg a1)))), (0, .ref (ad (0))), (1, .int (a1))]) hx hb d_C_row_5 rfl hl (by decide) rfl (fun ls hl => ?_)
    refine lv_aload_n hx hb d_C_row_6 rfl (lv_at hl 0 rfl) ?_
    refine lv_ifnonnull (tgt := 14) hx hb d_C_row_7 (by decide) ?_
    refine lv_aload_n hx hb d_C_row_14 rfl (lv_at hl 0 rfl) ?_
    refine mw_getN (v := .int (s0 (58 + (Int32.toNatClampNeg a1)) 2)) hx hb hts in_M hown hK.1 hw (58 + (Int32.toNatClampNeg a1)) (cC_mac h1.2) rfl 2 (by decide) (hK.2.1 _ nf_9) rfl d_C_row_15 ?_
    have e9 : f_C_row nr nm s0 a1 = s0 (58 + (Int32.toNatClampNeg a1)) 2 := by unfold f_C_row; exact if_pos h1
    exact mw_iret hx hb hr rfl hw hS (congrArg (fun z => some (Value.int z)) e9.symm) ⟨rfl, rfl⟩ hlocks d_C_row_18
  · skip
    refine W.eq (g2 := F0 m (2 + 3) ls [.null]) (by rw [mVal_n h1]) ?_
    refine lv_astore_nN (lv' := [(2, .null), (0, .ref (ad (0))), (1, .int (a1))]) hx hb d_C_row_5 rfl hl (by decide) rfl (fun ls hl => ?_)
    refine lv_aload_nN hx hb d_C_row_6 rfl (lv_at hl 0 rfl) ?_
    refine lv_ifnonnullN hx hb d_C_row_7 ?_
    refine lv_iconst (v := -1) hx hb d_C_row_10 (by decide) ?_
    refine lv_goto (tgt := 18) hx hb d_C_row_11 (by decide) ?_
    have e9 : f_C_row nr nm s0 a1 = -1 := by unfold f_C_row; exact if_neg h1
    exact mw_iret hx hb hr rfl hw hS (congrArg (fun z => some (Value.int z)) e9.symm) ⟨rfl, rfl⟩ hlocks d_C_row_18

def f_C_pin (nr nm : Nat) (s0 : S2) (a1 : Int32) (a2 : Int32) : Int32 × S2 :=
  if rOk nm a1 then
    if a2 = (-1) then
      (1, up2 s0 (58 + (Int32.toNatClampNeg a1)) 4 a2)
    else
      if rOk nr a2 then
        (1, up2 s0 (58 + (Int32.toNatClampNeg a1)) 4 a2)
      else
        (0, s0)
  else
    (0, s0)
theorem fb_C_pin (nr nm : Nat) (s0 : S2) (a1 : Int32) (a2 : Int32) : narrow .boolean (.int ((f_C_pin nr nm s0 a1 a2).1)) = .int ((f_C_pin nr nm s0 a1 a2).1) := by
  unfold f_C_pin
  repeat' split
  all_goals first | rfl | exact narrow_b0 | exact narrow_b1
set_option maxHeartbeats 4000000 in
set_option maxRecDepth 100000 in
theorem cc_C_pin (l : Launch) (G : Gx) (A : Nat → Prop) (ad : Nat → Nat) (nr nm : Nat) (hnr : nr ≤ 16) (hnm : nm ≤ 30) (s0 : S2) (a1 : Int32) (a2 : Int32) : Met l y_C_pin ws_C_pin { frames := 2, cells := 0, slots := 0, locals := 43 } (PG G [.ref (ad (0)), .int (a1), .int (a2)] A ad (encC G.2 ad nr nm s0)) (EG G A (some (.int (f_C_pin nr nm s0 a1 a2).1)) ad (encC G.2 ad nr nm ((f_C_pin nr nm s0 a1 a2).2))) 0 0 A := by
  refine Met.ofW (cc := c_C_pin) (maxL := 4) (ret := (some .boolean)) (by decide) rfl ?_
  intro p e s m args below meth c s₁ B hml hv
  obtain ⟨rfl, hw, hK⟩ := hv
  have hx := B.exec
  have hb := B.bytes
  have hr := B.returns
  have hts : ∀ w ∈ tbG, w.before [.ref (ad (0)), .int (a1), .int (a2)].toArray s = true := fun w h => atoms_spec (ws := ws_C_pin) B.pre w (List.mem_cons_of_mem _ h)
  have hown : s.vm.findClass "RollStages" = some m.cls := findClass_of_methodNamed B.named
  have hlocks := B.notSynchronized
  have hS : va_S A s.heap s.heap [] := va_S.rf
  have hw : mwG G A ad (encC G.2 ad nr nm s0) s.heap := hw
  have hl := lv_entry ([.ref (ad (0)), .int (a1), .int (a2)]) (n := 4) (Nat.le_of_ble_eq_true rfl)
  rw [lg_entry_eq]
  generalize (lg_sl ([.ref (ad (0)), .int (a1), .int (a2)]) ++ List.replicate (4 - (lg_sl ([.ref (ad (0)), .int (a1), .int (a2)])).length) Slot.unset).toArray = ls at hl ⊢
  have hl : lv_has ls 4 [(0, .ref (ad (0))), (1, .int (a1)), (2, .int (a2))] := hl
  refine lv_aload_n hx hb d_C_pin_0 rfl (lv_at hl 0 rfl) ?_
  refine lv_iload_n hx hb d_C_pin_1 rfl (lv_at hl 1 rfl) ?_
  refine gV (As := [.int (a1)]) (rest := []) (st1 := [mVal ad nm a1]) ⟨hx, hb, hml, hown, hts⟩ (cc_C_machineAt l G A ad nr nm hnr hnm s0 a1) cC_0 rfl tw_300 tw_297 tw_299 tw_p18 tw_1 hd_C_machineAt rfl rfl ⟨Nat.le_of_ble_eq_true rfl, Nat.le_of_ble_eq_true rfl⟩ hK hw hS hl.1 rfl (Nat.le_of_ble_eq_true rfl) ⟨Nat.zero_le _, Nat.zero_le _⟩ d_C_pin_2 rfl (fun H locs hw hS => ?_)
  by_cases h1 : rOk nm a1
  · skip
    refine W.eq (g2 := F0 m (2 + 3) ls [.ref (ad (58 + (Int32.toNatClampNeg a1)))]) (by rw [mVal_p h1]) ?_
    refine lv_astore_n (lv' := [(3, .ref (ad (58 + (Int32.toNatClampNeg a1)))), (0, .ref (ad (0))), (1, .int (a1)), (2, .int (a2))]) hx hb d_C_pin_5 rfl hl (by decide) rfl (fun ls hl => ?_)
    refine lv_aload_n hx hb d_C_pin_6 rfl (lv_at hl 0 rfl) ?_
    refine lv_ifnull hx hb d_C_pin_7 ?_
    refine lv_iload_n hx hb d_C_pin_10 rfl (lv_at hl 3 rfl) ?_
    refine lv_iconst (v := -1) hx hb d_C_pin_11 (by decide) ?_
    refine lv_icmp_eq (tgt := 25) hx hb d_C_pin_12 (by decide) (fun h2 => ?_) (fun h2 => ?_)
    · skip
      refine lv_aload_n hx hb d_C_pin_25 rfl (lv_at hl 0 rfl) ?_
      refine lv_iload_n hx hb d_C_pin_26 rfl (lv_at hl 3 rfl) ?_
      refine mw_putN (v := .int (a2)) hx hb hts in_M ty_M ty_M_ok n_M hown hK.1 hw hS (58 + (Int32.toNatClampNeg a1)) (cC_mac h1.2) rfl 4 (by decide) (hK.2.1 _ nf_11) rfl rfl rfl (Nat.le_of_ble_eq_true rfl) d_C_pin_27 (fun H locs hw hS => ?_)
      replace hw := mw_encC (r := upd (s0 (58 + (Int32.toNatClampNeg a1))) 4 a2) hw (cC_mac h1.2)
      have hw : mwG G A ad (encC G.2 ad nr nm (up2 s0 (58 + (Int32.toNatClampNeg a1)) 4 a2)) H := hw
      refine lv_iconst (v := 1) hx hb d_C_pin_30 (by decide) ?_
      have e9 : f_C_pin nr nm s0 a1 a2 = (1, up2 s0 (58 + (Int32.toNatClampNeg a1)) 4 a2) := by unfold f_C_pin; exact (if_pos h1).trans (if_pos h2)
      exact mw_iret hx hb hr rfl hw hS (congrArg (fun z => some (Value.int z.1)) e9.symm) ⟨rfl, congrArg (fun z => encC G.2 ad nr nm z.2) e9.symm⟩ hlocks d_C_pin_31
    · skip
      refine lv_aload_n hx hb d_C_pin_15 rfl (lv_at hl 1 rfl) ?_
      refine lv_iload_n hx hb d_C_pin_16 rfl (lv_at hl 3 rfl) ?_
      refine gV (As := [.int (a2)]) (rest := []) (st1 := [rVal ad nr a2]) ⟨hx, hb, hml, hown, hts⟩ (cc_C_releaseAt l G A ad nr nm hnr hnm s0 a2) cC_0 rfl tw_151 tw_148 tw_150 tw_p0 tw_1 hd_C_releaseAt rfl rfl ⟨Nat.le_of_ble_eq_true rfl, Nat.le_of_ble_eq_true rfl⟩ hK hw hS hl.1 rfl (Nat.le_of_ble_eq_true rfl) ⟨Nat.zero_le _, Nat.zero_le _⟩ d_C_pin_17 rfl (fun H locs hw hS => ?_)
      by_cases h3 : rOk nr a2
      · skip
        refine W.eq (g2 := F0 m (17 + 3) ls [.ref (ad (10 + 3 * (Int32.toNatClampNeg a2)))]) (by rw [rVal_p h3]) ?_
        refine lv_ifnonnull (tgt := 25) hx hb d_C_pin_20 (by decide) ?_
        refine lv_aload_n hx hb d_C_pin_25 rfl (lv_at hl 0 rfl) ?_
        refine lv_iload_n hx hb d_C_pin_26 rfl (lv_at hl 3 rfl) ?_
        refine mw_putN (v := .int (a2)) hx hb hts in_M ty_M ty_M_ok n_M hown hK.1 hw hS (58 + (Int32.toNatClampNeg a1)) (cC_mac h1.2) rfl 4 (by decide) (hK.2.1 _ nf_11) rfl rfl rfl (Nat.le_of_ble_eq_true rfl) d_C_pin_27 (fun H locs hw hS => ?_)
        replace hw := mw_encC (r := upd (s0 (58 + (Int32.toNatClampNeg a1))) 4 a2) hw (cC_mac h1.2)
        have hw : mwG G A ad (encC G.2 ad nr nm (up2 s0 (58 + (Int32.toNatClampNeg a1)) 4 a2)) H := hw
        refine lv_iconst (v := 1) hx hb d_C_pin_30 (by decide) ?_
        have e9 : f_C_pin nr nm s0 a1 a2 = (1, up2 s0 (58 + (Int32.toNatClampNeg a1)) 4 a2) := by unfold f_C_pin; exact (if_pos h1).trans ((if_neg h2).trans (if_pos h3))
        exact mw_iret hx hb hr rfl hw hS (congrArg (fun z => some (Value.int z.1)) e9.symm) ⟨rfl, congrArg (fun z => encC G.2 ad nr nm z.2) e9.symm⟩ hlocks d_C_pin_31
      · skip
        refine W.eq (g2 := F0 m (17 + 3) ls [.null]) (by rw [rVal_n h3]) ?_
        refine lv_ifnonnullN hx hb d_C_pin_20 ?_
        refine lv_iconst (v := 0) hx hb d_C_pin_23 (by decide) ?_
        have e9 : f_C_pin nr nm s0 a1 a2 = (0, s0) := by unfold f_C_pin; exact (if_pos h1).trans ((if_neg h2).trans (if_neg h3))
        exact mw_iret hx hb hr rfl hw hS (congrArg (fun z => some (Value.int z.1)) e9.symm) ⟨rfl, congrArg (fun z => encC G.2 ad nr nm z.2) e9.symm⟩ hlocks d_C_pin_24
  · skip
    refine W.eq (g2 := F0 m (2 + 3) ls [.null]) (by rw [mVal_n h1]) ?_
    refine lv_astore_nN (lv' := [(3, .null), (0, .ref (ad (0))), (1, .int (a1)), (2, .int (a2))]) hx hb d_C_pin_5 rfl hl (by decide) rfl (fun ls hl => ?_)
    refine lv_aload_nN hx hb d_C_pin_6 rfl (lv_at hl 0 rfl) ?_
    refine lv_ifnullN (tgt := 23) hx hb d_C_pin_7 (by decide) ?_
    refine lv_iconst (v := 0) hx hb d_C_pin_23 (by decide) ?_
    have e9 : f_C_pin nr nm s0 a1 a2 = (0, s0) := by unfold f_C_pin; exact if_neg h1
    exact mw_iret hx hb hr rfl hw hS (congrArg (fun z => some (Value.int z.1)) e9.symm) ⟨rfl, congrArg (fun z => encC G.2 ad nr nm z.2) e9.symm⟩ hlocks d_C_pin_24

def f_C_offered (nr nm : Nat) (s0 : S2) (a1 : Int32) : Int32 :=
  if rOk nm a1 then
    f_C_offerTo nr nm s0 (Int32.toNatClampNeg a1)
  else
    -1
set_option maxHeartbeats 4000000 in
set_option maxRecDepth 100000 in
theorem cc_C_offered (l : Launch) (G : Gx) (A : Nat → Prop) (ad : Nat → Nat) (nr nm : Nat) (hnr : nr ≤ 16) (hnm : nm ≤ 30) (s0 : S2) (a1 : Int32) (hcnt : s0 0 4 = nI nr) : Met l y_C_offered ws_C_offered { frames := 5, cells := 0, slots := 0, locals := 114 } (PG G [.ref (ad (0)), .int (a1)] A ad (encC G.2 ad nr nm s0)) (EG G A (some (.int (f_C_offered nr nm s0 a1))) ad (encC G.2 ad nr nm s0)) 0 0 A := by
  refine Met.ofW (cc := c_C_offered) (maxL := 3) (ret := (some .int)) (by decide) rfl ?_
  intro p e s m args below meth c s₁ B hml hv
  obtain ⟨rfl, hw, hK⟩ := hv
  have hx := B.exec
  have hb := B.bytes
  have hr := B.returns
  have hts : ∀ w ∈ tbG, w.before [.ref (ad (0)), .int (a1)].toArray s = true := fun w h => atoms_spec (ws := ws_C_offered) B.pre w (List.mem_cons_of_mem _ h)
  have hown : s.vm.findClass "RollStages" = some m.cls := findClass_of_methodNamed B.named
  have hlocks := B.notSynchronized
  have hS : va_S A s.heap s.heap [] := va_S.rf
  have hw : mwG G A ad (encC G.2 ad nr nm s0) s.heap := hw
  have hl := lv_entry ([.ref (ad (0)), .int (a1)]) (n := 3) (Nat.le_of_ble_eq_true rfl)
  rw [lg_entry_eq]
  generalize (lg_sl ([.ref (ad (0)), .int (a1)]) ++ List.replicate (3 - (lg_sl ([.ref (ad (0)), .int (a1)])).length) Slot.unset).toArray = ls at hl ⊢
  have hl : lv_has ls 3 [(0, .ref (ad (0))), (1, .int (a1))] := hl
  refine lv_aload_n hx hb d_C_offered_0 rfl (lv_at hl 0 rfl) ?_
  refine lv_iload_n hx hb d_C_offered_1 rfl (lv_at hl 1 rfl) ?_
  refine gV (As := [.int (a1)]) (rest := []) (st1 := [mVal ad nm a1]) ⟨hx, hb, hml, hown, hts⟩ (cc_C_machineAt l G A ad nr nm hnr hnm s0 a1) cC_0 rfl tw_300 tw_297 tw_299 tw_p18 tw_1 hd_C_machineAt rfl rfl ⟨Nat.le_of_ble_eq_true rfl, Nat.le_of_ble_eq_true rfl⟩ hK hw hS hl.1 rfl (Nat.le_of_ble_eq_true rfl) ⟨Nat.zero_le _, Nat.zero_le _⟩ d_C_offered_2 rfl (fun H locs hw hS => ?_)
  by_cases h1 : rOk nm a1
  · skip
    refine W.eq (g2 := F0 m (2 + 3) ls [.ref (ad (58 + (Int32.toNatClampNeg a1)))]) (by rw [mVal_p h1]) ?_
    refine lv_astore_n (lv' := [(2, .ref (ad (58 + (Int32.toNatClampNeg a1)))), (0, .ref (ad (0))), (1, .int (a1))]) hx hb d_C_offered_5 rfl hl (by decide) rfl (fun ls hl => ?_)
    refine lv_aload_n hx hb d_C_offered_6 rfl (lv_at hl 0 rfl) ?_
    refine lv_ifnonnull (tgt := 14) hx hb d_C_offered_7 (by decide) ?_
    refine lv_aload_n hx hb d_C_offered_14 rfl (lv_at hl 1 rfl) ?_
    refine lv_aload_n hx hb d_C_offered_15 rfl (lv_at hl 0 rfl) ?_
    refine gV (As := [.ref (ad (58 + (Int32.toNatClampNeg a1)))]) (rest := []) (st1 := [.int (f_C_offerTo nr nm s0 (Int32.toNatClampNeg a1))]) ⟨hx, hb, hml, hown, hts⟩ (cc_C_offerTo l G A ad nr nm hnr hnm s0 (Int32.toNatClampNeg a1) h1.2 hcnt) cC_0 rfl tw_312 tw_309 tw_311 tw_p19 tw_1 hd_C_offerTo rfl rfl ⟨Nat.le_of_ble_eq_true rfl, Nat.le_of_ble_eq_true rfl⟩ hK hw hS hl.1 rfl (Nat.le_of_ble_eq_true rfl) ⟨Nat.zero_le _, Nat.zero_le _⟩ d_C_offered_16 rfl (fun H locs hw hS => ?_)
    have e9 : f_C_offered nr nm s0 a1 = f_C_offerTo nr nm s0 (Int32.toNatClampNeg a1) := by unfold f_C_offered; exact if_pos h1
    exact mw_iret hx hb hr rfl hw hS (congrArg (fun z => some (Value.int z)) e9.symm) ⟨rfl, rfl⟩ hlocks d_C_offered_19
  · skip
    refine W.eq (g2 := F0 m (2 + 3) ls [.null]) (by rw [mVal_n h1]) ?_
    refine lv_astore_nN (lv' := [(2, .null), (0, .ref (ad (0))), (1, .int (a1))]) hx hb d_C_offered_5 rfl hl (by decide) rfl (fun ls hl => ?_)
    refine lv_aload_nN hx hb d_C_offered_6 rfl (lv_at hl 0 rfl) ?_
    refine lv_ifnonnullN hx hb d_C_offered_7 ?_
    refine lv_iconst (v := -1) hx hb d_C_offered_10 (by decide) ?_
    refine lv_goto (tgt := 19) hx hb d_C_offered_11 (by decide) ?_
    have e9 : f_C_offered nr nm s0 a1 = -1 := by unfold f_C_offered; exact if_neg h1
    exact mw_iret hx hb hr rfl hw hS (congrArg (fun z => some (Value.int z)) e9.symm) ⟨rfl, rfl⟩ hlocks d_C_offered_19

def f_C_may (nr nm : Nat) (s0 : S2) (a1 : Int32) (a2 : Int32) : Int32 :=
  if rOk nm a1 then
    if (f_C_mayGet nr nm s0 (Int32.toNatClampNeg a1) a2) = 0 then
      0
    else
      1
  else
    0
theorem fb_C_may (nr nm : Nat) (s0 : S2) (a1 : Int32) (a2 : Int32) : narrow .boolean (.int (f_C_may nr nm s0 a1 a2)) = .int (f_C_may nr nm s0 a1 a2) := by
  unfold f_C_may
  repeat' split
  all_goals first | rfl | exact narrow_b0 | exact narrow_b1
set_option maxHeartbeats 4000000 in
set_option maxRecDepth 100000 in
theorem cc_C_may (l : Launch) (G : Gx) (A : Nat → Prop) (ad : Nat → Nat) (nr nm : Nat) (hnr : nr ≤ 16) (hnm : nm ≤ 30) (s0 : S2) (a1 : Int32) (a2 : Int32) : Met l y_C_may ws_C_may { frames := 3, cells := 0, slots := 0, locals := 69 } (PG G [.ref (ad (0)), .int (a1), .int (a2)] A ad (encC G.2 ad nr nm s0)) (EG G A (some (.int (f_C_may nr nm s0 a1 a2))) ad (encC G.2 ad nr nm s0)) 0 0 A := by
  refine Met.ofW (cc := c_C_may) (maxL := 4) (ret := (some .boolean)) (by decide) rfl ?_
  intro p e s m args below meth c s₁ B hml hv
  obtain ⟨rfl, hw, hK⟩ := hv
  have hx := B.exec
  have hb := B.bytes
  have hr := B.returns
  have hts : ∀ w ∈ tbG, w.before [.ref (ad (0)), .int (a1), .int (a2)].toArray s = true := fun w h => atoms_spec (ws := ws_C_may) B.pre w (List.mem_cons_of_mem _ h)
  have hown : s.vm.findClass "RollStages" = some m.cls := findClass_of_methodNamed B.named
  have hlocks := B.notSynchronized
  have hS : va_S A s.heap s.heap [] := va_S.rf
  have hw : mwG G A ad (encC G.2 ad nr nm s0) s.heap := hw
  have hl := lv_entry ([.ref (ad (0)), .int (a1), .int (a2)]) (n := 4) (Nat.le_of_ble_eq_true rfl)
  rw [lg_entry_eq]
  generalize (lg_sl ([.ref (ad (0)), .int (a1), .int (a2)]) ++ List.replicate (4 - (lg_sl ([.ref (ad (0)), .int (a1), .int (a2)])).length) Slot.unset).toArray = ls at hl ⊢
  have hl : lv_has ls 4 [(0, .ref (ad (0))), (1, .int (a1)), (2, .int (a2))] := hl
  refine lv_aload_n hx hb d_C_may_0 rfl (lv_at hl 0 rfl) ?_
  refine lv_iload_n hx hb d_C_may_1 rfl (lv_at hl 1 rfl) ?_
  refine gV (As := [.int (a1)]) (rest := []) (st1 := [mVal ad nm a1]) ⟨hx, hb, hml, hown, hts⟩ (cc_C_machineAt l G A ad nr nm hnr hnm s0 a1) cC_0 rfl tw_300 tw_297 tw_299 tw_p18 tw_1 hd_C_machineAt rfl rfl ⟨Nat.le_of_ble_eq_true rfl, Nat.le_of_ble_eq_true rfl⟩ hK hw hS hl.1 rfl (Nat.le_of_ble_eq_true rfl) ⟨Nat.zero_le _, Nat.zero_le _⟩ d_C_may_2 rfl (fun H locs hw hS => ?_)
  by_cases h1 : rOk nm a1
  · skip
    refine W.eq (g2 := F0 m (2 + 3) ls [.ref (ad (58 + (Int32.toNatClampNeg a1)))]) (by rw [mVal_p h1]) ?_
    refine lv_astore_n (lv' := [(3, .ref (ad (58 + (Int32.toNatClampNeg a1)))), (0, .ref (ad (0))), (1, .int (a1)), (2, .int (a2))]) hx hb d_C_may_5 rfl hl (by decide) rfl (fun ls hl => ?_)
    refine lv_aload_n hx hb d_C_may_6 rfl (lv_at hl 0 rfl) ?_
    refine lv_ifnull hx hb d_C_may_7 ?_
    refine lv_aload_n hx hb d_C_may_10 rfl (lv_at hl 1 rfl) ?_
    refine lv_aload_n hx hb d_C_may_11 rfl (lv_at hl 0 rfl) ?_
    refine lv_iload_n hx hb d_C_may_12 rfl (lv_at hl 3 rfl) ?_
    refine gV (As := [.ref (ad (58 + (Int32.toNatClampNeg a1))), .int (a2)]) (rest := []) (st1 := [.int (f_C_mayGet nr nm s0 (Int32.toNatClampNeg a1) a2)]) ⟨hx, hb, hml, hown, hts⟩ (cc_C_mayGet l G A ad nr nm hnr hnm s0 (Int32.toNatClampNeg a1) h1.2 a2) cC_0 rfl tw_320 tw_317 tw_319 tw_p21 tw_1 hd_C_mayGet rfl rfl ⟨Nat.le_of_ble_eq_true rfl, Nat.le_of_ble_eq_true rfl⟩ hK hw hS hl.1 rfl (Nat.le_of_ble_eq_true rfl) ⟨Nat.zero_le _, Nat.zero_le _⟩ d_C_may_13 rfl (fun H locs hw hS => ?_)
    refine lv_if_eq (tgt := 23) hx hb d_C_may_16 (by decide) (fun h2 => ?_) (fun h2 => ?_)
    · skip
      refine lv_iconst (v := 0) hx hb d_C_may_23 (by decide) ?_
      have e9 : f_C_may nr nm s0 a1 a2 = 0 := by unfold f_C_may; exact (if_pos h1).trans (if_pos h2)
      exact mw_iret hx hb hr rfl hw hS (congrArg (fun z => some (Value.int z)) e9.symm) ⟨rfl, rfl⟩ hlocks d_C_may_24
    · skip
      refine lv_iconst (v := 1) hx hb d_C_may_19 (by decide) ?_
      refine lv_goto (tgt := 24) hx hb d_C_may_20 (by decide) ?_
      have e9 : f_C_may nr nm s0 a1 a2 = 1 := by unfold f_C_may; exact (if_pos h1).trans (if_neg h2)
      exact mw_iret hx hb hr rfl hw hS (congrArg (fun z => some (Value.int z)) e9.symm) ⟨rfl, rfl⟩ hlocks d_C_may_24
  · skip
    refine W.eq (g2 := F0 m (2 + 3) ls [.null]) (by rw [mVal_n h1]) ?_
    refine lv_astore_nN (lv' := [(3, .null), (0, .ref (ad (0))), (1, .int (a1)), (2, .int (a2))]) hx hb d_C_may_5 rfl hl (by decide) rfl (fun ls hl => ?_)
    refine lv_aload_nN hx hb d_C_may_6 rfl (lv_at hl 0 rfl) ?_
    refine lv_ifnullN (tgt := 23) hx hb d_C_may_7 (by decide) ?_
    refine lv_iconst (v := 0) hx hb d_C_may_23 (by decide) ?_
    have e9 : f_C_may nr nm s0 a1 a2 = 0 := by unfold f_C_may; exact if_neg h1
    exact mw_iret hx hb hr rfl hw hS (congrArg (fun z => some (Value.int z)) e9.symm) ⟨rfl, rfl⟩ hlocks d_C_may_24

def f_C_delta (nr nm : Nat) (s0 : S2) (a1 : Int32) (a2 : Int32) (a3 : Int32) : Int32 × S2 :=
  if rOk nr a1 then
    if rOk nr a2 then
      if a1 = a2 then
        (0, s0)
      else
        if (f_C_within a3 1 1000) = 0 then
          (0, s0)
        else
          if ((f_D_put s0 a1 a2 a3).1) = 0 then
            (0, (f_D_put s0 a1 a2 a3).2)
          else
            (1, (f_D_put s0 a1 a2 a3).2)
    else
      (0, s0)
  else
    (0, s0)
theorem fb_C_delta (nr nm : Nat) (s0 : S2) (a1 : Int32) (a2 : Int32) (a3 : Int32) : narrow .boolean (.int ((f_C_delta nr nm s0 a1 a2 a3).1)) = .int ((f_C_delta nr nm s0 a1 a2 a3).1) := by
  unfold f_C_delta
  repeat' split
  all_goals first | rfl | exact narrow_b0 | exact narrow_b1
set_option maxHeartbeats 4000000 in
set_option maxRecDepth 100000 in
theorem cc_C_delta (l : Launch) (G : Gx) (A : Nat → Prop) (ad : Nat → Nat) (nr nm : Nat) (hnr : nr ≤ 16) (hnm : nm ≤ 30) (s0 : S2) (a1 : Int32) (a2 : Int32) (a3 : Int32) (hct : 0 ≤ (s0 4 3).toInt ∧ (s0 4 3).toInt ≤ 40) : Met l y_C_delta ws_C_delta { frames := 2, cells := 0, slots := 0, locals := 47 } (PG G [.ref (ad (0)), .int (a1), .int (a2), .int (a3)] A ad (encC G.2 ad nr nm s0)) (EG G A (some (.int (f_C_delta nr nm s0 a1 a2 a3).1)) ad (encC G.2 ad nr nm ((f_C_delta nr nm s0 a1 a2 a3).2))) 0 0 A := by
  refine Met.ofW (cc := c_C_delta) (maxL := 4) (ret := (some .boolean)) (by decide) rfl ?_
  intro p e s m args below meth c s₁ B hml hv
  obtain ⟨rfl, hw, hK⟩ := hv
  have hx := B.exec
  have hb := B.bytes
  have hr := B.returns
  have hts : ∀ w ∈ tbG, w.before [.ref (ad (0)), .int (a1), .int (a2), .int (a3)].toArray s = true := fun w h => atoms_spec (ws := ws_C_delta) B.pre w (List.mem_cons_of_mem _ h)
  have hown : s.vm.findClass "RollStages" = some m.cls := findClass_of_methodNamed B.named
  have hlocks := B.notSynchronized
  have hS : va_S A s.heap s.heap [] := va_S.rf
  have hw : mwG G A ad (encC G.2 ad nr nm s0) s.heap := hw
  have hl := lv_entry ([.ref (ad (0)), .int (a1), .int (a2), .int (a3)]) (n := 4) (Nat.le_of_ble_eq_true rfl)
  rw [lg_entry_eq]
  generalize (lg_sl ([.ref (ad (0)), .int (a1), .int (a2), .int (a3)]) ++ List.replicate (4 - (lg_sl ([.ref (ad (0)), .int (a1), .int (a2), .int (a3)])).length) Slot.unset).toArray = ls at hl ⊢
  have hl : lv_has ls 4 [(0, .ref (ad (0))), (1, .int (a1)), (2, .int (a2)), (3, .int (a3))] := hl
  refine lv_aload_n hx hb d_C_delta_0 rfl (lv_at hl 0 rfl) ?_
  refine lv_iload_n hx hb d_C_delta_1 rfl (lv_at hl 1 rfl) ?_
  refine gV (As := [.int (a1)]) (rest := []) (st1 := [rVal ad nr a1]) ⟨hx, hb, hml, hown, hts⟩ (cc_C_releaseAt l G A ad nr nm hnr hnm s0 a1) cC_0 rfl tw_151 tw_148 tw_150 tw_p0 tw_1 hd_C_releaseAt rfl rfl ⟨Nat.le_of_ble_eq_true rfl, Nat.le_of_ble_eq_true rfl⟩ hK hw hS hl.1 rfl (Nat.le_of_ble_eq_true rfl) ⟨Nat.zero_le _, Nat.zero_le _⟩ d_C_delta_2 rfl (fun H locs hw hS => ?_)
  by_cases h1 : rOk nr a1
  · skip
    refine W.eq (g2 := F0 m (2 + 3) ls [.ref (ad (10 + 3 * (Int32.toNatClampNeg a1)))]) (by rw [rVal_p h1]) ?_
    refine lv_ifnull hx hb d_C_delta_5 ?_
    refine lv_aload_n hx hb d_C_delta_8 rfl (lv_at hl 0 rfl) ?_
    refine lv_iload_n hx hb d_C_delta_9 rfl (lv_at hl 2 rfl) ?_
    refine gV (As := [.int (a2)]) (rest := []) (st1 := [rVal ad nr a2]) ⟨hx, hb, hml, hown, hts⟩ (cc_C_releaseAt l G A ad nr nm hnr hnm s0 a2) cC_0 rfl tw_151 tw_148 tw_150 tw_p0 tw_1 hd_C_releaseAt rfl rfl ⟨Nat.le_of_ble_eq_true rfl, Nat.le_of_ble_eq_true rfl⟩ hK hw hS hl.1 rfl (Nat.le_of_ble_eq_true rfl) ⟨Nat.zero_le _, Nat.zero_le _⟩ d_C_delta_10 rfl (fun H locs hw hS => ?_)
    by_cases h2 : rOk nr a2
    · skip
      refine W.eq (g2 := F0 m (10 + 3) ls [.ref (ad (10 + 3 * (Int32.toNatClampNeg a2)))]) (by rw [rVal_p h2]) ?_
      refine lv_ifnull hx hb d_C_delta_13 ?_
      refine lv_iload_n hx hb d_C_delta_16 rfl (lv_at hl 1 rfl) ?_
      refine lv_iload_n hx hb d_C_delta_17 rfl (lv_at hl 2 rfl) ?_
      refine lv_icmp_ne (tgt := 23) hx hb d_C_delta_18 (by decide) (fun h3 => ?_) (fun h3 => ?_)
      · skip
        refine lv_iload_n hx hb d_C_delta_23 rfl (lv_at hl 3 rfl) ?_
        refine lv_iconst (v := 1) hx hb d_C_delta_24 (by decide) ?_
        refine lv_sipush (v := 1000) hx hb d_C_delta_25 (by decide) ?_
        refine gS (As := [.int (a3), .int (1), .int (1000)]) (rest := []) (st1 := [.int (f_C_within a3 1 1000)]) ⟨hx, hb, hml, hown, hts⟩ (cc_C_within l G A ad nr nm hnr hnm s0 a3 1 1000) tw_89 tw_87 tw_88 tw_1 hd_C_within rfl rfl ⟨Nat.le_of_ble_eq_true rfl, Nat.le_of_ble_eq_true rfl⟩ hK hw hS hl.1 rfl (Nat.le_of_ble_eq_true rfl) ⟨Nat.zero_le _, Nat.zero_le _⟩ d_C_delta_28 rfl (fun H locs hw hS => ?_)
        refine lv_if_eq (tgt := 51) hx hb d_C_delta_31 (by decide) (fun h4 => ?_) (fun h4 => ?_)
        · skip
          refine lv_iconst (v := 0) hx hb d_C_delta_51 (by decide) ?_
          have e9 : f_C_delta nr nm s0 a1 a2 a3 = (0, s0) := by unfold f_C_delta; exact (if_pos h1).trans ((if_pos h2).trans ((if_neg h3).trans (if_pos h4)))
          exact mw_iret hx hb hr rfl hw hS (congrArg (fun z => some (Value.int z.1)) e9.symm) ⟨rfl, congrArg (fun z => encC G.2 ad nr nm z.2) e9.symm⟩ hlocks d_C_delta_52
        · skip
          refine lv_aload_n hx hb d_C_delta_34 rfl (lv_at hl 0 rfl) ?_
          refine mw_get (v := .ref (ad (4))) hx hb hts in_C hown hK.1 hw (0) cC_0 rfl 3 (by decide) (hts _ tw_61) rfl d_C_delta_35 ?_
          refine lv_iload_n hx hb d_C_delta_38 rfl (lv_at hl 1 rfl) ?_
          refine lv_iload_n hx hb d_C_delta_39 rfl (lv_at hl 2 rfl) ?_
          refine lv_iload_n hx hb d_C_delta_40 rfl (lv_at hl 3 rfl) ?_
          refine gVN (As := [.int (a1), .int (a2), .int (a3)]) (rest := []) (st1 := [.int ((f_D_put s0 a1 a2 a3).1)]) ⟨hx, hb, hml, hown, hts⟩ (cc_D_put l G A ad nr nm hnr hnm s0 a1 a2 a3 hct) cC_4 rfl tw_348 nw_17 tw_347 tw_p26 tw_2 hd_D_put rfl rfl ⟨Nat.le_of_ble_eq_true rfl, Nat.le_of_ble_eq_true rfl⟩ hK hw hS hl.1 rfl (Nat.le_of_ble_eq_true rfl) ⟨Nat.zero_le _, Nat.zero_le _⟩ d_C_delta_41 rfl (fun H locs hw hS => ?_)
          refine lv_if_eq (tgt := 51) hx hb d_C_delta_44 (by decide) (fun h5 => ?_) (fun h5 => ?_)
          · skip
            refine lv_iconst (v := 0) hx hb d_C_delta_51 (by decide) ?_
            have e9 : f_C_delta nr nm s0 a1 a2 a3 = (0, (f_D_put s0 a1 a2 a3).2) := by unfold f_C_delta; exact (if_pos h1).trans ((if_pos h2).trans ((if_neg h3).trans ((if_neg h4).trans (if_pos h5))))
            exact mw_iret hx hb hr rfl hw hS (congrArg (fun z => some (Value.int z.1)) e9.symm) ⟨rfl, congrArg (fun z => encC G.2 ad nr nm z.2) e9.symm⟩ hlocks d_C_delta_52
          · skip
            refine lv_iconst (v := 1) hx hb d_C_delta_47 (by decide) ?_
            refine lv_goto (tgt := 52) hx hb d_C_delta_48 (by decide) ?_
            have e9 : f_C_delta nr nm s0 a1 a2 a3 = (1, (f_D_put s0 a1 a2 a3).2) := by unfold f_C_delta; exact (if_pos h1).trans ((if_pos h2).trans ((if_neg h3).trans ((if_neg h4).trans (if_neg h5))))
            exact mw_iret hx hb hr rfl hw hS (congrArg (fun z => some (Value.int z.1)) e9.symm) ⟨rfl, congrArg (fun z => encC G.2 ad nr nm z.2) e9.symm⟩ hlocks d_C_delta_52
      · skip
        refine lv_iconst (v := 0) hx hb d_C_delta_21 (by decide) ?_
        have e9 : f_C_delta nr nm s0 a1 a2 a3 = (0, s0) := by unfold f_C_delta; exact (if_pos h1).trans ((if_pos h2).trans (if_pos h3))
        exact mw_iret hx hb hr rfl hw hS (congrArg (fun z => some (Value.int z.1)) e9.symm) ⟨rfl, congrArg (fun z => encC G.2 ad nr nm z.2) e9.symm⟩ hlocks d_C_delta_22
    · skip
      refine W.eq (g2 := F0 m (10 + 3) ls [.null]) (by rw [rVal_n h2]) ?_
      refine lv_ifnullN (tgt := 21) hx hb d_C_delta_13 (by decide) ?_
      refine lv_iconst (v := 0) hx hb d_C_delta_21 (by decide) ?_
      have e9 : f_C_delta nr nm s0 a1 a2 a3 = (0, s0) := by unfold f_C_delta; exact (if_pos h1).trans (if_neg h2)
      exact mw_iret hx hb hr rfl hw hS (congrArg (fun z => some (Value.int z.1)) e9.symm) ⟨rfl, congrArg (fun z => encC G.2 ad nr nm z.2) e9.symm⟩ hlocks d_C_delta_22
  · skip
    refine W.eq (g2 := F0 m (2 + 3) ls [.null]) (by rw [rVal_n h1]) ?_
    refine lv_ifnullN (tgt := 21) hx hb d_C_delta_5 (by decide) ?_
    refine lv_iconst (v := 0) hx hb d_C_delta_21 (by decide) ?_
    have e9 : f_C_delta nr nm s0 a1 a2 a3 = (0, s0) := by unfold f_C_delta; exact if_neg h1
    exact mw_iret hx hb hr rfl hw hS (congrArg (fun z => some (Value.int z.1)) e9.symm) ⟨rfl, congrArg (fun z => encC G.2 ad nr nm z.2) e9.symm⟩ hlocks d_C_delta_22

def f_C_cost (nr nm : Nat) (s0 : S2) (a1 : Int32) : Int32 × S2 :=
  if rOk nm a1 then
    ((f_C_findWay nr nm s0 (Int32.toNatClampNeg a1)) 4 6, f_C_findWay nr nm s0 (Int32.toNatClampNeg a1))
  else
    (-1, s0)
set_option maxHeartbeats 4000000 in
set_option maxRecDepth 100000 in
theorem cc_C_cost (l : Launch) (G : Gx) (A : Nat → Prop) (ad : Nat → Nat) (nr nm : Nat) (hnr : nr ≤ 16) (hnm : nm ≤ 30) (s0 : S2) (a1 : Int32) (hcnt : s0 0 4 = nI nr) (hct : 0 ≤ (s0 4 3).toInt ∧ (s0 4 3).toInt ≤ 40) : Met l y_C_cost ws_C_cost { frames := 6, cells := 0, slots := 0, locals := 137 } (PG G [.ref (ad (0)), .int (a1)] A ad (encC G.2 ad nr nm s0)) (EG G A (some (.int (f_C_cost nr nm s0 a1).1)) ad (encC G.2 ad nr nm ((f_C_cost nr nm s0 a1).2))) 0 0 A := by
  refine Met.ofW (cc := c_C_cost) (maxL := 3) (ret := (some .int)) (by decide) rfl ?_
  intro p e s m args below meth c s₁ B hml hv
  obtain ⟨rfl, hw, hK⟩ := hv
  have hx := B.exec
  have hb := B.bytes
  have hr := B.returns
  have hts : ∀ w ∈ tbG, w.before [.ref (ad (0)), .int (a1)].toArray s = true := fun w h => atoms_spec (ws := ws_C_cost) B.pre w (List.mem_cons_of_mem _ h)
  have hown : s.vm.findClass "RollStages" = some m.cls := findClass_of_methodNamed B.named
  have hlocks := B.notSynchronized
  have hS : va_S A s.heap s.heap [] := va_S.rf
  have hw : mwG G A ad (encC G.2 ad nr nm s0) s.heap := hw
  have hl := lv_entry ([.ref (ad (0)), .int (a1)]) (n := 3) (Nat.le_of_ble_eq_true rfl)
  rw [lg_entry_eq]
  generalize (lg_sl ([.ref (ad (0)), .int (a1)]) ++ List.replicate (3 - (lg_sl ([.ref (ad (0)), .int (a1)])).length) Slot.unset).toArray = ls at hl ⊢
  have hl : lv_has ls 3 [(0, .ref (ad (0))), (1, .int (a1))] := hl
  refine lv_aload_n hx hb d_C_cost_0 rfl (lv_at hl 0 rfl) ?_
  refine lv_iload_n hx hb d_C_cost_1 rfl (lv_at hl 1 rfl) ?_
  refine gV (As := [.int (a1)]) (rest := []) (st1 := [mVal ad nm a1]) ⟨hx, hb, hml, hown, hts⟩ (cc_C_machineAt l G A ad nr nm hnr hnm s0 a1) cC_0 rfl tw_300 tw_297 tw_299 tw_p18 tw_1 hd_C_machineAt rfl rfl ⟨Nat.le_of_ble_eq_true rfl, Nat.le_of_ble_eq_true rfl⟩ hK hw hS hl.1 rfl (Nat.le_of_ble_eq_true rfl) ⟨Nat.zero_le _, Nat.zero_le _⟩ d_C_cost_2 rfl (fun H locs hw hS => ?_)
  by_cases h1 : rOk nm a1
  · skip
    refine W.eq (g2 := F0 m (2 + 3) ls [.ref (ad (58 + (Int32.toNatClampNeg a1)))]) (by rw [mVal_p h1]) ?_
    refine lv_astore_n (lv' := [(2, .ref (ad (58 + (Int32.toNatClampNeg a1)))), (0, .ref (ad (0))), (1, .int (a1))]) hx hb d_C_cost_5 rfl hl (by decide) rfl (fun ls hl => ?_)
    refine lv_aload_n hx hb d_C_cost_6 rfl (lv_at hl 0 rfl) ?_
    refine lv_ifnonnull (tgt := 12) hx hb d_C_cost_7 (by decide) ?_
    refine lv_aload_n hx hb d_C_cost_12 rfl (lv_at hl 1 rfl) ?_
    refine lv_aload_n hx hb d_C_cost_13 rfl (lv_at hl 0 rfl) ?_
    refine gV (As := [.ref (ad (58 + (Int32.toNatClampNeg a1)))]) (rest := []) (st1 := []) ⟨hx, hb, hml, hown, hts⟩ (cc_C_findWay l G A ad nr nm hnr hnm s0 (Int32.toNatClampNeg a1) h1.2 hcnt hct) cC_0 rfl tw_362 tw_359 tw_361 tw_p28 tw_1 hd_C_findWay rfl rfl ⟨Nat.le_of_ble_eq_true rfl, Nat.le_of_ble_eq_true rfl⟩ hK hw hS hl.1 rfl (Nat.le_of_ble_eq_true rfl) ⟨Nat.zero_le _, Nat.zero_le _⟩ d_C_cost_14 rfl (fun H locs hw hS => ?_)
    refine lv_aload_n hx hb d_C_cost_17 rfl (lv_at hl 1 rfl) ?_
    refine mw_get (v := .ref (ad (4))) hx hb hts in_C hown hK.1 hw (0) cC_0 rfl 3 (by decide) (hts _ tw_61) rfl d_C_cost_18 ?_
    refine mw_getN (v := .int ((f_C_findWay nr nm s0 (Int32.toNatClampNeg a1)) 4 6)) hx hb hts in_D hown hK.1 hw (4) cC_4 rfl 6 (by decide) (hK.2.1 _ nf_0) rfl d_C_cost_21 ?_
    have e9 : f_C_cost nr nm s0 a1 = ((f_C_findWay nr nm s0 (Int32.toNatClampNeg a1)) 4 6, f_C_findWay nr nm s0 (Int32.toNatClampNeg a1)) := by unfold f_C_cost; exact if_pos h1
    exact mw_iret hx hb hr rfl hw hS (congrArg (fun z => some (Value.int z.1)) e9.symm) ⟨rfl, congrArg (fun z => encC G.2 ad nr nm z.2) e9.symm⟩ hlocks d_C_cost_24
  · skip
    refine W.eq (g2 := F0 m (2 + 3) ls [.null]) (by rw [mVal_n h1]) ?_
    refine lv_astore_nN (lv' := [(2, .null), (0, .ref (ad (0))), (1, .int (a1))]) hx hb d_C_cost_5 rfl hl (by decide) rfl (fun ls hl => ?_)
    refine lv_aload_nN hx hb d_C_cost_6 rfl (lv_at hl 0 rfl) ?_
    refine lv_ifnonnullN hx hb d_C_cost_7 ?_
    refine lv_iconst (v := -1) hx hb d_C_cost_10 (by decide) ?_
    have e9 : f_C_cost nr nm s0 a1 = (-1, s0) := by unfold f_C_cost; exact if_neg h1
    exact mw_iret hx hb hr rfl hw hS (congrArg (fun z => some (Value.int z.1)) e9.symm) ⟨rfl, congrArg (fun z => encC G.2 ad nr nm z.2) e9.symm⟩ hlocks d_C_cost_11

def f_C_steps (nr nm : Nat) (s0 : S2) (a1 : Int32) : Int32 × S2 :=
  if rOk nm a1 then
    ((f_C_findWay nr nm s0 (Int32.toNatClampNeg a1)) 4 7, f_C_findWay nr nm s0 (Int32.toNatClampNeg a1))
  else
    (-1, s0)
set_option maxHeartbeats 4000000 in
set_option maxRecDepth 100000 in
theorem cc_C_steps (l : Launch) (G : Gx) (A : Nat → Prop) (ad : Nat → Nat) (nr nm : Nat) (hnr : nr ≤ 16) (hnm : nm ≤ 30) (s0 : S2) (a1 : Int32) (hcnt : s0 0 4 = nI nr) (hct : 0 ≤ (s0 4 3).toInt ∧ (s0 4 3).toInt ≤ 40) : Met l y_C_steps ws_C_steps { frames := 6, cells := 0, slots := 0, locals := 137 } (PG G [.ref (ad (0)), .int (a1)] A ad (encC G.2 ad nr nm s0)) (EG G A (some (.int (f_C_steps nr nm s0 a1).1)) ad (encC G.2 ad nr nm ((f_C_steps nr nm s0 a1).2))) 0 0 A := by
  refine Met.ofW (cc := c_C_steps) (maxL := 3) (ret := (some .int)) (by decide) rfl ?_
  intro p e s m args below meth c s₁ B hml hv
  obtain ⟨rfl, hw, hK⟩ := hv
  have hx := B.exec
  have hb := B.bytes
  have hr := B.returns
  have hts : ∀ w ∈ tbG, w.before [.ref (ad (0)), .int (a1)].toArray s = true := fun w h => atoms_spec (ws := ws_C_steps) B.pre w (List.mem_cons_of_mem _ h)
  have hown : s.vm.findClass "RollStages" = some m.cls := findClass_of_methodNamed B.named
  have hlocks := B.notSynchronized
  have hS : va_S A s.heap s.heap [] := va_S.rf
  have hw : mwG G A ad (encC G.2 ad nr nm s0) s.heap := hw
  have hl := lv_entry ([.ref (ad (0)), .int (a1)]) (n := 3) (Nat.le_of_ble_eq_true rfl)
  rw [lg_entry_eq]
  generalize (lg_sl ([.ref (ad (0)), .int (a1)]) ++ List.replicate (3 - (lg_sl ([.ref (ad (0)), .int (a1)])).length) Slot.unset).toArray = ls at hl ⊢
  have hl : lv_has ls 3 [(0, .ref (ad (0))), (1, .int (a1))] := hl
  refine lv_aload_n hx hb d_C_steps_0 rfl (lv_at hl 0 rfl) ?_
  refine lv_iload_n hx hb d_C_steps_1 rfl (lv_at hl 1 rfl) ?_
  refine gV (As := [.int (a1)]) (rest := []) (st1 := [mVal ad nm a1]) ⟨hx, hb, hml, hown, hts⟩ (cc_C_machineAt l G A ad nr nm hnr hnm s0 a1) cC_0 rfl tw_300 tw_297 tw_299 tw_p18 tw_1 hd_C_machineAt rfl rfl ⟨Nat.le_of_ble_eq_true rfl, Nat.le_of_ble_eq_true rfl⟩ hK hw hS hl.1 rfl (Nat.le_of_ble_eq_true rfl) ⟨Nat.zero_le _, Nat.zero_le _⟩ d_C_steps_2 rfl (fun H locs hw hS => ?_)
  by_cases h1 : rOk nm a1
  · skip
    refine W.eq (g2 := F0 m (2 + 3) ls [.ref (ad (58 + (Int32.toNatClampNeg a1)))]) (by rw [mVal_p h1]) ?_
    refine lv_astore_n (lv' := [(2, .ref (ad (58 + (Int32.toNatClampNeg a1)))), (0, .ref (ad (0))), (1, .int (a1))]) hx hb d_C_steps_5 rfl hl (by decide) rfl (fun ls hl => ?_)
    refine lv_aload_n hx hb d_C_steps_6 rfl (lv_at hl 0 rfl) ?_
    refine lv_ifnonnull (tgt := 12) hx hb d_C_steps_7 (by decide) ?_
    refine lv_aload_n hx hb d_C_steps_12 rfl (lv_at hl 1 rfl) ?_
    refine lv_aload_n hx hb d_C_steps_13 rfl (lv_at hl 0 rfl) ?_
    refine gV (As := [.ref (ad (58 + (Int32.toNatClampNeg a1)))]) (rest := []) (st1 := []) ⟨hx, hb, hml, hown, hts⟩ (cc_C_findWay l G A ad nr nm hnr hnm s0 (Int32.toNatClampNeg a1) h1.2 hcnt hct) cC_0 rfl tw_362 tw_359 tw_361 tw_p28 tw_1 hd_C_findWay rfl rfl ⟨Nat.le_of_ble_eq_true rfl, Nat.le_of_ble_eq_true rfl⟩ hK hw hS hl.1 rfl (Nat.le_of_ble_eq_true rfl) ⟨Nat.zero_le _, Nat.zero_le _⟩ d_C_steps_14 rfl (fun H locs hw hS => ?_)
    refine lv_aload_n hx hb d_C_steps_17 rfl (lv_at hl 1 rfl) ?_
    refine mw_get (v := .ref (ad (4))) hx hb hts in_C hown hK.1 hw (0) cC_0 rfl 3 (by decide) (hts _ tw_61) rfl d_C_steps_18 ?_
    refine mw_getN (v := .int ((f_C_findWay nr nm s0 (Int32.toNatClampNeg a1)) 4 7)) hx hb hts in_D hown hK.1 hw (4) cC_4 rfl 7 (by decide) (hK.2.1 _ nf_1) rfl d_C_steps_21 ?_
    have e9 : f_C_steps nr nm s0 a1 = ((f_C_findWay nr nm s0 (Int32.toNatClampNeg a1)) 4 7, f_C_findWay nr nm s0 (Int32.toNatClampNeg a1)) := by unfold f_C_steps; exact if_pos h1
    exact mw_iret hx hb hr rfl hw hS (congrArg (fun z => some (Value.int z.1)) e9.symm) ⟨rfl, congrArg (fun z => encC G.2 ad nr nm z.2) e9.symm⟩ hlocks d_C_steps_24
  · skip
    refine W.eq (g2 := F0 m (2 + 3) ls [.null]) (by rw [mVal_n h1]) ?_
    refine lv_astore_nN (lv' := [(2, .null), (0, .ref (ad (0))), (1, .int (a1))]) hx hb d_C_steps_5 rfl hl (by decide) rfl (fun ls hl => ?_)
    refine lv_aload_nN hx hb d_C_steps_6 rfl (lv_at hl 0 rfl) ?_
    refine lv_ifnonnullN hx hb d_C_steps_7 ?_
    refine lv_iconst (v := -1) hx hb d_C_steps_10 (by decide) ?_
    have e9 : f_C_steps nr nm s0 a1 = (-1, s0) := by unfold f_C_steps; exact if_neg h1
    exact mw_iret hx hb hr rfl hw hS (congrArg (fun z => some (Value.int z.1)) e9.symm) ⟨rfl, congrArg (fun z => encC G.2 ad nr nm z.2) e9.symm⟩ hlocks d_C_steps_11

def f_C_update (nr nm : Nat) (s0 : S2) (a1 : Int32) : Int32 × S2 :=
  if rOk nm a1 then
    if (f_C_offerTo nr nm s0 (Int32.toNatClampNeg a1)) = (-1) then
      (f_C_offerTo nr nm s0 (Int32.toNatClampNeg a1), s0)
    else
      (f_C_offerTo nr nm s0 (Int32.toNatClampNeg a1), up2 s0 (58 + (Int32.toNatClampNeg a1)) 3 (f_C_offerTo nr nm s0 (Int32.toNatClampNeg a1)))
  else
    (-1, s0)
set_option maxHeartbeats 4000000 in
set_option maxRecDepth 100000 in
theorem cc_C_update (l : Launch) (G : Gx) (A : Nat → Prop) (ad : Nat → Nat) (nr nm : Nat) (hnr : nr ≤ 16) (hnm : nm ≤ 30) (s0 : S2) (a1 : Int32) (hcnt : s0 0 4 = nI nr) : Met l y_C_update ws_C_update { frames := 5, cells := 0, slots := 0, locals := 114 } (PG G [.ref (ad (0)), .int (a1)] A ad (encC G.2 ad nr nm s0)) (EG G A (some (.int (f_C_update nr nm s0 a1).1)) ad (encC G.2 ad nr nm ((f_C_update nr nm s0 a1).2))) 0 0 A := by
  refine Met.ofW (cc := c_C_update) (maxL := 4) (ret := (some .int)) (by decide) rfl ?_
  intro p e s m args below meth c s₁ B hml hv
  obtain ⟨rfl, hw, hK⟩ := hv
  have hx := B.exec
  have hb := B.bytes
  have hr := B.returns
  have hts : ∀ w ∈ tbG, w.before [.ref (ad (0)), .int (a1)].toArray s = true := fun w h => atoms_spec (ws := ws_C_update) B.pre w (List.mem_cons_of_mem _ h)
  have hown : s.vm.findClass "RollStages" = some m.cls := findClass_of_methodNamed B.named
  have hlocks := B.notSynchronized
  have hS : va_S A s.heap s.heap [] := va_S.rf
  have hw : mwG G A ad (encC G.2 ad nr nm s0) s.heap := hw
  have hl := lv_entry ([.ref (ad (0)), .int (a1)]) (n := 4) (Nat.le_of_ble_eq_true rfl)
  rw [lg_entry_eq]
  generalize (lg_sl ([.ref (ad (0)), .int (a1)]) ++ List.replicate (4 - (lg_sl ([.ref (ad (0)), .int (a1)])).length) Slot.unset).toArray = ls at hl ⊢
  have hl : lv_has ls 4 [(0, .ref (ad (0))), (1, .int (a1))] := hl
  refine lv_aload_n hx hb d_C_update_0 rfl (lv_at hl 0 rfl) ?_
  refine lv_iload_n hx hb d_C_update_1 rfl (lv_at hl 1 rfl) ?_
  refine gV (As := [.int (a1)]) (rest := []) (st1 := [mVal ad nm a1]) ⟨hx, hb, hml, hown, hts⟩ (cc_C_machineAt l G A ad nr nm hnr hnm s0 a1) cC_0 rfl tw_300 tw_297 tw_299 tw_p18 tw_1 hd_C_machineAt rfl rfl ⟨Nat.le_of_ble_eq_true rfl, Nat.le_of_ble_eq_true rfl⟩ hK hw hS hl.1 rfl (Nat.le_of_ble_eq_true rfl) ⟨Nat.zero_le _, Nat.zero_le _⟩ d_C_update_2 rfl (fun H locs hw hS => ?_)
  by_cases h1 : rOk nm a1
  · skip
    refine W.eq (g2 := F0 m (2 + 3) ls [.ref (ad (58 + (Int32.toNatClampNeg a1)))]) (by rw [mVal_p h1]) ?_
    refine lv_astore_n (lv' := [(2, .ref (ad (58 + (Int32.toNatClampNeg a1)))), (0, .ref (ad (0))), (1, .int (a1))]) hx hb d_C_update_5 rfl hl (by decide) rfl (fun ls hl => ?_)
    refine lv_aload_n hx hb d_C_update_6 rfl (lv_at hl 0 rfl) ?_
    refine lv_ifnonnull (tgt := 12) hx hb d_C_update_7 (by decide) ?_
    refine lv_aload_n hx hb d_C_update_12 rfl (lv_at hl 1 rfl) ?_
    refine lv_aload_n hx hb d_C_update_13 rfl (lv_at hl 0 rfl) ?_
    refine gV (As := [.ref (ad (58 + (Int32.toNatClampNeg a1)))]) (rest := []) (st1 := [.int (f_C_offerTo nr nm s0 (Int32.toNatClampNeg a1))]) ⟨hx, hb, hml, hown, hts⟩ (cc_C_offerTo l G A ad nr nm hnr hnm s0 (Int32.toNatClampNeg a1) h1.2 hcnt) cC_0 rfl tw_312 tw_309 tw_311 tw_p19 tw_1 hd_C_offerTo rfl rfl ⟨Nat.le_of_ble_eq_true rfl, Nat.le_of_ble_eq_true rfl⟩ hK hw hS hl.1 rfl (Nat.le_of_ble_eq_true rfl) ⟨Nat.zero_le _, Nat.zero_le _⟩ d_C_update_14 rfl (fun H locs hw hS => ?_)
    refine lv_istore_n (lv' := [(3, .int (f_C_offerTo nr nm s0 (Int32.toNatClampNeg a1))), (2, .ref (ad (58 + (Int32.toNatClampNeg a1)))), (0, .ref (ad (0))), (1, .int (a1))]) hx hb d_C_update_17 rfl hl (by decide) rfl (fun ls hl => ?_)
    refine lv_iload_n hx hb d_C_update_18 rfl (lv_at hl 0 rfl) ?_
    refine lv_iconst (v := -1) hx hb d_C_update_19 (by decide) ?_
    refine lv_icmp_eq (tgt := 28) hx hb d_C_update_20 (by decide) (fun h2 => ?_) (fun h2 => ?_)
    · skip
      refine lv_iload_n hx hb d_C_update_28 rfl (lv_at hl 0 rfl) ?_
      have e9 : f_C_update nr nm s0 a1 = (f_C_offerTo nr nm s0 (Int32.toNatClampNeg a1), s0) := by unfold f_C_update; exact (if_pos h1).trans (if_pos h2)
      exact mw_iret hx hb hr rfl hw hS (congrArg (fun z => some (Value.int z.1)) e9.symm) ⟨rfl, congrArg (fun z => encC G.2 ad nr nm z.2) e9.symm⟩ hlocks d_C_update_29
    · skip
      refine lv_aload_n hx hb d_C_update_23 rfl (lv_at hl 1 rfl) ?_
      refine lv_iload_n hx hb d_C_update_24 rfl (lv_at hl 0 rfl) ?_
      refine mw_putN (v := .int (f_C_offerTo nr nm s0 (Int32.toNatClampNeg a1))) hx hb hts in_M ty_M ty_M_ok n_M hown hK.1 hw hS (58 + (Int32.toNatClampNeg a1)) (cC_mac h1.2) rfl 3 (by decide) (hK.2.1 _ nf_10) rfl rfl rfl (Nat.le_of_ble_eq_true rfl) d_C_update_25 (fun H locs hw hS => ?_)
      replace hw := mw_encC (r := upd (s0 (58 + (Int32.toNatClampNeg a1))) 3 (f_C_offerTo nr nm s0 (Int32.toNatClampNeg a1))) hw (cC_mac h1.2)
      have hw : mwG G A ad (encC G.2 ad nr nm (up2 s0 (58 + (Int32.toNatClampNeg a1)) 3 (f_C_offerTo nr nm s0 (Int32.toNatClampNeg a1)))) H := hw
      refine lv_iload_n hx hb d_C_update_28 rfl (lv_at hl 0 rfl) ?_
      have e9 : f_C_update nr nm s0 a1 = (f_C_offerTo nr nm s0 (Int32.toNatClampNeg a1), up2 s0 (58 + (Int32.toNatClampNeg a1)) 3 (f_C_offerTo nr nm s0 (Int32.toNatClampNeg a1))) := by unfold f_C_update; exact (if_pos h1).trans (if_neg h2)
      exact mw_iret hx hb hr rfl hw hS (congrArg (fun z => some (Value.int z.1)) e9.symm) ⟨rfl, congrArg (fun z => encC G.2 ad nr nm z.2) e9.symm⟩ hlocks d_C_update_29
  · skip
    refine W.eq (g2 := F0 m (2 + 3) ls [.null]) (by rw [mVal_n h1]) ?_
    refine lv_astore_nN (lv' := [(2, .null), (0, .ref (ad (0))), (1, .int (a1))]) hx hb d_C_update_5 rfl hl (by decide) rfl (fun ls hl => ?_)
    refine lv_aload_nN hx hb d_C_update_6 rfl (lv_at hl 0 rfl) ?_
    refine lv_ifnonnullN hx hb d_C_update_7 ?_
    refine lv_iconst (v := -1) hx hb d_C_update_10 (by decide) ?_
    have e9 : f_C_update nr nm s0 a1 = (-1, s0) := by unfold f_C_update; exact if_neg h1
    exact mw_iret hx hb hr rfl hw hS (congrArg (fun z => some (Value.int z.1)) e9.symm) ⟨rfl, congrArg (fun z => encC G.2 ad nr nm z.2) e9.symm⟩ hlocks d_C_update_11

def f_C_has (nr nm : Nat) (s0 : S2) (a1 : Int32) : Int32 :=
  if rOk nm a1 then
    s0 (58 + (Int32.toNatClampNeg a1)) 3
  else
    -1
set_option maxHeartbeats 4000000 in
set_option maxRecDepth 100000 in
theorem cc_C_has (l : Launch) (G : Gx) (A : Nat → Prop) (ad : Nat → Nat) (nr nm : Nat) (hnr : nr ≤ 16) (hnm : nm ≤ 30) (s0 : S2) (a1 : Int32) : Met l y_C_has ws_C_has { frames := 2, cells := 0, slots := 0, locals := 43 } (PG G [.ref (ad (0)), .int (a1)] A ad (encC G.2 ad nr nm s0)) (EG G A (some (.int (f_C_has nr nm s0 a1))) ad (encC G.2 ad nr nm s0)) 0 0 A := by
  refine Met.ofW (cc := c_C_has) (maxL := 3) (ret := (some .int)) (by decide) rfl ?_
  intro p e s m args below meth c s₁ B hml hv
  obtain ⟨rfl, hw, hK⟩ := hv
  have hx := B.exec
  have hb := B.bytes
  have hr := B.returns
  have hts : ∀ w ∈ tbG, w.before [.ref (ad (0)), .int (a1)].toArray s = true := fun w h => atoms_spec (ws := ws_C_has) B.pre w (List.mem_cons_of_mem _ h)
  have hown : s.vm.findClass "RollStages" = some m.cls := findClass_of_methodNamed B.named
  have hlocks := B.notSynchronized
  have hS : va_S A s.heap s.heap [] := va_S.rf
  have hw : mwG G A ad (encC G.2 ad nr nm s0) s.heap := hw
  have hl := lv_entry ([.ref (ad (0)), .int (a1)]) (n := 3) (Nat.le_of_ble_eq_true rfl)
  rw [lg_entry_eq]
  generalize (lg_sl ([.ref (ad (0)), .int (a1)]) ++ List.replicate (3 - (lg_sl ([.ref (ad (0)), .int (a1)])).length) Slot.unset).toArray = ls at hl ⊢
  have hl : lv_has ls 3 [(0, .ref (ad (0))), (1, .int (a1))] := hl
  refine lv_aload_n hx hb d_C_has_0 rfl (lv_at hl 0 rfl) ?_
  refine lv_iload_n hx hb d_C_has_1 rfl (lv_at hl 1 rfl) ?_
  refine gV (As := [.int (a1)]) (rest := []) (st1 := [mVal ad nm a1]) ⟨hx, hb, hml, hown, hts⟩ (cc_C_machineAt l G A ad nr nm hnr hnm s0 a1) cC_0 rfl tw_300 tw_297 tw_299 tw_p18 tw_1 hd_C_machineAt rfl rfl ⟨Nat.le_of_ble_eq_true rfl, Nat.le_of_ble_eq_true rfl⟩ hK hw hS hl.1 rfl (Nat.le_of_ble_eq_true rfl) ⟨Nat.zero_le _, Nat.zero_le _⟩ d_C_has_2 rfl (fun H locs hw hS => ?_)
  by_cases h1 : rOk nm a1
  · skip
    refine W.eq (g2 := F0 m (2 + 3) ls [.ref (ad (58 + (Int32.toNatClampNeg a1)))]) (by rw [mVal_p h1]) ?_
    refine lv_astore_n (lv' := [(2, .ref (ad (58 + (Int32.toNatClampNeg a1)))), (0, .ref (ad (0))), (1, .int (a1))]) hx hb d_C_has_5 rfl hl (by decide) rfl (fun ls hl => ?_)
    refine lv_aload_n hx hb d_C_has_6 rfl (lv_at hl 0 rfl) ?_
    refine lv_ifnonnull (tgt := 14) hx hb d_C_has_7 (by decide) ?_
    refine lv_aload_n hx hb d_C_has_14 rfl (lv_at hl 0 rfl) ?_
    refine mw_getN (v := .int (s0 (58 + (Int32.toNatClampNeg a1)) 3)) hx hb hts in_M hown hK.1 hw (58 + (Int32.toNatClampNeg a1)) (cC_mac h1.2) rfl 3 (by decide) (hK.2.1 _ nf_10) rfl d_C_has_15 ?_
    have e9 : f_C_has nr nm s0 a1 = s0 (58 + (Int32.toNatClampNeg a1)) 3 := by unfold f_C_has; exact if_pos h1
    exact mw_iret hx hb hr rfl hw hS (congrArg (fun z => some (Value.int z)) e9.symm) ⟨rfl, rfl⟩ hlocks d_C_has_18
  · skip
    refine W.eq (g2 := F0 m (2 + 3) ls [.null]) (by rw [mVal_n h1]) ?_
    refine lv_astore_nN (lv' := [(2, .null), (0, .ref (ad (0))), (1, .int (a1))]) hx hb d_C_has_5 rfl hl (by decide) rfl (fun ls hl => ?_)
    refine lv_aload_nN hx hb d_C_has_6 rfl (lv_at hl 0 rfl) ?_
    refine lv_ifnonnullN hx hb d_C_has_7 ?_
    refine lv_iconst (v := -1) hx hb d_C_has_10 (by decide) ?_
    refine lv_goto (tgt := 18) hx hb d_C_has_11 (by decide) ?_
    have e9 : f_C_has nr nm s0 a1 = -1 := by unfold f_C_has; exact if_neg h1
    exact mw_iret hx hb hr rfl hw hS (congrArg (fun z => some (Value.int z)) e9.symm) ⟨rfl, rfl⟩ hlocks d_C_has_18

def g_C_tick (nr nm : Nat) (a1 : Int32) : Nat → S2 → Int32 → Int32 → Int32 × S2
  | 0, s1, _, _ => (0, s1)
  | n + 1, s1, x2, x3 =>
    if (s1 0 4) ≤ x3 then
      ((up2 s1 (0) 6 x2) 0 6, up2 s1 (0) 6 x2)
    else
      if rOk nr x3 then
        g_C_tick nr nm a1 n (f_R_passTicks s1 (Int32.toNatClampNeg x3) (s1 0 6) x2) x2 (x3 + 1)
      else
        g_C_tick nr nm a1 n s1 x2 (x3 + 1)
def f_C_tick (nr nm : Nat) (s0 : S2) (a1 : Int32) : Int32 × S2 :=
  if (f_C_within a1 0 2000) = 0 then
    (-1, s0)
  else
    g_C_tick nr nm a1 17 s0 ((s0 0 6) + a1) 0
set_option maxHeartbeats 4000000 in
set_option maxRecDepth 100000 in
theorem cc_C_tick (l : Launch) (G : Gx) (A : Nat → Prop) (ad : Nat → Nat) (nr nm : Nat) (hnr : nr ≤ 16) (hnm : nm ≤ 30) (s0 : S2) (a1 : Int32) (hcnt : s0 0 4 = nI nr) : Met l y_C_tick ws_C_tick { frames := 4, cells := 0, slots := 0, locals := 85 } (PG G [.ref (ad (0)), .int (a1)] A ad (encC G.2 ad nr nm s0)) (EG G A (some (.int (f_C_tick nr nm s0 a1).1)) ad (encC G.2 ad nr nm ((f_C_tick nr nm s0 a1).2))) 0 0 A := by
  refine Met.ofW (cc := c_C_tick) (maxL := 5) (ret := (some .int)) (by decide) rfl ?_
  intro p e s m args below meth c s₁ B hml hv
  obtain ⟨rfl, hw, hK⟩ := hv
  have hx := B.exec
  have hb := B.bytes
  have hr := B.returns
  have hts : ∀ w ∈ tbG, w.before [.ref (ad (0)), .int (a1)].toArray s = true := fun w h => atoms_spec (ws := ws_C_tick) B.pre w (List.mem_cons_of_mem _ h)
  have hown : s.vm.findClass "RollStages" = some m.cls := findClass_of_methodNamed B.named
  have hlocks := B.notSynchronized
  have hS : va_S A s.heap s.heap [] := va_S.rf
  have hw : mwG G A ad (encC G.2 ad nr nm s0) s.heap := hw
  have loop : ∀ (n : Nat) (s1 : S2) (x2 : Int32) (x3 : Int32), s1 0 4 = nI nr ∧ 0 ≤ x3.toInt ∧ x3.toInt ≤ nr ∧ 17 ≤ x3.toInt + n → ∀ (H : Heap) (locs : List Loc) (ls : Array Slot), mwG G A ad (encC G.2 ad nr nm s1) H → va_S A s.heap H locs → lv_has ls 5 [(0, .ref (ad (0))), (1, .int (a1)), (2, .int (x2)), (3, .int (x3))] → W p l e (headSpec ws_C_tick { frames := 4, cells := 0, slots := 0, locals := 85 }).room s m [.ref (ad (0)), .int (a1)].toArray below meth c H locs 0 0 (MQ below (EG G A (some (.int (g_C_tick nr nm a1 n s1 x2 x3).1)) ad (encC G.2 ad nr nm ((g_C_tick nr nm a1 n s1 x2 x3).2))) [.ref (ad (0)), .int (a1)].toArray s 0 0 A) (F0 m 22 ls []) := by
    intro n
    induction n with
    | zero =>
      intro s1 x2 x3 hI
      exact absurd hI.2 (by omega)
    | succ n ih =>
      intro s1 x2 x3 hI H locs ls hw hS hl
      refine lv_iload_n hx hb d_C_tick_22 rfl (lv_at hl 3 rfl) ?_
      refine lv_aload_n hx hb d_C_tick_23 rfl (lv_at hl 0 rfl) ?_
      refine mw_get (v := .int (s1 0 4)) hx hb hts in_C hown hK.1 hw (0) cC_0 rfl 4 (by decide) (hts _ tw_62) rfl d_C_tick_24 ?_
      refine lv_icmp_ge (tgt := 58) hx hb d_C_tick_27 (by decide) (fun h501 => ?_) (fun h501 => ?_)
      · skip
        refine lv_aload_n hx hb d_C_tick_58 rfl (lv_at hl 0 rfl) ?_
        refine lv_iload_n hx hb d_C_tick_59 rfl (lv_at hl 2 rfl) ?_
        refine mw_put (v := .int (x2)) hx hb hts in_C ty_C ty_C_ok n_C hown hK.1 hw hS (0) cC_0 rfl 6 (by decide) (hts _ tw_64) rfl rfl rfl (Nat.le_of_ble_eq_true rfl) d_C_tick_60 (fun H locs hw hS => ?_)
        replace hw := mw_encC (r := upd (s1 (0)) 6 x2) hw cC_0
        have hw : mwG G A ad (encC G.2 ad nr nm (up2 s1 (0) 6 x2)) H := hw
        refine lv_aload_n hx hb d_C_tick_63 rfl (lv_at hl 0 rfl) ?_
        refine mw_get (v := .int ((up2 s1 (0) 6 x2) 0 6)) hx hb hts in_C hown hK.1 hw (0) cC_0 rfl 6 (by decide) (hts _ tw_64) rfl d_C_tick_64 ?_
        have e9 : g_C_tick nr nm a1 (n + 1) s1 x2 x3 = ((up2 s1 (0) 6 x2) 0 6, up2 s1 (0) 6 x2) := by rw [g_C_tick]; exact if_pos h501
        exact mw_iret hx hb hr rfl hw hS (congrArg (fun z => some (Value.int z.1)) e9.symm) ⟨rfl, congrArg (fun z => encC G.2 ad nr nm z.2) e9.symm⟩ hlocks d_C_tick_67
      · skip
        refine lv_aload_n hx hb d_C_tick_30 rfl (lv_at hl 0 rfl) ?_
        refine lv_iload_n hx hb d_C_tick_31 rfl (lv_at hl 3 rfl) ?_
        refine gV (As := [.int (x3)]) (rest := []) (st1 := [rVal ad nr x3]) ⟨hx, hb, hml, hown, hts⟩ (cc_C_releaseAt l G A ad nr nm hnr hnm s1 x3) cC_0 rfl tw_151 tw_148 tw_150 tw_p0 tw_1 hd_C_releaseAt rfl rfl ⟨Nat.le_of_ble_eq_true rfl, Nat.le_of_ble_eq_true rfl⟩ hK hw hS hl.1 rfl (Nat.le_of_ble_eq_true rfl) ⟨Nat.zero_le _, Nat.zero_le _⟩ d_C_tick_32 rfl (fun H locs hw hS => ?_)
        by_cases h502 : rOk nr x3
        · skip
          refine W.eq (g2 := F0 m (32 + 3) ls [.ref (ad (10 + 3 * (Int32.toNatClampNeg x3)))]) (by rw [rVal_p h502]) ?_
          refine lv_astore (lv' := [(4, .ref (ad (10 + 3 * (Int32.toNatClampNeg x3)))), (0, .ref (ad (0))), (1, .int (a1)), (2, .int (x2)), (3, .int (x3))]) hx hb d_C_tick_35 hl (by decide) rfl (fun ls hl => ?_)
          refine lv_aload hx hb d_C_tick_37 (lv_at hl 0 rfl) ?_
          refine lv_ifnull hx hb d_C_tick_39 ?_
          refine lv_aload hx hb d_C_tick_42 (lv_at hl 0 rfl) ?_
          refine lv_aload_n hx hb d_C_tick_44 rfl (lv_at hl 1 rfl) ?_
          refine mw_get (v := .int (s1 0 6)) hx hb hts in_C hown hK.1 hw (0) cC_0 rfl 6 (by decide) (hts _ tw_64) rfl d_C_tick_45 ?_
          refine lv_iload_n hx hb d_C_tick_48 rfl (lv_at hl 3 rfl) ?_
          refine gVN (As := [.int (s1 0 6), .int (x2)]) (rest := []) (st1 := []) ⟨hx, hb, hml, hown, hts⟩ (cc_R_passTicks l G A ad nr nm hnr hnm s1 (Int32.toNatClampNeg x3) h502.2 (s1 0 6) x2) (cC_rel hnr h502.2) rfl tw_216 nw_10 tw_215 tw_p10 tw_5 hd_R_passTicks rfl rfl ⟨Nat.le_of_ble_eq_true rfl, Nat.le_of_ble_eq_true rfl⟩ hK hw hS hl.1 rfl (Nat.le_of_ble_eq_true rfl) ⟨Nat.zero_le _, Nat.zero_le _⟩ d_C_tick_49 rfl (fun H locs hw hS => ?_)
          refine lv_iinc (v := x3 + 1) (lv' := [(3, .int (x3 + 1)), (4, .ref (ad (10 + 3 * (Int32.toNatClampNeg x3)))), (0, .ref (ad (0))), (1, .int (a1)), (2, .int (x2))]) hx hb d_C_tick_52 hl (k := 4) rfl (by first | rfl | decide) (by decide) rfl (fun ls hl => ?_)
          refine lv_goto (tgt := 22) hx hb d_C_tick_55 (by decide) ?_
          have e9 : g_C_tick nr nm a1 (n + 1) s1 x2 x3 = g_C_tick nr nm a1 n (f_R_passTicks s1 (Int32.toNatClampNeg x3) (s1 0 6) x2) x2 (x3 + 1) := by rw [g_C_tick]; exact (if_neg h501).trans (if_pos h502)
          rw [e9]
          exact ih (f_R_passTicks s1 (Int32.toNatClampNeg x3) (s1 0 6) x2) x2 (x3 + 1) ⟨by first | exact hI.1 | (rw [pt_fr (by omega)]; exact hI.1), tk_S hnr hI h501⟩ _ _ _ hw hS (lv_sub hl [2, 3, 4, 0] rfl)
        · skip
          refine W.eq (g2 := F0 m (32 + 3) ls [.null]) (by rw [rVal_n h502]) ?_
          refine lv_astoreN (lv' := [(4, .null), (0, .ref (ad (0))), (1, .int (a1)), (2, .int (x2)), (3, .int (x3))]) hx hb d_C_tick_35 hl (by decide) rfl (fun ls hl => ?_)
          refine lv_aloadN hx hb d_C_tick_37 (lv_at hl 0 rfl) ?_
          refine lv_ifnullN (tgt := 52) hx hb d_C_tick_39 (by decide) ?_
          refine lv_iinc (v := x3 + 1) (lv' := [(3, .int (x3 + 1)), (4, .null), (0, .ref (ad (0))), (1, .int (a1)), (2, .int (x2))]) hx hb d_C_tick_52 hl (k := 4) rfl (by first | rfl | decide) (by decide) rfl (fun ls hl => ?_)
          refine lv_goto (tgt := 22) hx hb d_C_tick_55 (by decide) ?_
          have e9 : g_C_tick nr nm a1 (n + 1) s1 x2 x3 = g_C_tick nr nm a1 n s1 x2 (x3 + 1) := by rw [g_C_tick]; exact (if_neg h501).trans (if_neg h502)
          rw [e9]
          exact ih s1 x2 (x3 + 1) ⟨by first | exact hI.1 | (rw [pt_fr (by omega)]; exact hI.1), tk_S hnr hI h501⟩ _ _ _ hw hS (lv_sub hl [2, 3, 4, 0] rfl)
  have hl := lv_entry ([.ref (ad (0)), .int (a1)]) (n := 5) (Nat.le_of_ble_eq_true rfl)
  rw [lg_entry_eq]
  generalize (lg_sl ([.ref (ad (0)), .int (a1)]) ++ List.replicate (5 - (lg_sl ([.ref (ad (0)), .int (a1)])).length) Slot.unset).toArray = ls at hl ⊢
  have hl : lv_has ls 5 [(0, .ref (ad (0))), (1, .int (a1))] := hl
  refine lv_iload_n hx hb d_C_tick_0 rfl (lv_at hl 1 rfl) ?_
  refine lv_iconst (v := 0) hx hb d_C_tick_1 (by decide) ?_
  refine lv_sipush (v := 2000) hx hb d_C_tick_2 (by decide) ?_
  refine gS (As := [.int (a1), .int (0), .int (2000)]) (rest := []) (st1 := [.int (f_C_within a1 0 2000)]) ⟨hx, hb, hml, hown, hts⟩ (cc_C_within l G A ad nr nm hnr hnm s0 a1 0 2000) tw_89 tw_87 tw_88 tw_1 hd_C_within rfl rfl ⟨Nat.le_of_ble_eq_true rfl, Nat.le_of_ble_eq_true rfl⟩ hK hw hS hl.1 rfl (Nat.le_of_ble_eq_true rfl) ⟨Nat.zero_le _, Nat.zero_le _⟩ d_C_tick_5 rfl (fun H locs hw hS => ?_)
  refine lv_if_ne (tgt := 13) hx hb d_C_tick_8 (by decide) (fun h1 => ?_) (fun h1 => ?_)
  · skip
    refine lv_aload_n hx hb d_C_tick_13 rfl (lv_at hl 0 rfl) ?_
    refine mw_get (v := .int (s0 0 6)) hx hb hts in_C hown hK.1 hw (0) cC_0 rfl 6 (by decide) (hts _ tw_64) rfl d_C_tick_14 ?_
    refine lv_iload_n hx hb d_C_tick_17 rfl (lv_at hl 1 rfl) ?_
    refine lv_iadd hx hb d_C_tick_18 ?_
    refine lv_istore_n (lv' := [(2, .int ((s0 0 6) + a1)), (0, .ref (ad (0))), (1, .int (a1))]) hx hb d_C_tick_19 rfl hl (by decide) rfl (fun ls hl => ?_)
    refine lv_iconst (v := 0) hx hb d_C_tick_20 (by decide) ?_
    refine lv_istore_n (lv' := [(3, .int (0)), (2, .int ((s0 0 6) + a1)), (0, .ref (ad (0))), (1, .int (a1))]) hx hb d_C_tick_21 rfl hl (by decide) rfl (fun ls hl => ?_)
    have e9 : f_C_tick nr nm s0 a1 = g_C_tick nr nm a1 17 s0 ((s0 0 6) + a1) 0 := by unfold f_C_tick; exact if_neg h1
    rw [e9]
    exact loop 17 s0 ((s0 0 6) + a1) 0 ⟨hcnt, by decide, Int.ofNat_nonneg _, by decide⟩ _ _ _ hw hS (lv_sub hl [2, 3, 1, 0] rfl)
  · skip
    refine lv_iconst (v := -1) hx hb d_C_tick_11 (by decide) ?_
    have e9 : f_C_tick nr nm s0 a1 = (-1, s0) := by unfold f_C_tick; exact if_pos h1
    exact mw_iret hx hb hr rfl hw hS (congrArg (fun z => some (Value.int z.1)) e9.symm) ⟨rfl, congrArg (fun z => encC G.2 ad nr nm z.2) e9.symm⟩ hlocks d_C_tick_12

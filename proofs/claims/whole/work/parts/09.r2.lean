def f_R_rollAt (s0 : S2) (i : Nat) (a1 : Int32) (a2 : Int32) : S2 :=
  up2 (up2 (up2 (up2 (up2 (up2 s0 (10 + 3 * i) 8 1) (10 + 3 * i) 9 0) (10 + 3 * i) 10 a1) (10 + 3 * i) 11 a2) (10 + 3 * i) 12 0) (10 + 3 * i) 13 0
set_option maxHeartbeats 4000000 in
set_option maxRecDepth 100000 in
theorem cc_R_rollAt (l : Launch) (G : Gx) (A : Nat → Prop) (ad : Nat → Nat) (nr nm : Nat) (hnr : nr ≤ 16) (hnm : nm ≤ 30) (s0 : S2) (i : Nat) (hi : i < nr) (a1 : Int32) (a2 : Int32) : Met l y_R_rollAt ws_R_rollAt { frames := 0, cells := 0, slots := 0, locals := 0 } (PG G [.ref (ad (10 + 3 * i)), .int (a1), .int (a2)] A ad (encC G.2 ad nr nm s0)) (EG G A none ad (encC G.2 ad nr nm (f_R_rollAt s0 i a1 a2))) 0 0 A := by
  refine Met.ofW (cc := c_R_rollAt) (maxL := 3) (ret := none) (by decide) rfl ?_
  intro p e s m args below meth c s₁ B hml hv
  obtain ⟨rfl, hw, hK⟩ := hv
  have hx := B.exec
  have hb := B.bytes
  have hr := B.returns
  have hts : ∀ w ∈ tbG, w.before [.ref (ad (10 + 3 * i)), .int (a1), .int (a2)].toArray s = true := fun w h => atoms_spec (ws := ws_R_rollAt) B.pre w (List.mem_cons_of_mem _ h)
  have hown : s.vm.findClass "RollStages$Release" = some m.cls := findClass_of_methodNamed B.named
  have hlocks := B.notSynchronized
  have hS : va_S A s.heap s.heap [] := va_S.rf
  have hw : mwG G A ad (encC G.2 ad nr nm s0) s.heap := hw
  have hl := lv_entry ([.ref (ad (10 + 3 * i)), .int (a1), .int (a2)]) (n := 3) (Nat.le_of_ble_eq_true rfl)
  rw [lg_entry_eq]
  generalize (lg_sl ([.ref (ad (10 + 3 * i)), .int (a1), .int (a2)]) ++ List.replicate (3 - (lg_sl ([.ref (ad (10 + 3 * i)), .int (a1), .int (a2)])).length) Slot.unset).toArray = ls at hl ⊢
  have hl : lv_has ls 3 [(0, .ref (ad (10 + 3 * i))), (1, .int (a1)), (2, .int (a2))] := hl
  refine lv_aload_n hx hb d_R_rollAt_0 rfl (lv_at hl 0 rfl) ?_
  refine lv_iconst (v := 1) hx hb d_R_rollAt_1 (by decide) ?_
  refine mw_put (v := .int (1)) hx hb hts in_R ty_R ty_R_ok n_R hown hK.1 hw hS (10 + 3 * i) (cC_rel hnr hi) rfl 8 (by decide) (hts _ tw_106) rfl rfl rfl (Nat.le_of_ble_eq_true rfl) d_R_rollAt_2 (fun H locs hw hS => ?_)
  replace hw := mw_encC (r := upd (s0 (10 + 3 * i)) 8 1) hw (cC_rel hnr hi)
  have hw : mwG G A ad (encC G.2 ad nr nm (up2 s0 (10 + 3 * i) 8 1)) H := hw
  refine lv_aload_n hx hb d_R_rollAt_5 rfl (lv_at hl 0 rfl) ?_
  refine lv_iconst (v := 0) hx hb d_R_rollAt_6 (by decide) ?_
  refine mw_put (v := .int (0)) hx hb hts in_R ty_R ty_R_ok n_R hown hK.1 hw hS (10 + 3 * i) (cC_rel hnr hi) rfl 9 (by decide) (hts _ tw_109) rfl rfl rfl (Nat.le_of_ble_eq_true rfl) d_R_rollAt_7 (fun H locs hw hS => ?_)
  replace hw := mw_encC (r := upd ((up2 s0 (10 + 3 * i) 8 1) (10 + 3 * i)) 9 0) hw (cC_rel hnr hi)
  have hw : mwG G A ad (encC G.2 ad nr nm (up2 (up2 s0 (10 + 3 * i) 8 1) (10 + 3 * i) 9 0)) H := hw
  refine lv_aload_n hx hb d_R_rollAt_10 rfl (lv_at hl 0 rfl) ?_
  refine lv_iload_n hx hb d_R_rollAt_11 rfl (lv_at hl 1 rfl) ?_
  refine mw_put (v := .int (a1)) hx hb hts in_R ty_R ty_R_ok n_R hown hK.1 hw hS (10 + 3 * i) (cC_rel hnr hi) rfl 10 (by decide) (hts _ tw_111) rfl rfl rfl (Nat.le_of_ble_eq_true rfl) d_R_rollAt_12 (fun H locs hw hS => ?_)
  replace hw := mw_encC (r := upd ((up2 (up2 s0 (10 + 3 * i) 8 1) (10 + 3 * i) 9 0) (10 + 3 * i)) 10 a1) hw (cC_rel hnr hi)
  have hw : mwG G A ad (encC G.2 ad nr nm (up2 (up2 (up2 s0 (10 + 3 * i) 8 1) (10 + 3 * i) 9 0) (10 + 3 * i) 10 a1)) H := hw
  refine lv_aload_n hx hb d_R_rollAt_15 rfl (lv_at hl 0 rfl) ?_
  refine lv_iload_n hx hb d_R_rollAt_16 rfl (lv_at hl 2 rfl) ?_
  refine mw_put (v := .int (a2)) hx hb hts in_R ty_R ty_R_ok n_R hown hK.1 hw hS (10 + 3 * i) (cC_rel hnr hi) rfl 11 (by decide) (hts _ tw_112) rfl rfl rfl (Nat.le_of_ble_eq_true rfl) d_R_rollAt_17 (fun H locs hw hS => ?_)
  replace hw := mw_encC (r := upd ((up2 (up2 (up2 s0 (10 + 3 * i) 8 1) (10 + 3 * i) 9 0) (10 + 3 * i) 10 a1) (10 + 3 * i)) 11 a2) hw (cC_rel hnr hi)
  have hw : mwG G A ad (encC G.2 ad nr nm (up2 (up2 (up2 (up2 s0 (10 + 3 * i) 8 1) (10 + 3 * i) 9 0) (10 + 3 * i) 10 a1) (10 + 3 * i) 11 a2)) H := hw
  refine lv_aload_n hx hb d_R_rollAt_20 rfl (lv_at hl 0 rfl) ?_
  refine lv_iconst (v := 0) hx hb d_R_rollAt_21 (by decide) ?_
  refine mw_put (v := .int (0)) hx hb hts in_R ty_R ty_R_ok n_R hown hK.1 hw hS (10 + 3 * i) (cC_rel hnr hi) rfl 12 (by decide) (hts _ tw_113) rfl rfl rfl (Nat.le_of_ble_eq_true rfl) d_R_rollAt_22 (fun H locs hw hS => ?_)
  replace hw := mw_encC (r := upd ((up2 (up2 (up2 (up2 s0 (10 + 3 * i) 8 1) (10 + 3 * i) 9 0) (10 + 3 * i) 10 a1) (10 + 3 * i) 11 a2) (10 + 3 * i)) 12 0) hw (cC_rel hnr hi)
  have hw : mwG G A ad (encC G.2 ad nr nm (up2 (up2 (up2 (up2 (up2 s0 (10 + 3 * i) 8 1) (10 + 3 * i) 9 0) (10 + 3 * i) 10 a1) (10 + 3 * i) 11 a2) (10 + 3 * i) 12 0)) H := hw
  refine lv_aload_n hx hb d_R_rollAt_25 rfl (lv_at hl 0 rfl) ?_
  refine lv_iconst (v := 0) hx hb d_R_rollAt_26 (by decide) ?_
  refine mw_put (v := .int (0)) hx hb hts in_R ty_R ty_R_ok n_R hown hK.1 hw hS (10 + 3 * i) (cC_rel hnr hi) rfl 13 (by decide) (hts _ tw_114) rfl rfl rfl (Nat.le_of_ble_eq_true rfl) d_R_rollAt_27 (fun H locs hw hS => ?_)
  replace hw := mw_encC (r := upd ((up2 (up2 (up2 (up2 (up2 s0 (10 + 3 * i) 8 1) (10 + 3 * i) 9 0) (10 + 3 * i) 10 a1) (10 + 3 * i) 11 a2) (10 + 3 * i) 12 0) (10 + 3 * i)) 13 0) hw (cC_rel hnr hi)
  have hw : mwG G A ad (encC G.2 ad nr nm (up2 (up2 (up2 (up2 (up2 (up2 s0 (10 + 3 * i) 8 1) (10 + 3 * i) 9 0) (10 + 3 * i) 10 a1) (10 + 3 * i) 11 a2) (10 + 3 * i) 12 0) (10 + 3 * i) 13 0)) H := hw
  have e9 : f_R_rollAt s0 i a1 a2 = up2 (up2 (up2 (up2 (up2 (up2 s0 (10 + 3 * i) 8 1) (10 + 3 * i) 9 0) (10 + 3 * i) 10 a1) (10 + 3 * i) 11 a2) (10 + 3 * i) 12 0) (10 + 3 * i) 13 0 := by unfold f_R_rollAt; exact rfl
  exact mw_vret hx hb hr hw hS ⟨rfl, congrArg (fun z => encC G.2 ad nr nm z) e9.symm⟩ hlocks d_R_rollAt_30

def f_R_holdFor (s0 : S2) (i : Nat) (a1 : Int32) : S2 :=
  up2 (up2 s0 (10 + 3 * i) 8 2) (10 + 3 * i) 9 a1
set_option maxHeartbeats 4000000 in
set_option maxRecDepth 100000 in
theorem cc_R_holdFor (l : Launch) (G : Gx) (A : Nat → Prop) (ad : Nat → Nat) (nr nm : Nat) (hnr : nr ≤ 16) (hnm : nm ≤ 30) (s0 : S2) (i : Nat) (hi : i < nr) (a1 : Int32) : Met l y_R_holdFor ws_R_holdFor { frames := 0, cells := 0, slots := 0, locals := 0 } (PG G [.ref (ad (10 + 3 * i)), .int (a1)] A ad (encC G.2 ad nr nm s0)) (EG G A none ad (encC G.2 ad nr nm (f_R_holdFor s0 i a1))) 0 0 A := by
  refine Met.ofW (cc := c_R_holdFor) (maxL := 2) (ret := none) (by decide) rfl ?_
  intro p e s m args below meth c s₁ B hml hv
  obtain ⟨rfl, hw, hK⟩ := hv
  have hx := B.exec
  have hb := B.bytes
  have hr := B.returns
  have hts : ∀ w ∈ tbG, w.before [.ref (ad (10 + 3 * i)), .int (a1)].toArray s = true := fun w h => atoms_spec (ws := ws_R_holdFor) B.pre w (List.mem_cons_of_mem _ h)
  have hown : s.vm.findClass "RollStages$Release" = some m.cls := findClass_of_methodNamed B.named
  have hlocks := B.notSynchronized
  have hS : va_S A s.heap s.heap [] := va_S.rf
  have hw : mwG G A ad (encC G.2 ad nr nm s0) s.heap := hw
  have hl := lv_entry ([.ref (ad (10 + 3 * i)), .int (a1)]) (n := 2) (Nat.le_of_ble_eq_true rfl)
  rw [lg_entry_eq]
  generalize (lg_sl ([.ref (ad (10 + 3 * i)), .int (a1)]) ++ List.replicate (2 - (lg_sl ([.ref (ad (10 + 3 * i)), .int (a1)])).length) Slot.unset).toArray = ls at hl ⊢
  have hl : lv_has ls 2 [(0, .ref (ad (10 + 3 * i))), (1, .int (a1))] := hl
  refine lv_aload_n hx hb d_R_holdFor_0 rfl (lv_at hl 0 rfl) ?_
  refine lv_iconst (v := 2) hx hb d_R_holdFor_1 (by decide) ?_
  refine mw_put (v := .int (2)) hx hb hts in_R ty_R ty_R_ok n_R hown hK.1 hw hS (10 + 3 * i) (cC_rel hnr hi) rfl 8 (by decide) (hts _ tw_106) rfl rfl rfl (Nat.le_of_ble_eq_true rfl) d_R_holdFor_2 (fun H locs hw hS => ?_)
  replace hw := mw_encC (r := upd (s0 (10 + 3 * i)) 8 2) hw (cC_rel hnr hi)
  have hw : mwG G A ad (encC G.2 ad nr nm (up2 s0 (10 + 3 * i) 8 2)) H := hw
  refine lv_aload_n hx hb d_R_holdFor_5 rfl (lv_at hl 0 rfl) ?_
  refine lv_iload_n hx hb d_R_holdFor_6 rfl (lv_at hl 1 rfl) ?_
  refine mw_put (v := .int (a1)) hx hb hts in_R ty_R ty_R_ok n_R hown hK.1 hw hS (10 + 3 * i) (cC_rel hnr hi) rfl 9 (by decide) (hts _ tw_109) rfl rfl rfl (Nat.le_of_ble_eq_true rfl) d_R_holdFor_7 (fun H locs hw hS => ?_)
  replace hw := mw_encC (r := upd ((up2 s0 (10 + 3 * i) 8 2) (10 + 3 * i)) 9 a1) hw (cC_rel hnr hi)
  have hw : mwG G A ad (encC G.2 ad nr nm (up2 (up2 s0 (10 + 3 * i) 8 2) (10 + 3 * i) 9 a1)) H := hw
  have e9 : f_R_holdFor s0 i a1 = up2 (up2 s0 (10 + 3 * i) 8 2) (10 + 3 * i) 9 a1 := by unfold f_R_holdFor; exact rfl
  exact mw_vret hx hb hr hw hS ⟨rfl, congrArg (fun z => encC G.2 ad nr nm z) e9.symm⟩ hlocks d_R_holdFor_10

def f_R_addStage (s0 : S2) (i : Nat) (a1 : Int32) (a2 : Int32) : Int32 × S2 :=
  if (s0 (10 + 3 * i) 8) = 0 then
    if (s0 (10 + 3 * i) 5) < 5 then
      if (s0 (10 + 3 * i) 5) = 0 then
        if (f_C_within a1 0 1000) = 0 then
          (0, s0)
        else
          if (f_C_within a2 0 1000) = 0 then
            (0, s0)
          else
            (1, up2 (up2 (up2 s0 (10 + 3 * i + 1) (Int32.toNatClampNeg (s0 (10 + 3 * i) 5)) a1) (10 + 3 * i + 2) (Int32.toNatClampNeg ((up2 s0 (10 + 3 * i + 1) (Int32.toNatClampNeg (s0 (10 + 3 * i) 5)) a1) (10 + 3 * i) 5)) a2) (10 + 3 * i) 5 (((up2 (up2 s0 (10 + 3 * i + 1) (Int32.toNatClampNeg (s0 (10 + 3 * i) 5)) a1) (10 + 3 * i + 2) (Int32.toNatClampNeg ((up2 s0 (10 + 3 * i + 1) (Int32.toNatClampNeg (s0 (10 + 3 * i) 5)) a1) (10 + 3 * i) 5)) a2) (10 + 3 * i) 5) + 1))
      else
        if (f_C_within a1 (s0 (10 + 3 * i + 1) (Int32.toNatClampNeg ((s0 (10 + 3 * i) 5) - 1))) 1000) = 0 then
          (0, s0)
        else
          if (f_C_within a2 0 1000) = 0 then
            (0, s0)
          else
            (1, up2 (up2 (up2 s0 (10 + 3 * i + 1) (Int32.toNatClampNeg (s0 (10 + 3 * i) 5)) a1) (10 + 3 * i + 2) (Int32.toNatClampNeg ((up2 s0 (10 + 3 * i + 1) (Int32.toNatClampNeg (s0 (10 + 3 * i) 5)) a1) (10 + 3 * i) 5)) a2) (10 + 3 * i) 5 (((up2 (up2 s0 (10 + 3 * i + 1) (Int32.toNatClampNeg (s0 (10 + 3 * i) 5)) a1) (10 + 3 * i + 2) (Int32.toNatClampNeg ((up2 s0 (10 + 3 * i + 1) (Int32.toNatClampNeg (s0 (10 + 3 * i) 5)) a1) (10 + 3 * i) 5)) a2) (10 + 3 * i) 5) + 1))
    else
      (0, s0)
  else
    (0, s0)
theorem fb_R_addStage (s0 : S2) (i : Nat) (a1 : Int32) (a2 : Int32) : narrow .boolean (.int ((f_R_addStage s0 i a1 a2).1)) = .int ((f_R_addStage s0 i a1 a2).1) := by
  unfold f_R_addStage
  repeat' split
  all_goals first | rfl | exact narrow_b0 | exact narrow_b1
set_option maxHeartbeats 4000000 in
set_option maxRecDepth 100000 in
theorem cc_R_addStage (l : Launch) (G : Gx) (A : Nat → Prop) (ad : Nat → Nat) (nr nm : Nat) (hnr : nr ≤ 16) (hnm : nm ≤ 30) (s0 : S2) (i : Nat) (hi : i < nr) (a1 : Int32) (a2 : Int32) (hsc : 0 ≤ (s0 (10 + 3 * i) 5).toInt ∧ (s0 (10 + 3 * i) 5).toInt ≤ 5) : Met l y_R_addStage ws_R_addStage { frames := 1, cells := 0, slots := 0, locals := 22 } (PG G [.ref (ad (10 + 3 * i)), .int (a1), .int (a2)] A ad (encC G.2 ad nr nm s0)) (EG G A (some (.int (f_R_addStage s0 i a1 a2).1)) ad (encC G.2 ad nr nm ((f_R_addStage s0 i a1 a2).2))) 0 0 A := by
  refine Met.ofW (cc := c_R_addStage) (maxL := 4) (ret := (some .boolean)) (by decide) rfl ?_
  intro p e s m args below meth c s₁ B hml hv
  obtain ⟨rfl, hw, hK⟩ := hv
  have hx := B.exec
  have hb := B.bytes
  have hr := B.returns
  have hts : ∀ w ∈ tbG, w.before [.ref (ad (10 + 3 * i)), .int (a1), .int (a2)].toArray s = true := fun w h => atoms_spec (ws := ws_R_addStage) B.pre w (List.mem_cons_of_mem _ h)
  have hown : s.vm.findClass "RollStages$Release" = some m.cls := findClass_of_methodNamed B.named
  have hlocks := B.notSynchronized
  have hS : va_S A s.heap s.heap [] := va_S.rf
  have hw : mwG G A ad (encC G.2 ad nr nm s0) s.heap := hw
  have hl := lv_entry ([.ref (ad (10 + 3 * i)), .int (a1), .int (a2)]) (n := 4) (Nat.le_of_ble_eq_true rfl)
  rw [lg_entry_eq]
  generalize (lg_sl ([.ref (ad (10 + 3 * i)), .int (a1), .int (a2)]) ++ List.replicate (4 - (lg_sl ([.ref (ad (10 + 3 * i)), .int (a1), .int (a2)])).length) Slot.unset).toArray = ls at hl ⊢
  have hl : lv_has ls 4 [(0, .ref (ad (10 + 3 * i))), (1, .int (a1)), (2, .int (a2))] := hl
  refine lv_aload_n hx hb d_R_addStage_0 rfl (lv_at hl 0 rfl) ?_
  refine mw_get (v := .int (s0 (10 + 3 * i) 8)) hx hb hts in_R hown hK.1 hw (10 + 3 * i) (cC_rel hnr hi) rfl 8 (by decide) (hts _ tw_106) rfl d_R_addStage_1 ?_
  refine lv_if_ne (tgt := 15) hx hb d_R_addStage_4 (by decide) (fun h1 => ?_) (fun h1 => ?_)
  · skip
    refine lv_iconst (v := 0) hx hb d_R_addStage_15 (by decide) ?_
    have e9 : f_R_addStage s0 i a1 a2 = (0, s0) := by unfold f_R_addStage; exact if_neg h1
    exact mw_iret hx hb hr rfl hw hS (congrArg (fun z => some (Value.int z.1)) e9.symm) ⟨rfl, congrArg (fun z => encC G.2 ad nr nm z.2) e9.symm⟩ hlocks d_R_addStage_16
  · skip
    refine lv_aload_n hx hb d_R_addStage_7 rfl (lv_at hl 0 rfl) ?_
    refine mw_get (v := .int (s0 (10 + 3 * i) 5)) hx hb hts in_R hown hK.1 hw (10 + 3 * i) (cC_rel hnr hi) rfl 5 (by decide) (hts _ tw_103) rfl d_R_addStage_8 ?_
    refine lv_iconst (v := 5) hx hb d_R_addStage_11 (by decide) ?_
    refine lv_icmp_lt (tgt := 17) hx hb d_R_addStage_12 (by decide) (fun h2 => ?_) (fun h2 => ?_)
    · skip
      refine lv_aload_n hx hb d_R_addStage_17 rfl (lv_at hl 0 rfl) ?_
      refine mw_get (v := .int (s0 (10 + 3 * i) 5)) hx hb hts in_R hown hK.1 hw (10 + 3 * i) (cC_rel hnr hi) rfl 5 (by decide) (hts _ tw_103) rfl d_R_addStage_18 ?_
      refine lv_if_ne (tgt := 28) hx hb d_R_addStage_21 (by decide) (fun h3 => ?_) (fun h3 => ?_)
      · skip
        refine lv_aload_n hx hb d_R_addStage_28 rfl (lv_at hl 0 rfl) ?_
        refine mw_get (v := .ref (ad (10 + 3 * i + 1))) hx hb hts in_R hown hK.1 hw (10 + 3 * i) (cC_rel hnr hi) rfl 3 (by decide) (hts _ tw_101) rfl d_R_addStage_29 ?_
        refine lv_aload_n hx hb d_R_addStage_32 rfl (lv_at hl 0 rfl) ?_
        refine mw_get (v := .int (s0 (10 + 3 * i) 5)) hx hb hts in_R hown hK.1 hw (10 + 3 * i) (cC_rel hnr hi) rfl 5 (by decide) (hts _ tw_103) rfl d_R_addStage_33 ?_
        refine lv_iconst (v := 1) hx hb d_R_addStage_36 (by decide) ?_
        refine lv_isub hx hb d_R_addStage_37 ?_
        refine mw_iald hx hb hK.1 hw (10 + 3 * i + 1) 0 (cC_sh hnr hi) rfl (stc_p hsc h3) d_R_addStage_38 ?_
        refine lv_istore_n (lv' := [(3, .int (s0 (10 + 3 * i + 1) (Int32.toNatClampNeg ((s0 (10 + 3 * i) 5) - 1)))), (0, .ref (ad (10 + 3 * i))), (1, .int (a1)), (2, .int (a2))]) hx hb d_R_addStage_39 rfl hl (by decide) rfl (fun ls hl => ?_)
        refine lv_iload_n hx hb d_R_addStage_40 rfl (lv_at hl 2 rfl) ?_
        refine lv_iload_n hx hb d_R_addStage_41 rfl (lv_at hl 0 rfl) ?_
        refine lv_sipush (v := 1000) hx hb d_R_addStage_42 (by decide) ?_
        refine gSN (As := [.int (a1), .int (s0 (10 + 3 * i + 1) (Int32.toNatClampNeg ((s0 (10 + 3 * i) 5) - 1))), .int (1000)]) (rest := []) (st1 := [.int (f_C_within a1 (s0 (10 + 3 * i + 1) (Int32.toNatClampNeg ((s0 (10 + 3 * i) 5) - 1))) 1000)]) ⟨hx, hb, hml, hown, hts⟩ (cc_C_within l G A ad nr nm hnr hnm s0 a1 (s0 (10 + 3 * i + 1) (Int32.toNatClampNeg ((s0 (10 + 3 * i) 5) - 1))) 1000) tw_89 nw_3 tw_88 tw_1 hd_C_within rfl rfl ⟨Nat.le_of_ble_eq_true rfl, Nat.le_of_ble_eq_true rfl⟩ hK hw hS hl.1 rfl (Nat.le_of_ble_eq_true rfl) ⟨Nat.zero_le _, Nat.zero_le _⟩ d_R_addStage_45 rfl (fun H locs hw hS => ?_)
        refine lv_if_eq (tgt := 62) hx hb d_R_addStage_48 (by decide) (fun h4 => ?_) (fun h4 => ?_)
        · skip
          refine lv_iconst (v := 0) hx hb d_R_addStage_62 (by decide) ?_
          have e9 : f_R_addStage s0 i a1 a2 = (0, s0) := by unfold f_R_addStage; exact (if_pos h1).trans ((if_pos h2).trans ((if_neg h3).trans (if_pos h4)))
          exact mw_iret hx hb hr rfl hw hS (congrArg (fun z => some (Value.int z.1)) e9.symm) ⟨rfl, congrArg (fun z => encC G.2 ad nr nm z.2) e9.symm⟩ hlocks d_R_addStage_63
        · skip
          refine lv_iload_n hx hb d_R_addStage_51 rfl (lv_at hl 3 rfl) ?_
          refine lv_iconst (v := 0) hx hb d_R_addStage_52 (by decide) ?_
          refine lv_sipush (v := 1000) hx hb d_R_addStage_53 (by decide) ?_
          refine gSN (As := [.int (a2), .int (0), .int (1000)]) (rest := []) (st1 := [.int (f_C_within a2 0 1000)]) ⟨hx, hb, hml, hown, hts⟩ (cc_C_within l G A ad nr nm hnr hnm s0 a2 0 1000) tw_89 nw_3 tw_88 tw_1 hd_C_within rfl rfl ⟨Nat.le_of_ble_eq_true rfl, Nat.le_of_ble_eq_true rfl⟩ hK hw hS hl.1 rfl (Nat.le_of_ble_eq_true rfl) ⟨Nat.zero_le _, Nat.zero_le _⟩ d_R_addStage_56 rfl (fun H locs hw hS => ?_)
          refine lv_if_ne (tgt := 64) hx hb d_R_addStage_59 (by decide) (fun h5 => ?_) (fun h5 => ?_)
          · skip
            refine lv_aload_n hx hb d_R_addStage_64 rfl (lv_at hl 1 rfl) ?_
            refine mw_get (v := .ref (ad (10 + 3 * i + 1))) hx hb hts in_R hown hK.1 hw (10 + 3 * i) (cC_rel hnr hi) rfl 3 (by decide) (hts _ tw_101) rfl d_R_addStage_65 ?_
            refine lv_aload_n hx hb d_R_addStage_68 rfl (lv_at hl 1 rfl) ?_
            refine mw_get (v := .int (s0 (10 + 3 * i) 5)) hx hb hts in_R hown hK.1 hw (10 + 3 * i) (cC_rel hnr hi) rfl 5 (by decide) (hts _ tw_103) rfl d_R_addStage_69 ?_
            refine lv_iload_n hx hb d_R_addStage_72 rfl (lv_at hl 2 rfl) ?_
            refine mw_iast hx hb hK.1 hw hS (10 + 3 * i + 1) 0 (cC_sh hnr hi) rfl (stc_i hsc h2) d_R_addStage_73 (fun H locs hw hS => ?_)
            replace hw := mw_encC (r := upd (s0 (10 + 3 * i + 1)) (Int32.toNatClampNeg (s0 (10 + 3 * i) 5)) a1) hw (cC_sh hnr hi)
            have hw : mwG G A ad (encC G.2 ad nr nm (up2 s0 (10 + 3 * i + 1) (Int32.toNatClampNeg (s0 (10 + 3 * i) 5)) a1)) H := hw
            refine lv_aload_n hx hb d_R_addStage_74 rfl (lv_at hl 1 rfl) ?_
            refine mw_get (v := .ref (ad (10 + 3 * i + 2))) hx hb hts in_R hown hK.1 hw (10 + 3 * i) (cC_rel hnr hi) rfl 4 (by decide) (hts _ tw_102) rfl d_R_addStage_75 ?_
            refine lv_aload_n hx hb d_R_addStage_78 rfl (lv_at hl 1 rfl) ?_
            refine mw_get (v := .int ((up2 s0 (10 + 3 * i + 1) (Int32.toNatClampNeg (s0 (10 + 3 * i) 5)) a1) (10 + 3 * i) 5)) hx hb hts in_R hown hK.1 hw (10 + 3 * i) (cC_rel hnr hi) rfl 5 (by decide) (hts _ tw_103) rfl d_R_addStage_79 ?_
            refine lv_iload_n hx hb d_R_addStage_82 rfl (lv_at hl 3 rfl) ?_
            refine mw_iast hx hb hK.1 hw hS (10 + 3 * i + 2) 0 (cC_wa hnr hi) rfl (by rw [up2_at, if_neg (by omega)]; exact stc_i hsc h2) d_R_addStage_83 (fun H locs hw hS => ?_)
            replace hw := mw_encC (r := upd ((up2 s0 (10 + 3 * i + 1) (Int32.toNatClampNeg (s0 (10 + 3 * i) 5)) a1) (10 + 3 * i + 2)) (Int32.toNatClampNeg ((up2 s0 (10 + 3 * i + 1) (Int32.toNatClampNeg (s0 (10 + 3 * i) 5)) a1) (10 + 3 * i) 5)) a2) hw (cC_wa hnr hi)
            have hw : mwG G A ad (encC G.2 ad nr nm (up2 (up2 s0 (10 + 3 * i + 1) (Int32.toNatClampNeg (s0 (10 + 3 * i) 5)) a1) (10 + 3 * i + 2) (Int32.toNatClampNeg ((up2 s0 (10 + 3 * i + 1) (Int32.toNatClampNeg (s0 (10 + 3 * i) 5)) a1) (10 + 3 * i) 5)) a2)) H := hw
            refine lv_aload_n hx hb d_R_addStage_84 rfl (lv_at hl 1 rfl) ?_
            refine lv_dup hx hb d_R_addStage_85 rfl ?_
            refine mw_get (v := .int ((up2 (up2 s0 (10 + 3 * i + 1) (Int32.toNatClampNeg (s0 (10 + 3 * i) 5)) a1) (10 + 3 * i + 2) (Int32.toNatClampNeg ((up2 s0 (10 + 3 * i + 1) (Int32.toNatClampNeg (s0 (10 + 3 * i) 5)) a1) (10 + 3 * i) 5)) a2) (10 + 3 * i) 5)) hx hb hts in_R hown hK.1 hw (10 + 3 * i) (cC_rel hnr hi) rfl 5 (by decide) (hts _ tw_103) rfl d_R_addStage_86 ?_
            refine lv_iconst (v := 1) hx hb d_R_addStage_89 (by decide) ?_
            refine lv_iadd hx hb d_R_addStage_90 ?_
            refine mw_put (v := .int (((up2 (up2 s0 (10 + 3 * i + 1) (Int32.toNatClampNeg (s0 (10 + 3 * i) 5)) a1) (10 + 3 * i + 2) (Int32.toNatClampNeg ((up2 s0 (10 + 3 * i + 1) (Int32.toNatClampNeg (s0 (10 + 3 * i) 5)) a1) (10 + 3 * i) 5)) a2) (10 + 3 * i) 5) + 1)) hx hb hts in_R ty_R ty_R_ok n_R hown hK.1 hw hS (10 + 3 * i) (cC_rel hnr hi) rfl 5 (by decide) (hts _ tw_103) rfl rfl rfl (Nat.le_of_ble_eq_true rfl) d_R_addStage_91 (fun H locs hw hS => ?_)
            replace hw := mw_encC (r := upd ((up2 (up2 s0 (10 + 3 * i + 1) (Int32.toNatClampNeg (s0 (10 + 3 * i) 5)) a1) (10 + 3 * i + 2) (Int32.toNatClampNeg ((up2 s0 (10 + 3 * i + 1) (Int32.toNatClampNeg (s0 (10 + 3 * i) 5)) a1) (10 + 3 * i) 5)) a2) (10 + 3 * i)) 5 (((up2 (up2 s0 (10 + 3 * i + 1) (Int32.toNatClampNeg (s0 (10 + 3 * i) 5)) a1) (10 + 3 * i + 2) (Int32.toNatClampNeg ((up2 s0 (10 + 3 * i + 1) (Int32.toNatClampNeg (s0 (10 + 3 * i) 5)) a1) (10 + 3 * i) 5)) a2) (10 + 3 * i) 5) + 1)) hw (cC_rel hnr hi)
            have hw : mwG G A ad (encC G.2 ad nr nm (up2 (up2 (up2 s0 (10 + 3 * i + 1) (Int32.toNatClampNeg (s0 (10 + 3 * i) 5)) a1) (10 + 3 * i + 2) (Int32.toNatClampNeg ((up2 s0 (10 + 3 * i + 1) (Int32.toNatClampNeg (s0 (10 + 3 * i) 5)) a1) (10 + 3 * i) 5)) a2) (10 + 3 * i) 5 (((up2 (up2 s0 (10 + 3 * i + 1) (Int32.toNatClampNeg (s0 (10 + 3 * i) 5)) a1) (10 + 3 * i + 2) (Int32.toNatClampNeg ((up2 s0 (10 + 3 * i + 1) (Int32.toNatClampNeg (s0 (10 + 3 * i) 5)) a1) (10 + 3 * i) 5)) a2) (10 + 3 * i) 5) + 1))) H := hw
            refine lv_iconst (v := 1) hx hb d_R_addStage_94 (by decide) ?_
            have e9 : f_R_addStage s0 i a1 a2 = (1, up2 (up2 (up2 s0 (10 + 3 * i + 1) (Int32.toNatClampNeg (s0 (10 + 3 * i) 5)) a1) (10 + 3 * i + 2) (Int32.toNatClampNeg ((up2 s0 (10 + 3 * i + 1) (Int32.toNatClampNeg (s0 (10 + 3 * i) 5)) a1) (10 + 3 * i) 5)) a2) (10 + 3 * i) 5 (((up2 (up2 s0 (10 + 3 * i + 1) (Int32.toNatClampNeg (s0 (10 + 3 * i) 5)) a1) (10 + 3 * i + 2) (Int32.toNatClampNeg ((up2 s0 (10 + 3 * i + 1) (Int32.toNatClampNeg (s0 (10 + 3 * i) 5)) a1) (10 + 3 * i) 5)) a2) (10 + 3 * i) 5) + 1)) := by unfold f_R_addStage; exact (if_pos h1).trans ((if_pos h2).trans ((if_neg h3).trans ((if_neg h4).trans (if_neg h5))))
            exact mw_iret hx hb hr rfl hw hS (congrArg (fun z => some (Value.int z.1)) e9.symm) ⟨rfl, congrArg (fun z => encC G.2 ad nr nm z.2) e9.symm⟩ hlocks d_R_addStage_95
          · skip
            refine lv_iconst (v := 0) hx hb d_R_addStage_62 (by decide) ?_
            have e9 : f_R_addStage s0 i a1 a2 = (0, s0) := by unfold f_R_addStage; exact (if_pos h1).trans ((if_pos h2).trans ((if_neg h3).trans ((if_neg h4).trans (if_pos h5))))
            exact mw_iret hx hb hr rfl hw hS (congrArg (fun z => some (Value.int z.1)) e9.symm) ⟨rfl, congrArg (fun z => encC G.2 ad nr nm z.2) e9.symm⟩ hlocks d_R_addStage_63
      · skip
        refine lv_iconst (v := 0) hx hb d_R_addStage_24 (by decide) ?_
        refine lv_goto (tgt := 39) hx hb d_R_addStage_25 (by decide) ?_
        refine lv_istore_n (lv' := [(3, .int (0)), (0, .ref (ad (10 + 3 * i))), (1, .int (a1)), (2, .int (a2))]) hx hb d_R_addStage_39 rfl hl (by decide) rfl (fun ls hl => ?_)
        refine lv_iload_n hx hb d_R_addStage_40 rfl (lv_at hl 2 rfl) ?_
        refine lv_iload_n hx hb d_R_addStage_41 rfl (lv_at hl 0 rfl) ?_
        refine lv_sipush (v := 1000) hx hb d_R_addStage_42 (by decide) ?_
        refine gSN (As := [.int (a1), .int (0), .int (1000)]) (rest := []) (st1 := [.int (f_C_within a1 0 1000)]) ⟨hx, hb, hml, hown, hts⟩ (cc_C_within l G A ad nr nm hnr hnm s0 a1 0 1000) tw_89 nw_3 tw_88 tw_1 hd_C_within rfl rfl ⟨Nat.le_of_ble_eq_true rfl, Nat.le_of_ble_eq_true rfl⟩ hK hw hS hl.1 rfl (Nat.le_of_ble_eq_true rfl) ⟨Nat.zero_le _, Nat.zero_le _⟩ d_R_addStage_45 rfl (fun H locs hw hS => ?_)
        refine lv_if_eq (tgt := 62) hx hb d_R_addStage_48 (by decide) (fun h6 => ?_) (fun h6 => ?_)
        · skip
          refine lv_iconst (v := 0) hx hb d_R_addStage_62 (by decide) ?_
          have e9 : f_R_addStage s0 i a1 a2 = (0, s0) := by unfold f_R_addStage; exact (if_pos h1).trans ((if_pos h2).trans ((if_pos h3).trans (if_pos h6)))
          exact mw_iret hx hb hr rfl hw hS (congrArg (fun z => some (Value.int z.1)) e9.symm) ⟨rfl, congrArg (fun z => encC G.2 ad nr nm z.2) e9.symm⟩ hlocks d_R_addStage_63
        · skip
          refine lv_iload_n hx hb d_R_addStage_51 rfl (lv_at hl 3 rfl) ?_
          refine lv_iconst (v := 0) hx hb d_R_addStage_52 (by decide) ?_
          refine lv_sipush (v := 1000) hx hb d_R_addStage_53 (by decide) ?_
          refine gSN (As := [.int (a2), .int (0), .int (1000)]) (rest := []) (st1 := [.int (f_C_within a2 0 1000)]) ⟨hx, hb, hml, hown, hts⟩ (cc_C_within l G A ad nr nm hnr hnm s0 a2 0 1000) tw_89 nw_3 tw_88 tw_1 hd_C_within rfl rfl ⟨Nat.le_of_ble_eq_true rfl, Nat.le_of_ble_eq_true rfl⟩ hK hw hS hl.1 rfl (Nat.le_of_ble_eq_true rfl) ⟨Nat.zero_le _, Nat.zero_le _⟩ d_R_addStage_56 rfl (fun H locs hw hS => ?_)
          refine lv_if_ne (tgt := 64) hx hb d_R_addStage_59 (by decide) (fun h7 => ?_) (fun h7 => ?_)
          · skip
            refine lv_aload_n hx hb d_R_addStage_64 rfl (lv_at hl 1 rfl) ?_
            refine mw_get (v := .ref (ad (10 + 3 * i + 1))) hx hb hts in_R hown hK.1 hw (10 + 3 * i) (cC_rel hnr hi) rfl 3 (by decide) (hts _ tw_101) rfl d_R_addStage_65 ?_
            refine lv_aload_n hx hb d_R_addStage_68 rfl (lv_at hl 1 rfl) ?_
            refine mw_get (v := .int (s0 (10 + 3 * i) 5)) hx hb hts in_R hown hK.1 hw (10 + 3 * i) (cC_rel hnr hi) rfl 5 (by decide) (hts _ tw_103) rfl d_R_addStage_69 ?_
            refine lv_iload_n hx hb d_R_addStage_72 rfl (lv_at hl 2 rfl) ?_
            refine mw_iast hx hb hK.1 hw hS (10 + 3 * i + 1) 0 (cC_sh hnr hi) rfl (stc_i hsc h2) d_R_addStage_73 (fun H locs hw hS => ?_)
            replace hw := mw_encC (r := upd (s0 (10 + 3 * i + 1)) (Int32.toNatClampNeg (s0 (10 + 3 * i) 5)) a1) hw (cC_sh hnr hi)
            have hw : mwG G A ad (encC G.2 ad nr nm (up2 s0 (10 + 3 * i + 1) (Int32.toNatClampNeg (s0 (10 + 3 * i) 5)) a1)) H := hw
            refine lv_aload_n hx hb d_R_addStage_74 rfl (lv_at hl 1 rfl) ?_
            refine mw_get (v := .ref (ad (10 + 3 * i + 2))) hx hb hts in_R hown hK.1 hw (10 + 3 * i) (cC_rel hnr hi) rfl 4 (by decide) (hts _ tw_102) rfl d_R_addStage_75 ?_
            refine lv_aload_n hx hb d_R_addStage_78 rfl (lv_at hl 1 rfl) ?_
            refine mw_get (v := .int ((up2 s0 (10 + 3 * i + 1) (Int32.toNatClampNeg (s0 (10 + 3 * i) 5)) a1) (10 + 3 * i) 5)) hx hb hts in_R hown hK.1 hw (10 + 3 * i) (cC_rel hnr hi) rfl 5 (by decide) (hts _ tw_103) rfl d_R_addStage_79 ?_
            refine lv_iload_n hx hb d_R_addStage_82 rfl (lv_at hl 3 rfl) ?_
            refine mw_iast hx hb hK.1 hw hS (10 + 3 * i + 2) 0 (cC_wa hnr hi) rfl (by rw [up2_at, if_neg (by omega)]; exact stc_i hsc h2) d_R_addStage_83 (fun H locs hw hS => ?_)
            replace hw := mw_encC (r := upd ((up2 s0 (10 + 3 * i + 1) (Int32.toNatClampNeg (s0 (10 + 3 * i) 5)) a1) (10 + 3 * i + 2)) (Int32.toNatClampNeg ((up2 s0 (10 + 3 * i + 1) (Int32.toNatClampNeg (s0 (10 + 3 * i) 5)) a1) (10 + 3 * i) 5)) a2) hw (cC_wa hnr hi)
            have hw : mwG G A ad (encC G.2 ad nr nm (up2 (up2 s0 (10 + 3 * i + 1) (Int32.toNatClampNeg (s0 (10 + 3 * i) 5)) a1) (10 + 3 * i + 2) (Int32.toNatClampNeg ((up2 s0 (10 + 3 * i + 1) (Int32.toNatClampNeg (s0 (10 + 3 * i) 5)) a1) (10 + 3 * i) 5)) a2)) H := hw
            refine lv_aload_n hx hb d_R_addStage_84 rfl (lv_at hl 1 rfl) ?_
            refine lv_dup hx hb d_R_addStage_85 rfl ?_
            refine mw_get (v := .int ((up2 (up2 s0 (10 + 3 * i + 1) (Int32.toNatClampNeg (s0 (10 + 3 * i) 5)) a1) (10 + 3 * i + 2) (Int32.toNatClampNeg ((up2 s0 (10 + 3 * i + 1) (Int32.toNatClampNeg (s0 (10 + 3 * i) 5)) a1) (10 + 3 * i) 5)) a2) (10 + 3 * i) 5)) hx hb hts in_R hown hK.1 hw (10 + 3 * i) (cC_rel hnr hi) rfl 5 (by decide) (hts _ tw_103) rfl d_R_addStage_86 ?_
            refine lv_iconst (v := 1) hx hb d_R_addStage_89 (by decide) ?_
            refine lv_iadd hx hb d_R_addStage_90 ?_
            refine mw_put (v := .int (((up2 (up2 s0 (10 + 3 * i + 1) (Int32.toNatClampNeg (s0 (10 + 3 * i) 5)) a1) (10 + 3 * i + 2) (Int32.toNatClampNeg ((up2 s0 (10 + 3 * i + 1) (Int32.toNatClampNeg (s0 (10 + 3 * i) 5)) a1) (10 + 3 * i) 5)) a2) (10 + 3 * i) 5) + 1)) hx hb hts in_R ty_R ty_R_ok n_R hown hK.1 hw hS (10 + 3 * i) (cC_rel hnr hi) rfl 5 (by decide) (hts _ tw_103) rfl rfl rfl (Nat.le_of_ble_eq_true rfl) d_R_addStage_91 (fun H locs hw hS => ?_)
            replace hw := mw_encC (r := upd ((up2 (up2 s0 (10 + 3 * i + 1) (Int32.toNatClampNeg (s0 (10 + 3 * i) 5)) a1) (10 + 3 * i + 2) (Int32.toNatClampNeg ((up2 s0 (10 + 3 * i + 1) (Int32.toNatClampNeg (s0 (10 + 3 * i) 5)) a1) (10 + 3 * i) 5)) a2) (10 + 3 * i)) 5 (((up2 (up2 s0 (10 + 3 * i + 1) (Int32.toNatClampNeg (s0 (10 + 3 * i) 5)) a1) (10 + 3 * i + 2) (Int32.toNatClampNeg ((up2 s0 (10 + 3 * i + 1) (Int32.toNatClampNeg (s0 (10 + 3 * i) 5)) a1) (10 + 3 * i) 5)) a2) (10 + 3 * i) 5) + 1)) hw (cC_rel hnr hi)
            have hw : mwG G A ad (encC G.2 ad nr nm (up2 (up2 (up2 s0 (10 + 3 * i + 1) (Int32.toNatClampNeg (s0 (10 + 3 * i) 5)) a1) (10 + 3 * i + 2) (Int32.toNatClampNeg ((up2 s0 (10 + 3 * i + 1) (Int32.toNatClampNeg (s0 (10 + 3 * i) 5)) a1) (10 + 3 * i) 5)) a2) (10 + 3 * i) 5 (((up2 (up2 s0 (10 + 3 * i + 1) (Int32.toNatClampNeg (s0 (10 + 3 * i) 5)) a1) (10 + 3 * i + 2) (Int32.toNatClampNeg ((up2 s0 (10 + 3 * i + 1) (Int32.toNatClampNeg (s0 (10 + 3 * i) 5)) a1) (10 + 3 * i) 5)) a2) (10 + 3 * i) 5) + 1))) H := hw
            refine lv_iconst (v := 1) hx hb d_R_addStage_94 (by decide) ?_
            have e9 : f_R_addStage s0 i a1 a2 = (1, up2 (up2 (up2 s0 (10 + 3 * i + 1) (Int32.toNatClampNeg (s0 (10 + 3 * i) 5)) a1) (10 + 3 * i + 2) (Int32.toNatClampNeg ((up2 s0 (10 + 3 * i + 1) (Int32.toNatClampNeg (s0 (10 + 3 * i) 5)) a1) (10 + 3 * i) 5)) a2) (10 + 3 * i) 5 (((up2 (up2 s0 (10 + 3 * i + 1) (Int32.toNatClampNeg (s0 (10 + 3 * i) 5)) a1) (10 + 3 * i + 2) (Int32.toNatClampNeg ((up2 s0 (10 + 3 * i + 1) (Int32.toNatClampNeg (s0 (10 + 3 * i) 5)) a1) (10 + 3 * i) 5)) a2) (10 + 3 * i) 5) + 1)) := by unfold f_R_addStage; exact (if_pos h1).trans ((if_pos h2).trans ((if_pos h3).trans ((if_neg h6).trans (if_neg h7))))
            exact mw_iret hx hb hr rfl hw hS (congrArg (fun z => some (Value.int z.1)) e9.symm) ⟨rfl, congrArg (fun z => encC G.2 ad nr nm z.2) e9.symm⟩ hlocks d_R_addStage_95
          · skip
            refine lv_iconst (v := 0) hx hb d_R_addStage_62 (by decide) ?_
            have e9 : f_R_addStage s0 i a1 a2 = (0, s0) := by unfold f_R_addStage; exact (if_pos h1).trans ((if_pos h2).trans ((if_pos h3).trans ((if_neg h6).trans (if_pos h7))))
            exact mw_iret hx hb hr rfl hw hS (congrArg (fun z => some (Value.int z.1)) e9.symm) ⟨rfl, congrArg (fun z => encC G.2 ad nr nm z.2) e9.symm⟩ hlocks d_R_addStage_63
    · skip
      refine lv_iconst (v := 0) hx hb d_R_addStage_15 (by decide) ?_
      have e9 : f_R_addStage s0 i a1 a2 = (0, s0) := by unfold f_R_addStage; exact (if_pos h1).trans (if_neg h2)
      exact mw_iret hx hb hr rfl hw hS (congrArg (fun z => some (Value.int z.1)) e9.symm) ⟨rfl, congrArg (fun z => encC G.2 ad nr nm z.2) e9.symm⟩ hlocks d_R_addStage_16

def f_R_setHealth (s0 : S2) (i : Nat) (a1 : Int32) (a2 : Int32) : Int32 × S2 :=
  if (f_C_within a2 1 1000) = 0 then
    (0, s0)
  else
    if (f_C_within a1 0 a2) = 0 then
      (0, s0)
    else
      (1, up2 (up2 s0 (10 + 3 * i) 6 a1) (10 + 3 * i) 7 a2)
theorem fb_R_setHealth (s0 : S2) (i : Nat) (a1 : Int32) (a2 : Int32) : narrow .boolean (.int ((f_R_setHealth s0 i a1 a2).1)) = .int ((f_R_setHealth s0 i a1 a2).1) := by
  unfold f_R_setHealth
  repeat' split
  all_goals first | rfl | exact narrow_b0 | exact narrow_b1
set_option maxHeartbeats 4000000 in
set_option maxRecDepth 100000 in
theorem cc_R_setHealth (l : Launch) (G : Gx) (A : Nat → Prop) (ad : Nat → Nat) (nr nm : Nat) (hnr : nr ≤ 16) (hnm : nm ≤ 30) (s0 : S2) (i : Nat) (hi : i < nr) (a1 : Int32) (a2 : Int32) : Met l y_R_setHealth ws_R_setHealth { frames := 1, cells := 0, slots := 0, locals := 22 } (PG G [.ref (ad (10 + 3 * i)), .int (a1), .int (a2)] A ad (encC G.2 ad nr nm s0)) (EG G A (some (.int (f_R_setHealth s0 i a1 a2).1)) ad (encC G.2 ad nr nm ((f_R_setHealth s0 i a1 a2).2))) 0 0 A := by
  refine Met.ofW (cc := c_R_setHealth) (maxL := 3) (ret := (some .boolean)) (by decide) rfl ?_
  intro p e s m args below meth c s₁ B hml hv
  obtain ⟨rfl, hw, hK⟩ := hv
  have hx := B.exec
  have hb := B.bytes
  have hr := B.returns
  have hts : ∀ w ∈ tbG, w.before [.ref (ad (10 + 3 * i)), .int (a1), .int (a2)].toArray s = true := fun w h => atoms_spec (ws := ws_R_setHealth) B.pre w (List.mem_cons_of_mem _ h)
  have hown : s.vm.findClass "RollStages$Release" = some m.cls := findClass_of_methodNamed B.named
  have hlocks := B.notSynchronized
  have hS : va_S A s.heap s.heap [] := va_S.rf
  have hw : mwG G A ad (encC G.2 ad nr nm s0) s.heap := hw
  have hl := lv_entry ([.ref (ad (10 + 3 * i)), .int (a1), .int (a2)]) (n := 3) (Nat.le_of_ble_eq_true rfl)
  rw [lg_entry_eq]
  generalize (lg_sl ([.ref (ad (10 + 3 * i)), .int (a1), .int (a2)]) ++ List.replicate (3 - (lg_sl ([.ref (ad (10 + 3 * i)), .int (a1), .int (a2)])).length) Slot.unset).toArray = ls at hl ⊢
  have hl : lv_has ls 3 [(0, .ref (ad (10 + 3 * i))), (1, .int (a1)), (2, .int (a2))] := hl
  refine lv_iload_n hx hb d_R_setHealth_0 rfl (lv_at hl 2 rfl) ?_
  refine lv_iconst (v := 1) hx hb d_R_setHealth_1 (by decide) ?_
  refine lv_sipush (v := 1000) hx hb d_R_setHealth_2 (by decide) ?_
  refine gSN (As := [.int (a2), .int (1), .int (1000)]) (rest := []) (st1 := [.int (f_C_within a2 1 1000)]) ⟨hx, hb, hml, hown, hts⟩ (cc_C_within l G A ad nr nm hnr hnm s0 a2 1 1000) tw_89 nw_3 tw_88 tw_1 hd_C_within rfl rfl ⟨Nat.le_of_ble_eq_true rfl, Nat.le_of_ble_eq_true rfl⟩ hK hw hS hl.1 rfl (Nat.le_of_ble_eq_true rfl) ⟨Nat.zero_le _, Nat.zero_le _⟩ d_R_setHealth_5 rfl (fun H locs hw hS => ?_)
  refine lv_if_eq (tgt := 20) hx hb d_R_setHealth_8 (by decide) (fun h1 => ?_) (fun h1 => ?_)
  · skip
    refine lv_iconst (v := 0) hx hb d_R_setHealth_20 (by decide) ?_
    have e9 : f_R_setHealth s0 i a1 a2 = (0, s0) := by unfold f_R_setHealth; exact if_pos h1
    exact mw_iret hx hb hr rfl hw hS (congrArg (fun z => some (Value.int z.1)) e9.symm) ⟨rfl, congrArg (fun z => encC G.2 ad nr nm z.2) e9.symm⟩ hlocks d_R_setHealth_21
  · skip
    refine lv_iload_n hx hb d_R_setHealth_11 rfl (lv_at hl 1 rfl) ?_
    refine lv_iconst (v := 0) hx hb d_R_setHealth_12 (by decide) ?_
    refine lv_iload_n hx hb d_R_setHealth_13 rfl (lv_at hl 2 rfl) ?_
    refine gSN (As := [.int (a1), .int (0), .int (a2)]) (rest := []) (st1 := [.int (f_C_within a1 0 a2)]) ⟨hx, hb, hml, hown, hts⟩ (cc_C_within l G A ad nr nm hnr hnm s0 a1 0 a2) tw_89 nw_3 tw_88 tw_1 hd_C_within rfl rfl ⟨Nat.le_of_ble_eq_true rfl, Nat.le_of_ble_eq_true rfl⟩ hK hw hS hl.1 rfl (Nat.le_of_ble_eq_true rfl) ⟨Nat.zero_le _, Nat.zero_le _⟩ d_R_setHealth_14 rfl (fun H locs hw hS => ?_)
    refine lv_if_ne (tgt := 22) hx hb d_R_setHealth_17 (by decide) (fun h2 => ?_) (fun h2 => ?_)
    · skip
      refine lv_aload_n hx hb d_R_setHealth_22 rfl (lv_at hl 0 rfl) ?_
      refine lv_iload_n hx hb d_R_setHealth_23 rfl (lv_at hl 1 rfl) ?_
      refine mw_put (v := .int (a1)) hx hb hts in_R ty_R ty_R_ok n_R hown hK.1 hw hS (10 + 3 * i) (cC_rel hnr hi) rfl 6 (by decide) (hts _ tw_104) rfl rfl rfl (Nat.le_of_ble_eq_true rfl) d_R_setHealth_24 (fun H locs hw hS => ?_)
      replace hw := mw_encC (r := upd (s0 (10 + 3 * i)) 6 a1) hw (cC_rel hnr hi)
      have hw : mwG G A ad (encC G.2 ad nr nm (up2 s0 (10 + 3 * i) 6 a1)) H := hw
      refine lv_aload_n hx hb d_R_setHealth_27 rfl (lv_at hl 0 rfl) ?_
      refine lv_iload_n hx hb d_R_setHealth_28 rfl (lv_at hl 2 rfl) ?_
      refine mw_put (v := .int (a2)) hx hb hts in_R ty_R ty_R_ok n_R hown hK.1 hw hS (10 + 3 * i) (cC_rel hnr hi) rfl 7 (by decide) (hts _ tw_105) rfl rfl rfl (Nat.le_of_ble_eq_true rfl) d_R_setHealth_29 (fun H locs hw hS => ?_)
      replace hw := mw_encC (r := upd ((up2 s0 (10 + 3 * i) 6 a1) (10 + 3 * i)) 7 a2) hw (cC_rel hnr hi)
      have hw : mwG G A ad (encC G.2 ad nr nm (up2 (up2 s0 (10 + 3 * i) 6 a1) (10 + 3 * i) 7 a2)) H := hw
      refine lv_iconst (v := 1) hx hb d_R_setHealth_32 (by decide) ?_
      have e9 : f_R_setHealth s0 i a1 a2 = (1, up2 (up2 s0 (10 + 3 * i) 6 a1) (10 + 3 * i) 7 a2) := by unfold f_R_setHealth; exact (if_neg h1).trans (if_neg h2)
      exact mw_iret hx hb hr rfl hw hS (congrArg (fun z => some (Value.int z.1)) e9.symm) ⟨rfl, congrArg (fun z => encC G.2 ad nr nm z.2) e9.symm⟩ hlocks d_R_setHealth_33
    · skip
      refine lv_iconst (v := 0) hx hb d_R_setHealth_20 (by decide) ?_
      have e9 : f_R_setHealth s0 i a1 a2 = (0, s0) := by unfold f_R_setHealth; exact (if_neg h1).trans (if_pos h2)
      exact mw_iret hx hb hr rfl hw hS (congrArg (fun z => some (Value.int z.1)) e9.symm) ⟨rfl, congrArg (fun z => encC G.2 ad nr nm z.2) e9.symm⟩ hlocks d_R_setHealth_21

def f_R_begin (s0 : S2) (i : Nat) (a1 : Int32) : Int32 × S2 :=
  if (s0 (10 + 3 * i) 8) = 0 then
    if (s0 (10 + 3 * i) 5) = 0 then
      (0, s0)
    else
      (1, f_R_rollAt s0 i 0 a1)
  else
    (0, s0)
theorem fb_R_begin (s0 : S2) (i : Nat) (a1 : Int32) : narrow .boolean (.int ((f_R_begin s0 i a1).1)) = .int ((f_R_begin s0 i a1).1) := by
  unfold f_R_begin
  repeat' split
  all_goals first | rfl | exact narrow_b0 | exact narrow_b1
set_option maxHeartbeats 4000000 in
set_option maxRecDepth 100000 in
theorem cc_R_begin (l : Launch) (G : Gx) (A : Nat → Prop) (ad : Nat → Nat) (nr nm : Nat) (hnr : nr ≤ 16) (hnm : nm ≤ 30) (s0 : S2) (i : Nat) (hi : i < nr) (a1 : Int32) : Met l y_R_begin ws_R_begin { frames := 1, cells := 0, slots := 0, locals := 22 } (PG G [.ref (ad (10 + 3 * i)), .int (a1)] A ad (encC G.2 ad nr nm s0)) (EG G A (some (.int (f_R_begin s0 i a1).1)) ad (encC G.2 ad nr nm ((f_R_begin s0 i a1).2))) 0 0 A := by
  refine Met.ofW (cc := c_R_begin) (maxL := 2) (ret := (some .boolean)) (by decide) rfl ?_
  intro p e s m args below meth c s₁ B hml hv
  obtain ⟨rfl, hw, hK⟩ := hv
  have hx := B.exec
  have hb := B.bytes
  have hr := B.returns
  have hts : ∀ w ∈ tbG, w.before [.ref (ad (10 + 3 * i)), .int (a1)].toArray s = true := fun w h => atoms_spec (ws := ws_R_begin) B.pre w (List.mem_cons_of_mem _ h)
  have hown : s.vm.findClass "RollStages$Release" = some m.cls := findClass_of_methodNamed B.named
  have hlocks := B.notSynchronized
  have hS : va_S A s.heap s.heap [] := va_S.rf
  have hw : mwG G A ad (encC G.2 ad nr nm s0) s.heap := hw
  have hl := lv_entry ([.ref (ad (10 + 3 * i)), .int (a1)]) (n := 2) (Nat.le_of_ble_eq_true rfl)
  rw [lg_entry_eq]
  generalize (lg_sl ([.ref (ad (10 + 3 * i)), .int (a1)]) ++ List.replicate (2 - (lg_sl ([.ref (ad (10 + 3 * i)), .int (a1)])).length) Slot.unset).toArray = ls at hl ⊢
  have hl : lv_has ls 2 [(0, .ref (ad (10 + 3 * i))), (1, .int (a1))] := hl
  refine lv_aload_n hx hb d_R_begin_0 rfl (lv_at hl 0 rfl) ?_
  refine mw_get (v := .int (s0 (10 + 3 * i) 8)) hx hb hts in_R hown hK.1 hw (10 + 3 * i) (cC_rel hnr hi) rfl 8 (by decide) (hts _ tw_106) rfl d_R_begin_1 ?_
  refine lv_if_ne (tgt := 14) hx hb d_R_begin_4 (by decide) (fun h1 => ?_) (fun h1 => ?_)
  · skip
    refine lv_iconst (v := 0) hx hb d_R_begin_14 (by decide) ?_
    have e9 : f_R_begin s0 i a1 = (0, s0) := by unfold f_R_begin; exact if_neg h1
    exact mw_iret hx hb hr rfl hw hS (congrArg (fun z => some (Value.int z.1)) e9.symm) ⟨rfl, congrArg (fun z => encC G.2 ad nr nm z.2) e9.symm⟩ hlocks d_R_begin_15
  · skip
    refine lv_aload_n hx hb d_R_begin_7 rfl (lv_at hl 0 rfl) ?_
    refine mw_get (v := .int (s0 (10 + 3 * i) 5)) hx hb hts in_R hown hK.1 hw (10 + 3 * i) (cC_rel hnr hi) rfl 5 (by decide) (hts _ tw_103) rfl d_R_begin_8 ?_
    refine lv_if_ne (tgt := 16) hx hb d_R_begin_11 (by decide) (fun h2 => ?_) (fun h2 => ?_)
    · skip
      refine lv_aload_n hx hb d_R_begin_16 rfl (lv_at hl 0 rfl) ?_
      refine lv_iconst (v := 0) hx hb d_R_begin_17 (by decide) ?_
      refine lv_iload_n hx hb d_R_begin_18 rfl (lv_at hl 1 rfl) ?_
      refine gV (As := [.int (0), .int (a1)]) (rest := []) (st1 := []) ⟨hx, hb, hml, hown, hts⟩ (cc_R_rollAt l G A ad nr nm hnr hnm s0 i hi 0 a1) (cC_rel hnr hi) rfl tw_176 tw_173 tw_175 tw_p4 tw_5 hd_R_rollAt rfl rfl ⟨Nat.le_of_ble_eq_true rfl, Nat.le_of_ble_eq_true rfl⟩ hK hw hS hl.1 rfl (Nat.le_of_ble_eq_true rfl) ⟨Nat.zero_le _, Nat.zero_le _⟩ d_R_begin_19 rfl (fun H locs hw hS => ?_)
      refine lv_iconst (v := 1) hx hb d_R_begin_22 (by decide) ?_
      have e9 : f_R_begin s0 i a1 = (1, f_R_rollAt s0 i 0 a1) := by unfold f_R_begin; exact (if_pos h1).trans (if_neg h2)
      exact mw_iret hx hb hr rfl hw hS (congrArg (fun z => some (Value.int z.1)) e9.symm) ⟨rfl, congrArg (fun z => encC G.2 ad nr nm z.2) e9.symm⟩ hlocks d_R_begin_23
    · skip
      refine lv_iconst (v := 0) hx hb d_R_begin_14 (by decide) ?_
      have e9 : f_R_begin s0 i a1 = (0, s0) := by unfold f_R_begin; exact (if_pos h1).trans (if_pos h2)
      exact mw_iret hx hb hr rfl hw hS (congrArg (fun z => some (Value.int z.1)) e9.symm) ⟨rfl, congrArg (fun z => encC G.2 ad nr nm z.2) e9.symm⟩ hlocks d_R_begin_15

def f_R_addReports (s0 : S2) (i : Nat) (a1 : Int32) (a2 : Int32) : Int32 × S2 :=
  if (s0 (10 + 3 * i) 8) = 1 then
    if (f_C_within a1 0 10000) = 0 then
      (0, s0)
    else
      if (f_C_within a2 0 10000) = 0 then
        (0, s0)
      else
        (1, up2 (up2 s0 (10 + 3 * i) 12 ((s0 (10 + 3 * i) 12) + a1)) (10 + 3 * i) 13 (((up2 s0 (10 + 3 * i) 12 ((s0 (10 + 3 * i) 12) + a1)) (10 + 3 * i) 13) + a2))
  else
    (0, s0)
theorem fb_R_addReports (s0 : S2) (i : Nat) (a1 : Int32) (a2 : Int32) : narrow .boolean (.int ((f_R_addReports s0 i a1 a2).1)) = .int ((f_R_addReports s0 i a1 a2).1) := by
  unfold f_R_addReports
  repeat' split
  all_goals first | rfl | exact narrow_b0 | exact narrow_b1
set_option maxHeartbeats 4000000 in
set_option maxRecDepth 100000 in
theorem cc_R_addReports (l : Launch) (G : Gx) (A : Nat → Prop) (ad : Nat → Nat) (nr nm : Nat) (hnr : nr ≤ 16) (hnm : nm ≤ 30) (s0 : S2) (i : Nat) (hi : i < nr) (a1 : Int32) (a2 : Int32) : Met l y_R_addReports ws_R_addReports { frames := 1, cells := 0, slots := 0, locals := 22 } (PG G [.ref (ad (10 + 3 * i)), .int (a1), .int (a2)] A ad (encC G.2 ad nr nm s0)) (EG G A (some (.int (f_R_addReports s0 i a1 a2).1)) ad (encC G.2 ad nr nm ((f_R_addReports s0 i a1 a2).2))) 0 0 A := by
  refine Met.ofW (cc := c_R_addReports) (maxL := 3) (ret := (some .boolean)) (by decide) rfl ?_
  intro p e s m args below meth c s₁ B hml hv
  obtain ⟨rfl, hw, hK⟩ := hv
  have hx := B.exec
  have hb := B.bytes
  have hr := B.returns
  have hts : ∀ w ∈ tbG, w.before [.ref (ad (10 + 3 * i)), .int (a1), .int (a2)].toArray s = true := fun w h => atoms_spec (ws := ws_R_addReports) B.pre w (List.mem_cons_of_mem _ h)
  have hown : s.vm.findClass "RollStages$Release" = some m.cls := findClass_of_methodNamed B.named
  have hlocks := B.notSynchronized
  have hS : va_S A s.heap s.heap [] := va_S.rf
  have hw : mwG G A ad (encC G.2 ad nr nm s0) s.heap := hw
  have hl := lv_entry ([.ref (ad (10 + 3 * i)), .int (a1), .int (a2)]) (n := 3) (Nat.le_of_ble_eq_true rfl)
  rw [lg_entry_eq]
  generalize (lg_sl ([.ref (ad (10 + 3 * i)), .int (a1), .int (a2)]) ++ List.replicate (3 - (lg_sl ([.ref (ad (10 + 3 * i)), .int (a1), .int (a2)])).length) Slot.unset).toArray = ls at hl ⊢
  have hl : lv_has ls 3 [(0, .ref (ad (10 + 3 * i))), (1, .int (a1)), (2, .int (a2))] := hl
  refine lv_aload_n hx hb d_R_addReports_0 rfl (lv_at hl 0 rfl) ?_
  refine mw_get (v := .int (s0 (10 + 3 * i) 8)) hx hb hts in_R hown hK.1 hw (10 + 3 * i) (cC_rel hnr hi) rfl 8 (by decide) (hts _ tw_106) rfl d_R_addReports_1 ?_
  refine lv_iconst (v := 1) hx hb d_R_addReports_4 (by decide) ?_
  refine lv_icmp_ne (tgt := 30) hx hb d_R_addReports_5 (by decide) (fun h1 => ?_) (fun h1 => ?_)
  · skip
    refine lv_iconst (v := 0) hx hb d_R_addReports_30 (by decide) ?_
    have e9 : f_R_addReports s0 i a1 a2 = (0, s0) := by unfold f_R_addReports; exact if_neg h1
    exact mw_iret hx hb hr rfl hw hS (congrArg (fun z => some (Value.int z.1)) e9.symm) ⟨rfl, congrArg (fun z => encC G.2 ad nr nm z.2) e9.symm⟩ hlocks d_R_addReports_31
  · skip
    refine lv_iload_n hx hb d_R_addReports_8 rfl (lv_at hl 1 rfl) ?_
    refine lv_iconst (v := 0) hx hb d_R_addReports_9 (by decide) ?_
    refine lv_sipush (v := 10000) hx hb d_R_addReports_10 (by decide) ?_
    refine gSN (As := [.int (a1), .int (0), .int (10000)]) (rest := []) (st1 := [.int (f_C_within a1 0 10000)]) ⟨hx, hb, hml, hown, hts⟩ (cc_C_within l G A ad nr nm hnr hnm s0 a1 0 10000) tw_89 nw_3 tw_88 tw_1 hd_C_within rfl rfl ⟨Nat.le_of_ble_eq_true rfl, Nat.le_of_ble_eq_true rfl⟩ hK hw hS hl.1 rfl (Nat.le_of_ble_eq_true rfl) ⟨Nat.zero_le _, Nat.zero_le _⟩ d_R_addReports_13 rfl (fun H locs hw hS => ?_)
    refine lv_if_eq (tgt := 30) hx hb d_R_addReports_16 (by decide) (fun h2 => ?_) (fun h2 => ?_)
    · skip
      refine lv_iconst (v := 0) hx hb d_R_addReports_30 (by decide) ?_
      have e9 : f_R_addReports s0 i a1 a2 = (0, s0) := by unfold f_R_addReports; exact (if_pos h1).trans (if_pos h2)
      exact mw_iret hx hb hr rfl hw hS (congrArg (fun z => some (Value.int z.1)) e9.symm) ⟨rfl, congrArg (fun z => encC G.2 ad nr nm z.2) e9.symm⟩ hlocks d_R_addReports_31
    · skip
      refine lv_iload_n hx hb d_R_addReports_19 rfl (lv_at hl 2 rfl) ?_
      refine lv_iconst (v := 0) hx hb d_R_addReports_20 (by decide) ?_
      refine lv_sipush (v := 10000) hx hb d_R_addReports_21 (by decide) ?_
      refine gSN (As := [.int (a2), .int (0), .int (10000)]) (rest := []) (st1 := [.int (f_C_within a2 0 10000)]) ⟨hx, hb, hml, hown, hts⟩ (cc_C_within l G A ad nr nm hnr hnm s0 a2 0 10000) tw_89 nw_3 tw_88 tw_1 hd_C_within rfl rfl ⟨Nat.le_of_ble_eq_true rfl, Nat.le_of_ble_eq_true rfl⟩ hK hw hS hl.1 rfl (Nat.le_of_ble_eq_true rfl) ⟨Nat.zero_le _, Nat.zero_le _⟩ d_R_addReports_24 rfl (fun H locs hw hS => ?_)
      refine lv_if_ne (tgt := 32) hx hb d_R_addReports_27 (by decide) (fun h3 => ?_) (fun h3 => ?_)
      · skip
        refine lv_aload_n hx hb d_R_addReports_32 rfl (lv_at hl 0 rfl) ?_
        refine lv_dup hx hb d_R_addReports_33 rfl ?_
        refine mw_get (v := .int (s0 (10 + 3 * i) 12)) hx hb hts in_R hown hK.1 hw (10 + 3 * i) (cC_rel hnr hi) rfl 12 (by decide) (hts _ tw_113) rfl d_R_addReports_34 ?_
        refine lv_iload_n hx hb d_R_addReports_37 rfl (lv_at hl 1 rfl) ?_
        refine lv_iadd hx hb d_R_addReports_38 ?_
        refine mw_put (v := .int ((s0 (10 + 3 * i) 12) + a1)) hx hb hts in_R ty_R ty_R_ok n_R hown hK.1 hw hS (10 + 3 * i) (cC_rel hnr hi) rfl 12 (by decide) (hts _ tw_113) rfl rfl rfl (Nat.le_of_ble_eq_true rfl) d_R_addReports_39 (fun H locs hw hS => ?_)
        replace hw := mw_encC (r := upd (s0 (10 + 3 * i)) 12 ((s0 (10 + 3 * i) 12) + a1)) hw (cC_rel hnr hi)
        have hw : mwG G A ad (encC G.2 ad nr nm (up2 s0 (10 + 3 * i) 12 ((s0 (10 + 3 * i) 12) + a1))) H := hw
        refine lv_aload_n hx hb d_R_addReports_42 rfl (lv_at hl 0 rfl) ?_
        refine lv_dup hx hb d_R_addReports_43 rfl ?_
        refine mw_get (v := .int ((up2 s0 (10 + 3 * i) 12 ((s0 (10 + 3 * i) 12) + a1)) (10 + 3 * i) 13)) hx hb hts in_R hown hK.1 hw (10 + 3 * i) (cC_rel hnr hi) rfl 13 (by decide) (hts _ tw_114) rfl d_R_addReports_44 ?_
        refine lv_iload_n hx hb d_R_addReports_47 rfl (lv_at hl 2 rfl) ?_
        refine lv_iadd hx hb d_R_addReports_48 ?_
        refine mw_put (v := .int (((up2 s0 (10 + 3 * i) 12 ((s0 (10 + 3 * i) 12) + a1)) (10 + 3 * i) 13) + a2)) hx hb hts in_R ty_R ty_R_ok n_R hown hK.1 hw hS (10 + 3 * i) (cC_rel hnr hi) rfl 13 (by decide) (hts _ tw_114) rfl rfl rfl (Nat.le_of_ble_eq_true rfl) d_R_addReports_49 (fun H locs hw hS => ?_)
        replace hw := mw_encC (r := upd ((up2 s0 (10 + 3 * i) 12 ((s0 (10 + 3 * i) 12) + a1)) (10 + 3 * i)) 13 (((up2 s0 (10 + 3 * i) 12 ((s0 (10 + 3 * i) 12) + a1)) (10 + 3 * i) 13) + a2)) hw (cC_rel hnr hi)
        have hw : mwG G A ad (encC G.2 ad nr nm (up2 (up2 s0 (10 + 3 * i) 12 ((s0 (10 + 3 * i) 12) + a1)) (10 + 3 * i) 13 (((up2 s0 (10 + 3 * i) 12 ((s0 (10 + 3 * i) 12) + a1)) (10 + 3 * i) 13) + a2))) H := hw
        refine lv_iconst (v := 1) hx hb d_R_addReports_52 (by decide) ?_
        have e9 : f_R_addReports s0 i a1 a2 = (1, up2 (up2 s0 (10 + 3 * i) 12 ((s0 (10 + 3 * i) 12) + a1)) (10 + 3 * i) 13 (((up2 s0 (10 + 3 * i) 12 ((s0 (10 + 3 * i) 12) + a1)) (10 + 3 * i) 13) + a2)) := by unfold f_R_addReports; exact (if_pos h1).trans ((if_neg h2).trans (if_neg h3))
        exact mw_iret hx hb hr rfl hw hS (congrArg (fun z => some (Value.int z.1)) e9.symm) ⟨rfl, congrArg (fun z => encC G.2 ad nr nm z.2) e9.symm⟩ hlocks d_R_addReports_53
      · skip
        refine lv_iconst (v := 0) hx hb d_R_addReports_30 (by decide) ?_
        have e9 : f_R_addReports s0 i a1 a2 = (0, s0) := by unfold f_R_addReports; exact (if_pos h1).trans ((if_neg h2).trans (if_pos h3))
        exact mw_iret hx hb hr rfl hw hS (congrArg (fun z => some (Value.int z.1)) e9.symm) ⟨rfl, congrArg (fun z => encC G.2 ad nr nm z.2) e9.symm⟩ hlocks d_R_addReports_31

def f_R_holdByHand (s0 : S2) (i : Nat) : Int32 × S2 :=
  if (s0 (10 + 3 * i) 8) = 1 then
    (1, f_R_holdFor s0 i 3)
  else
    (0, s0)
theorem fb_R_holdByHand (s0 : S2) (i : Nat) : narrow .boolean (.int ((f_R_holdByHand s0 i).1)) = .int ((f_R_holdByHand s0 i).1) := by
  unfold f_R_holdByHand
  repeat' split
  all_goals first | rfl | exact narrow_b0 | exact narrow_b1
set_option maxHeartbeats 4000000 in
set_option maxRecDepth 100000 in
theorem cc_R_holdByHand (l : Launch) (G : Gx) (A : Nat → Prop) (ad : Nat → Nat) (nr nm : Nat) (hnr : nr ≤ 16) (hnm : nm ≤ 30) (s0 : S2) (i : Nat) (hi : i < nr) : Met l y_R_holdByHand ws_R_holdByHand { frames := 1, cells := 0, slots := 0, locals := 21 } (PG G [.ref (ad (10 + 3 * i))] A ad (encC G.2 ad nr nm s0)) (EG G A (some (.int (f_R_holdByHand s0 i).1)) ad (encC G.2 ad nr nm ((f_R_holdByHand s0 i).2))) 0 0 A := by
  refine Met.ofW (cc := c_R_holdByHand) (maxL := 1) (ret := (some .boolean)) (by decide) rfl ?_
  intro p e s m args below meth c s₁ B hml hv
  obtain ⟨rfl, hw, hK⟩ := hv
  have hx := B.exec
  have hb := B.bytes
  have hr := B.returns
  have hts : ∀ w ∈ tbG, w.before [.ref (ad (10 + 3 * i))].toArray s = true := fun w h => atoms_spec (ws := ws_R_holdByHand) B.pre w (List.mem_cons_of_mem _ h)
  have hown : s.vm.findClass "RollStages$Release" = some m.cls := findClass_of_methodNamed B.named
  have hlocks := B.notSynchronized
  have hS : va_S A s.heap s.heap [] := va_S.rf
  have hw : mwG G A ad (encC G.2 ad nr nm s0) s.heap := hw
  have hl := lv_entry ([.ref (ad (10 + 3 * i))]) (n := 1) (Nat.le_of_ble_eq_true rfl)
  rw [lg_entry_eq]
  generalize (lg_sl ([.ref (ad (10 + 3 * i))]) ++ List.replicate (1 - (lg_sl ([.ref (ad (10 + 3 * i))])).length) Slot.unset).toArray = ls at hl ⊢
  have hl : lv_has ls 1 [(0, .ref (ad (10 + 3 * i)))] := hl
  refine lv_aload_n hx hb d_R_holdByHand_0 rfl (lv_at hl 0 rfl) ?_
  refine mw_get (v := .int (s0 (10 + 3 * i) 8)) hx hb hts in_R hown hK.1 hw (10 + 3 * i) (cC_rel hnr hi) rfl 8 (by decide) (hts _ tw_106) rfl d_R_holdByHand_1 ?_
  refine lv_iconst (v := 1) hx hb d_R_holdByHand_4 (by decide) ?_
  refine lv_icmp_eq (tgt := 10) hx hb d_R_holdByHand_5 (by decide) (fun h1 => ?_) (fun h1 => ?_)
  · skip
    refine lv_aload_n hx hb d_R_holdByHand_10 rfl (lv_at hl 0 rfl) ?_
    refine lv_iconst (v := 3) hx hb d_R_holdByHand_11 (by decide) ?_
    refine gV (As := [.int (3)]) (rest := []) (st1 := []) ⟨hx, hb, hml, hown, hts⟩ (cc_R_holdFor l G A ad nr nm hnr hnm s0 i hi 3) (cC_rel hnr hi) rfl tw_196 tw_193 tw_195 tw_p7 tw_5 hd_R_holdFor rfl rfl ⟨Nat.le_of_ble_eq_true rfl, Nat.le_of_ble_eq_true rfl⟩ hK hw hS hl.1 rfl (Nat.le_of_ble_eq_true rfl) ⟨Nat.zero_le _, Nat.zero_le _⟩ d_R_holdByHand_12 rfl (fun H locs hw hS => ?_)
    refine lv_iconst (v := 1) hx hb d_R_holdByHand_15 (by decide) ?_
    have e9 : f_R_holdByHand s0 i = (1, f_R_holdFor s0 i 3) := by unfold f_R_holdByHand; exact if_pos h1
    exact mw_iret hx hb hr rfl hw hS (congrArg (fun z => some (Value.int z.1)) e9.symm) ⟨rfl, congrArg (fun z => encC G.2 ad nr nm z.2) e9.symm⟩ hlocks d_R_holdByHand_16
  · skip
    refine lv_iconst (v := 0) hx hb d_R_holdByHand_8 (by decide) ?_
    have e9 : f_R_holdByHand s0 i = (0, s0) := by unfold f_R_holdByHand; exact if_neg h1
    exact mw_iret hx hb hr rfl hw hS (congrArg (fun z => some (Value.int z.1)) e9.symm) ⟨rfl, congrArg (fun z => encC G.2 ad nr nm z.2) e9.symm⟩ hlocks d_R_holdByHand_9

def f_R_goOn (s0 : S2) (i : Nat) (a1 : Int32) : Int32 × S2 :=
  if (s0 (10 + 3 * i) 8) = 2 then
    (1, f_R_rollAt s0 i (s0 (10 + 3 * i) 10) a1)
  else
    (0, s0)
theorem fb_R_goOn (s0 : S2) (i : Nat) (a1 : Int32) : narrow .boolean (.int ((f_R_goOn s0 i a1).1)) = .int ((f_R_goOn s0 i a1).1) := by
  unfold f_R_goOn
  repeat' split
  all_goals first | rfl | exact narrow_b0 | exact narrow_b1
set_option maxHeartbeats 4000000 in
set_option maxRecDepth 100000 in
theorem cc_R_goOn (l : Launch) (G : Gx) (A : Nat → Prop) (ad : Nat → Nat) (nr nm : Nat) (hnr : nr ≤ 16) (hnm : nm ≤ 30) (s0 : S2) (i : Nat) (hi : i < nr) (a1 : Int32) : Met l y_R_goOn ws_R_goOn { frames := 1, cells := 0, slots := 0, locals := 22 } (PG G [.ref (ad (10 + 3 * i)), .int (a1)] A ad (encC G.2 ad nr nm s0)) (EG G A (some (.int (f_R_goOn s0 i a1).1)) ad (encC G.2 ad nr nm ((f_R_goOn s0 i a1).2))) 0 0 A := by
  refine Met.ofW (cc := c_R_goOn) (maxL := 2) (ret := (some .boolean)) (by decide) rfl ?_
  intro p e s m args below meth c s₁ B hml hv
  obtain ⟨rfl, hw, hK⟩ := hv
  have hx := B.exec
  have hb := B.bytes
  have hr := B.returns
  have hts : ∀ w ∈ tbG, w.before [.ref (ad (10 + 3 * i)), .int (a1)].toArray s = true := fun w h => atoms_spec (ws := ws_R_goOn) B.pre w (List.mem_cons_of_mem _ h)
  have hown : s.vm.findClass "RollStages$Release" = some m.cls := findClass_of_methodNamed B.named
  have hlocks := B.notSynchronized
  have hS : va_S A s.heap s.heap [] := va_S.rf
  have hw : mwG G A ad (encC G.2 ad nr nm s0) s.heap := hw
  have hl := lv_entry ([.ref (ad (10 + 3 * i)), .int (a1)]) (n := 2) (Nat.le_of_ble_eq_true rfl)
  rw [lg_entry_eq]
  generalize (lg_sl ([.ref (ad (10 + 3 * i)), .int (a1)]) ++ List.replicate (2 - (lg_sl ([.ref (ad (10 + 3 * i)), .int (a1)])).length) Slot.unset).toArray = ls at hl ⊢
  have hl : lv_has ls 2 [(0, .ref (ad (10 + 3 * i))), (1, .int (a1))] := hl
  refine lv_aload_n hx hb d_R_goOn_0 rfl (lv_at hl 0 rfl) ?_
  refine mw_get (v := .int (s0 (10 + 3 * i) 8)) hx hb hts in_R hown hK.1 hw (10 + 3 * i) (cC_rel hnr hi) rfl 8 (by decide) (hts _ tw_106) rfl d_R_goOn_1 ?_
  refine lv_iconst (v := 2) hx hb d_R_goOn_4 (by decide) ?_
  refine lv_icmp_eq (tgt := 10) hx hb d_R_goOn_5 (by decide) (fun h1 => ?_) (fun h1 => ?_)
  · skip
    refine lv_aload_n hx hb d_R_goOn_10 rfl (lv_at hl 0 rfl) ?_
    refine lv_aload_n hx hb d_R_goOn_11 rfl (lv_at hl 0 rfl) ?_
    refine mw_get (v := .int (s0 (10 + 3 * i) 10)) hx hb hts in_R hown hK.1 hw (10 + 3 * i) (cC_rel hnr hi) rfl 10 (by decide) (hts _ tw_111) rfl d_R_goOn_12 ?_
    refine lv_iload_n hx hb d_R_goOn_15 rfl (lv_at hl 1 rfl) ?_
    refine gV (As := [.int (s0 (10 + 3 * i) 10), .int (a1)]) (rest := []) (st1 := []) ⟨hx, hb, hml, hown, hts⟩ (cc_R_rollAt l G A ad nr nm hnr hnm s0 i hi (s0 (10 + 3 * i) 10) a1) (cC_rel hnr hi) rfl tw_176 tw_173 tw_175 tw_p4 tw_5 hd_R_rollAt rfl rfl ⟨Nat.le_of_ble_eq_true rfl, Nat.le_of_ble_eq_true rfl⟩ hK hw hS hl.1 rfl (Nat.le_of_ble_eq_true rfl) ⟨Nat.zero_le _, Nat.zero_le _⟩ d_R_goOn_16 rfl (fun H locs hw hS => ?_)
    refine lv_iconst (v := 1) hx hb d_R_goOn_19 (by decide) ?_
    have e9 : f_R_goOn s0 i a1 = (1, f_R_rollAt s0 i (s0 (10 + 3 * i) 10) a1) := by unfold f_R_goOn; exact if_pos h1
    exact mw_iret hx hb hr rfl hw hS (congrArg (fun z => some (Value.int z.1)) e9.symm) ⟨rfl, congrArg (fun z => encC G.2 ad nr nm z.2) e9.symm⟩ hlocks d_R_goOn_20
  · skip
    refine lv_iconst (v := 0) hx hb d_R_goOn_8 (by decide) ?_
    have e9 : f_R_goOn s0 i a1 = (0, s0) := by unfold f_R_goOn; exact if_neg h1
    exact mw_iret hx hb hr rfl hw hS (congrArg (fun z => some (Value.int z.1)) e9.symm) ⟨rfl, congrArg (fun z => encC G.2 ad nr nm z.2) e9.symm⟩ hlocks d_R_goOn_9

def f_R_bar (s0 : S2) (i : Nat) : Int32 × S2 :=
  if (s0 (10 + 3 * i) 8) = 4 then
    (0, s0)
  else
    (1, up2 (up2 s0 (10 + 3 * i) 8 4) (10 + 3 * i) 9 0)
theorem fb_R_bar (s0 : S2) (i : Nat) : narrow .boolean (.int ((f_R_bar s0 i).1)) = .int ((f_R_bar s0 i).1) := by
  unfold f_R_bar
  repeat' split
  all_goals first | rfl | exact narrow_b0 | exact narrow_b1
set_option maxHeartbeats 4000000 in
set_option maxRecDepth 100000 in
theorem cc_R_bar (l : Launch) (G : Gx) (A : Nat → Prop) (ad : Nat → Nat) (nr nm : Nat) (hnr : nr ≤ 16) (hnm : nm ≤ 30) (s0 : S2) (i : Nat) (hi : i < nr) : Met l y_R_bar ws_R_bar { frames := 0, cells := 0, slots := 0, locals := 0 } (PG G [.ref (ad (10 + 3 * i))] A ad (encC G.2 ad nr nm s0)) (EG G A (some (.int (f_R_bar s0 i).1)) ad (encC G.2 ad nr nm ((f_R_bar s0 i).2))) 0 0 A := by
  refine Met.ofW (cc := c_R_bar) (maxL := 1) (ret := (some .boolean)) (by decide) rfl ?_
  intro p e s m args below meth c s₁ B hml hv
  obtain ⟨rfl, hw, hK⟩ := hv
  have hx := B.exec
  have hb := B.bytes
  have hr := B.returns
  have hts : ∀ w ∈ tbG, w.before [.ref (ad (10 + 3 * i))].toArray s = true := fun w h => atoms_spec (ws := ws_R_bar) B.pre w (List.mem_cons_of_mem _ h)
  have hown : s.vm.findClass "RollStages$Release" = some m.cls := findClass_of_methodNamed B.named
  have hlocks := B.notSynchronized
  have hS : va_S A s.heap s.heap [] := va_S.rf
  have hw : mwG G A ad (encC G.2 ad nr nm s0) s.heap := hw
  have hl := lv_entry ([.ref (ad (10 + 3 * i))]) (n := 1) (Nat.le_of_ble_eq_true rfl)
  rw [lg_entry_eq]
  generalize (lg_sl ([.ref (ad (10 + 3 * i))]) ++ List.replicate (1 - (lg_sl ([.ref (ad (10 + 3 * i))])).length) Slot.unset).toArray = ls at hl ⊢
  have hl : lv_has ls 1 [(0, .ref (ad (10 + 3 * i)))] := hl
  refine lv_aload_n hx hb d_R_bar_0 rfl (lv_at hl 0 rfl) ?_
  refine mw_get (v := .int (s0 (10 + 3 * i) 8)) hx hb hts in_R hown hK.1 hw (10 + 3 * i) (cC_rel hnr hi) rfl 8 (by decide) (hts _ tw_106) rfl d_R_bar_1 ?_
  refine lv_iconst (v := 4) hx hb d_R_bar_4 (by decide) ?_
  refine lv_icmp_ne (tgt := 10) hx hb d_R_bar_5 (by decide) (fun h1 => ?_) (fun h1 => ?_)
  · skip
    refine lv_aload_n hx hb d_R_bar_10 rfl (lv_at hl 0 rfl) ?_
    refine lv_iconst (v := 4) hx hb d_R_bar_11 (by decide) ?_
    refine mw_put (v := .int (4)) hx hb hts in_R ty_R ty_R_ok n_R hown hK.1 hw hS (10 + 3 * i) (cC_rel hnr hi) rfl 8 (by decide) (hts _ tw_106) rfl rfl rfl (Nat.le_of_ble_eq_true rfl) d_R_bar_12 (fun H locs hw hS => ?_)
    replace hw := mw_encC (r := upd (s0 (10 + 3 * i)) 8 4) hw (cC_rel hnr hi)
    have hw : mwG G A ad (encC G.2 ad nr nm (up2 s0 (10 + 3 * i) 8 4)) H := hw
    refine lv_aload_n hx hb d_R_bar_15 rfl (lv_at hl 0 rfl) ?_
    refine lv_iconst (v := 0) hx hb d_R_bar_16 (by decide) ?_
    refine mw_put (v := .int (0)) hx hb hts in_R ty_R ty_R_ok n_R hown hK.1 hw hS (10 + 3 * i) (cC_rel hnr hi) rfl 9 (by decide) (hts _ tw_109) rfl rfl rfl (Nat.le_of_ble_eq_true rfl) d_R_bar_17 (fun H locs hw hS => ?_)
    replace hw := mw_encC (r := upd ((up2 s0 (10 + 3 * i) 8 4) (10 + 3 * i)) 9 0) hw (cC_rel hnr hi)
    have hw : mwG G A ad (encC G.2 ad nr nm (up2 (up2 s0 (10 + 3 * i) 8 4) (10 + 3 * i) 9 0)) H := hw
    refine lv_iconst (v := 1) hx hb d_R_bar_20 (by decide) ?_
    have e9 : f_R_bar s0 i = (1, up2 (up2 s0 (10 + 3 * i) 8 4) (10 + 3 * i) 9 0) := by unfold f_R_bar; exact if_neg h1
    exact mw_iret hx hb hr rfl hw hS (congrArg (fun z => some (Value.int z.1)) e9.symm) ⟨rfl, congrArg (fun z => encC G.2 ad nr nm z.2) e9.symm⟩ hlocks d_R_bar_21
  · skip
    refine lv_iconst (v := 0) hx hb d_R_bar_8 (by decide) ?_
    have e9 : f_R_bar s0 i = (0, s0) := by unfold f_R_bar; exact if_pos h1
    exact mw_iret hx hb hr rfl hw hS (congrArg (fun z => some (Value.int z.1)) e9.symm) ⟨rfl, congrArg (fun z => encC G.2 ad nr nm z.2) e9.symm⟩ hlocks d_R_bar_9

def f_R_judge (s0 : S2) (i : Nat) (a1 : Int32) : S2 :=
  if (f_R_allReports s0 i) = 0 then
    f_R_holdFor s0 i 1
  else
    if (f_R_isTooBad s0 i) = 0 then
      if (s0 (10 + 3 * i) 5) ≤ ((s0 (10 + 3 * i) 10) + 1) then
        up2 s0 (10 + 3 * i) 8 3
      else
        f_R_rollAt s0 i ((s0 (10 + 3 * i) 10) + 1) a1
    else
      f_R_holdFor s0 i 2
set_option maxHeartbeats 4000000 in
set_option maxRecDepth 100000 in
theorem cc_R_judge (l : Launch) (G : Gx) (A : Nat → Prop) (ad : Nat → Nat) (nr nm : Nat) (hnr : nr ≤ 16) (hnm : nm ≤ 30) (s0 : S2) (i : Nat) (hi : i < nr) (a1 : Int32) : Met l y_R_judge ws_R_judge { frames := 2, cells := 0, slots := 0, locals := 40 } (PG G [.ref (ad (10 + 3 * i)), .int (a1)] A ad (encC G.2 ad nr nm s0)) (EG G A none ad (encC G.2 ad nr nm (f_R_judge s0 i a1))) 0 0 A := by
  refine Met.ofW (cc := c_R_judge) (maxL := 2) (ret := none) (by decide) rfl ?_
  intro p e s m args below meth c s₁ B hml hv
  obtain ⟨rfl, hw, hK⟩ := hv
  have hx := B.exec
  have hb := B.bytes
  have hr := B.returns
  have hts : ∀ w ∈ tbG, w.before [.ref (ad (10 + 3 * i)), .int (a1)].toArray s = true := fun w h => atoms_spec (ws := ws_R_judge) B.pre w (List.mem_cons_of_mem _ h)
  have hown : s.vm.findClass "RollStages$Release" = some m.cls := findClass_of_methodNamed B.named
  have hlocks := B.notSynchronized
  have hS : va_S A s.heap s.heap [] := va_S.rf
  have hw : mwG G A ad (encC G.2 ad nr nm s0) s.heap := hw
  have hl := lv_entry ([.ref (ad (10 + 3 * i)), .int (a1)]) (n := 2) (Nat.le_of_ble_eq_true rfl)
  rw [lg_entry_eq]
  generalize (lg_sl ([.ref (ad (10 + 3 * i)), .int (a1)]) ++ List.replicate (2 - (lg_sl ([.ref (ad (10 + 3 * i)), .int (a1)])).length) Slot.unset).toArray = ls at hl ⊢
  have hl : lv_has ls 2 [(0, .ref (ad (10 + 3 * i))), (1, .int (a1))] := hl
  refine lv_aload_n hx hb d_R_judge_0 rfl (lv_at hl 0 rfl) ?_
  refine gV (As := []) (rest := []) (st1 := [.int (f_R_allReports s0 i)]) ⟨hx, hb, hml, hown, hts⟩ (cc_R_allReports l G A ad nr nm hnr hnm s0 i hi) (cC_rel hnr hi) rfl tw_231 tw_228 tw_230 tw_p13 tw_5 hd_R_allReports rfl rfl ⟨Nat.le_of_ble_eq_true rfl, Nat.le_of_ble_eq_true rfl⟩ hK hw hS hl.1 rfl (Nat.le_of_ble_eq_true rfl) ⟨Nat.zero_le _, Nat.zero_le _⟩ d_R_judge_1 rfl (fun H locs hw hS => ?_)
  refine lv_if_ne (tgt := 15) hx hb d_R_judge_4 (by decide) (fun h1 => ?_) (fun h1 => ?_)
  · skip
    refine lv_aload_n hx hb d_R_judge_15 rfl (lv_at hl 0 rfl) ?_
    refine gV (As := []) (rest := []) (st1 := [.int (f_R_isTooBad s0 i)]) ⟨hx, hb, hml, hown, hts⟩ (cc_R_isTooBad l G A ad nr nm hnr hnm s0 i hi) (cC_rel hnr hi) rfl tw_235 tw_232 tw_234 tw_p14 tw_5 hd_R_isTooBad rfl rfl ⟨Nat.le_of_ble_eq_true rfl, Nat.le_of_ble_eq_true rfl⟩ hK hw hS hl.1 rfl (Nat.le_of_ble_eq_true rfl) ⟨Nat.zero_le _, Nat.zero_le _⟩ d_R_judge_16 rfl (fun H locs hw hS => ?_)
    refine lv_if_eq (tgt := 30) hx hb d_R_judge_19 (by decide) (fun h2 => ?_) (fun h2 => ?_)
    · skip
      refine lv_aload_n hx hb d_R_judge_30 rfl (lv_at hl 0 rfl) ?_
      refine mw_get (v := .int (s0 (10 + 3 * i) 10)) hx hb hts in_R hown hK.1 hw (10 + 3 * i) (cC_rel hnr hi) rfl 10 (by decide) (hts _ tw_111) rfl d_R_judge_31 ?_
      refine lv_iconst (v := 1) hx hb d_R_judge_34 (by decide) ?_
      refine lv_iadd hx hb d_R_judge_35 ?_
      refine lv_aload_n hx hb d_R_judge_36 rfl (lv_at hl 0 rfl) ?_
      refine mw_get (v := .int (s0 (10 + 3 * i) 5)) hx hb hts in_R hown hK.1 hw (10 + 3 * i) (cC_rel hnr hi) rfl 5 (by decide) (hts _ tw_103) rfl d_R_judge_37 ?_
      refine lv_icmp_ge (tgt := 57) hx hb d_R_judge_40 (by decide) (fun h3 => ?_) (fun h3 => ?_)
      · skip
        refine lv_aload_n hx hb d_R_judge_57 rfl (lv_at hl 0 rfl) ?_
        refine lv_iconst (v := 3) hx hb d_R_judge_58 (by decide) ?_
        refine mw_put (v := .int (3)) hx hb hts in_R ty_R ty_R_ok n_R hown hK.1 hw hS (10 + 3 * i) (cC_rel hnr hi) rfl 8 (by decide) (hts _ tw_106) rfl rfl rfl (Nat.le_of_ble_eq_true rfl) d_R_judge_59 (fun H locs hw hS => ?_)
        replace hw := mw_encC (r := upd (s0 (10 + 3 * i)) 8 3) hw (cC_rel hnr hi)
        have hw : mwG G A ad (encC G.2 ad nr nm (up2 s0 (10 + 3 * i) 8 3)) H := hw
        have e9 : f_R_judge s0 i a1 = up2 s0 (10 + 3 * i) 8 3 := by unfold f_R_judge; exact (if_neg h1).trans ((if_pos h2).trans (if_pos h3))
        exact mw_vret hx hb hr hw hS ⟨rfl, congrArg (fun z => encC G.2 ad nr nm z) e9.symm⟩ hlocks d_R_judge_62
      · skip
        refine lv_aload_n hx hb d_R_judge_43 rfl (lv_at hl 0 rfl) ?_
        refine lv_aload_n hx hb d_R_judge_44 rfl (lv_at hl 0 rfl) ?_
        refine mw_get (v := .int (s0 (10 + 3 * i) 10)) hx hb hts in_R hown hK.1 hw (10 + 3 * i) (cC_rel hnr hi) rfl 10 (by decide) (hts _ tw_111) rfl d_R_judge_45 ?_
        refine lv_iconst (v := 1) hx hb d_R_judge_48 (by decide) ?_
        refine lv_iadd hx hb d_R_judge_49 ?_
        refine lv_iload_n hx hb d_R_judge_50 rfl (lv_at hl 1 rfl) ?_
        refine gV (As := [.int ((s0 (10 + 3 * i) 10) + 1), .int (a1)]) (rest := []) (st1 := []) ⟨hx, hb, hml, hown, hts⟩ (cc_R_rollAt l G A ad nr nm hnr hnm s0 i hi ((s0 (10 + 3 * i) 10) + 1) a1) (cC_rel hnr hi) rfl tw_176 tw_173 tw_175 tw_p4 tw_5 hd_R_rollAt rfl rfl ⟨Nat.le_of_ble_eq_true rfl, Nat.le_of_ble_eq_true rfl⟩ hK hw hS hl.1 rfl (Nat.le_of_ble_eq_true rfl) ⟨Nat.zero_le _, Nat.zero_le _⟩ d_R_judge_51 rfl (fun H locs hw hS => ?_)
        refine lv_goto (tgt := 62) hx hb d_R_judge_54 (by decide) ?_
        have e9 : f_R_judge s0 i a1 = f_R_rollAt s0 i ((s0 (10 + 3 * i) 10) + 1) a1 := by unfold f_R_judge; exact (if_neg h1).trans ((if_pos h2).trans (if_neg h3))
        exact mw_vret hx hb hr hw hS ⟨rfl, congrArg (fun z => encC G.2 ad nr nm z) e9.symm⟩ hlocks d_R_judge_62
    · skip
      refine lv_aload_n hx hb d_R_judge_22 rfl (lv_at hl 0 rfl) ?_
      refine lv_iconst (v := 2) hx hb d_R_judge_23 (by decide) ?_
      refine gV (As := [.int (2)]) (rest := []) (st1 := []) ⟨hx, hb, hml, hown, hts⟩ (cc_R_holdFor l G A ad nr nm hnr hnm s0 i hi 2) (cC_rel hnr hi) rfl tw_196 tw_193 tw_195 tw_p7 tw_5 hd_R_holdFor rfl rfl ⟨Nat.le_of_ble_eq_true rfl, Nat.le_of_ble_eq_true rfl⟩ hK hw hS hl.1 rfl (Nat.le_of_ble_eq_true rfl) ⟨Nat.zero_le _, Nat.zero_le _⟩ d_R_judge_24 rfl (fun H locs hw hS => ?_)
      refine lv_goto (tgt := 62) hx hb d_R_judge_27 (by decide) ?_
      have e9 : f_R_judge s0 i a1 = f_R_holdFor s0 i 2 := by unfold f_R_judge; exact (if_neg h1).trans (if_neg h2)
      exact mw_vret hx hb hr hw hS ⟨rfl, congrArg (fun z => encC G.2 ad nr nm z) e9.symm⟩ hlocks d_R_judge_62
  · skip
    refine lv_aload_n hx hb d_R_judge_7 rfl (lv_at hl 0 rfl) ?_
    refine lv_iconst (v := 1) hx hb d_R_judge_8 (by decide) ?_
    refine gV (As := [.int (1)]) (rest := []) (st1 := []) ⟨hx, hb, hml, hown, hts⟩ (cc_R_holdFor l G A ad nr nm hnr hnm s0 i hi 1) (cC_rel hnr hi) rfl tw_196 tw_193 tw_195 tw_p7 tw_5 hd_R_holdFor rfl rfl ⟨Nat.le_of_ble_eq_true rfl, Nat.le_of_ble_eq_true rfl⟩ hK hw hS hl.1 rfl (Nat.le_of_ble_eq_true rfl) ⟨Nat.zero_le _, Nat.zero_le _⟩ d_R_judge_9 rfl (fun H locs hw hS => ?_)
    refine lv_goto (tgt := 62) hx hb d_R_judge_12 (by decide) ?_
    have e9 : f_R_judge s0 i a1 = f_R_holdFor s0 i 1 := by unfold f_R_judge; exact if_pos h1
    exact mw_vret hx hb hr hw hS ⟨rfl, congrArg (fun z => encC G.2 ad nr nm z) e9.symm⟩ hlocks d_R_judge_62

def f_T_stage (s0 : S2) (a1 : Int32) (a2 : Int32) (a3 : Int32) : Int32 × S2 :=
  if (f_T_isRelease (up2 s0 (0) 0 0) a1) = 0 then
    (0, up2 s0 (0) 0 0)
  else
    if ((up2 s0 (0) 0 0) (12) (Int32.toNatClampNeg a1)) = 0 then
      if ((up2 s0 (0) 0 0) (7) (Int32.toNatClampNeg a1)) = 5 then
        (0, up2 s0 (0) 0 0)
      else
        if (f_T_isWithin a2 0 1000) = 0 then
          (0, up2 s0 (0) 0 0)
        else
          if (f_T_isWithin a3 0 1000) = 0 then
            (0, up2 s0 (0) 0 0)
          else
            if ((up2 s0 (0) 0 0) (7) (Int32.toNatClampNeg a1)) ≤ 0 then
              (1, up2 (up2 (up2 (up2 s0 (0) 0 0) (8) (Int32.toNatClampNeg ((5 * a1) + ((up2 s0 (0) 0 0) (7) (Int32.toNatClampNeg a1)))) a2) (9) (Int32.toNatClampNeg ((5 * a1) + ((up2 (up2 s0 (0) 0 0) (8) (Int32.toNatClampNeg ((5 * a1) + ((up2 s0 (0) 0 0) (7) (Int32.toNatClampNeg a1)))) a2) (7) (Int32.toNatClampNeg a1)))) a3) (7) (Int32.toNatClampNeg a1) (((up2 (up2 (up2 s0 (0) 0 0) (8) (Int32.toNatClampNeg ((5 * a1) + ((up2 s0 (0) 0 0) (7) (Int32.toNatClampNeg a1)))) a2) (9) (Int32.toNatClampNeg ((5 * a1) + ((up2 (up2 s0 (0) 0 0) (8) (Int32.toNatClampNeg ((5 * a1) + ((up2 s0 (0) 0 0) (7) (Int32.toNatClampNeg a1)))) a2) (7) (Int32.toNatClampNeg a1)))) a3) (7) (Int32.toNatClampNeg a1)) + 1))
            else
              if ((up2 s0 (0) 0 0) (8) (Int32.toNatClampNeg (((5 * a1) + ((up2 s0 (0) 0 0) (7) (Int32.toNatClampNeg a1))) - 1))) ≤ a2 then
                (1, up2 (up2 (up2 (up2 s0 (0) 0 0) (8) (Int32.toNatClampNeg ((5 * a1) + ((up2 s0 (0) 0 0) (7) (Int32.toNatClampNeg a1)))) a2) (9) (Int32.toNatClampNeg ((5 * a1) + ((up2 (up2 s0 (0) 0 0) (8) (Int32.toNatClampNeg ((5 * a1) + ((up2 s0 (0) 0 0) (7) (Int32.toNatClampNeg a1)))) a2) (7) (Int32.toNatClampNeg a1)))) a3) (7) (Int32.toNatClampNeg a1) (((up2 (up2 (up2 s0 (0) 0 0) (8) (Int32.toNatClampNeg ((5 * a1) + ((up2 s0 (0) 0 0) (7) (Int32.toNatClampNeg a1)))) a2) (9) (Int32.toNatClampNeg ((5 * a1) + ((up2 (up2 s0 (0) 0 0) (8) (Int32.toNatClampNeg ((5 * a1) + ((up2 s0 (0) 0 0) (7) (Int32.toNatClampNeg a1)))) a2) (7) (Int32.toNatClampNeg a1)))) a3) (7) (Int32.toNatClampNeg a1)) + 1))
              else
                (0, up2 s0 (0) 0 0)
    else
      (0, up2 s0 (0) 0 0)
theorem fb_T_stage (s0 : S2) (a1 : Int32) (a2 : Int32) (a3 : Int32) : narrow .boolean (.int ((f_T_stage s0 a1 a2 a3).1)) = .int ((f_T_stage s0 a1 a2 a3).1) := by
  unfold f_T_stage
  repeat' split
  all_goals first | rfl | exact narrow_b0 | exact narrow_b1
set_option maxHeartbeats 4000000 in
set_option maxRecDepth 100000 in
theorem cc_T_stage (l : Launch) (G : Gx) (A : Nat → Prop) (ad : Nat → Nat) (s0 : S2) (a1 : Int32) (a2 : Int32) (a3 : Int32) (hW : Wt s0) : Met l y_T_stage ws_T_stage { frames := 1, cells := 0, slots := 0, locals := 22 } (PG G [.ref (ad (0)), .int (a1), .int (a2), .int (a3)] A ad (encT G.2 ad s0)) (EG G A (some (.int (f_T_stage s0 a1 a2 a3).1)) ad (encT G.2 ad ((f_T_stage s0 a1 a2 a3).2))) 0 0 A := by
  refine Met.ofW (cc := c_T_stage) (maxL := 4) (ret := (some .boolean)) (by decide) rfl ?_
  intro p e s m args below meth c s₁ B hml hv
  obtain ⟨rfl, hw, hK⟩ := hv
  have hx := B.exec
  have hb := B.bytes
  have hr := B.returns
  have hts : ∀ w ∈ tbG, w.before [.ref (ad (0)), .int (a1), .int (a2), .int (a3)].toArray s = true := fun w h => atoms_spec (ws := ws_T_stage) B.pre w (List.mem_cons_of_mem _ h)
  have hown : s.vm.findClass "RollStagesModel" = some m.cls := findClass_of_methodNamed B.named
  have hlocks := B.notSynchronized
  have hS : va_S A s.heap s.heap [] := va_S.rf
  have hw : mwG G A ad (encT G.2 ad s0) s.heap := hw
  have hl := lv_entry ([.ref (ad (0)), .int (a1), .int (a2), .int (a3)]) (n := 4) (Nat.le_of_ble_eq_true rfl)
  rw [lg_entry_eq]
  generalize (lg_sl ([.ref (ad (0)), .int (a1), .int (a2), .int (a3)]) ++ List.replicate (4 - (lg_sl ([.ref (ad (0)), .int (a1), .int (a2), .int (a3)])).length) Slot.unset).toArray = ls at hl ⊢
  have hl : lv_has ls 4 [(0, .ref (ad (0))), (1, .int (a1)), (2, .int (a2)), (3, .int (a3))] := hl
  refine lv_aload_n hx hb d_T_stage_0 rfl (lv_at hl 0 rfl) ?_
  refine lv_iconst (v := 0) hx hb d_T_stage_1 (by decide) ?_
  refine mw_put (v := .int (0)) hx hb hts in_T ty_T ty_T_ok n_T hown hK.1 hw hS (0) cT_0 rfl 0 (by decide) (hts _ tw_409) rfl rfl rfl (Nat.le_of_ble_eq_true rfl) d_T_stage_2 (fun H locs hw hS => ?_)
  replace hw := mw_encT (r := upd (s0 (0)) 0 0) hw cT_0
  have hw : mwG G A ad (encT G.2 ad (up2 s0 (0) 0 0)) H := hw
  refine lv_aload_n hx hb d_T_stage_5 rfl (lv_at hl 0 rfl) ?_
  refine lv_iload_n hx hb d_T_stage_6 rfl (lv_at hl 1 rfl) ?_
  refine gV (As := [.int (a1)]) (rest := []) (st1 := [.int (f_T_isRelease (up2 s0 (0) 0 0) a1)]) ⟨hx, hb, hml, hown, hts⟩ (cc_T_isRelease l G A ad  (up2 s0 (0) 0 0) a1) cT_0 rfl tw_519 tw_516 tw_518 tw_p33 tw_4 hd_T_isRelease rfl rfl ⟨Nat.le_of_ble_eq_true rfl, Nat.le_of_ble_eq_true rfl⟩ hK hw hS hl.1 rfl (Nat.le_of_ble_eq_true rfl) ⟨Nat.zero_le _, Nat.zero_le _⟩ d_T_stage_7 rfl (fun H locs hw hS => ?_)
  refine lv_if_eq (tgt := 54) hx hb d_T_stage_10 (by decide) (fun h1 => ?_) (fun h1 => ?_)
  · skip
    refine lv_iconst (v := 0) hx hb d_T_stage_54 (by decide) ?_
    have e9 : f_T_stage s0 a1 a2 a3 = (0, up2 s0 (0) 0 0) := by unfold f_T_stage; exact if_pos h1
    exact mw_iret hx hb hr rfl hw hS (congrArg (fun z => some (Value.int z.1)) e9.symm) ⟨rfl, congrArg (fun z => encT G.2 ad z.2) e9.symm⟩ hlocks d_T_stage_55
  · skip
    refine lv_aload_n hx hb d_T_stage_13 rfl (lv_at hl 0 rfl) ?_
    refine mw_get (v := .ref (ad (12))) hx hb hts in_T hown hK.1 hw (0) cT_0 rfl 12 (by decide) (hts _ tw_421) rfl d_T_stage_14 ?_
    refine lv_iload_n hx hb d_T_stage_17 rfl (lv_at hl 1 rfl) ?_
    refine mw_iald hx hb hK.1 hw (12) 0 cT_12 rfl (isRel_in (Wt_c hW) h1) d_T_stage_18 ?_
    refine lv_if_ne (tgt := 54) hx hb d_T_stage_19 (by decide) (fun h2 => ?_) (fun h2 => ?_)
    · skip
      refine lv_iconst (v := 0) hx hb d_T_stage_54 (by decide) ?_
      have e9 : f_T_stage s0 a1 a2 a3 = (0, up2 s0 (0) 0 0) := by unfold f_T_stage; exact (if_neg h1).trans (if_neg h2)
      exact mw_iret hx hb hr rfl hw hS (congrArg (fun z => some (Value.int z.1)) e9.symm) ⟨rfl, congrArg (fun z => encT G.2 ad z.2) e9.symm⟩ hlocks d_T_stage_55
    · skip
      refine lv_aload_n hx hb d_T_stage_22 rfl (lv_at hl 0 rfl) ?_
      refine mw_get (v := .ref (ad (7))) hx hb hts in_T hown hK.1 hw (0) cT_0 rfl 7 (by decide) (hts _ tw_416) rfl d_T_stage_23 ?_
      refine lv_iload_n hx hb d_T_stage_26 rfl (lv_at hl 1 rfl) ?_
      refine mw_iald hx hb hK.1 hw (7) 0 cT_7 rfl (isRel_in (Wt_c hW) h1) d_T_stage_27 ?_
      refine lv_iconst (v := 5) hx hb d_T_stage_28 (by decide) ?_
      refine lv_icmp_eq (tgt := 54) hx hb d_T_stage_29 (by decide) (fun h3 => ?_) (fun h3 => ?_)
      · skip
        refine lv_iconst (v := 0) hx hb d_T_stage_54 (by decide) ?_
        have e9 : f_T_stage s0 a1 a2 a3 = (0, up2 s0 (0) 0 0) := by unfold f_T_stage; exact (if_neg h1).trans ((if_pos h2).trans (if_pos h3))
        exact mw_iret hx hb hr rfl hw hS (congrArg (fun z => some (Value.int z.1)) e9.symm) ⟨rfl, congrArg (fun z => encT G.2 ad z.2) e9.symm⟩ hlocks d_T_stage_55
      · skip
        refine lv_iload_n hx hb d_T_stage_32 rfl (lv_at hl 2 rfl) ?_
        refine lv_iconst (v := 0) hx hb d_T_stage_33 (by decide) ?_
        refine lv_sipush (v := 1000) hx hb d_T_stage_34 (by decide) ?_
        refine gS (As := [.int (a2), .int (0), .int (1000)]) (rest := []) (st1 := [.int (f_T_isWithin a2 0 1000)]) ⟨hx, hb, hml, hown, hts⟩ (cc_T_isWithin l G A ad  (up2 s0 (0) 0 0) a2 0 1000) tw_510 tw_508 tw_509 tw_4 hd_T_isWithin rfl rfl ⟨Nat.le_of_ble_eq_true rfl, Nat.le_of_ble_eq_true rfl⟩ hK hw hS hl.1 rfl (Nat.le_of_ble_eq_true rfl) ⟨Nat.zero_le _, Nat.zero_le _⟩ d_T_stage_37 rfl (fun H locs hw hS => ?_)
        refine lv_if_eq (tgt := 54) hx hb d_T_stage_40 (by decide) (fun h4 => ?_) (fun h4 => ?_)
        · skip
          refine lv_iconst (v := 0) hx hb d_T_stage_54 (by decide) ?_
          have e9 : f_T_stage s0 a1 a2 a3 = (0, up2 s0 (0) 0 0) := by unfold f_T_stage; exact (if_neg h1).trans ((if_pos h2).trans ((if_neg h3).trans (if_pos h4)))
          exact mw_iret hx hb hr rfl hw hS (congrArg (fun z => some (Value.int z.1)) e9.symm) ⟨rfl, congrArg (fun z => encT G.2 ad z.2) e9.symm⟩ hlocks d_T_stage_55
        · skip
          refine lv_iload_n hx hb d_T_stage_43 rfl (lv_at hl 3 rfl) ?_
          refine lv_iconst (v := 0) hx hb d_T_stage_44 (by decide) ?_
          refine lv_sipush (v := 1000) hx hb d_T_stage_45 (by decide) ?_
          refine gS (As := [.int (a3), .int (0), .int (1000)]) (rest := []) (st1 := [.int (f_T_isWithin a3 0 1000)]) ⟨hx, hb, hml, hown, hts⟩ (cc_T_isWithin l G A ad  (up2 s0 (0) 0 0) a3 0 1000) tw_510 tw_508 tw_509 tw_4 hd_T_isWithin rfl rfl ⟨Nat.le_of_ble_eq_true rfl, Nat.le_of_ble_eq_true rfl⟩ hK hw hS hl.1 rfl (Nat.le_of_ble_eq_true rfl) ⟨Nat.zero_le _, Nat.zero_le _⟩ d_T_stage_48 rfl (fun H locs hw hS => ?_)
          refine lv_if_ne (tgt := 56) hx hb d_T_stage_51 (by decide) (fun h5 => ?_) (fun h5 => ?_)
          · skip
            refine lv_aload_n hx hb d_T_stage_56 rfl (lv_at hl 0 rfl) ?_
            refine mw_get (v := .ref (ad (7))) hx hb hts in_T hown hK.1 hw (0) cT_0 rfl 7 (by decide) (hts _ tw_416) rfl d_T_stage_57 ?_
            refine lv_iload_n hx hb d_T_stage_60 rfl (lv_at hl 1 rfl) ?_
            refine mw_iald hx hb hK.1 hw (7) 0 cT_7 rfl (isRel_in (Wt_c hW) h1) d_T_stage_61 ?_
            refine lv_if_le (tgt := 88) hx hb d_T_stage_62 (by decide) (fun h6 => ?_) (fun h6 => ?_)
            · skip
              refine lv_aload_n hx hb d_T_stage_88 rfl (lv_at hl 0 rfl) ?_
              refine mw_get (v := .ref (ad (8))) hx hb hts in_T hown hK.1 hw (0) cT_0 rfl 8 (by decide) (hts _ tw_417) rfl d_T_stage_89 ?_
              refine lv_iconst (v := 5) hx hb d_T_stage_92 (by decide) ?_
              refine lv_iload_n hx hb d_T_stage_93 rfl (lv_at hl 1 rfl) ?_
              refine lv_imul hx hb d_T_stage_94 ?_
              refine lv_aload_n hx hb d_T_stage_95 rfl (lv_at hl 0 rfl) ?_
              refine mw_get (v := .ref (ad (7))) hx hb hts in_T hown hK.1 hw (0) cT_0 rfl 7 (by decide) (hts _ tw_416) rfl d_T_stage_96 ?_
              refine lv_iload_n hx hb d_T_stage_99 rfl (lv_at hl 1 rfl) ?_
              refine mw_iald hx hb hK.1 hw (7) 0 cT_7 rfl (isRel_in (Wt_c hW) h1) d_T_stage_100 ?_
              refine lv_iadd hx hb d_T_stage_101 ?_
              refine lv_iload_n hx hb d_T_stage_102 rfl (lv_at hl 2 rfl) ?_
              refine mw_iast hx hb hK.1 hw hS (8) 0 cT_8 rfl (ix_s (Wt_c hW) (isRel_in (Wt_c hW) h1) h3) d_T_stage_103 (fun H locs hw hS => ?_)
              replace hw := mw_encT (r := upd ((up2 s0 (0) 0 0) (8)) (Int32.toNatClampNeg ((5 * a1) + ((up2 s0 (0) 0 0) (7) (Int32.toNatClampNeg a1)))) a2) hw cT_8
              have hw : mwG G A ad (encT G.2 ad (up2 (up2 s0 (0) 0 0) (8) (Int32.toNatClampNeg ((5 * a1) + ((up2 s0 (0) 0 0) (7) (Int32.toNatClampNeg a1)))) a2)) H := hw
              refine lv_aload_n hx hb d_T_stage_104 rfl (lv_at hl 0 rfl) ?_
              refine mw_get (v := .ref (ad (9))) hx hb hts in_T hown hK.1 hw (0) cT_0 rfl 9 (by decide) (hts _ tw_418) rfl d_T_stage_105 ?_
              refine lv_iconst (v := 5) hx hb d_T_stage_108 (by decide) ?_
              refine lv_iload_n hx hb d_T_stage_109 rfl (lv_at hl 1 rfl) ?_
              refine lv_imul hx hb d_T_stage_110 ?_
              refine lv_aload_n hx hb d_T_stage_111 rfl (lv_at hl 0 rfl) ?_
              refine mw_get (v := .ref (ad (7))) hx hb hts in_T hown hK.1 hw (0) cT_0 rfl 7 (by decide) (hts _ tw_416) rfl d_T_stage_112 ?_
              refine lv_iload_n hx hb d_T_stage_115 rfl (lv_at hl 1 rfl) ?_
              refine mw_iald hx hb hK.1 hw (7) 0 cT_7 rfl (isRel_in (Wt_c hW) h1) d_T_stage_116 ?_
              refine lv_iadd hx hb d_T_stage_117 ?_
              refine lv_iload_n hx hb d_T_stage_118 rfl (lv_at hl 3 rfl) ?_
              refine mw_iast hx hb hK.1 hw hS (9) 0 cT_9 rfl (by rw [up2_ne (k := 8) (k' := 7) (by decide)]; exact ix_s (Wt_c hW) (isRel_in (Wt_c hW) h1) h3) d_T_stage_119 (fun H locs hw hS => ?_)
              replace hw := mw_encT (r := upd ((up2 (up2 s0 (0) 0 0) (8) (Int32.toNatClampNeg ((5 * a1) + ((up2 s0 (0) 0 0) (7) (Int32.toNatClampNeg a1)))) a2) (9)) (Int32.toNatClampNeg ((5 * a1) + ((up2 (up2 s0 (0) 0 0) (8) (Int32.toNatClampNeg ((5 * a1) + ((up2 s0 (0) 0 0) (7) (Int32.toNatClampNeg a1)))) a2) (7) (Int32.toNatClampNeg a1)))) a3) hw cT_9
              have hw : mwG G A ad (encT G.2 ad (up2 (up2 (up2 s0 (0) 0 0) (8) (Int32.toNatClampNeg ((5 * a1) + ((up2 s0 (0) 0 0) (7) (Int32.toNatClampNeg a1)))) a2) (9) (Int32.toNatClampNeg ((5 * a1) + ((up2 (up2 s0 (0) 0 0) (8) (Int32.toNatClampNeg ((5 * a1) + ((up2 s0 (0) 0 0) (7) (Int32.toNatClampNeg a1)))) a2) (7) (Int32.toNatClampNeg a1)))) a3)) H := hw
              refine lv_aload_n hx hb d_T_stage_120 rfl (lv_at hl 0 rfl) ?_
              refine mw_get (v := .ref (ad (7))) hx hb hts in_T hown hK.1 hw (0) cT_0 rfl 7 (by decide) (hts _ tw_416) rfl d_T_stage_121 ?_
              refine lv_iload_n hx hb d_T_stage_124 rfl (lv_at hl 1 rfl) ?_
              refine lv_dup2_11 hx hb d_T_stage_125 rfl rfl ?_
              refine mw_iald hx hb hK.1 hw (7) 0 cT_7 rfl (isRel_in (Wt_c hW) h1) d_T_stage_126 ?_
              refine lv_iconst (v := 1) hx hb d_T_stage_127 (by decide) ?_
              refine lv_iadd hx hb d_T_stage_128 ?_
              refine mw_iast hx hb hK.1 hw hS (7) 0 cT_7 rfl (isRel_in (Wt_c hW) h1) d_T_stage_129 (fun H locs hw hS => ?_)
              replace hw := mw_encT (r := upd ((up2 (up2 (up2 s0 (0) 0 0) (8) (Int32.toNatClampNeg ((5 * a1) + ((up2 s0 (0) 0 0) (7) (Int32.toNatClampNeg a1)))) a2) (9) (Int32.toNatClampNeg ((5 * a1) + ((up2 (up2 s0 (0) 0 0) (8) (Int32.toNatClampNeg ((5 * a1) + ((up2 s0 (0) 0 0) (7) (Int32.toNatClampNeg a1)))) a2) (7) (Int32.toNatClampNeg a1)))) a3) (7)) (Int32.toNatClampNeg a1) (((up2 (up2 (up2 s0 (0) 0 0) (8) (Int32.toNatClampNeg ((5 * a1) + ((up2 s0 (0) 0 0) (7) (Int32.toNatClampNeg a1)))) a2) (9) (Int32.toNatClampNeg ((5 * a1) + ((up2 (up2 s0 (0) 0 0) (8) (Int32.toNatClampNeg ((5 * a1) + ((up2 s0 (0) 0 0) (7) (Int32.toNatClampNeg a1)))) a2) (7) (Int32.toNatClampNeg a1)))) a3) (7) (Int32.toNatClampNeg a1)) + 1)) hw cT_7
              have hw : mwG G A ad (encT G.2 ad (up2 (up2 (up2 (up2 s0 (0) 0 0) (8) (Int32.toNatClampNeg ((5 * a1) + ((up2 s0 (0) 0 0) (7) (Int32.toNatClampNeg a1)))) a2) (9) (Int32.toNatClampNeg ((5 * a1) + ((up2 (up2 s0 (0) 0 0) (8) (Int32.toNatClampNeg ((5 * a1) + ((up2 s0 (0) 0 0) (7) (Int32.toNatClampNeg a1)))) a2) (7) (Int32.toNatClampNeg a1)))) a3) (7) (Int32.toNatClampNeg a1) (((up2 (up2 (up2 s0 (0) 0 0) (8) (Int32.toNatClampNeg ((5 * a1) + ((up2 s0 (0) 0 0) (7) (Int32.toNatClampNeg a1)))) a2) (9) (Int32.toNatClampNeg ((5 * a1) + ((up2 (up2 s0 (0) 0 0) (8) (Int32.toNatClampNeg ((5 * a1) + ((up2 s0 (0) 0 0) (7) (Int32.toNatClampNeg a1)))) a2) (7) (Int32.toNatClampNeg a1)))) a3) (7) (Int32.toNatClampNeg a1)) + 1))) H := hw
              refine lv_iconst (v := 1) hx hb d_T_stage_130 (by decide) ?_
              have e9 : f_T_stage s0 a1 a2 a3 = (1, up2 (up2 (up2 (up2 s0 (0) 0 0) (8) (Int32.toNatClampNeg ((5 * a1) + ((up2 s0 (0) 0 0) (7) (Int32.toNatClampNeg a1)))) a2) (9) (Int32.toNatClampNeg ((5 * a1) + ((up2 (up2 s0 (0) 0 0) (8) (Int32.toNatClampNeg ((5 * a1) + ((up2 s0 (0) 0 0) (7) (Int32.toNatClampNeg a1)))) a2) (7) (Int32.toNatClampNeg a1)))) a3) (7) (Int32.toNatClampNeg a1) (((up2 (up2 (up2 s0 (0) 0 0) (8) (Int32.toNatClampNeg ((5 * a1) + ((up2 s0 (0) 0 0) (7) (Int32.toNatClampNeg a1)))) a2) (9) (Int32.toNatClampNeg ((5 * a1) + ((up2 (up2 s0 (0) 0 0) (8) (Int32.toNatClampNeg ((5 * a1) + ((up2 s0 (0) 0 0) (7) (Int32.toNatClampNeg a1)))) a2) (7) (Int32.toNatClampNeg a1)))) a3) (7) (Int32.toNatClampNeg a1)) + 1)) := by unfold f_T_stage; exact (if_neg h1).trans ((if_pos h2).trans ((if_neg h3).trans ((if_neg h4).trans ((if_neg h5).trans (if_pos h6)))))
              exact mw_iret hx hb hr rfl hw hS (congrArg (fun z => some (Value.int z.1)) e9.symm) ⟨rfl, congrArg (fun z => encT G.2 ad z.2) e9.symm⟩ hlocks d_T_stage_131
            · skip
              refine lv_iload_n hx hb d_T_stage_65 rfl (lv_at hl 2 rfl) ?_
              refine lv_aload_n hx hb d_T_stage_66 rfl (lv_at hl 0 rfl) ?_
              refine mw_get (v := .ref (ad (8))) hx hb hts in_T hown hK.1 hw (0) cT_0 rfl 8 (by decide) (hts _ tw_417) rfl d_T_stage_67 ?_
              refine lv_iconst (v := 5) hx hb d_T_stage_70 (by decide) ?_
              refine lv_iload_n hx hb d_T_stage_71 rfl (lv_at hl 1 rfl) ?_
              refine lv_imul hx hb d_T_stage_72 ?_
              refine lv_aload_n hx hb d_T_stage_73 rfl (lv_at hl 0 rfl) ?_
              refine mw_get (v := .ref (ad (7))) hx hb hts in_T hown hK.1 hw (0) cT_0 rfl 7 (by decide) (hts _ tw_416) rfl d_T_stage_74 ?_
              refine lv_iload_n hx hb d_T_stage_77 rfl (lv_at hl 1 rfl) ?_
              refine mw_iald hx hb hK.1 hw (7) 0 cT_7 rfl (isRel_in (Wt_c hW) h1) d_T_stage_78 ?_
              refine lv_iadd hx hb d_T_stage_79 ?_
              refine lv_iconst (v := 1) hx hb d_T_stage_80 (by decide) ?_
              refine lv_isub hx hb d_T_stage_81 ?_
              refine mw_iald hx hb hK.1 hw (8) 0 cT_8 rfl (ix_s1 (Wt_c hW) (isRel_in (Wt_c hW) h1) h6) d_T_stage_82 ?_
              refine lv_icmp_ge (tgt := 88) hx hb d_T_stage_83 (by decide) (fun h7 => ?_) (fun h7 => ?_)
              · skip
                refine lv_aload_n hx hb d_T_stage_88 rfl (lv_at hl 0 rfl) ?_
                refine mw_get (v := .ref (ad (8))) hx hb hts in_T hown hK.1 hw (0) cT_0 rfl 8 (by decide) (hts _ tw_417) rfl d_T_stage_89 ?_
                refine lv_iconst (v := 5) hx hb d_T_stage_92 (by decide) ?_
                refine lv_iload_n hx hb d_T_stage_93 rfl (lv_at hl 1 rfl) ?_
                refine lv_imul hx hb d_T_stage_94 ?_
                refine lv_aload_n hx hb d_T_stage_95 rfl (lv_at hl 0 rfl) ?_
                refine mw_get (v := .ref (ad (7))) hx hb hts in_T hown hK.1 hw (0) cT_0 rfl 7 (by decide) (hts _ tw_416) rfl d_T_stage_96 ?_
                refine lv_iload_n hx hb d_T_stage_99 rfl (lv_at hl 1 rfl) ?_
                refine mw_iald hx hb hK.1 hw (7) 0 cT_7 rfl (isRel_in (Wt_c hW) h1) d_T_stage_100 ?_
                refine lv_iadd hx hb d_T_stage_101 ?_
                refine lv_iload_n hx hb d_T_stage_102 rfl (lv_at hl 2 rfl) ?_
                refine mw_iast hx hb hK.1 hw hS (8) 0 cT_8 rfl (ix_s (Wt_c hW) (isRel_in (Wt_c hW) h1) h3) d_T_stage_103 (fun H locs hw hS => ?_)
                replace hw := mw_encT (r := upd ((up2 s0 (0) 0 0) (8)) (Int32.toNatClampNeg ((5 * a1) + ((up2 s0 (0) 0 0) (7) (Int32.toNatClampNeg a1)))) a2) hw cT_8
                have hw : mwG G A ad (encT G.2 ad (up2 (up2 s0 (0) 0 0) (8) (Int32.toNatClampNeg ((5 * a1) + ((up2 s0 (0) 0 0) (7) (Int32.toNatClampNeg a1)))) a2)) H := hw
                refine lv_aload_n hx hb d_T_stage_104 rfl (lv_at hl 0 rfl) ?_
                refine mw_get (v := .ref (ad (9))) hx hb hts in_T hown hK.1 hw (0) cT_0 rfl 9 (by decide) (hts _ tw_418) rfl d_T_stage_105 ?_
                refine lv_iconst (v := 5) hx hb d_T_stage_108 (by decide) ?_
                refine lv_iload_n hx hb d_T_stage_109 rfl (lv_at hl 1 rfl) ?_
                refine lv_imul hx hb d_T_stage_110 ?_
                refine lv_aload_n hx hb d_T_stage_111 rfl (lv_at hl 0 rfl) ?_
                refine mw_get (v := .ref (ad (7))) hx hb hts in_T hown hK.1 hw (0) cT_0 rfl 7 (by decide) (hts _ tw_416) rfl d_T_stage_112 ?_
                refine lv_iload_n hx hb d_T_stage_115 rfl (lv_at hl 1 rfl) ?_
                refine mw_iald hx hb hK.1 hw (7) 0 cT_7 rfl (isRel_in (Wt_c hW) h1) d_T_stage_116 ?_
                refine lv_iadd hx hb d_T_stage_117 ?_
                refine lv_iload_n hx hb d_T_stage_118 rfl (lv_at hl 3 rfl) ?_
                refine mw_iast hx hb hK.1 hw hS (9) 0 cT_9 rfl (by rw [up2_ne (k := 8) (k' := 7) (by decide)]; exact ix_s (Wt_c hW) (isRel_in (Wt_c hW) h1) h3) d_T_stage_119 (fun H locs hw hS => ?_)
                replace hw := mw_encT (r := upd ((up2 (up2 s0 (0) 0 0) (8) (Int32.toNatClampNeg ((5 * a1) + ((up2 s0 (0) 0 0) (7) (Int32.toNatClampNeg a1)))) a2) (9)) (Int32.toNatClampNeg ((5 * a1) + ((up2 (up2 s0 (0) 0 0) (8) (Int32.toNatClampNeg ((5 * a1) + ((up2 s0 (0) 0 0) (7) (Int32.toNatClampNeg a1)))) a2) (7) (Int32.toNatClampNeg a1)))) a3) hw cT_9
                have hw : mwG G A ad (encT G.2 ad (up2 (up2 (up2 s0 (0) 0 0) (8) (Int32.toNatClampNeg ((5 * a1) + ((up2 s0 (0) 0 0) (7) (Int32.toNatClampNeg a1)))) a2) (9) (Int32.toNatClampNeg ((5 * a1) + ((up2 (up2 s0 (0) 0 0) (8) (Int32.toNatClampNeg ((5 * a1) + ((up2 s0 (0) 0 0) (7) (Int32.toNatClampNeg a1)))) a2) (7) (Int32.toNatClampNeg a1)))) a3)) H := hw
                refine lv_aload_n hx hb d_T_stage_120 rfl (lv_at hl 0 rfl) ?_
                refine mw_get (v := .ref (ad (7))) hx hb hts in_T hown hK.1 hw (0) cT_0 rfl 7 (by decide) (hts _ tw_416) rfl d_T_stage_121 ?_
                refine lv_iload_n hx hb d_T_stage_124 rfl (lv_at hl 1 rfl) ?_
                refine lv_dup2_11 hx hb d_T_stage_125 rfl rfl ?_
                refine mw_iald hx hb hK.1 hw (7) 0 cT_7 rfl (isRel_in (Wt_c hW) h1) d_T_stage_126 ?_
                refine lv_iconst (v := 1) hx hb d_T_stage_127 (by decide) ?_
                refine lv_iadd hx hb d_T_stage_128 ?_
                refine mw_iast hx hb hK.1 hw hS (7) 0 cT_7 rfl (isRel_in (Wt_c hW) h1) d_T_stage_129 (fun H locs hw hS => ?_)
                replace hw := mw_encT (r := upd ((up2 (up2 (up2 s0 (0) 0 0) (8) (Int32.toNatClampNeg ((5 * a1) + ((up2 s0 (0) 0 0) (7) (Int32.toNatClampNeg a1)))) a2) (9) (Int32.toNatClampNeg ((5 * a1) + ((up2 (up2 s0 (0) 0 0) (8) (Int32.toNatClampNeg ((5 * a1) + ((up2 s0 (0) 0 0) (7) (Int32.toNatClampNeg a1)))) a2) (7) (Int32.toNatClampNeg a1)))) a3) (7)) (Int32.toNatClampNeg a1) (((up2 (up2 (up2 s0 (0) 0 0) (8) (Int32.toNatClampNeg ((5 * a1) + ((up2 s0 (0) 0 0) (7) (Int32.toNatClampNeg a1)))) a2) (9) (Int32.toNatClampNeg ((5 * a1) + ((up2 (up2 s0 (0) 0 0) (8) (Int32.toNatClampNeg ((5 * a1) + ((up2 s0 (0) 0 0) (7) (Int32.toNatClampNeg a1)))) a2) (7) (Int32.toNatClampNeg a1)))) a3) (7) (Int32.toNatClampNeg a1)) + 1)) hw cT_7
                have hw : mwG G A ad (encT G.2 ad (up2 (up2 (up2 (up2 s0 (0) 0 0) (8) (Int32.toNatClampNeg ((5 * a1) + ((up2 s0 (0) 0 0) (7) (Int32.toNatClampNeg a1)))) a2) (9) (Int32.toNatClampNeg ((5 * a1) + ((up2 (up2 s0 (0) 0 0) (8) (Int32.toNatClampNeg ((5 * a1) + ((up2 s0 (0) 0 0) (7) (Int32.toNatClampNeg a1)))) a2) (7) (Int32.toNatClampNeg a1)))) a3) (7) (Int32.toNatClampNeg a1) (((up2 (up2 (up2 s0 (0) 0 0) (8) (Int32.toNatClampNeg ((5 * a1) + ((up2 s0 (0) 0 0) (7) (Int32.toNatClampNeg a1)))) a2) (9) (Int32.toNatClampNeg ((5 * a1) + ((up2 (up2 s0 (0) 0 0) (8) (Int32.toNatClampNeg ((5 * a1) + ((up2 s0 (0) 0 0) (7) (Int32.toNatClampNeg a1)))) a2) (7) (Int32.toNatClampNeg a1)))) a3) (7) (Int32.toNatClampNeg a1)) + 1))) H := hw
                refine lv_iconst (v := 1) hx hb d_T_stage_130 (by decide) ?_
                have e9 : f_T_stage s0 a1 a2 a3 = (1, up2 (up2 (up2 (up2 s0 (0) 0 0) (8) (Int32.toNatClampNeg ((5 * a1) + ((up2 s0 (0) 0 0) (7) (Int32.toNatClampNeg a1)))) a2) (9) (Int32.toNatClampNeg ((5 * a1) + ((up2 (up2 s0 (0) 0 0) (8) (Int32.toNatClampNeg ((5 * a1) + ((up2 s0 (0) 0 0) (7) (Int32.toNatClampNeg a1)))) a2) (7) (Int32.toNatClampNeg a1)))) a3) (7) (Int32.toNatClampNeg a1) (((up2 (up2 (up2 s0 (0) 0 0) (8) (Int32.toNatClampNeg ((5 * a1) + ((up2 s0 (0) 0 0) (7) (Int32.toNatClampNeg a1)))) a2) (9) (Int32.toNatClampNeg ((5 * a1) + ((up2 (up2 s0 (0) 0 0) (8) (Int32.toNatClampNeg ((5 * a1) + ((up2 s0 (0) 0 0) (7) (Int32.toNatClampNeg a1)))) a2) (7) (Int32.toNatClampNeg a1)))) a3) (7) (Int32.toNatClampNeg a1)) + 1)) := by unfold f_T_stage; exact (if_neg h1).trans ((if_pos h2).trans ((if_neg h3).trans ((if_neg h4).trans ((if_neg h5).trans ((if_neg h6).trans (if_pos h7))))))
                exact mw_iret hx hb hr rfl hw hS (congrArg (fun z => some (Value.int z.1)) e9.symm) ⟨rfl, congrArg (fun z => encT G.2 ad z.2) e9.symm⟩ hlocks d_T_stage_131
              · skip
                refine lv_iconst (v := 0) hx hb d_T_stage_86 (by decide) ?_
                have e9 : f_T_stage s0 a1 a2 a3 = (0, up2 s0 (0) 0 0) := by unfold f_T_stage; exact (if_neg h1).trans ((if_pos h2).trans ((if_neg h3).trans ((if_neg h4).trans ((if_neg h5).trans ((if_neg h6).trans (if_neg h7))))))
                exact mw_iret hx hb hr rfl hw hS (congrArg (fun z => some (Value.int z.1)) e9.symm) ⟨rfl, congrArg (fun z => encT G.2 ad z.2) e9.symm⟩ hlocks d_T_stage_87
          · skip
            refine lv_iconst (v := 0) hx hb d_T_stage_54 (by decide) ?_
            have e9 : f_T_stage s0 a1 a2 a3 = (0, up2 s0 (0) 0 0) := by unfold f_T_stage; exact (if_neg h1).trans ((if_pos h2).trans ((if_neg h3).trans ((if_neg h4).trans (if_pos h5))))
            exact mw_iret hx hb hr rfl hw hS (congrArg (fun z => some (Value.int z.1)) e9.symm) ⟨rfl, congrArg (fun z => encT G.2 ad z.2) e9.symm⟩ hlocks d_T_stage_55

def f_T_health (s0 : S2) (a1 : Int32) (a2 : Int32) (a3 : Int32) : Int32 × S2 :=
  if (f_T_isRelease (up2 s0 (0) 0 0) a1) = 0 then
    (0, up2 s0 (0) 0 0)
  else
    if (f_T_isWithin a3 1 1000) = 0 then
      (0, up2 s0 (0) 0 0)
    else
      if (f_T_isWithin a2 0 a3) = 0 then
        (0, up2 s0 (0) 0 0)
      else
        (1, up2 (up2 (up2 s0 (0) 0 0) (10) (Int32.toNatClampNeg a1) a2) (11) (Int32.toNatClampNeg a1) a3)
theorem fb_T_health (s0 : S2) (a1 : Int32) (a2 : Int32) (a3 : Int32) : narrow .boolean (.int ((f_T_health s0 a1 a2 a3).1)) = .int ((f_T_health s0 a1 a2 a3).1) := by
  unfold f_T_health
  repeat' split
  all_goals first | rfl | exact narrow_b0 | exact narrow_b1
set_option maxHeartbeats 4000000 in
set_option maxRecDepth 100000 in
theorem cc_T_health (l : Launch) (G : Gx) (A : Nat → Prop) (ad : Nat → Nat) (s0 : S2) (a1 : Int32) (a2 : Int32) (a3 : Int32) (hW : Wt s0) : Met l y_T_health ws_T_health { frames := 1, cells := 0, slots := 0, locals := 22 } (PG G [.ref (ad (0)), .int (a1), .int (a2), .int (a3)] A ad (encT G.2 ad s0)) (EG G A (some (.int (f_T_health s0 a1 a2 a3).1)) ad (encT G.2 ad ((f_T_health s0 a1 a2 a3).2))) 0 0 A := by
  refine Met.ofW (cc := c_T_health) (maxL := 4) (ret := (some .boolean)) (by decide) rfl ?_
  intro p e s m args below meth c s₁ B hml hv
  obtain ⟨rfl, hw, hK⟩ := hv
  have hx := B.exec
  have hb := B.bytes
  have hr := B.returns
  have hts : ∀ w ∈ tbG, w.before [.ref (ad (0)), .int (a1), .int (a2), .int (a3)].toArray s = true := fun w h => atoms_spec (ws := ws_T_health) B.pre w (List.mem_cons_of_mem _ h)
  have hown : s.vm.findClass "RollStagesModel" = some m.cls := findClass_of_methodNamed B.named
  have hlocks := B.notSynchronized
  have hS : va_S A s.heap s.heap [] := va_S.rf
  have hw : mwG G A ad (encT G.2 ad s0) s.heap := hw
  have hl := lv_entry ([.ref (ad (0)), .int (a1), .int (a2), .int (a3)]) (n := 4) (Nat.le_of_ble_eq_true rfl)
  rw [lg_entry_eq]
  generalize (lg_sl ([.ref (ad (0)), .int (a1), .int (a2), .int (a3)]) ++ List.replicate (4 - (lg_sl ([.ref (ad (0)), .int (a1), .int (a2), .int (a3)])).length) Slot.unset).toArray = ls at hl ⊢
  have hl : lv_has ls 4 [(0, .ref (ad (0))), (1, .int (a1)), (2, .int (a2)), (3, .int (a3))] := hl
  refine lv_aload_n hx hb d_T_health_0 rfl (lv_at hl 0 rfl) ?_
  refine lv_iconst (v := 0) hx hb d_T_health_1 (by decide) ?_
  refine mw_put (v := .int (0)) hx hb hts in_T ty_T ty_T_ok n_T hown hK.1 hw hS (0) cT_0 rfl 0 (by decide) (hts _ tw_409) rfl rfl rfl (Nat.le_of_ble_eq_true rfl) d_T_health_2 (fun H locs hw hS => ?_)
  replace hw := mw_encT (r := upd (s0 (0)) 0 0) hw cT_0
  have hw : mwG G A ad (encT G.2 ad (up2 s0 (0) 0 0)) H := hw
  refine lv_aload_n hx hb d_T_health_5 rfl (lv_at hl 0 rfl) ?_
  refine lv_iload_n hx hb d_T_health_6 rfl (lv_at hl 1 rfl) ?_
  refine gV (As := [.int (a1)]) (rest := []) (st1 := [.int (f_T_isRelease (up2 s0 (0) 0 0) a1)]) ⟨hx, hb, hml, hown, hts⟩ (cc_T_isRelease l G A ad  (up2 s0 (0) 0 0) a1) cT_0 rfl tw_519 tw_516 tw_518 tw_p33 tw_4 hd_T_isRelease rfl rfl ⟨Nat.le_of_ble_eq_true rfl, Nat.le_of_ble_eq_true rfl⟩ hK hw hS hl.1 rfl (Nat.le_of_ble_eq_true rfl) ⟨Nat.zero_le _, Nat.zero_le _⟩ d_T_health_7 rfl (fun H locs hw hS => ?_)
  refine lv_if_eq (tgt := 33) hx hb d_T_health_10 (by decide) (fun h1 => ?_) (fun h1 => ?_)
  · skip
    refine lv_iconst (v := 0) hx hb d_T_health_33 (by decide) ?_
    have e9 : f_T_health s0 a1 a2 a3 = (0, up2 s0 (0) 0 0) := by unfold f_T_health; exact if_pos h1
    exact mw_iret hx hb hr rfl hw hS (congrArg (fun z => some (Value.int z.1)) e9.symm) ⟨rfl, congrArg (fun z => encT G.2 ad z.2) e9.symm⟩ hlocks d_T_health_34
  · skip
    refine lv_iload_n hx hb d_T_health_13 rfl (lv_at hl 3 rfl) ?_
    refine lv_iconst (v := 1) hx hb d_T_health_14 (by decide) ?_
    refine lv_sipush (v := 1000) hx hb d_T_health_15 (by decide) ?_
    refine gS (As := [.int (a3), .int (1), .int (1000)]) (rest := []) (st1 := [.int (f_T_isWithin a3 1 1000)]) ⟨hx, hb, hml, hown, hts⟩ (cc_T_isWithin l G A ad  (up2 s0 (0) 0 0) a3 1 1000) tw_510 tw_508 tw_509 tw_4 hd_T_isWithin rfl rfl ⟨Nat.le_of_ble_eq_true rfl, Nat.le_of_ble_eq_true rfl⟩ hK hw hS hl.1 rfl (Nat.le_of_ble_eq_true rfl) ⟨Nat.zero_le _, Nat.zero_le _⟩ d_T_health_18 rfl (fun H locs hw hS => ?_)
    refine lv_if_eq (tgt := 33) hx hb d_T_health_21 (by decide) (fun h2 => ?_) (fun h2 => ?_)
    · skip
      refine lv_iconst (v := 0) hx hb d_T_health_33 (by decide) ?_
      have e9 : f_T_health s0 a1 a2 a3 = (0, up2 s0 (0) 0 0) := by unfold f_T_health; exact (if_neg h1).trans (if_pos h2)
      exact mw_iret hx hb hr rfl hw hS (congrArg (fun z => some (Value.int z.1)) e9.symm) ⟨rfl, congrArg (fun z => encT G.2 ad z.2) e9.symm⟩ hlocks d_T_health_34
    · skip
      refine lv_iload_n hx hb d_T_health_24 rfl (lv_at hl 2 rfl) ?_
      refine lv_iconst (v := 0) hx hb d_T_health_25 (by decide) ?_
      refine lv_iload_n hx hb d_T_health_26 rfl (lv_at hl 3 rfl) ?_
      refine gS (As := [.int (a2), .int (0), .int (a3)]) (rest := []) (st1 := [.int (f_T_isWithin a2 0 a3)]) ⟨hx, hb, hml, hown, hts⟩ (cc_T_isWithin l G A ad  (up2 s0 (0) 0 0) a2 0 a3) tw_510 tw_508 tw_509 tw_4 hd_T_isWithin rfl rfl ⟨Nat.le_of_ble_eq_true rfl, Nat.le_of_ble_eq_true rfl⟩ hK hw hS hl.1 rfl (Nat.le_of_ble_eq_true rfl) ⟨Nat.zero_le _, Nat.zero_le _⟩ d_T_health_27 rfl (fun H locs hw hS => ?_)
      refine lv_if_ne (tgt := 35) hx hb d_T_health_30 (by decide) (fun h3 => ?_) (fun h3 => ?_)
      · skip
        refine lv_aload_n hx hb d_T_health_35 rfl (lv_at hl 0 rfl) ?_
        refine mw_get (v := .ref (ad (10))) hx hb hts in_T hown hK.1 hw (0) cT_0 rfl 10 (by decide) (hts _ tw_419) rfl d_T_health_36 ?_
        refine lv_iload_n hx hb d_T_health_39 rfl (lv_at hl 1 rfl) ?_
        refine lv_iload_n hx hb d_T_health_40 rfl (lv_at hl 2 rfl) ?_
        refine mw_iast hx hb hK.1 hw hS (10) 0 cT_10 rfl (isRel_in (Wt_c hW) h1) d_T_health_41 (fun H locs hw hS => ?_)
        replace hw := mw_encT (r := upd ((up2 s0 (0) 0 0) (10)) (Int32.toNatClampNeg a1) a2) hw cT_10
        have hw : mwG G A ad (encT G.2 ad (up2 (up2 s0 (0) 0 0) (10) (Int32.toNatClampNeg a1) a2)) H := hw
        refine lv_aload_n hx hb d_T_health_42 rfl (lv_at hl 0 rfl) ?_
        refine mw_get (v := .ref (ad (11))) hx hb hts in_T hown hK.1 hw (0) cT_0 rfl 11 (by decide) (hts _ tw_420) rfl d_T_health_43 ?_
        refine lv_iload_n hx hb d_T_health_46 rfl (lv_at hl 1 rfl) ?_
        refine lv_iload_n hx hb d_T_health_47 rfl (lv_at hl 3 rfl) ?_
        refine mw_iast hx hb hK.1 hw hS (11) 0 cT_11 rfl (isRel_in (Wt_c hW) h1) d_T_health_48 (fun H locs hw hS => ?_)
        replace hw := mw_encT (r := upd ((up2 (up2 s0 (0) 0 0) (10) (Int32.toNatClampNeg a1) a2) (11)) (Int32.toNatClampNeg a1) a3) hw cT_11
        have hw : mwG G A ad (encT G.2 ad (up2 (up2 (up2 s0 (0) 0 0) (10) (Int32.toNatClampNeg a1) a2) (11) (Int32.toNatClampNeg a1) a3)) H := hw
        refine lv_iconst (v := 1) hx hb d_T_health_49 (by decide) ?_
        have e9 : f_T_health s0 a1 a2 a3 = (1, up2 (up2 (up2 s0 (0) 0 0) (10) (Int32.toNatClampNeg a1) a2) (11) (Int32.toNatClampNeg a1) a3) := by unfold f_T_health; exact (if_neg h1).trans ((if_neg h2).trans (if_neg h3))
        exact mw_iret hx hb hr rfl hw hS (congrArg (fun z => some (Value.int z.1)) e9.symm) ⟨rfl, congrArg (fun z => encT G.2 ad z.2) e9.symm⟩ hlocks d_T_health_50
      · skip
        refine lv_iconst (v := 0) hx hb d_T_health_33 (by decide) ?_
        have e9 : f_T_health s0 a1 a2 a3 = (0, up2 s0 (0) 0 0) := by unfold f_T_health; exact (if_neg h1).trans ((if_neg h2).trans (if_pos h3))
        exact mw_iret hx hb hr rfl hw hS (congrArg (fun z => some (Value.int z.1)) e9.symm) ⟨rfl, congrArg (fun z => encT G.2 ad z.2) e9.symm⟩ hlocks d_T_health_34

def f_T_start (s0 : S2) (a1 : Int32) : Int32 × S2 :=
  if (f_T_isRelease (up2 s0 (0) 0 0) a1) = 0 then
    (0, up2 s0 (0) 0 0)
  else
    if ((up2 s0 (0) 0 0) (12) (Int32.toNatClampNeg a1)) = 0 then
      if ((up2 s0 (0) 0 0) (7) (Int32.toNatClampNeg a1)) = 0 then
        (0, up2 s0 (0) 0 0)
      else
        (1, f_T_begin (up2 s0 (0) 0 0) a1 0)
    else
      (0, up2 s0 (0) 0 0)
theorem fb_T_start (s0 : S2) (a1 : Int32) : narrow .boolean (.int ((f_T_start s0 a1).1)) = .int ((f_T_start s0 a1).1) := by
  unfold f_T_start
  repeat' split
  all_goals first | rfl | exact narrow_b0 | exact narrow_b1
set_option maxHeartbeats 4000000 in
set_option maxRecDepth 100000 in
theorem cc_T_start (l : Launch) (G : Gx) (A : Nat → Prop) (ad : Nat → Nat) (s0 : S2) (a1 : Int32) (hW : Wt s0) : Met l y_T_start ws_T_start { frames := 1, cells := 0, slots := 0, locals := 22 } (PG G [.ref (ad (0)), .int (a1)] A ad (encT G.2 ad s0)) (EG G A (some (.int (f_T_start s0 a1).1)) ad (encT G.2 ad ((f_T_start s0 a1).2))) 0 0 A := by
  refine Met.ofW (cc := c_T_start) (maxL := 2) (ret := (some .boolean)) (by decide) rfl ?_
  intro p e s m args below meth c s₁ B hml hv
  obtain ⟨rfl, hw, hK⟩ := hv
  have hx := B.exec
  have hb := B.bytes
  have hr := B.returns
  have hts : ∀ w ∈ tbG, w.before [.ref (ad (0)), .int (a1)].toArray s = true := fun w h => atoms_spec (ws := ws_T_start) B.pre w (List.mem_cons_of_mem _ h)
  have hown : s.vm.findClass "RollStagesModel" = some m.cls := findClass_of_methodNamed B.named
  have hlocks := B.notSynchronized
  have hS : va_S A s.heap s.heap [] := va_S.rf
  have hw : mwG G A ad (encT G.2 ad s0) s.heap := hw
  have hl := lv_entry ([.ref (ad (0)), .int (a1)]) (n := 2) (Nat.le_of_ble_eq_true rfl)
  rw [lg_entry_eq]
  generalize (lg_sl ([.ref (ad (0)), .int (a1)]) ++ List.replicate (2 - (lg_sl ([.ref (ad (0)), .int (a1)])).length) Slot.unset).toArray = ls at hl ⊢
  have hl : lv_has ls 2 [(0, .ref (ad (0))), (1, .int (a1))] := hl
  refine lv_aload_n hx hb d_T_start_0 rfl (lv_at hl 0 rfl) ?_
  refine lv_iconst (v := 0) hx hb d_T_start_1 (by decide) ?_
  refine mw_put (v := .int (0)) hx hb hts in_T ty_T ty_T_ok n_T hown hK.1 hw hS (0) cT_0 rfl 0 (by decide) (hts _ tw_409) rfl rfl rfl (Nat.le_of_ble_eq_true rfl) d_T_start_2 (fun H locs hw hS => ?_)
  replace hw := mw_encT (r := upd (s0 (0)) 0 0) hw cT_0
  have hw : mwG G A ad (encT G.2 ad (up2 s0 (0) 0 0)) H := hw
  refine lv_aload_n hx hb d_T_start_5 rfl (lv_at hl 0 rfl) ?_
  refine lv_iload_n hx hb d_T_start_6 rfl (lv_at hl 1 rfl) ?_
  refine gV (As := [.int (a1)]) (rest := []) (st1 := [.int (f_T_isRelease (up2 s0 (0) 0 0) a1)]) ⟨hx, hb, hml, hown, hts⟩ (cc_T_isRelease l G A ad  (up2 s0 (0) 0 0) a1) cT_0 rfl tw_519 tw_516 tw_518 tw_p33 tw_4 hd_T_isRelease rfl rfl ⟨Nat.le_of_ble_eq_true rfl, Nat.le_of_ble_eq_true rfl⟩ hK hw hS hl.1 rfl (Nat.le_of_ble_eq_true rfl) ⟨Nat.zero_le _, Nat.zero_le _⟩ d_T_start_7 rfl (fun H locs hw hS => ?_)
  refine lv_if_eq (tgt := 31) hx hb d_T_start_10 (by decide) (fun h1 => ?_) (fun h1 => ?_)
  · skip
    refine lv_iconst (v := 0) hx hb d_T_start_31 (by decide) ?_
    have e9 : f_T_start s0 a1 = (0, up2 s0 (0) 0 0) := by unfold f_T_start; exact if_pos h1
    exact mw_iret hx hb hr rfl hw hS (congrArg (fun z => some (Value.int z.1)) e9.symm) ⟨rfl, congrArg (fun z => encT G.2 ad z.2) e9.symm⟩ hlocks d_T_start_32
  · skip
    refine lv_aload_n hx hb d_T_start_13 rfl (lv_at hl 0 rfl) ?_
    refine mw_get (v := .ref (ad (12))) hx hb hts in_T hown hK.1 hw (0) cT_0 rfl 12 (by decide) (hts _ tw_421) rfl d_T_start_14 ?_
    refine lv_iload_n hx hb d_T_start_17 rfl (lv_at hl 1 rfl) ?_
    refine mw_iald hx hb hK.1 hw (12) 0 cT_12 rfl (isRel_in (Wt_c hW) h1) d_T_start_18 ?_
    refine lv_if_ne (tgt := 31) hx hb d_T_start_19 (by decide) (fun h2 => ?_) (fun h2 => ?_)
    · skip
      refine lv_iconst (v := 0) hx hb d_T_start_31 (by decide) ?_
      have e9 : f_T_start s0 a1 = (0, up2 s0 (0) 0 0) := by unfold f_T_start; exact (if_neg h1).trans (if_neg h2)
      exact mw_iret hx hb hr rfl hw hS (congrArg (fun z => some (Value.int z.1)) e9.symm) ⟨rfl, congrArg (fun z => encT G.2 ad z.2) e9.symm⟩ hlocks d_T_start_32
    · skip
      refine lv_aload_n hx hb d_T_start_22 rfl (lv_at hl 0 rfl) ?_
      refine mw_get (v := .ref (ad (7))) hx hb hts in_T hown hK.1 hw (0) cT_0 rfl 7 (by decide) (hts _ tw_416) rfl d_T_start_23 ?_
      refine lv_iload_n hx hb d_T_start_26 rfl (lv_at hl 1 rfl) ?_
      refine mw_iald hx hb hK.1 hw (7) 0 cT_7 rfl (isRel_in (Wt_c hW) h1) d_T_start_27 ?_
      refine lv_if_ne (tgt := 33) hx hb d_T_start_28 (by decide) (fun h3 => ?_) (fun h3 => ?_)
      · skip
        refine lv_aload_n hx hb d_T_start_33 rfl (lv_at hl 0 rfl) ?_
        refine lv_iload_n hx hb d_T_start_34 rfl (lv_at hl 1 rfl) ?_
        refine lv_iconst (v := 0) hx hb d_T_start_35 (by decide) ?_
        refine gV (As := [.int (a1), .int (0)]) (rest := []) (st1 := []) ⟨hx, hb, hml, hown, hts⟩ (cc_T_begin l G A ad  (up2 s0 (0) 0 0) a1 0 (isRel_in (Wt_c hW) h1)) cT_0 rfl tw_531 tw_528 tw_530 tw_p34 tw_4 hd_T_begin rfl rfl ⟨Nat.le_of_ble_eq_true rfl, Nat.le_of_ble_eq_true rfl⟩ hK hw hS hl.1 rfl (Nat.le_of_ble_eq_true rfl) ⟨Nat.zero_le _, Nat.zero_le _⟩ d_T_start_36 rfl (fun H locs hw hS => ?_)
        refine lv_iconst (v := 1) hx hb d_T_start_39 (by decide) ?_
        have e9 : f_T_start s0 a1 = (1, f_T_begin (up2 s0 (0) 0 0) a1 0) := by unfold f_T_start; exact (if_neg h1).trans ((if_pos h2).trans (if_neg h3))
        exact mw_iret hx hb hr rfl hw hS (congrArg (fun z => some (Value.int z.1)) e9.symm) ⟨rfl, congrArg (fun z => encT G.2 ad z.2) e9.symm⟩ hlocks d_T_start_40
      · skip
        refine lv_iconst (v := 0) hx hb d_T_start_31 (by decide) ?_
        have e9 : f_T_start s0 a1 = (0, up2 s0 (0) 0 0) := by unfold f_T_start; exact (if_neg h1).trans ((if_pos h2).trans (if_pos h3))
        exact mw_iret hx hb hr rfl hw hS (congrArg (fun z => some (Value.int z.1)) e9.symm) ⟨rfl, congrArg (fun z => encT G.2 ad z.2) e9.symm⟩ hlocks d_T_start_32

def f_T_report (s0 : S2) (a1 : Int32) (a2 : Int32) (a3 : Int32) : Int32 × S2 :=
  if (f_T_isRelease (up2 s0 (0) 0 0) a1) = 0 then
    (0, up2 s0 (0) 0 0)
  else
    if (f_T_isWithin a2 0 10000) = 0 then
      (0, up2 s0 (0) 0 0)
    else
      if (f_T_isWithin a3 0 10000) = 0 then
        (0, up2 s0 (0) 0 0)
      else
        if ((up2 s0 (0) 0 0) (12) (Int32.toNatClampNeg a1)) = 1 then
          (1, up2 (up2 (up2 s0 (0) 0 0) (16) (Int32.toNatClampNeg a1) (((up2 s0 (0) 0 0) (16) (Int32.toNatClampNeg a1)) + (a2 + a3))) (17) (Int32.toNatClampNeg a1) (((up2 (up2 s0 (0) 0 0) (16) (Int32.toNatClampNeg a1) (((up2 s0 (0) 0 0) (16) (Int32.toNatClampNeg a1)) + (a2 + a3))) (17) (Int32.toNatClampNeg a1)) + a3))
        else
          (0, up2 s0 (0) 0 0)
theorem fb_T_report (s0 : S2) (a1 : Int32) (a2 : Int32) (a3 : Int32) : narrow .boolean (.int ((f_T_report s0 a1 a2 a3).1)) = .int ((f_T_report s0 a1 a2 a3).1) := by
  unfold f_T_report
  repeat' split
  all_goals first | rfl | exact narrow_b0 | exact narrow_b1
set_option maxHeartbeats 4000000 in
set_option maxRecDepth 100000 in
theorem cc_T_report (l : Launch) (G : Gx) (A : Nat → Prop) (ad : Nat → Nat) (s0 : S2) (a1 : Int32) (a2 : Int32) (a3 : Int32) (hW : Wt s0) : Met l y_T_report ws_T_report { frames := 1, cells := 0, slots := 0, locals := 22 } (PG G [.ref (ad (0)), .int (a1), .int (a2), .int (a3)] A ad (encT G.2 ad s0)) (EG G A (some (.int (f_T_report s0 a1 a2 a3).1)) ad (encT G.2 ad ((f_T_report s0 a1 a2 a3).2))) 0 0 A := by
  refine Met.ofW (cc := c_T_report) (maxL := 4) (ret := (some .boolean)) (by decide) rfl ?_
  intro p e s m args below meth c s₁ B hml hv
  obtain ⟨rfl, hw, hK⟩ := hv
  have hx := B.exec
  have hb := B.bytes
  have hr := B.returns
  have hts : ∀ w ∈ tbG, w.before [.ref (ad (0)), .int (a1), .int (a2), .int (a3)].toArray s = true := fun w h => atoms_spec (ws := ws_T_report) B.pre w (List.mem_cons_of_mem _ h)
  have hown : s.vm.findClass "RollStagesModel" = some m.cls := findClass_of_methodNamed B.named
  have hlocks := B.notSynchronized
  have hS : va_S A s.heap s.heap [] := va_S.rf
  have hw : mwG G A ad (encT G.2 ad s0) s.heap := hw
  have hl := lv_entry ([.ref (ad (0)), .int (a1), .int (a2), .int (a3)]) (n := 4) (Nat.le_of_ble_eq_true rfl)
  rw [lg_entry_eq]
  generalize (lg_sl ([.ref (ad (0)), .int (a1), .int (a2), .int (a3)]) ++ List.replicate (4 - (lg_sl ([.ref (ad (0)), .int (a1), .int (a2), .int (a3)])).length) Slot.unset).toArray = ls at hl ⊢
  have hl : lv_has ls 4 [(0, .ref (ad (0))), (1, .int (a1)), (2, .int (a2)), (3, .int (a3))] := hl
  refine lv_aload_n hx hb d_T_report_0 rfl (lv_at hl 0 rfl) ?_
  refine lv_iconst (v := 0) hx hb d_T_report_1 (by decide) ?_
  refine mw_put (v := .int (0)) hx hb hts in_T ty_T ty_T_ok n_T hown hK.1 hw hS (0) cT_0 rfl 0 (by decide) (hts _ tw_409) rfl rfl rfl (Nat.le_of_ble_eq_true rfl) d_T_report_2 (fun H locs hw hS => ?_)
  replace hw := mw_encT (r := upd (s0 (0)) 0 0) hw cT_0
  have hw : mwG G A ad (encT G.2 ad (up2 s0 (0) 0 0)) H := hw
  refine lv_aload_n hx hb d_T_report_5 rfl (lv_at hl 0 rfl) ?_
  refine lv_iload_n hx hb d_T_report_6 rfl (lv_at hl 1 rfl) ?_
  refine gV (As := [.int (a1)]) (rest := []) (st1 := [.int (f_T_isRelease (up2 s0 (0) 0 0) a1)]) ⟨hx, hb, hml, hown, hts⟩ (cc_T_isRelease l G A ad  (up2 s0 (0) 0 0) a1) cT_0 rfl tw_519 tw_516 tw_518 tw_p33 tw_4 hd_T_isRelease rfl rfl ⟨Nat.le_of_ble_eq_true rfl, Nat.le_of_ble_eq_true rfl⟩ hK hw hS hl.1 rfl (Nat.le_of_ble_eq_true rfl) ⟨Nat.zero_le _, Nat.zero_le _⟩ d_T_report_7 rfl (fun H locs hw hS => ?_)
  refine lv_if_eq (tgt := 45) hx hb d_T_report_10 (by decide) (fun h1 => ?_) (fun h1 => ?_)
  · skip
    refine lv_iconst (v := 0) hx hb d_T_report_45 (by decide) ?_
    have e9 : f_T_report s0 a1 a2 a3 = (0, up2 s0 (0) 0 0) := by unfold f_T_report; exact if_pos h1
    exact mw_iret hx hb hr rfl hw hS (congrArg (fun z => some (Value.int z.1)) e9.symm) ⟨rfl, congrArg (fun z => encT G.2 ad z.2) e9.symm⟩ hlocks d_T_report_46
  · skip
    refine lv_iload_n hx hb d_T_report_13 rfl (lv_at hl 2 rfl) ?_
    refine lv_iconst (v := 0) hx hb d_T_report_14 (by decide) ?_
    refine lv_sipush (v := 10000) hx hb d_T_report_15 (by decide) ?_
    refine gS (As := [.int (a2), .int (0), .int (10000)]) (rest := []) (st1 := [.int (f_T_isWithin a2 0 10000)]) ⟨hx, hb, hml, hown, hts⟩ (cc_T_isWithin l G A ad  (up2 s0 (0) 0 0) a2 0 10000) tw_510 tw_508 tw_509 tw_4 hd_T_isWithin rfl rfl ⟨Nat.le_of_ble_eq_true rfl, Nat.le_of_ble_eq_true rfl⟩ hK hw hS hl.1 rfl (Nat.le_of_ble_eq_true rfl) ⟨Nat.zero_le _, Nat.zero_le _⟩ d_T_report_18 rfl (fun H locs hw hS => ?_)
    refine lv_if_eq (tgt := 45) hx hb d_T_report_21 (by decide) (fun h2 => ?_) (fun h2 => ?_)
    · skip
      refine lv_iconst (v := 0) hx hb d_T_report_45 (by decide) ?_
      have e9 : f_T_report s0 a1 a2 a3 = (0, up2 s0 (0) 0 0) := by unfold f_T_report; exact (if_neg h1).trans (if_pos h2)
      exact mw_iret hx hb hr rfl hw hS (congrArg (fun z => some (Value.int z.1)) e9.symm) ⟨rfl, congrArg (fun z => encT G.2 ad z.2) e9.symm⟩ hlocks d_T_report_46
    · skip
      refine lv_iload_n hx hb d_T_report_24 rfl (lv_at hl 3 rfl) ?_
      refine lv_iconst (v := 0) hx hb d_T_report_25 (by decide) ?_
      refine lv_sipush (v := 10000) hx hb d_T_report_26 (by decide) ?_
      refine gS (As := [.int (a3), .int (0), .int (10000)]) (rest := []) (st1 := [.int (f_T_isWithin a3 0 10000)]) ⟨hx, hb, hml, hown, hts⟩ (cc_T_isWithin l G A ad  (up2 s0 (0) 0 0) a3 0 10000) tw_510 tw_508 tw_509 tw_4 hd_T_isWithin rfl rfl ⟨Nat.le_of_ble_eq_true rfl, Nat.le_of_ble_eq_true rfl⟩ hK hw hS hl.1 rfl (Nat.le_of_ble_eq_true rfl) ⟨Nat.zero_le _, Nat.zero_le _⟩ d_T_report_29 rfl (fun H locs hw hS => ?_)
      refine lv_if_eq (tgt := 45) hx hb d_T_report_32 (by decide) (fun h3 => ?_) (fun h3 => ?_)
      · skip
        refine lv_iconst (v := 0) hx hb d_T_report_45 (by decide) ?_
        have e9 : f_T_report s0 a1 a2 a3 = (0, up2 s0 (0) 0 0) := by unfold f_T_report; exact (if_neg h1).trans ((if_neg h2).trans (if_pos h3))
        exact mw_iret hx hb hr rfl hw hS (congrArg (fun z => some (Value.int z.1)) e9.symm) ⟨rfl, congrArg (fun z => encT G.2 ad z.2) e9.symm⟩ hlocks d_T_report_46
      · skip
        refine lv_aload_n hx hb d_T_report_35 rfl (lv_at hl 0 rfl) ?_
        refine mw_get (v := .ref (ad (12))) hx hb hts in_T hown hK.1 hw (0) cT_0 rfl 12 (by decide) (hts _ tw_421) rfl d_T_report_36 ?_
        refine lv_iload_n hx hb d_T_report_39 rfl (lv_at hl 1 rfl) ?_
        refine mw_iald hx hb hK.1 hw (12) 0 cT_12 rfl (isRel_in (Wt_c hW) h1) d_T_report_40 ?_
        refine lv_iconst (v := 1) hx hb d_T_report_41 (by decide) ?_
        refine lv_icmp_eq (tgt := 47) hx hb d_T_report_42 (by decide) (fun h4 => ?_) (fun h4 => ?_)
        · skip
          refine lv_aload_n hx hb d_T_report_47 rfl (lv_at hl 0 rfl) ?_
          refine mw_get (v := .ref (ad (16))) hx hb hts in_T hown hK.1 hw (0) cT_0 rfl 16 (by decide) (hts _ tw_425) rfl d_T_report_48 ?_
          refine lv_iload_n hx hb d_T_report_51 rfl (lv_at hl 1 rfl) ?_
          refine lv_dup2_11 hx hb d_T_report_52 rfl rfl ?_
          refine mw_iald hx hb hK.1 hw (16) 0 cT_16 rfl (isRel_in (Wt_c hW) h1) d_T_report_53 ?_
          refine lv_iload_n hx hb d_T_report_54 rfl (lv_at hl 2 rfl) ?_
          refine lv_iload_n hx hb d_T_report_55 rfl (lv_at hl 3 rfl) ?_
          refine lv_iadd hx hb d_T_report_56 ?_
          refine lv_iadd hx hb d_T_report_57 ?_
          refine mw_iast hx hb hK.1 hw hS (16) 0 cT_16 rfl (isRel_in (Wt_c hW) h1) d_T_report_58 (fun H locs hw hS => ?_)
          replace hw := mw_encT (r := upd ((up2 s0 (0) 0 0) (16)) (Int32.toNatClampNeg a1) (((up2 s0 (0) 0 0) (16) (Int32.toNatClampNeg a1)) + (a2 + a3))) hw cT_16
          have hw : mwG G A ad (encT G.2 ad (up2 (up2 s0 (0) 0 0) (16) (Int32.toNatClampNeg a1) (((up2 s0 (0) 0 0) (16) (Int32.toNatClampNeg a1)) + (a2 + a3)))) H := hw
          refine lv_aload_n hx hb d_T_report_59 rfl (lv_at hl 0 rfl) ?_
          refine mw_get (v := .ref (ad (17))) hx hb hts in_T hown hK.1 hw (0) cT_0 rfl 17 (by decide) (hts _ tw_426) rfl d_T_report_60 ?_
          refine lv_iload_n hx hb d_T_report_63 rfl (lv_at hl 1 rfl) ?_
          refine lv_dup2_11 hx hb d_T_report_64 rfl rfl ?_
          refine mw_iald hx hb hK.1 hw (17) 0 cT_17 rfl (isRel_in (Wt_c hW) h1) d_T_report_65 ?_
          refine lv_iload_n hx hb d_T_report_66 rfl (lv_at hl 3 rfl) ?_
          refine lv_iadd hx hb d_T_report_67 ?_
          refine mw_iast hx hb hK.1 hw hS (17) 0 cT_17 rfl (isRel_in (Wt_c hW) h1) d_T_report_68 (fun H locs hw hS => ?_)
          replace hw := mw_encT (r := upd ((up2 (up2 s0 (0) 0 0) (16) (Int32.toNatClampNeg a1) (((up2 s0 (0) 0 0) (16) (Int32.toNatClampNeg a1)) + (a2 + a3))) (17)) (Int32.toNatClampNeg a1) (((up2 (up2 s0 (0) 0 0) (16) (Int32.toNatClampNeg a1) (((up2 s0 (0) 0 0) (16) (Int32.toNatClampNeg a1)) + (a2 + a3))) (17) (Int32.toNatClampNeg a1)) + a3)) hw cT_17
          have hw : mwG G A ad (encT G.2 ad (up2 (up2 (up2 s0 (0) 0 0) (16) (Int32.toNatClampNeg a1) (((up2 s0 (0) 0 0) (16) (Int32.toNatClampNeg a1)) + (a2 + a3))) (17) (Int32.toNatClampNeg a1) (((up2 (up2 s0 (0) 0 0) (16) (Int32.toNatClampNeg a1) (((up2 s0 (0) 0 0) (16) (Int32.toNatClampNeg a1)) + (a2 + a3))) (17) (Int32.toNatClampNeg a1)) + a3))) H := hw
          refine lv_iconst (v := 1) hx hb d_T_report_69 (by decide) ?_
          have e9 : f_T_report s0 a1 a2 a3 = (1, up2 (up2 (up2 s0 (0) 0 0) (16) (Int32.toNatClampNeg a1) (((up2 s0 (0) 0 0) (16) (Int32.toNatClampNeg a1)) + (a2 + a3))) (17) (Int32.toNatClampNeg a1) (((up2 (up2 s0 (0) 0 0) (16) (Int32.toNatClampNeg a1) (((up2 s0 (0) 0 0) (16) (Int32.toNatClampNeg a1)) + (a2 + a3))) (17) (Int32.toNatClampNeg a1)) + a3)) := by unfold f_T_report; exact (if_neg h1).trans ((if_neg h2).trans ((if_neg h3).trans (if_pos h4)))
          exact mw_iret hx hb hr rfl hw hS (congrArg (fun z => some (Value.int z.1)) e9.symm) ⟨rfl, congrArg (fun z => encT G.2 ad z.2) e9.symm⟩ hlocks d_T_report_70
        · skip
          refine lv_iconst (v := 0) hx hb d_T_report_45 (by decide) ?_
          have e9 : f_T_report s0 a1 a2 a3 = (0, up2 s0 (0) 0 0) := by unfold f_T_report; exact (if_neg h1).trans ((if_neg h2).trans ((if_neg h3).trans (if_neg h4)))
          exact mw_iret hx hb hr rfl hw hS (congrArg (fun z => some (Value.int z.1)) e9.symm) ⟨rfl, congrArg (fun z => encT G.2 ad z.2) e9.symm⟩ hlocks d_T_report_46

def f_T_hold (s0 : S2) (a1 : Int32) (a2 : Int32) : Int32 × S2 :=
  if (f_T_isRelease (up2 s0 (0) 0 0) a1) = 0 then
    (0, up2 s0 (0) 0 0)
  else
    if a2 = 0 then
      if ((up2 s0 (0) 0 0) (12) (Int32.toNatClampNeg a1)) = 2 then
        (1, f_T_begin (up2 s0 (0) 0 0) a1 ((up2 s0 (0) 0 0) (13) (Int32.toNatClampNeg a1)))
      else
        (0, up2 s0 (0) 0 0)
    else
      if ((up2 s0 (0) 0 0) (12) (Int32.toNatClampNeg a1)) = 1 then
        (1, f_T_halt (up2 s0 (0) 0 0) a1 3)
      else
        (0, up2 s0 (0) 0 0)
theorem fb_T_hold (s0 : S2) (a1 : Int32) (a2 : Int32) : narrow .boolean (.int ((f_T_hold s0 a1 a2).1)) = .int ((f_T_hold s0 a1 a2).1) := by
  unfold f_T_hold
  repeat' split
  all_goals first | rfl | exact narrow_b0 | exact narrow_b1
set_option maxHeartbeats 4000000 in
set_option maxRecDepth 100000 in
theorem cc_T_hold (l : Launch) (G : Gx) (A : Nat → Prop) (ad : Nat → Nat) (s0 : S2) (a1 : Int32) (a2 : Int32) (hW : Wt s0) : Met l y_T_hold ws_T_hold { frames := 1, cells := 0, slots := 0, locals := 22 } (PG G [.ref (ad (0)), .int (a1), .int (a2)] A ad (encT G.2 ad s0)) (EG G A (some (.int (f_T_hold s0 a1 a2).1)) ad (encT G.2 ad ((f_T_hold s0 a1 a2).2))) 0 0 A := by
  refine Met.ofW (cc := c_T_hold) (maxL := 3) (ret := (some .boolean)) (by decide) rfl ?_
  intro p e s m args below meth c s₁ B hml hv
  obtain ⟨rfl, hw, hK⟩ := hv
  have hx := B.exec
  have hb := B.bytes
  have hr := B.returns
  have hts : ∀ w ∈ tbG, w.before [.ref (ad (0)), .int (a1), .int (a2)].toArray s = true := fun w h => atoms_spec (ws := ws_T_hold) B.pre w (List.mem_cons_of_mem _ h)
  have hown : s.vm.findClass "RollStagesModel" = some m.cls := findClass_of_methodNamed B.named
  have hlocks := B.notSynchronized
  have hS : va_S A s.heap s.heap [] := va_S.rf
  have hw : mwG G A ad (encT G.2 ad s0) s.heap := hw
  have hl := lv_entry ([.ref (ad (0)), .int (a1), .int (a2)]) (n := 3) (Nat.le_of_ble_eq_true rfl)
  rw [lg_entry_eq]
  generalize (lg_sl ([.ref (ad (0)), .int (a1), .int (a2)]) ++ List.replicate (3 - (lg_sl ([.ref (ad (0)), .int (a1), .int (a2)])).length) Slot.unset).toArray = ls at hl ⊢
  have hl : lv_has ls 3 [(0, .ref (ad (0))), (1, .int (a1)), (2, .int (a2))] := hl
  refine lv_aload_n hx hb d_T_hold_0 rfl (lv_at hl 0 rfl) ?_
  refine lv_iconst (v := 0) hx hb d_T_hold_1 (by decide) ?_
  refine mw_put (v := .int (0)) hx hb hts in_T ty_T ty_T_ok n_T hown hK.1 hw hS (0) cT_0 rfl 0 (by decide) (hts _ tw_409) rfl rfl rfl (Nat.le_of_ble_eq_true rfl) d_T_hold_2 (fun H locs hw hS => ?_)
  replace hw := mw_encT (r := upd (s0 (0)) 0 0) hw cT_0
  have hw : mwG G A ad (encT G.2 ad (up2 s0 (0) 0 0)) H := hw
  refine lv_aload_n hx hb d_T_hold_5 rfl (lv_at hl 0 rfl) ?_
  refine lv_iload_n hx hb d_T_hold_6 rfl (lv_at hl 1 rfl) ?_
  refine gV (As := [.int (a1)]) (rest := []) (st1 := [.int (f_T_isRelease (up2 s0 (0) 0 0) a1)]) ⟨hx, hb, hml, hown, hts⟩ (cc_T_isRelease l G A ad  (up2 s0 (0) 0 0) a1) cT_0 rfl tw_519 tw_516 tw_518 tw_p33 tw_4 hd_T_isRelease rfl rfl ⟨Nat.le_of_ble_eq_true rfl, Nat.le_of_ble_eq_true rfl⟩ hK hw hS hl.1 rfl (Nat.le_of_ble_eq_true rfl) ⟨Nat.zero_le _, Nat.zero_le _⟩ d_T_hold_7 rfl (fun H locs hw hS => ?_)
  refine lv_if_eq (tgt := 31) hx hb d_T_hold_10 (by decide) (fun h1 => ?_) (fun h1 => ?_)
  · skip
    refine lv_iconst (v := 0) hx hb d_T_hold_31 (by decide) ?_
    have e9 : f_T_hold s0 a1 a2 = (0, up2 s0 (0) 0 0) := by unfold f_T_hold; exact if_pos h1
    exact mw_iret hx hb hr rfl hw hS (congrArg (fun z => some (Value.int z.1)) e9.symm) ⟨rfl, congrArg (fun z => encT G.2 ad z.2) e9.symm⟩ hlocks d_T_hold_32
  · skip
    refine lv_aload_n hx hb d_T_hold_13 rfl (lv_at hl 0 rfl) ?_
    refine mw_get (v := .ref (ad (12))) hx hb hts in_T hown hK.1 hw (0) cT_0 rfl 12 (by decide) (hts _ tw_421) rfl d_T_hold_14 ?_
    refine lv_iload_n hx hb d_T_hold_17 rfl (lv_at hl 1 rfl) ?_
    refine mw_iald hx hb hK.1 hw (12) 0 cT_12 rfl (isRel_in (Wt_c hW) h1) d_T_hold_18 ?_
    refine lv_iload_n hx hb d_T_hold_19 rfl (lv_at hl 2 rfl) ?_
    refine lv_if_eq (tgt := 27) hx hb d_T_hold_20 (by decide) (fun h2 => ?_) (fun h2 => ?_)
    · skip
      refine lv_iconst (v := 2) hx hb d_T_hold_27 (by decide) ?_
      refine lv_icmp_eq (tgt := 33) hx hb d_T_hold_28 (by decide) (fun h3 => ?_) (fun h3 => ?_)
      · skip
        refine lv_iload_n hx hb d_T_hold_33 rfl (lv_at hl 2 rfl) ?_
        refine lv_if_eq (tgt := 46) hx hb d_T_hold_34 (by decide) (fun h4 => ?_) (fun h4 => ?_)
        · skip
          refine lv_aload_n hx hb d_T_hold_46 rfl (lv_at hl 0 rfl) ?_
          refine lv_iload_n hx hb d_T_hold_47 rfl (lv_at hl 1 rfl) ?_
          refine lv_aload_n hx hb d_T_hold_48 rfl (lv_at hl 0 rfl) ?_
          refine mw_get (v := .ref (ad (13))) hx hb hts in_T hown hK.1 hw (0) cT_0 rfl 13 (by decide) (hts _ tw_422) rfl d_T_hold_49 ?_
          refine lv_iload_n hx hb d_T_hold_52 rfl (lv_at hl 1 rfl) ?_
          refine mw_iald hx hb hK.1 hw (13) 0 cT_13 rfl (isRel_in (Wt_c hW) h1) d_T_hold_53 ?_
          refine gV (As := [.int (a1), .int ((up2 s0 (0) 0 0) (13) (Int32.toNatClampNeg a1))]) (rest := []) (st1 := []) ⟨hx, hb, hml, hown, hts⟩ (cc_T_begin l G A ad  (up2 s0 (0) 0 0) a1 ((up2 s0 (0) 0 0) (13) (Int32.toNatClampNeg a1)) (isRel_in (Wt_c hW) h1)) cT_0 rfl tw_531 tw_528 tw_530 tw_p34 tw_4 hd_T_begin rfl rfl ⟨Nat.le_of_ble_eq_true rfl, Nat.le_of_ble_eq_true rfl⟩ hK hw hS hl.1 rfl (Nat.le_of_ble_eq_true rfl) ⟨Nat.zero_le _, Nat.zero_le _⟩ d_T_hold_54 rfl (fun H locs hw hS => ?_)
          refine lv_iconst (v := 1) hx hb d_T_hold_57 (by decide) ?_
          have e9 : f_T_hold s0 a1 a2 = (1, f_T_begin (up2 s0 (0) 0 0) a1 ((up2 s0 (0) 0 0) (13) (Int32.toNatClampNeg a1))) := by unfold f_T_hold; exact (if_neg h1).trans ((if_pos h2).trans (if_pos h3))
          exact mw_iret hx hb hr rfl hw hS (congrArg (fun z => some (Value.int z.1)) e9.symm) ⟨rfl, congrArg (fun z => encT G.2 ad z.2) e9.symm⟩ hlocks d_T_hold_58
        · exact absurd h2 h4
      · skip
        refine lv_iconst (v := 0) hx hb d_T_hold_31 (by decide) ?_
        have e9 : f_T_hold s0 a1 a2 = (0, up2 s0 (0) 0 0) := by unfold f_T_hold; exact (if_neg h1).trans ((if_pos h2).trans (if_neg h3))
        exact mw_iret hx hb hr rfl hw hS (congrArg (fun z => some (Value.int z.1)) e9.symm) ⟨rfl, congrArg (fun z => encT G.2 ad z.2) e9.symm⟩ hlocks d_T_hold_32
    · skip
      refine lv_iconst (v := 1) hx hb d_T_hold_23 (by decide) ?_
      refine lv_goto (tgt := 28) hx hb d_T_hold_24 (by decide) ?_
      refine lv_icmp_eq (tgt := 33) hx hb d_T_hold_28 (by decide) (fun h5 => ?_) (fun h5 => ?_)
      · skip
        refine lv_iload_n hx hb d_T_hold_33 rfl (lv_at hl 2 rfl) ?_
        refine lv_if_eq (tgt := 46) hx hb d_T_hold_34 (by decide) (fun h6 => ?_) (fun h6 => ?_)
        · exact absurd h6 h2
        · skip
          refine lv_aload_n hx hb d_T_hold_37 rfl (lv_at hl 0 rfl) ?_
          refine lv_iload_n hx hb d_T_hold_38 rfl (lv_at hl 1 rfl) ?_
          refine lv_iconst (v := 3) hx hb d_T_hold_39 (by decide) ?_
          refine gV (As := [.int (a1), .int (3)]) (rest := []) (st1 := []) ⟨hx, hb, hml, hown, hts⟩ (cc_T_halt l G A ad  (up2 s0 (0) 0 0) a1 3 (isRel_in (Wt_c hW) h1)) cT_0 rfl tw_543 tw_540 tw_542 tw_p35 tw_4 hd_T_halt rfl rfl ⟨Nat.le_of_ble_eq_true rfl, Nat.le_of_ble_eq_true rfl⟩ hK hw hS hl.1 rfl (Nat.le_of_ble_eq_true rfl) ⟨Nat.zero_le _, Nat.zero_le _⟩ d_T_hold_40 rfl (fun H locs hw hS => ?_)
          refine lv_goto (tgt := 57) hx hb d_T_hold_43 (by decide) ?_
          refine lv_iconst (v := 1) hx hb d_T_hold_57 (by decide) ?_
          have e9 : f_T_hold s0 a1 a2 = (1, f_T_halt (up2 s0 (0) 0 0) a1 3) := by unfold f_T_hold; exact (if_neg h1).trans ((if_neg h2).trans (if_pos h5))
          exact mw_iret hx hb hr rfl hw hS (congrArg (fun z => some (Value.int z.1)) e9.symm) ⟨rfl, congrArg (fun z => encT G.2 ad z.2) e9.symm⟩ hlocks d_T_hold_58
      · skip
        refine lv_iconst (v := 0) hx hb d_T_hold_31 (by decide) ?_
        have e9 : f_T_hold s0 a1 a2 = (0, up2 s0 (0) 0 0) := by unfold f_T_hold; exact (if_neg h1).trans ((if_neg h2).trans (if_neg h5))
        exact mw_iret hx hb hr rfl hw hS (congrArg (fun z => some (Value.int z.1)) e9.symm) ⟨rfl, congrArg (fun z => encT G.2 ad z.2) e9.symm⟩ hlocks d_T_hold_32

def f_T_revoke (s0 : S2) (a1 : Int32) : Int32 × S2 :=
  if (f_T_isRelease (up2 s0 (0) 0 0) a1) = 0 then
    (0, up2 s0 (0) 0 0)
  else
    if ((up2 s0 (0) 0 0) (12) (Int32.toNatClampNeg a1)) = 4 then
      (0, up2 s0 (0) 0 0)
    else
      (1, up2 (up2 (up2 s0 (0) 0 0) (12) (Int32.toNatClampNeg a1) 4) (14) (Int32.toNatClampNeg a1) 0)
theorem fb_T_revoke (s0 : S2) (a1 : Int32) : narrow .boolean (.int ((f_T_revoke s0 a1).1)) = .int ((f_T_revoke s0 a1).1) := by
  unfold f_T_revoke
  repeat' split
  all_goals first | rfl | exact narrow_b0 | exact narrow_b1
set_option maxHeartbeats 4000000 in
set_option maxRecDepth 100000 in
theorem cc_T_revoke (l : Launch) (G : Gx) (A : Nat → Prop) (ad : Nat → Nat) (s0 : S2) (a1 : Int32) (hW : Wt s0) : Met l y_T_revoke ws_T_revoke { frames := 1, cells := 0, slots := 0, locals := 21 } (PG G [.ref (ad (0)), .int (a1)] A ad (encT G.2 ad s0)) (EG G A (some (.int (f_T_revoke s0 a1).1)) ad (encT G.2 ad ((f_T_revoke s0 a1).2))) 0 0 A := by
  refine Met.ofW (cc := c_T_revoke) (maxL := 2) (ret := (some .boolean)) (by decide) rfl ?_
  intro p e s m args below meth c s₁ B hml hv
  obtain ⟨rfl, hw, hK⟩ := hv
  have hx := B.exec
  have hb := B.bytes
  have hr := B.returns
  have hts : ∀ w ∈ tbG, w.before [.ref (ad (0)), .int (a1)].toArray s = true := fun w h => atoms_spec (ws := ws_T_revoke) B.pre w (List.mem_cons_of_mem _ h)
  have hown : s.vm.findClass "RollStagesModel" = some m.cls := findClass_of_methodNamed B.named
  have hlocks := B.notSynchronized
  have hS : va_S A s.heap s.heap [] := va_S.rf
  have hw : mwG G A ad (encT G.2 ad s0) s.heap := hw
  have hl := lv_entry ([.ref (ad (0)), .int (a1)]) (n := 2) (Nat.le_of_ble_eq_true rfl)
  rw [lg_entry_eq]
  generalize (lg_sl ([.ref (ad (0)), .int (a1)]) ++ List.replicate (2 - (lg_sl ([.ref (ad (0)), .int (a1)])).length) Slot.unset).toArray = ls at hl ⊢
  have hl : lv_has ls 2 [(0, .ref (ad (0))), (1, .int (a1))] := hl
  refine lv_aload_n hx hb d_T_revoke_0 rfl (lv_at hl 0 rfl) ?_
  refine lv_iconst (v := 0) hx hb d_T_revoke_1 (by decide) ?_
  refine mw_put (v := .int (0)) hx hb hts in_T ty_T ty_T_ok n_T hown hK.1 hw hS (0) cT_0 rfl 0 (by decide) (hts _ tw_409) rfl rfl rfl (Nat.le_of_ble_eq_true rfl) d_T_revoke_2 (fun H locs hw hS => ?_)
  replace hw := mw_encT (r := upd (s0 (0)) 0 0) hw cT_0
  have hw : mwG G A ad (encT G.2 ad (up2 s0 (0) 0 0)) H := hw
  refine lv_aload_n hx hb d_T_revoke_5 rfl (lv_at hl 0 rfl) ?_
  refine lv_iload_n hx hb d_T_revoke_6 rfl (lv_at hl 1 rfl) ?_
  refine gV (As := [.int (a1)]) (rest := []) (st1 := [.int (f_T_isRelease (up2 s0 (0) 0 0) a1)]) ⟨hx, hb, hml, hown, hts⟩ (cc_T_isRelease l G A ad  (up2 s0 (0) 0 0) a1) cT_0 rfl tw_519 tw_516 tw_518 tw_p33 tw_4 hd_T_isRelease rfl rfl ⟨Nat.le_of_ble_eq_true rfl, Nat.le_of_ble_eq_true rfl⟩ hK hw hS hl.1 rfl (Nat.le_of_ble_eq_true rfl) ⟨Nat.zero_le _, Nat.zero_le _⟩ d_T_revoke_7 rfl (fun H locs hw hS => ?_)
  refine lv_if_eq (tgt := 23) hx hb d_T_revoke_10 (by decide) (fun h1 => ?_) (fun h1 => ?_)
  · skip
    refine lv_iconst (v := 0) hx hb d_T_revoke_23 (by decide) ?_
    have e9 : f_T_revoke s0 a1 = (0, up2 s0 (0) 0 0) := by unfold f_T_revoke; exact if_pos h1
    exact mw_iret hx hb hr rfl hw hS (congrArg (fun z => some (Value.int z.1)) e9.symm) ⟨rfl, congrArg (fun z => encT G.2 ad z.2) e9.symm⟩ hlocks d_T_revoke_24
  · skip
    refine lv_aload_n hx hb d_T_revoke_13 rfl (lv_at hl 0 rfl) ?_
    refine mw_get (v := .ref (ad (12))) hx hb hts in_T hown hK.1 hw (0) cT_0 rfl 12 (by decide) (hts _ tw_421) rfl d_T_revoke_14 ?_
    refine lv_iload_n hx hb d_T_revoke_17 rfl (lv_at hl 1 rfl) ?_
    refine mw_iald hx hb hK.1 hw (12) 0 cT_12 rfl (isRel_in (Wt_c hW) h1) d_T_revoke_18 ?_
    refine lv_iconst (v := 4) hx hb d_T_revoke_19 (by decide) ?_
    refine lv_icmp_ne (tgt := 25) hx hb d_T_revoke_20 (by decide) (fun h2 => ?_) (fun h2 => ?_)
    · skip
      refine lv_aload_n hx hb d_T_revoke_25 rfl (lv_at hl 0 rfl) ?_
      refine mw_get (v := .ref (ad (12))) hx hb hts in_T hown hK.1 hw (0) cT_0 rfl 12 (by decide) (hts _ tw_421) rfl d_T_revoke_26 ?_
      refine lv_iload_n hx hb d_T_revoke_29 rfl (lv_at hl 1 rfl) ?_
      refine lv_iconst (v := 4) hx hb d_T_revoke_30 (by decide) ?_
      refine mw_iast hx hb hK.1 hw hS (12) 0 cT_12 rfl (isRel_in (Wt_c hW) h1) d_T_revoke_31 (fun H locs hw hS => ?_)
      replace hw := mw_encT (r := upd ((up2 s0 (0) 0 0) (12)) (Int32.toNatClampNeg a1) 4) hw cT_12
      have hw : mwG G A ad (encT G.2 ad (up2 (up2 s0 (0) 0 0) (12) (Int32.toNatClampNeg a1) 4)) H := hw
      refine lv_aload_n hx hb d_T_revoke_32 rfl (lv_at hl 0 rfl) ?_
      refine mw_get (v := .ref (ad (14))) hx hb hts in_T hown hK.1 hw (0) cT_0 rfl 14 (by decide) (hts _ tw_423) rfl d_T_revoke_33 ?_
      refine lv_iload_n hx hb d_T_revoke_36 rfl (lv_at hl 1 rfl) ?_
      refine lv_iconst (v := 0) hx hb d_T_revoke_37 (by decide) ?_
      refine mw_iast hx hb hK.1 hw hS (14) 0 cT_14 rfl (isRel_in (Wt_c hW) h1) d_T_revoke_38 (fun H locs hw hS => ?_)
      replace hw := mw_encT (r := upd ((up2 (up2 s0 (0) 0 0) (12) (Int32.toNatClampNeg a1) 4) (14)) (Int32.toNatClampNeg a1) 0) hw cT_14
      have hw : mwG G A ad (encT G.2 ad (up2 (up2 (up2 s0 (0) 0 0) (12) (Int32.toNatClampNeg a1) 4) (14) (Int32.toNatClampNeg a1) 0)) H := hw
      refine lv_iconst (v := 1) hx hb d_T_revoke_39 (by decide) ?_
      have e9 : f_T_revoke s0 a1 = (1, up2 (up2 (up2 s0 (0) 0 0) (12) (Int32.toNatClampNeg a1) 4) (14) (Int32.toNatClampNeg a1) 0) := by unfold f_T_revoke; exact (if_neg h1).trans (if_neg h2)
      exact mw_iret hx hb hr rfl hw hS (congrArg (fun z => some (Value.int z.1)) e9.symm) ⟨rfl, congrArg (fun z => encT G.2 ad z.2) e9.symm⟩ hlocks d_T_revoke_40
    · skip
      refine lv_iconst (v := 0) hx hb d_T_revoke_23 (by decide) ?_
      have e9 : f_T_revoke s0 a1 = (0, up2 s0 (0) 0 0) := by unfold f_T_revoke; exact (if_neg h1).trans (if_pos h2)
      exact mw_iret hx hb hr rfl hw hS (congrArg (fun z => some (Value.int z.1)) e9.symm) ⟨rfl, congrArg (fun z => encT G.2 ad z.2) e9.symm⟩ hlocks d_T_revoke_24

def f_T_about (s0 : S2) (a1 : Int32) (a2 : Int32) : Int32 × S2 :=
  if (f_T_isRelease (up2 s0 (0) 0 0) a1) = 0 then
    (-1, up2 s0 (0) 0 0)
  else
    if a2 = 0 then
      ((up2 s0 (0) 0 0) (12) (Int32.toNatClampNeg a1), up2 s0 (0) 0 0)
    else
      if a2 = 1 then
        if ((up2 s0 (0) 0 0) (12) (Int32.toNatClampNeg a1)) = 1 then
          ((up2 s0 (0) 0 0) (13) (Int32.toNatClampNeg a1), up2 s0 (0) 0 0)
        else
          if ((up2 s0 (0) 0 0) (12) (Int32.toNatClampNeg a1)) = 2 then
            ((up2 s0 (0) 0 0) (13) (Int32.toNatClampNeg a1), up2 s0 (0) 0 0)
          else
            (-1, up2 s0 (0) 0 0)
      else
        if a2 = 2 then
          ((up2 s0 (0) 0 0) (14) (Int32.toNatClampNeg a1), up2 s0 (0) 0 0)
        else
          if a2 = 3 then
            (f_T_shareOf (up2 s0 (0) 0 0) a1, up2 s0 (0) 0 0)
          else
            if a2 = 4 then
              ((up2 s0 (0) 0 0) (16) (Int32.toNatClampNeg a1), up2 s0 (0) 0 0)
            else
              (-1, up2 s0 (0) 0 0)
set_option maxHeartbeats 4000000 in
set_option maxRecDepth 100000 in
theorem cc_T_about (l : Launch) (G : Gx) (A : Nat → Prop) (ad : Nat → Nat) (s0 : S2) (a1 : Int32) (a2 : Int32) (hW : Wt s0) : Met l y_T_about ws_T_about { frames := 1, cells := 0, slots := 0, locals := 21 } (PG G [.ref (ad (0)), .int (a1), .int (a2)] A ad (encT G.2 ad s0)) (EG G A (some (.int (f_T_about s0 a1 a2).1)) ad (encT G.2 ad ((f_T_about s0 a1 a2).2))) 0 0 A := by
  refine Met.ofW (cc := c_T_about) (maxL := 3) (ret := (some .int)) (by decide) rfl ?_
  intro p e s m args below meth c s₁ B hml hv
  obtain ⟨rfl, hw, hK⟩ := hv
  have hx := B.exec
  have hb := B.bytes
  have hr := B.returns
  have hts : ∀ w ∈ tbG, w.before [.ref (ad (0)), .int (a1), .int (a2)].toArray s = true := fun w h => atoms_spec (ws := ws_T_about) B.pre w (List.mem_cons_of_mem _ h)
  have hown : s.vm.findClass "RollStagesModel" = some m.cls := findClass_of_methodNamed B.named
  have hlocks := B.notSynchronized
  have hS : va_S A s.heap s.heap [] := va_S.rf
  have hw : mwG G A ad (encT G.2 ad s0) s.heap := hw
  have hl := lv_entry ([.ref (ad (0)), .int (a1), .int (a2)]) (n := 3) (Nat.le_of_ble_eq_true rfl)
  rw [lg_entry_eq]
  generalize (lg_sl ([.ref (ad (0)), .int (a1), .int (a2)]) ++ List.replicate (3 - (lg_sl ([.ref (ad (0)), .int (a1), .int (a2)])).length) Slot.unset).toArray = ls at hl ⊢
  have hl : lv_has ls 3 [(0, .ref (ad (0))), (1, .int (a1)), (2, .int (a2))] := hl
  refine lv_aload_n hx hb d_T_about_0 rfl (lv_at hl 0 rfl) ?_
  refine lv_iconst (v := 0) hx hb d_T_about_1 (by decide) ?_
  refine mw_put (v := .int (0)) hx hb hts in_T ty_T ty_T_ok n_T hown hK.1 hw hS (0) cT_0 rfl 0 (by decide) (hts _ tw_409) rfl rfl rfl (Nat.le_of_ble_eq_true rfl) d_T_about_2 (fun H locs hw hS => ?_)
  replace hw := mw_encT (r := upd (s0 (0)) 0 0) hw cT_0
  have hw : mwG G A ad (encT G.2 ad (up2 s0 (0) 0 0)) H := hw
  refine lv_aload_n hx hb d_T_about_5 rfl (lv_at hl 0 rfl) ?_
  refine lv_iload_n hx hb d_T_about_6 rfl (lv_at hl 1 rfl) ?_
  refine gV (As := [.int (a1)]) (rest := []) (st1 := [.int (f_T_isRelease (up2 s0 (0) 0 0) a1)]) ⟨hx, hb, hml, hown, hts⟩ (cc_T_isRelease l G A ad  (up2 s0 (0) 0 0) a1) cT_0 rfl tw_519 tw_516 tw_518 tw_p33 tw_4 hd_T_isRelease rfl rfl ⟨Nat.le_of_ble_eq_true rfl, Nat.le_of_ble_eq_true rfl⟩ hK hw hS hl.1 rfl (Nat.le_of_ble_eq_true rfl) ⟨Nat.zero_le _, Nat.zero_le _⟩ d_T_about_7 rfl (fun H locs hw hS => ?_)
  refine lv_if_ne (tgt := 15) hx hb d_T_about_10 (by decide) (fun h1 => ?_) (fun h1 => ?_)
  · skip
    refine lv_iload_n hx hb d_T_about_15 rfl (lv_at hl 2 rfl) ?_
    by_cases h2 : a2 = 0
    · skip
      refine lv_tableIn (tgt := 52) hx hb d_T_about_16 (by rw [h2]; decide) (by rw [h2]; decide) (by rw [h2]; rfl) (by decide) ?_
      refine lv_aload_n hx hb d_T_about_52 rfl (lv_at hl 0 rfl) ?_
      refine mw_get (v := .ref (ad (12))) hx hb hts in_T hown hK.1 hw (0) cT_0 rfl 12 (by decide) (hts _ tw_421) rfl d_T_about_53 ?_
      refine lv_iload_n hx hb d_T_about_56 rfl (lv_at hl 1 rfl) ?_
      refine mw_iald hx hb hK.1 hw (12) 0 cT_12 rfl (isRel_in (Wt_c hW) h1) d_T_about_57 ?_
      have e9 : f_T_about s0 a1 a2 = ((up2 s0 (0) 0 0) (12) (Int32.toNatClampNeg a1), up2 s0 (0) 0 0) := by unfold f_T_about; exact (if_neg h1).trans (if_pos h2)
      exact mw_iret hx hb hr rfl hw hS (congrArg (fun z => some (Value.int z.1)) e9.symm) ⟨rfl, congrArg (fun z => encT G.2 ad z.2) e9.symm⟩ hlocks d_T_about_58
    · skip
      by_cases h3 : a2 = 1
      · skip
        refine lv_tableIn (tgt := 59) hx hb d_T_about_16 (by rw [h3]; decide) (by rw [h3]; decide) (by rw [h3]; rfl) (by decide) ?_
        refine lv_aload_n hx hb d_T_about_59 rfl (lv_at hl 0 rfl) ?_
        refine mw_get (v := .ref (ad (12))) hx hb hts in_T hown hK.1 hw (0) cT_0 rfl 12 (by decide) (hts _ tw_421) rfl d_T_about_60 ?_
        refine lv_iload_n hx hb d_T_about_63 rfl (lv_at hl 1 rfl) ?_
        refine mw_iald hx hb hK.1 hw (12) 0 cT_12 rfl (isRel_in (Wt_c hW) h1) d_T_about_64 ?_
        refine lv_iconst (v := 1) hx hb d_T_about_65 (by decide) ?_
        refine lv_icmp_eq (tgt := 79) hx hb d_T_about_66 (by decide) (fun h4 => ?_) (fun h4 => ?_)
        · skip
          refine lv_aload_n hx hb d_T_about_79 rfl (lv_at hl 0 rfl) ?_
          refine mw_get (v := .ref (ad (13))) hx hb hts in_T hown hK.1 hw (0) cT_0 rfl 13 (by decide) (hts _ tw_422) rfl d_T_about_80 ?_
          refine lv_iload_n hx hb d_T_about_83 rfl (lv_at hl 1 rfl) ?_
          refine mw_iald hx hb hK.1 hw (13) 0 cT_13 rfl (isRel_in (Wt_c hW) h1) d_T_about_84 ?_
          refine lv_goto (tgt := 89) hx hb d_T_about_85 (by decide) ?_
          have e9 : f_T_about s0 a1 a2 = ((up2 s0 (0) 0 0) (13) (Int32.toNatClampNeg a1), up2 s0 (0) 0 0) := by unfold f_T_about; exact (if_neg h1).trans ((if_neg h2).trans ((if_pos h3).trans (if_pos h4)))
          exact mw_iret hx hb hr rfl hw hS (congrArg (fun z => some (Value.int z.1)) e9.symm) ⟨rfl, congrArg (fun z => encT G.2 ad z.2) e9.symm⟩ hlocks d_T_about_89
        · skip
          refine lv_aload_n hx hb d_T_about_69 rfl (lv_at hl 0 rfl) ?_
          refine mw_get (v := .ref (ad (12))) hx hb hts in_T hown hK.1 hw (0) cT_0 rfl 12 (by decide) (hts _ tw_421) rfl d_T_about_70 ?_
          refine lv_iload_n hx hb d_T_about_73 rfl (lv_at hl 1 rfl) ?_
          refine mw_iald hx hb hK.1 hw (12) 0 cT_12 rfl (isRel_in (Wt_c hW) h1) d_T_about_74 ?_
          refine lv_iconst (v := 2) hx hb d_T_about_75 (by decide) ?_
          refine lv_icmp_ne (tgt := 88) hx hb d_T_about_76 (by decide) (fun h5 => ?_) (fun h5 => ?_)
          · skip
            refine lv_iconst (v := -1) hx hb d_T_about_88 (by decide) ?_
            have e9 : f_T_about s0 a1 a2 = (-1, up2 s0 (0) 0 0) := by unfold f_T_about; exact (if_neg h1).trans ((if_neg h2).trans ((if_pos h3).trans ((if_neg h4).trans (if_neg h5))))
            exact mw_iret hx hb hr rfl hw hS (congrArg (fun z => some (Value.int z.1)) e9.symm) ⟨rfl, congrArg (fun z => encT G.2 ad z.2) e9.symm⟩ hlocks d_T_about_89
          · skip
            refine lv_aload_n hx hb d_T_about_79 rfl (lv_at hl 0 rfl) ?_
            refine mw_get (v := .ref (ad (13))) hx hb hts in_T hown hK.1 hw (0) cT_0 rfl 13 (by decide) (hts _ tw_422) rfl d_T_about_80 ?_
            refine lv_iload_n hx hb d_T_about_83 rfl (lv_at hl 1 rfl) ?_
            refine mw_iald hx hb hK.1 hw (13) 0 cT_13 rfl (isRel_in (Wt_c hW) h1) d_T_about_84 ?_
            refine lv_goto (tgt := 89) hx hb d_T_about_85 (by decide) ?_
            have e9 : f_T_about s0 a1 a2 = ((up2 s0 (0) 0 0) (13) (Int32.toNatClampNeg a1), up2 s0 (0) 0 0) := by unfold f_T_about; exact (if_neg h1).trans ((if_neg h2).trans ((if_pos h3).trans ((if_neg h4).trans (if_pos h5))))
            exact mw_iret hx hb hr rfl hw hS (congrArg (fun z => some (Value.int z.1)) e9.symm) ⟨rfl, congrArg (fun z => encT G.2 ad z.2) e9.symm⟩ hlocks d_T_about_89
      · skip
        by_cases h6 : a2 = 2
        · skip
          refine lv_tableIn (tgt := 90) hx hb d_T_about_16 (by rw [h6]; decide) (by rw [h6]; decide) (by rw [h6]; rfl) (by decide) ?_
          refine lv_aload_n hx hb d_T_about_90 rfl (lv_at hl 0 rfl) ?_
          refine mw_get (v := .ref (ad (14))) hx hb hts in_T hown hK.1 hw (0) cT_0 rfl 14 (by decide) (hts _ tw_423) rfl d_T_about_91 ?_
          refine lv_iload_n hx hb d_T_about_94 rfl (lv_at hl 1 rfl) ?_
          refine mw_iald hx hb hK.1 hw (14) 0 cT_14 rfl (isRel_in (Wt_c hW) h1) d_T_about_95 ?_
          have e9 : f_T_about s0 a1 a2 = ((up2 s0 (0) 0 0) (14) (Int32.toNatClampNeg a1), up2 s0 (0) 0 0) := by unfold f_T_about; exact (if_neg h1).trans ((if_neg h2).trans ((if_neg h3).trans (if_pos h6)))
          exact mw_iret hx hb hr rfl hw hS (congrArg (fun z => some (Value.int z.1)) e9.symm) ⟨rfl, congrArg (fun z => encT G.2 ad z.2) e9.symm⟩ hlocks d_T_about_96
        · skip
          by_cases h7 : a2 = 3
          · skip
            refine lv_tableIn (tgt := 97) hx hb d_T_about_16 (by rw [h7]; decide) (by rw [h7]; decide) (by rw [h7]; rfl) (by decide) ?_
            refine lv_aload_n hx hb d_T_about_97 rfl (lv_at hl 0 rfl) ?_
            refine lv_iload_n hx hb d_T_about_98 rfl (lv_at hl 1 rfl) ?_
            refine gV (As := [.int (a1)]) (rest := []) (st1 := [.int (f_T_shareOf (up2 s0 (0) 0 0) a1)]) ⟨hx, hb, hml, hown, hts⟩ (cc_T_shareOf l G A ad  (up2 s0 (0) 0 0) a1 (Wt_c hW) (isRel_in (Wt_c hW) h1)) cT_0 rfl tw_563 tw_560 tw_562 tw_p37 tw_4 hd_T_shareOf rfl rfl ⟨Nat.le_of_ble_eq_true rfl, Nat.le_of_ble_eq_true rfl⟩ hK hw hS hl.1 rfl (Nat.le_of_ble_eq_true rfl) ⟨Nat.zero_le _, Nat.zero_le _⟩ d_T_about_99 rfl (fun H locs hw hS => ?_)
            have e9 : f_T_about s0 a1 a2 = (f_T_shareOf (up2 s0 (0) 0 0) a1, up2 s0 (0) 0 0) := by unfold f_T_about; exact (if_neg h1).trans ((if_neg h2).trans ((if_neg h3).trans ((if_neg h6).trans (if_pos h7))))
            exact mw_iret hx hb hr rfl hw hS (congrArg (fun z => some (Value.int z.1)) e9.symm) ⟨rfl, congrArg (fun z => encT G.2 ad z.2) e9.symm⟩ hlocks d_T_about_102
          · skip
            by_cases h8 : a2 = 4
            · skip
              refine lv_tableIn (tgt := 103) hx hb d_T_about_16 (by rw [h8]; decide) (by rw [h8]; decide) (by rw [h8]; rfl) (by decide) ?_
              refine lv_aload_n hx hb d_T_about_103 rfl (lv_at hl 0 rfl) ?_
              refine mw_get (v := .ref (ad (16))) hx hb hts in_T hown hK.1 hw (0) cT_0 rfl 16 (by decide) (hts _ tw_425) rfl d_T_about_104 ?_
              refine lv_iload_n hx hb d_T_about_107 rfl (lv_at hl 1 rfl) ?_
              refine mw_iald hx hb hK.1 hw (16) 0 cT_16 rfl (isRel_in (Wt_c hW) h1) d_T_about_108 ?_
              have e9 : f_T_about s0 a1 a2 = ((up2 s0 (0) 0 0) (16) (Int32.toNatClampNeg a1), up2 s0 (0) 0 0) := by unfold f_T_about; exact (if_neg h1).trans ((if_neg h2).trans ((if_neg h3).trans ((if_neg h6).trans ((if_neg h7).trans (if_pos h8)))))
              exact mw_iret hx hb hr rfl hw hS (congrArg (fun z => some (Value.int z.1)) e9.symm) ⟨rfl, congrArg (fun z => encT G.2 ad z.2) e9.symm⟩ hlocks d_T_about_109
            · skip
              refine lv_tableOut (tgt := 110) hx hb d_T_about_16 (by have q0 := lv_neT (a := 0) h2 (by decide); have q1 := lv_neT (a := 1) h3 (by decide); have q2 := lv_neT (a := 2) h6 (by decide); have q3 := lv_neT (a := 3) h7 (by decide); have q4 := lv_neT (a := 4) h8 (by decide); omega) (by decide) ?_
              refine lv_iconst (v := -1) hx hb d_T_about_110 (by decide) ?_
              have e9 : f_T_about s0 a1 a2 = (-1, up2 s0 (0) 0 0) := by unfold f_T_about; exact (if_neg h1).trans ((if_neg h2).trans ((if_neg h3).trans ((if_neg h6).trans ((if_neg h7).trans (if_neg h8)))))
              exact mw_iret hx hb hr rfl hw hS (congrArg (fun z => some (Value.int z.1)) e9.symm) ⟨rfl, congrArg (fun z => encT G.2 ad z.2) e9.symm⟩ hlocks d_T_about_111
  · skip
    refine lv_iconst (v := -1) hx hb d_T_about_13 (by decide) ?_
    have e9 : f_T_about s0 a1 a2 = (-1, up2 s0 (0) 0 0) := by unfold f_T_about; exact if_pos h1
    exact mw_iret hx hb hr rfl hw hS (congrArg (fun z => some (Value.int z.1)) e9.symm) ⟨rfl, congrArg (fun z => encT G.2 ad z.2) e9.symm⟩ hlocks d_T_about_14

def f_T_back (s0 : S2) (a1 : Int32) (a2 : Int32) : Int32 × S2 :=
  if (f_T_isWithin a1 0 2) = 0 then
    (0, up2 s0 (0) 0 0)
  else
    if a2 = (-1) then
      (1, up2 (up2 s0 (0) 0 0) (19) (Int32.toNatClampNeg a1) a2)
    else
      if (f_T_isRelease (up2 s0 (0) 0 0) a2) = 0 then
        (0, up2 s0 (0) 0 0)
      else
        if ((up2 s0 (0) 0 0) (5) (Int32.toNatClampNeg a2)) = a1 then
          (1, up2 (up2 s0 (0) 0 0) (19) (Int32.toNatClampNeg a1) a2)
        else
          (0, up2 s0 (0) 0 0)
theorem fb_T_back (s0 : S2) (a1 : Int32) (a2 : Int32) : narrow .boolean (.int ((f_T_back s0 a1 a2).1)) = .int ((f_T_back s0 a1 a2).1) := by
  unfold f_T_back
  repeat' split
  all_goals first | rfl | exact narrow_b0 | exact narrow_b1
set_option maxHeartbeats 4000000 in
set_option maxRecDepth 100000 in
theorem cc_T_back (l : Launch) (G : Gx) (A : Nat → Prop) (ad : Nat → Nat) (s0 : S2) (a1 : Int32) (a2 : Int32) (hW : Wt s0) : Met l y_T_back ws_T_back { frames := 1, cells := 0, slots := 0, locals := 22 } (PG G [.ref (ad (0)), .int (a1), .int (a2)] A ad (encT G.2 ad s0)) (EG G A (some (.int (f_T_back s0 a1 a2).1)) ad (encT G.2 ad ((f_T_back s0 a1 a2).2))) 0 0 A := by
  refine Met.ofW (cc := c_T_back) (maxL := 3) (ret := (some .boolean)) (by decide) rfl ?_
  intro p e s m args below meth c s₁ B hml hv
  obtain ⟨rfl, hw, hK⟩ := hv
  have hx := B.exec
  have hb := B.bytes
  have hr := B.returns
  have hts : ∀ w ∈ tbG, w.before [.ref (ad (0)), .int (a1), .int (a2)].toArray s = true := fun w h => atoms_spec (ws := ws_T_back) B.pre w (List.mem_cons_of_mem _ h)
  have hown : s.vm.findClass "RollStagesModel" = some m.cls := findClass_of_methodNamed B.named
  have hlocks := B.notSynchronized
  have hS : va_S A s.heap s.heap [] := va_S.rf
  have hw : mwG G A ad (encT G.2 ad s0) s.heap := hw
  have hl := lv_entry ([.ref (ad (0)), .int (a1), .int (a2)]) (n := 3) (Nat.le_of_ble_eq_true rfl)
  rw [lg_entry_eq]
  generalize (lg_sl ([.ref (ad (0)), .int (a1), .int (a2)]) ++ List.replicate (3 - (lg_sl ([.ref (ad (0)), .int (a1), .int (a2)])).length) Slot.unset).toArray = ls at hl ⊢
  have hl : lv_has ls 3 [(0, .ref (ad (0))), (1, .int (a1)), (2, .int (a2))] := hl
  refine lv_aload_n hx hb d_T_back_0 rfl (lv_at hl 0 rfl) ?_
  refine lv_iconst (v := 0) hx hb d_T_back_1 (by decide) ?_
  refine mw_put (v := .int (0)) hx hb hts in_T ty_T ty_T_ok n_T hown hK.1 hw hS (0) cT_0 rfl 0 (by decide) (hts _ tw_409) rfl rfl rfl (Nat.le_of_ble_eq_true rfl) d_T_back_2 (fun H locs hw hS => ?_)
  replace hw := mw_encT (r := upd (s0 (0)) 0 0) hw cT_0
  have hw : mwG G A ad (encT G.2 ad (up2 s0 (0) 0 0)) H := hw
  refine lv_iload_n hx hb d_T_back_5 rfl (lv_at hl 1 rfl) ?_
  refine lv_iconst (v := 0) hx hb d_T_back_6 (by decide) ?_
  refine lv_iconst (v := 2) hx hb d_T_back_7 (by decide) ?_
  refine gS (As := [.int (a1), .int (0), .int (2)]) (rest := []) (st1 := [.int (f_T_isWithin a1 0 2)]) ⟨hx, hb, hml, hown, hts⟩ (cc_T_isWithin l G A ad  (up2 s0 (0) 0 0) a1 0 2) tw_510 tw_508 tw_509 tw_4 hd_T_isWithin rfl rfl ⟨Nat.le_of_ble_eq_true rfl, Nat.le_of_ble_eq_true rfl⟩ hK hw hS hl.1 rfl (Nat.le_of_ble_eq_true rfl) ⟨Nat.zero_le _, Nat.zero_le _⟩ d_T_back_8 rfl (fun H locs hw hS => ?_)
  refine lv_if_eq (tgt := 37) hx hb d_T_back_11 (by decide) (fun h1 => ?_) (fun h1 => ?_)
  · skip
    refine lv_iconst (v := 0) hx hb d_T_back_37 (by decide) ?_
    have e9 : f_T_back s0 a1 a2 = (0, up2 s0 (0) 0 0) := by unfold f_T_back; exact if_pos h1
    exact mw_iret hx hb hr rfl hw hS (congrArg (fun z => some (Value.int z.1)) e9.symm) ⟨rfl, congrArg (fun z => encT G.2 ad z.2) e9.symm⟩ hlocks d_T_back_38
  · skip
    refine lv_iload_n hx hb d_T_back_14 rfl (lv_at hl 2 rfl) ?_
    refine lv_iconst (v := -1) hx hb d_T_back_15 (by decide) ?_
    refine lv_icmp_eq (tgt := 39) hx hb d_T_back_16 (by decide) (fun h2 => ?_) (fun h2 => ?_)
    · skip
      refine lv_aload_n hx hb d_T_back_39 rfl (lv_at hl 0 rfl) ?_
      refine mw_get (v := .ref (ad (19))) hx hb hts in_T hown hK.1 hw (0) cT_0 rfl 19 (by decide) (hts _ tw_428) rfl d_T_back_40 ?_
      refine lv_iload_n hx hb d_T_back_43 rfl (lv_at hl 1 rfl) ?_
      refine lv_iload_n hx hb d_T_back_44 rfl (lv_at hl 2 rfl) ?_
      refine mw_iast hx hb hK.1 hw hS (19) 0 cT_19 rfl (isW_in h1) d_T_back_45 (fun H locs hw hS => ?_)
      replace hw := mw_encT (r := upd ((up2 s0 (0) 0 0) (19)) (Int32.toNatClampNeg a1) a2) hw cT_19
      have hw : mwG G A ad (encT G.2 ad (up2 (up2 s0 (0) 0 0) (19) (Int32.toNatClampNeg a1) a2)) H := hw
      refine lv_iconst (v := 1) hx hb d_T_back_46 (by decide) ?_
      have e9 : f_T_back s0 a1 a2 = (1, up2 (up2 s0 (0) 0 0) (19) (Int32.toNatClampNeg a1) a2) := by unfold f_T_back; exact (if_neg h1).trans (if_pos h2)
      exact mw_iret hx hb hr rfl hw hS (congrArg (fun z => some (Value.int z.1)) e9.symm) ⟨rfl, congrArg (fun z => encT G.2 ad z.2) e9.symm⟩ hlocks d_T_back_47
    · skip
      refine lv_aload_n hx hb d_T_back_19 rfl (lv_at hl 0 rfl) ?_
      refine lv_iload_n hx hb d_T_back_20 rfl (lv_at hl 2 rfl) ?_
      refine gV (As := [.int (a2)]) (rest := []) (st1 := [.int (f_T_isRelease (up2 s0 (0) 0 0) a2)]) ⟨hx, hb, hml, hown, hts⟩ (cc_T_isRelease l G A ad  (up2 s0 (0) 0 0) a2) cT_0 rfl tw_519 tw_516 tw_518 tw_p33 tw_4 hd_T_isRelease rfl rfl ⟨Nat.le_of_ble_eq_true rfl, Nat.le_of_ble_eq_true rfl⟩ hK hw hS hl.1 rfl (Nat.le_of_ble_eq_true rfl) ⟨Nat.zero_le _, Nat.zero_le _⟩ d_T_back_21 rfl (fun H locs hw hS => ?_)
      refine lv_if_eq (tgt := 37) hx hb d_T_back_24 (by decide) (fun h3 => ?_) (fun h3 => ?_)
      · skip
        refine lv_iconst (v := 0) hx hb d_T_back_37 (by decide) ?_
        have e9 : f_T_back s0 a1 a2 = (0, up2 s0 (0) 0 0) := by unfold f_T_back; exact (if_neg h1).trans ((if_neg h2).trans (if_pos h3))
        exact mw_iret hx hb hr rfl hw hS (congrArg (fun z => some (Value.int z.1)) e9.symm) ⟨rfl, congrArg (fun z => encT G.2 ad z.2) e9.symm⟩ hlocks d_T_back_38
      · skip
        refine lv_aload_n hx hb d_T_back_27 rfl (lv_at hl 0 rfl) ?_
        refine mw_get (v := .ref (ad (5))) hx hb hts in_T hown hK.1 hw (0) cT_0 rfl 5 (by decide) (hts _ tw_414) rfl d_T_back_28 ?_
        refine lv_iload_n hx hb d_T_back_31 rfl (lv_at hl 2 rfl) ?_
        refine mw_iald hx hb hK.1 hw (5) 0 cT_5 rfl (isRel_in (Wt_c hW) h3) d_T_back_32 ?_
        refine lv_iload_n hx hb d_T_back_33 rfl (lv_at hl 1 rfl) ?_
        refine lv_icmp_eq (tgt := 39) hx hb d_T_back_34 (by decide) (fun h4 => ?_) (fun h4 => ?_)
        · skip
          refine lv_aload_n hx hb d_T_back_39 rfl (lv_at hl 0 rfl) ?_
          refine mw_get (v := .ref (ad (19))) hx hb hts in_T hown hK.1 hw (0) cT_0 rfl 19 (by decide) (hts _ tw_428) rfl d_T_back_40 ?_
          refine lv_iload_n hx hb d_T_back_43 rfl (lv_at hl 1 rfl) ?_
          refine lv_iload_n hx hb d_T_back_44 rfl (lv_at hl 2 rfl) ?_
          refine mw_iast hx hb hK.1 hw hS (19) 0 cT_19 rfl (isW_in h1) d_T_back_45 (fun H locs hw hS => ?_)
          replace hw := mw_encT (r := upd ((up2 s0 (0) 0 0) (19)) (Int32.toNatClampNeg a1) a2) hw cT_19
          have hw : mwG G A ad (encT G.2 ad (up2 (up2 s0 (0) 0 0) (19) (Int32.toNatClampNeg a1) a2)) H := hw
          refine lv_iconst (v := 1) hx hb d_T_back_46 (by decide) ?_
          have e9 : f_T_back s0 a1 a2 = (1, up2 (up2 s0 (0) 0 0) (19) (Int32.toNatClampNeg a1) a2) := by unfold f_T_back; exact (if_neg h1).trans ((if_neg h2).trans ((if_neg h3).trans (if_pos h4)))
          exact mw_iret hx hb hr rfl hw hS (congrArg (fun z => some (Value.int z.1)) e9.symm) ⟨rfl, congrArg (fun z => encT G.2 ad z.2) e9.symm⟩ hlocks d_T_back_47
        · skip
          refine lv_iconst (v := 0) hx hb d_T_back_37 (by decide) ?_
          have e9 : f_T_back s0 a1 a2 = (0, up2 s0 (0) 0 0) := by unfold f_T_back; exact (if_neg h1).trans ((if_neg h2).trans ((if_neg h3).trans (if_neg h4)))
          exact mw_iret hx hb hr rfl hw hS (congrArg (fun z => some (Value.int z.1)) e9.symm) ⟨rfl, congrArg (fun z => encT G.2 ad z.2) e9.symm⟩ hlocks d_T_back_38

def f_T_row (s0 : S2) (a1 : Int32) : Int32 × S2 :=
  if (f_T_isMachine (up2 s0 (0) 0 0) a1) = 0 then
    (-1, up2 s0 (0) 0 0)
  else
    (f_T_rowOf a1, up2 s0 (0) 0 0)
set_option maxHeartbeats 4000000 in
set_option maxRecDepth 100000 in
theorem cc_T_row (l : Launch) (G : Gx) (A : Nat → Prop) (ad : Nat → Nat) (s0 : S2) (a1 : Int32) (hW : Wt s0) : Met l y_T_row ws_T_row { frames := 1, cells := 0, slots := 0, locals := 21 } (PG G [.ref (ad (0)), .int (a1)] A ad (encT G.2 ad s0)) (EG G A (some (.int (f_T_row s0 a1).1)) ad (encT G.2 ad ((f_T_row s0 a1).2))) 0 0 A := by
  refine Met.ofW (cc := c_T_row) (maxL := 2) (ret := (some .int)) (by decide) rfl ?_
  intro p e s m args below meth c s₁ B hml hv
  obtain ⟨rfl, hw, hK⟩ := hv
  have hx := B.exec
  have hb := B.bytes
  have hr := B.returns
  have hts : ∀ w ∈ tbG, w.before [.ref (ad (0)), .int (a1)].toArray s = true := fun w h => atoms_spec (ws := ws_T_row) B.pre w (List.mem_cons_of_mem _ h)
  have hown : s.vm.findClass "RollStagesModel" = some m.cls := findClass_of_methodNamed B.named
  have hlocks := B.notSynchronized
  have hS : va_S A s.heap s.heap [] := va_S.rf
  have hw : mwG G A ad (encT G.2 ad s0) s.heap := hw
  have hl := lv_entry ([.ref (ad (0)), .int (a1)]) (n := 2) (Nat.le_of_ble_eq_true rfl)
  rw [lg_entry_eq]
  generalize (lg_sl ([.ref (ad (0)), .int (a1)]) ++ List.replicate (2 - (lg_sl ([.ref (ad (0)), .int (a1)])).length) Slot.unset).toArray = ls at hl ⊢
  have hl : lv_has ls 2 [(0, .ref (ad (0))), (1, .int (a1))] := hl
  refine lv_aload_n hx hb d_T_row_0 rfl (lv_at hl 0 rfl) ?_
  refine lv_iconst (v := 0) hx hb d_T_row_1 (by decide) ?_
  refine mw_put (v := .int (0)) hx hb hts in_T ty_T ty_T_ok n_T hown hK.1 hw hS (0) cT_0 rfl 0 (by decide) (hts _ tw_409) rfl rfl rfl (Nat.le_of_ble_eq_true rfl) d_T_row_2 (fun H locs hw hS => ?_)
  replace hw := mw_encT (r := upd (s0 (0)) 0 0) hw cT_0
  have hw : mwG G A ad (encT G.2 ad (up2 s0 (0) 0 0)) H := hw
  refine lv_aload_n hx hb d_T_row_5 rfl (lv_at hl 0 rfl) ?_
  refine lv_iload_n hx hb d_T_row_6 rfl (lv_at hl 1 rfl) ?_
  refine gV (As := [.int (a1)]) (rest := []) (st1 := [.int (f_T_isMachine (up2 s0 (0) 0 0) a1)]) ⟨hx, hb, hml, hown, hts⟩ (cc_T_isMachine l G A ad  (up2 s0 (0) 0 0) a1) cT_0 rfl tw_579 tw_576 tw_578 tw_p38 tw_4 hd_T_isMachine rfl rfl ⟨Nat.le_of_ble_eq_true rfl, Nat.le_of_ble_eq_true rfl⟩ hK hw hS hl.1 rfl (Nat.le_of_ble_eq_true rfl) ⟨Nat.zero_le _, Nat.zero_le _⟩ d_T_row_7 rfl (fun H locs hw hS => ?_)
  refine lv_if_eq (tgt := 20) hx hb d_T_row_10 (by decide) (fun h1 => ?_) (fun h1 => ?_)
  · skip
    refine lv_iconst (v := -1) hx hb d_T_row_20 (by decide) ?_
    have e9 : f_T_row s0 a1 = (-1, up2 s0 (0) 0 0) := by unfold f_T_row; exact if_pos h1
    exact mw_iret hx hb hr rfl hw hS (congrArg (fun z => some (Value.int z.1)) e9.symm) ⟨rfl, congrArg (fun z => encT G.2 ad z.2) e9.symm⟩ hlocks d_T_row_21
  · skip
    refine lv_iload_n hx hb d_T_row_13 rfl (lv_at hl 1 rfl) ?_
    refine gS (As := [.int (a1)]) (rest := []) (st1 := [.int (f_T_rowOf a1)]) ⟨hx, hb, hml, hown, hts⟩ (cc_T_rowOf l G A ad  (up2 s0 (0) 0 0) a1) tw_582 tw_580 tw_581 tw_4 hd_T_rowOf rfl rfl ⟨Nat.le_of_ble_eq_true rfl, Nat.le_of_ble_eq_true rfl⟩ hK hw hS hl.1 rfl (Nat.le_of_ble_eq_true rfl) ⟨Nat.zero_le _, Nat.zero_le _⟩ d_T_row_14 rfl (fun H locs hw hS => ?_)
    refine lv_goto (tgt := 21) hx hb d_T_row_17 (by decide) ?_
    have e9 : f_T_row s0 a1 = (f_T_rowOf a1, up2 s0 (0) 0 0) := by unfold f_T_row; exact if_neg h1
    exact mw_iret hx hb hr rfl hw hS (congrArg (fun z => some (Value.int z.1)) e9.symm) ⟨rfl, congrArg (fun z => encT G.2 ad z.2) e9.symm⟩ hlocks d_T_row_21

def f_T_pin (s0 : S2) (a1 : Int32) (a2 : Int32) : Int32 × S2 :=
  if (f_T_isMachine (up2 s0 (0) 0 0) a1) = 0 then
    (0, up2 s0 (0) 0 0)
  else
    if a2 = (-1) then
      (1, up2 (up2 s0 (0) 0 0) (23) (Int32.toNatClampNeg a1) a2)
    else
      if (f_T_isRelease (up2 s0 (0) 0 0) a2) = 0 then
        (0, up2 s0 (0) 0 0)
      else
        (1, up2 (up2 s0 (0) 0 0) (23) (Int32.toNatClampNeg a1) a2)
theorem fb_T_pin (s0 : S2) (a1 : Int32) (a2 : Int32) : narrow .boolean (.int ((f_T_pin s0 a1 a2).1)) = .int ((f_T_pin s0 a1 a2).1) := by
  unfold f_T_pin
  repeat' split
  all_goals first | rfl | exact narrow_b0 | exact narrow_b1
set_option maxHeartbeats 4000000 in
set_option maxRecDepth 100000 in
theorem cc_T_pin (l : Launch) (G : Gx) (A : Nat → Prop) (ad : Nat → Nat) (s0 : S2) (a1 : Int32) (a2 : Int32) (hW : Wt s0) : Met l y_T_pin ws_T_pin { frames := 1, cells := 0, slots := 0, locals := 21 } (PG G [.ref (ad (0)), .int (a1), .int (a2)] A ad (encT G.2 ad s0)) (EG G A (some (.int (f_T_pin s0 a1 a2).1)) ad (encT G.2 ad ((f_T_pin s0 a1 a2).2))) 0 0 A := by
  refine Met.ofW (cc := c_T_pin) (maxL := 3) (ret := (some .boolean)) (by decide) rfl ?_
  intro p e s m args below meth c s₁ B hml hv
  obtain ⟨rfl, hw, hK⟩ := hv
  have hx := B.exec
  have hb := B.bytes
  have hr := B.returns
  have hts : ∀ w ∈ tbG, w.before [.ref (ad (0)), .int (a1), .int (a2)].toArray s = true := fun w h => atoms_spec (ws := ws_T_pin) B.pre w (List.mem_cons_of_mem _ h)
  have hown : s.vm.findClass "RollStagesModel" = some m.cls := findClass_of_methodNamed B.named
  have hlocks := B.notSynchronized
  have hS : va_S A s.heap s.heap [] := va_S.rf
  have hw : mwG G A ad (encT G.2 ad s0) s.heap := hw
  have hl := lv_entry ([.ref (ad (0)), .int (a1), .int (a2)]) (n := 3) (Nat.le_of_ble_eq_true rfl)
  rw [lg_entry_eq]
  generalize (lg_sl ([.ref (ad (0)), .int (a1), .int (a2)]) ++ List.replicate (3 - (lg_sl ([.ref (ad (0)), .int (a1), .int (a2)])).length) Slot.unset).toArray = ls at hl ⊢
  have hl : lv_has ls 3 [(0, .ref (ad (0))), (1, .int (a1)), (2, .int (a2))] := hl
  refine lv_aload_n hx hb d_T_pin_0 rfl (lv_at hl 0 rfl) ?_
  refine lv_iconst (v := 0) hx hb d_T_pin_1 (by decide) ?_
  refine mw_put (v := .int (0)) hx hb hts in_T ty_T ty_T_ok n_T hown hK.1 hw hS (0) cT_0 rfl 0 (by decide) (hts _ tw_409) rfl rfl rfl (Nat.le_of_ble_eq_true rfl) d_T_pin_2 (fun H locs hw hS => ?_)
  replace hw := mw_encT (r := upd (s0 (0)) 0 0) hw cT_0
  have hw : mwG G A ad (encT G.2 ad (up2 s0 (0) 0 0)) H := hw
  refine lv_aload_n hx hb d_T_pin_5 rfl (lv_at hl 0 rfl) ?_
  refine lv_iload_n hx hb d_T_pin_6 rfl (lv_at hl 1 rfl) ?_
  refine gV (As := [.int (a1)]) (rest := []) (st1 := [.int (f_T_isMachine (up2 s0 (0) 0 0) a1)]) ⟨hx, hb, hml, hown, hts⟩ (cc_T_isMachine l G A ad  (up2 s0 (0) 0 0) a1) cT_0 rfl tw_579 tw_576 tw_578 tw_p38 tw_4 hd_T_isMachine rfl rfl ⟨Nat.le_of_ble_eq_true rfl, Nat.le_of_ble_eq_true rfl⟩ hK hw hS hl.1 rfl (Nat.le_of_ble_eq_true rfl) ⟨Nat.zero_le _, Nat.zero_le _⟩ d_T_pin_7 rfl (fun H locs hw hS => ?_)
  refine lv_if_eq (tgt := 26) hx hb d_T_pin_10 (by decide) (fun h1 => ?_) (fun h1 => ?_)
  · skip
    refine lv_iconst (v := 0) hx hb d_T_pin_26 (by decide) ?_
    have e9 : f_T_pin s0 a1 a2 = (0, up2 s0 (0) 0 0) := by unfold f_T_pin; exact if_pos h1
    exact mw_iret hx hb hr rfl hw hS (congrArg (fun z => some (Value.int z.1)) e9.symm) ⟨rfl, congrArg (fun z => encT G.2 ad z.2) e9.symm⟩ hlocks d_T_pin_27
  · skip
    refine lv_iload_n hx hb d_T_pin_13 rfl (lv_at hl 2 rfl) ?_
    refine lv_iconst (v := -1) hx hb d_T_pin_14 (by decide) ?_
    refine lv_icmp_eq (tgt := 28) hx hb d_T_pin_15 (by decide) (fun h2 => ?_) (fun h2 => ?_)
    · skip
      refine lv_aload_n hx hb d_T_pin_28 rfl (lv_at hl 0 rfl) ?_
      refine mw_get (v := .ref (ad (23))) hx hb hts in_T hown hK.1 hw (0) cT_0 rfl 23 (by decide) (hts _ tw_432) rfl d_T_pin_29 ?_
      refine lv_iload_n hx hb d_T_pin_32 rfl (lv_at hl 1 rfl) ?_
      refine lv_iload_n hx hb d_T_pin_33 rfl (lv_at hl 2 rfl) ?_
      refine mw_iast hx hb hK.1 hw hS (23) 0 cT_23 rfl (isMac_in (Wt_c hW) h1) d_T_pin_34 (fun H locs hw hS => ?_)
      replace hw := mw_encT (r := upd ((up2 s0 (0) 0 0) (23)) (Int32.toNatClampNeg a1) a2) hw cT_23
      have hw : mwG G A ad (encT G.2 ad (up2 (up2 s0 (0) 0 0) (23) (Int32.toNatClampNeg a1) a2)) H := hw
      refine lv_iconst (v := 1) hx hb d_T_pin_35 (by decide) ?_
      have e9 : f_T_pin s0 a1 a2 = (1, up2 (up2 s0 (0) 0 0) (23) (Int32.toNatClampNeg a1) a2) := by unfold f_T_pin; exact (if_neg h1).trans (if_pos h2)
      exact mw_iret hx hb hr rfl hw hS (congrArg (fun z => some (Value.int z.1)) e9.symm) ⟨rfl, congrArg (fun z => encT G.2 ad z.2) e9.symm⟩ hlocks d_T_pin_36
    · skip
      refine lv_aload_n hx hb d_T_pin_18 rfl (lv_at hl 0 rfl) ?_
      refine lv_iload_n hx hb d_T_pin_19 rfl (lv_at hl 2 rfl) ?_
      refine gV (As := [.int (a2)]) (rest := []) (st1 := [.int (f_T_isRelease (up2 s0 (0) 0 0) a2)]) ⟨hx, hb, hml, hown, hts⟩ (cc_T_isRelease l G A ad  (up2 s0 (0) 0 0) a2) cT_0 rfl tw_519 tw_516 tw_518 tw_p33 tw_4 hd_T_isRelease rfl rfl ⟨Nat.le_of_ble_eq_true rfl, Nat.le_of_ble_eq_true rfl⟩ hK hw hS hl.1 rfl (Nat.le_of_ble_eq_true rfl) ⟨Nat.zero_le _, Nat.zero_le _⟩ d_T_pin_20 rfl (fun H locs hw hS => ?_)
      refine lv_if_ne (tgt := 28) hx hb d_T_pin_23 (by decide) (fun h3 => ?_) (fun h3 => ?_)
      · skip
        refine lv_aload_n hx hb d_T_pin_28 rfl (lv_at hl 0 rfl) ?_
        refine mw_get (v := .ref (ad (23))) hx hb hts in_T hown hK.1 hw (0) cT_0 rfl 23 (by decide) (hts _ tw_432) rfl d_T_pin_29 ?_
        refine lv_iload_n hx hb d_T_pin_32 rfl (lv_at hl 1 rfl) ?_
        refine lv_iload_n hx hb d_T_pin_33 rfl (lv_at hl 2 rfl) ?_
        refine mw_iast hx hb hK.1 hw hS (23) 0 cT_23 rfl (isMac_in (Wt_c hW) h1) d_T_pin_34 (fun H locs hw hS => ?_)
        replace hw := mw_encT (r := upd ((up2 s0 (0) 0 0) (23)) (Int32.toNatClampNeg a1) a2) hw cT_23
        have hw : mwG G A ad (encT G.2 ad (up2 (up2 s0 (0) 0 0) (23) (Int32.toNatClampNeg a1) a2)) H := hw
        refine lv_iconst (v := 1) hx hb d_T_pin_35 (by decide) ?_
        have e9 : f_T_pin s0 a1 a2 = (1, up2 (up2 s0 (0) 0 0) (23) (Int32.toNatClampNeg a1) a2) := by unfold f_T_pin; exact (if_neg h1).trans ((if_neg h2).trans (if_neg h3))
        exact mw_iret hx hb hr rfl hw hS (congrArg (fun z => some (Value.int z.1)) e9.symm) ⟨rfl, congrArg (fun z => encT G.2 ad z.2) e9.symm⟩ hlocks d_T_pin_36
      · skip
        refine lv_iconst (v := 0) hx hb d_T_pin_26 (by decide) ?_
        have e9 : f_T_pin s0 a1 a2 = (0, up2 s0 (0) 0 0) := by unfold f_T_pin; exact (if_neg h1).trans ((if_neg h2).trans (if_pos h3))
        exact mw_iret hx hb hr rfl hw hS (congrArg (fun z => some (Value.int z.1)) e9.symm) ⟨rfl, congrArg (fun z => encT G.2 ad z.2) e9.symm⟩ hlocks d_T_pin_27

def f_T_offered (s0 : S2) (a1 : Int32) : Int32 × S2 :=
  if (f_T_isMachine (up2 s0 (0) 0 0) a1) = 0 then
    (-1, up2 s0 (0) 0 0)
  else
    (f_T_offer (up2 s0 (0) 0 0) a1, up2 s0 (0) 0 0)
set_option maxHeartbeats 4000000 in
set_option maxRecDepth 100000 in
theorem cc_T_offered (l : Launch) (G : Gx) (A : Nat → Prop) (ad : Nat → Nat) (s0 : S2) (a1 : Int32) (hW : Wt s0) : Met l y_T_offered ws_T_offered { frames := 3, cells := 0, slots := 0, locals := 67 } (PG G [.ref (ad (0)), .int (a1)] A ad (encT G.2 ad s0)) (EG G A (some (.int (f_T_offered s0 a1).1)) ad (encT G.2 ad ((f_T_offered s0 a1).2))) 0 0 A := by
  refine Met.ofW (cc := c_T_offered) (maxL := 2) (ret := (some .int)) (by decide) rfl ?_
  intro p e s m args below meth c s₁ B hml hv
  obtain ⟨rfl, hw, hK⟩ := hv
  have hx := B.exec
  have hb := B.bytes
  have hr := B.returns
  have hts : ∀ w ∈ tbG, w.before [.ref (ad (0)), .int (a1)].toArray s = true := fun w h => atoms_spec (ws := ws_T_offered) B.pre w (List.mem_cons_of_mem _ h)
  have hown : s.vm.findClass "RollStagesModel" = some m.cls := findClass_of_methodNamed B.named
  have hlocks := B.notSynchronized
  have hS : va_S A s.heap s.heap [] := va_S.rf
  have hw : mwG G A ad (encT G.2 ad s0) s.heap := hw
  have hl := lv_entry ([.ref (ad (0)), .int (a1)]) (n := 2) (Nat.le_of_ble_eq_true rfl)
  rw [lg_entry_eq]
  generalize (lg_sl ([.ref (ad (0)), .int (a1)]) ++ List.replicate (2 - (lg_sl ([.ref (ad (0)), .int (a1)])).length) Slot.unset).toArray = ls at hl ⊢
  have hl : lv_has ls 2 [(0, .ref (ad (0))), (1, .int (a1))] := hl
  refine lv_aload_n hx hb d_T_offered_0 rfl (lv_at hl 0 rfl) ?_
  refine lv_iconst (v := 0) hx hb d_T_offered_1 (by decide) ?_
  refine mw_put (v := .int (0)) hx hb hts in_T ty_T ty_T_ok n_T hown hK.1 hw hS (0) cT_0 rfl 0 (by decide) (hts _ tw_409) rfl rfl rfl (Nat.le_of_ble_eq_true rfl) d_T_offered_2 (fun H locs hw hS => ?_)
  replace hw := mw_encT (r := upd (s0 (0)) 0 0) hw cT_0
  have hw : mwG G A ad (encT G.2 ad (up2 s0 (0) 0 0)) H := hw
  refine lv_aload_n hx hb d_T_offered_5 rfl (lv_at hl 0 rfl) ?_
  refine lv_iload_n hx hb d_T_offered_6 rfl (lv_at hl 1 rfl) ?_
  refine gV (As := [.int (a1)]) (rest := []) (st1 := [.int (f_T_isMachine (up2 s0 (0) 0 0) a1)]) ⟨hx, hb, hml, hown, hts⟩ (cc_T_isMachine l G A ad  (up2 s0 (0) 0 0) a1) cT_0 rfl tw_579 tw_576 tw_578 tw_p38 tw_4 hd_T_isMachine rfl rfl ⟨Nat.le_of_ble_eq_true rfl, Nat.le_of_ble_eq_true rfl⟩ hK hw hS hl.1 rfl (Nat.le_of_ble_eq_true rfl) ⟨Nat.zero_le _, Nat.zero_le _⟩ d_T_offered_7 rfl (fun H locs hw hS => ?_)
  refine lv_if_eq (tgt := 21) hx hb d_T_offered_10 (by decide) (fun h1 => ?_) (fun h1 => ?_)
  · skip
    refine lv_iconst (v := -1) hx hb d_T_offered_21 (by decide) ?_
    have e9 : f_T_offered s0 a1 = (-1, up2 s0 (0) 0 0) := by unfold f_T_offered; exact if_pos h1
    exact mw_iret hx hb hr rfl hw hS (congrArg (fun z => some (Value.int z.1)) e9.symm) ⟨rfl, congrArg (fun z => encT G.2 ad z.2) e9.symm⟩ hlocks d_T_offered_22
  · skip
    refine lv_aload_n hx hb d_T_offered_13 rfl (lv_at hl 0 rfl) ?_
    refine lv_iload_n hx hb d_T_offered_14 rfl (lv_at hl 1 rfl) ?_
    refine gV (As := [.int (a1)]) (rest := []) (st1 := [.int (f_T_offer (up2 s0 (0) 0 0) a1)]) ⟨hx, hb, hml, hown, hts⟩ (cc_T_offer l G A ad  (up2 s0 (0) 0 0) a1 (Wt_c hW) (isMac_in (Wt_c hW) h1)) cT_0 rfl tw_598 tw_595 tw_597 tw_p39 tw_4 hd_T_offer rfl rfl ⟨Nat.le_of_ble_eq_true rfl, Nat.le_of_ble_eq_true rfl⟩ hK hw hS hl.1 rfl (Nat.le_of_ble_eq_true rfl) ⟨Nat.zero_le _, Nat.zero_le _⟩ d_T_offered_15 rfl (fun H locs hw hS => ?_)
    refine lv_goto (tgt := 22) hx hb d_T_offered_18 (by decide) ?_
    have e9 : f_T_offered s0 a1 = (f_T_offer (up2 s0 (0) 0 0) a1, up2 s0 (0) 0 0) := by unfold f_T_offered; exact if_neg h1
    exact mw_iret hx hb hr rfl hw hS (congrArg (fun z => some (Value.int z.1)) e9.symm) ⟨rfl, congrArg (fun z => encT G.2 ad z.2) e9.symm⟩ hlocks d_T_offered_22

def f_T_may (s0 : S2) (a1 : Int32) (a2 : Int32) : Int32 × S2 :=
  if (f_T_isMachine (up2 s0 (0) 0 0) a1) = 0 then
    (0, up2 s0 (0) 0 0)
  else
    if (f_T_isRelease (up2 s0 (0) 0 0) a2) = 0 then
      (0, up2 s0 (0) 0 0)
    else
      if (f_T_mayGet (up2 s0 (0) 0 0) a1 a2) = 0 then
        (0, up2 s0 (0) 0 0)
      else
        (1, up2 s0 (0) 0 0)
theorem fb_T_may (s0 : S2) (a1 : Int32) (a2 : Int32) : narrow .boolean (.int ((f_T_may s0 a1 a2).1)) = .int ((f_T_may s0 a1 a2).1) := by
  unfold f_T_may
  repeat' split
  all_goals first | rfl | exact narrow_b0 | exact narrow_b1
set_option maxHeartbeats 4000000 in
set_option maxRecDepth 100000 in
theorem cc_T_may (l : Launch) (G : Gx) (A : Nat → Prop) (ad : Nat → Nat) (s0 : S2) (a1 : Int32) (a2 : Int32) (hW : Wt s0) : Met l y_T_may ws_T_may { frames := 2, cells := 0, slots := 0, locals := 44 } (PG G [.ref (ad (0)), .int (a1), .int (a2)] A ad (encT G.2 ad s0)) (EG G A (some (.int (f_T_may s0 a1 a2).1)) ad (encT G.2 ad ((f_T_may s0 a1 a2).2))) 0 0 A := by
  refine Met.ofW (cc := c_T_may) (maxL := 3) (ret := (some .boolean)) (by decide) rfl ?_
  intro p e s m args below meth c s₁ B hml hv
  obtain ⟨rfl, hw, hK⟩ := hv
  have hx := B.exec
  have hb := B.bytes
  have hr := B.returns
  have hts : ∀ w ∈ tbG, w.before [.ref (ad (0)), .int (a1), .int (a2)].toArray s = true := fun w h => atoms_spec (ws := ws_T_may) B.pre w (List.mem_cons_of_mem _ h)
  have hown : s.vm.findClass "RollStagesModel" = some m.cls := findClass_of_methodNamed B.named
  have hlocks := B.notSynchronized
  have hS : va_S A s.heap s.heap [] := va_S.rf
  have hw : mwG G A ad (encT G.2 ad s0) s.heap := hw
  have hl := lv_entry ([.ref (ad (0)), .int (a1), .int (a2)]) (n := 3) (Nat.le_of_ble_eq_true rfl)
  rw [lg_entry_eq]
  generalize (lg_sl ([.ref (ad (0)), .int (a1), .int (a2)]) ++ List.replicate (3 - (lg_sl ([.ref (ad (0)), .int (a1), .int (a2)])).length) Slot.unset).toArray = ls at hl ⊢
  have hl : lv_has ls 3 [(0, .ref (ad (0))), (1, .int (a1)), (2, .int (a2))] := hl
  refine lv_aload_n hx hb d_T_may_0 rfl (lv_at hl 0 rfl) ?_
  refine lv_iconst (v := 0) hx hb d_T_may_1 (by decide) ?_
  refine mw_put (v := .int (0)) hx hb hts in_T ty_T ty_T_ok n_T hown hK.1 hw hS (0) cT_0 rfl 0 (by decide) (hts _ tw_409) rfl rfl rfl (Nat.le_of_ble_eq_true rfl) d_T_may_2 (fun H locs hw hS => ?_)
  replace hw := mw_encT (r := upd (s0 (0)) 0 0) hw cT_0
  have hw : mwG G A ad (encT G.2 ad (up2 s0 (0) 0 0)) H := hw
  refine lv_aload_n hx hb d_T_may_5 rfl (lv_at hl 0 rfl) ?_
  refine lv_iload_n hx hb d_T_may_6 rfl (lv_at hl 1 rfl) ?_
  refine gV (As := [.int (a1)]) (rest := []) (st1 := [.int (f_T_isMachine (up2 s0 (0) 0 0) a1)]) ⟨hx, hb, hml, hown, hts⟩ (cc_T_isMachine l G A ad  (up2 s0 (0) 0 0) a1) cT_0 rfl tw_579 tw_576 tw_578 tw_p38 tw_4 hd_T_isMachine rfl rfl ⟨Nat.le_of_ble_eq_true rfl, Nat.le_of_ble_eq_true rfl⟩ hK hw hS hl.1 rfl (Nat.le_of_ble_eq_true rfl) ⟨Nat.zero_le _, Nat.zero_le _⟩ d_T_may_7 rfl (fun H locs hw hS => ?_)
  refine lv_if_eq (tgt := 34) hx hb d_T_may_10 (by decide) (fun h1 => ?_) (fun h1 => ?_)
  · skip
    refine lv_iconst (v := 0) hx hb d_T_may_34 (by decide) ?_
    have e9 : f_T_may s0 a1 a2 = (0, up2 s0 (0) 0 0) := by unfold f_T_may; exact if_pos h1
    exact mw_iret hx hb hr rfl hw hS (congrArg (fun z => some (Value.int z.1)) e9.symm) ⟨rfl, congrArg (fun z => encT G.2 ad z.2) e9.symm⟩ hlocks d_T_may_35
  · skip
    refine lv_aload_n hx hb d_T_may_13 rfl (lv_at hl 0 rfl) ?_
    refine lv_iload_n hx hb d_T_may_14 rfl (lv_at hl 2 rfl) ?_
    refine gV (As := [.int (a2)]) (rest := []) (st1 := [.int (f_T_isRelease (up2 s0 (0) 0 0) a2)]) ⟨hx, hb, hml, hown, hts⟩ (cc_T_isRelease l G A ad  (up2 s0 (0) 0 0) a2) cT_0 rfl tw_519 tw_516 tw_518 tw_p33 tw_4 hd_T_isRelease rfl rfl ⟨Nat.le_of_ble_eq_true rfl, Nat.le_of_ble_eq_true rfl⟩ hK hw hS hl.1 rfl (Nat.le_of_ble_eq_true rfl) ⟨Nat.zero_le _, Nat.zero_le _⟩ d_T_may_15 rfl (fun H locs hw hS => ?_)
    refine lv_if_eq (tgt := 34) hx hb d_T_may_18 (by decide) (fun h2 => ?_) (fun h2 => ?_)
    · skip
      refine lv_iconst (v := 0) hx hb d_T_may_34 (by decide) ?_
      have e9 : f_T_may s0 a1 a2 = (0, up2 s0 (0) 0 0) := by unfold f_T_may; exact (if_neg h1).trans (if_pos h2)
      exact mw_iret hx hb hr rfl hw hS (congrArg (fun z => some (Value.int z.1)) e9.symm) ⟨rfl, congrArg (fun z => encT G.2 ad z.2) e9.symm⟩ hlocks d_T_may_35
    · skip
      refine lv_aload_n hx hb d_T_may_21 rfl (lv_at hl 0 rfl) ?_
      refine lv_iload_n hx hb d_T_may_22 rfl (lv_at hl 1 rfl) ?_
      refine lv_iload_n hx hb d_T_may_23 rfl (lv_at hl 2 rfl) ?_
      refine gV (As := [.int (a1), .int (a2)]) (rest := []) (st1 := [.int (f_T_mayGet (up2 s0 (0) 0 0) a1 a2)]) ⟨hx, hb, hml, hown, hts⟩ (cc_T_mayGet l G A ad  (up2 s0 (0) 0 0) a1 a2 (Wt_c hW) (isMac_in (Wt_c hW) h1) (isRel_in (Wt_c hW) h2)) cT_0 rfl tw_602 tw_599 tw_601 tw_p40 tw_4 hd_T_mayGet rfl rfl ⟨Nat.le_of_ble_eq_true rfl, Nat.le_of_ble_eq_true rfl⟩ hK hw hS hl.1 rfl (Nat.le_of_ble_eq_true rfl) ⟨Nat.zero_le _, Nat.zero_le _⟩ d_T_may_24 rfl (fun H locs hw hS => ?_)
      refine lv_if_eq (tgt := 34) hx hb d_T_may_27 (by decide) (fun h3 => ?_) (fun h3 => ?_)
      · skip
        refine lv_iconst (v := 0) hx hb d_T_may_34 (by decide) ?_
        have e9 : f_T_may s0 a1 a2 = (0, up2 s0 (0) 0 0) := by unfold f_T_may; exact (if_neg h1).trans ((if_neg h2).trans (if_pos h3))
        exact mw_iret hx hb hr rfl hw hS (congrArg (fun z => some (Value.int z.1)) e9.symm) ⟨rfl, congrArg (fun z => encT G.2 ad z.2) e9.symm⟩ hlocks d_T_may_35
      · skip
        refine lv_iconst (v := 1) hx hb d_T_may_30 (by decide) ?_
        refine lv_goto (tgt := 35) hx hb d_T_may_31 (by decide) ?_
        have e9 : f_T_may s0 a1 a2 = (1, up2 s0 (0) 0 0) := by unfold f_T_may; exact (if_neg h1).trans ((if_neg h2).trans (if_neg h3))
        exact mw_iret hx hb hr rfl hw hS (congrArg (fun z => some (Value.int z.1)) e9.symm) ⟨rfl, congrArg (fun z => encT G.2 ad z.2) e9.symm⟩ hlocks d_T_may_35

def f_T_has (s0 : S2) (a1 : Int32) : Int32 × S2 :=
  if (f_T_isMachine (up2 s0 (0) 0 0) a1) = 0 then
    (-1, up2 s0 (0) 0 0)
  else
    ((up2 s0 (0) 0 0) (22) (Int32.toNatClampNeg a1), up2 s0 (0) 0 0)
set_option maxHeartbeats 4000000 in
set_option maxRecDepth 100000 in
theorem cc_T_has (l : Launch) (G : Gx) (A : Nat → Prop) (ad : Nat → Nat) (s0 : S2) (a1 : Int32) (hW : Wt s0) : Met l y_T_has ws_T_has { frames := 1, cells := 0, slots := 0, locals := 21 } (PG G [.ref (ad (0)), .int (a1)] A ad (encT G.2 ad s0)) (EG G A (some (.int (f_T_has s0 a1).1)) ad (encT G.2 ad ((f_T_has s0 a1).2))) 0 0 A := by
  refine Met.ofW (cc := c_T_has) (maxL := 2) (ret := (some .int)) (by decide) rfl ?_
  intro p e s m args below meth c s₁ B hml hv
  obtain ⟨rfl, hw, hK⟩ := hv
  have hx := B.exec
  have hb := B.bytes
  have hr := B.returns
  have hts : ∀ w ∈ tbG, w.before [.ref (ad (0)), .int (a1)].toArray s = true := fun w h => atoms_spec (ws := ws_T_has) B.pre w (List.mem_cons_of_mem _ h)
  have hown : s.vm.findClass "RollStagesModel" = some m.cls := findClass_of_methodNamed B.named
  have hlocks := B.notSynchronized
  have hS : va_S A s.heap s.heap [] := va_S.rf
  have hw : mwG G A ad (encT G.2 ad s0) s.heap := hw
  have hl := lv_entry ([.ref (ad (0)), .int (a1)]) (n := 2) (Nat.le_of_ble_eq_true rfl)
  rw [lg_entry_eq]
  generalize (lg_sl ([.ref (ad (0)), .int (a1)]) ++ List.replicate (2 - (lg_sl ([.ref (ad (0)), .int (a1)])).length) Slot.unset).toArray = ls at hl ⊢
  have hl : lv_has ls 2 [(0, .ref (ad (0))), (1, .int (a1))] := hl
  refine lv_aload_n hx hb d_T_has_0 rfl (lv_at hl 0 rfl) ?_
  refine lv_iconst (v := 0) hx hb d_T_has_1 (by decide) ?_
  refine mw_put (v := .int (0)) hx hb hts in_T ty_T ty_T_ok n_T hown hK.1 hw hS (0) cT_0 rfl 0 (by decide) (hts _ tw_409) rfl rfl rfl (Nat.le_of_ble_eq_true rfl) d_T_has_2 (fun H locs hw hS => ?_)
  replace hw := mw_encT (r := upd (s0 (0)) 0 0) hw cT_0
  have hw : mwG G A ad (encT G.2 ad (up2 s0 (0) 0 0)) H := hw
  refine lv_aload_n hx hb d_T_has_5 rfl (lv_at hl 0 rfl) ?_
  refine lv_iload_n hx hb d_T_has_6 rfl (lv_at hl 1 rfl) ?_
  refine gV (As := [.int (a1)]) (rest := []) (st1 := [.int (f_T_isMachine (up2 s0 (0) 0 0) a1)]) ⟨hx, hb, hml, hown, hts⟩ (cc_T_isMachine l G A ad  (up2 s0 (0) 0 0) a1) cT_0 rfl tw_579 tw_576 tw_578 tw_p38 tw_4 hd_T_isMachine rfl rfl ⟨Nat.le_of_ble_eq_true rfl, Nat.le_of_ble_eq_true rfl⟩ hK hw hS hl.1 rfl (Nat.le_of_ble_eq_true rfl) ⟨Nat.zero_le _, Nat.zero_le _⟩ d_T_has_7 rfl (fun H locs hw hS => ?_)
  refine lv_if_eq (tgt := 22) hx hb d_T_has_10 (by decide) (fun h1 => ?_) (fun h1 => ?_)
  · skip
    refine lv_iconst (v := -1) hx hb d_T_has_22 (by decide) ?_
    have e9 : f_T_has s0 a1 = (-1, up2 s0 (0) 0 0) := by unfold f_T_has; exact if_pos h1
    exact mw_iret hx hb hr rfl hw hS (congrArg (fun z => some (Value.int z.1)) e9.symm) ⟨rfl, congrArg (fun z => encT G.2 ad z.2) e9.symm⟩ hlocks d_T_has_23
  · skip
    refine lv_aload_n hx hb d_T_has_13 rfl (lv_at hl 0 rfl) ?_
    refine mw_get (v := .ref (ad (22))) hx hb hts in_T hown hK.1 hw (0) cT_0 rfl 22 (by decide) (hts _ tw_431) rfl d_T_has_14 ?_
    refine lv_iload_n hx hb d_T_has_17 rfl (lv_at hl 1 rfl) ?_
    refine mw_iald hx hb hK.1 hw (22) 0 cT_22 rfl (isMac_in (Wt_c hW) h1) d_T_has_18 ?_
    refine lv_goto (tgt := 23) hx hb d_T_has_19 (by decide) ?_
    have e9 : f_T_has s0 a1 = ((up2 s0 (0) 0 0) (22) (Int32.toNatClampNeg a1), up2 s0 (0) 0 0) := by unfold f_T_has; exact if_neg h1
    exact mw_iret hx hb hr rfl hw hS (congrArg (fun z => some (Value.int z.1)) e9.symm) ⟨rfl, congrArg (fun z => encT G.2 ad z.2) e9.symm⟩ hlocks d_T_has_23

def f_T_update (s0 : S2) (a1 : Int32) : Int32 × S2 :=
  if (f_T_isMachine (up2 s0 (0) 0 0) a1) = 0 then
    (-1, up2 s0 (0) 0 0)
  else
    if (f_T_offer (up2 s0 (0) 0 0) a1) = (-1) then
      (-1, up2 s0 (0) 0 0)
    else
      ((up2 (up2 s0 (0) 0 0) (22) (Int32.toNatClampNeg a1) (f_T_offer (up2 s0 (0) 0 0) a1)) (22) (Int32.toNatClampNeg a1), up2 (up2 s0 (0) 0 0) (22) (Int32.toNatClampNeg a1) (f_T_offer (up2 s0 (0) 0 0) a1))
set_option maxHeartbeats 4000000 in
set_option maxRecDepth 100000 in
theorem cc_T_update (l : Launch) (G : Gx) (A : Nat → Prop) (ad : Nat → Nat) (s0 : S2) (a1 : Int32) (hW : Wt s0) : Met l y_T_update ws_T_update { frames := 3, cells := 0, slots := 0, locals := 67 } (PG G [.ref (ad (0)), .int (a1)] A ad (encT G.2 ad s0)) (EG G A (some (.int (f_T_update s0 a1).1)) ad (encT G.2 ad ((f_T_update s0 a1).2))) 0 0 A := by
  refine Met.ofW (cc := c_T_update) (maxL := 2) (ret := (some .int)) (by decide) rfl ?_
  intro p e s m args below meth c s₁ B hml hv
  obtain ⟨rfl, hw, hK⟩ := hv
  have hx := B.exec
  have hb := B.bytes
  have hr := B.returns
  have hts : ∀ w ∈ tbG, w.before [.ref (ad (0)), .int (a1)].toArray s = true := fun w h => atoms_spec (ws := ws_T_update) B.pre w (List.mem_cons_of_mem _ h)
  have hown : s.vm.findClass "RollStagesModel" = some m.cls := findClass_of_methodNamed B.named
  have hlocks := B.notSynchronized
  have hS : va_S A s.heap s.heap [] := va_S.rf
  have hw : mwG G A ad (encT G.2 ad s0) s.heap := hw
  have hl := lv_entry ([.ref (ad (0)), .int (a1)]) (n := 2) (Nat.le_of_ble_eq_true rfl)
  rw [lg_entry_eq]
  generalize (lg_sl ([.ref (ad (0)), .int (a1)]) ++ List.replicate (2 - (lg_sl ([.ref (ad (0)), .int (a1)])).length) Slot.unset).toArray = ls at hl ⊢
  have hl : lv_has ls 2 [(0, .ref (ad (0))), (1, .int (a1))] := hl
  refine lv_aload_n hx hb d_T_update_0 rfl (lv_at hl 0 rfl) ?_
  refine lv_iconst (v := 0) hx hb d_T_update_1 (by decide) ?_
  refine mw_put (v := .int (0)) hx hb hts in_T ty_T ty_T_ok n_T hown hK.1 hw hS (0) cT_0 rfl 0 (by decide) (hts _ tw_409) rfl rfl rfl (Nat.le_of_ble_eq_true rfl) d_T_update_2 (fun H locs hw hS => ?_)
  replace hw := mw_encT (r := upd (s0 (0)) 0 0) hw cT_0
  have hw : mwG G A ad (encT G.2 ad (up2 s0 (0) 0 0)) H := hw
  refine lv_aload_n hx hb d_T_update_5 rfl (lv_at hl 0 rfl) ?_
  refine lv_iload_n hx hb d_T_update_6 rfl (lv_at hl 1 rfl) ?_
  refine gV (As := [.int (a1)]) (rest := []) (st1 := [.int (f_T_isMachine (up2 s0 (0) 0 0) a1)]) ⟨hx, hb, hml, hown, hts⟩ (cc_T_isMachine l G A ad  (up2 s0 (0) 0 0) a1) cT_0 rfl tw_579 tw_576 tw_578 tw_p38 tw_4 hd_T_isMachine rfl rfl ⟨Nat.le_of_ble_eq_true rfl, Nat.le_of_ble_eq_true rfl⟩ hK hw hS hl.1 rfl (Nat.le_of_ble_eq_true rfl) ⟨Nat.zero_le _, Nat.zero_le _⟩ d_T_update_7 rfl (fun H locs hw hS => ?_)
  refine lv_if_eq (tgt := 22) hx hb d_T_update_10 (by decide) (fun h1 => ?_) (fun h1 => ?_)
  · skip
    refine lv_iconst (v := -1) hx hb d_T_update_22 (by decide) ?_
    have e9 : f_T_update s0 a1 = (-1, up2 s0 (0) 0 0) := by unfold f_T_update; exact if_pos h1
    exact mw_iret hx hb hr rfl hw hS (congrArg (fun z => some (Value.int z.1)) e9.symm) ⟨rfl, congrArg (fun z => encT G.2 ad z.2) e9.symm⟩ hlocks d_T_update_23
  · skip
    refine lv_aload_n hx hb d_T_update_13 rfl (lv_at hl 0 rfl) ?_
    refine lv_iload_n hx hb d_T_update_14 rfl (lv_at hl 1 rfl) ?_
    refine gV (As := [.int (a1)]) (rest := []) (st1 := [.int (f_T_offer (up2 s0 (0) 0 0) a1)]) ⟨hx, hb, hml, hown, hts⟩ (cc_T_offer l G A ad  (up2 s0 (0) 0 0) a1 (Wt_c hW) (isMac_in (Wt_c hW) h1)) cT_0 rfl tw_598 tw_595 tw_597 tw_p39 tw_4 hd_T_offer rfl rfl ⟨Nat.le_of_ble_eq_true rfl, Nat.le_of_ble_eq_true rfl⟩ hK hw hS hl.1 rfl (Nat.le_of_ble_eq_true rfl) ⟨Nat.zero_le _, Nat.zero_le _⟩ d_T_update_15 rfl (fun H locs hw hS => ?_)
    refine lv_iconst (v := -1) hx hb d_T_update_18 (by decide) ?_
    refine lv_icmp_ne (tgt := 24) hx hb d_T_update_19 (by decide) (fun h2 => ?_) (fun h2 => ?_)
    · skip
      refine lv_aload_n hx hb d_T_update_24 rfl (lv_at hl 0 rfl) ?_
      refine mw_get (v := .ref (ad (22))) hx hb hts in_T hown hK.1 hw (0) cT_0 rfl 22 (by decide) (hts _ tw_431) rfl d_T_update_25 ?_
      refine lv_iload_n hx hb d_T_update_28 rfl (lv_at hl 1 rfl) ?_
      refine lv_aload_n hx hb d_T_update_29 rfl (lv_at hl 0 rfl) ?_
      refine lv_iload_n hx hb d_T_update_30 rfl (lv_at hl 1 rfl) ?_
      refine gV (As := [.int (a1)]) (rest := [.int (a1), .ref (ad (22))]) (st1 := [.int (f_T_offer (up2 s0 (0) 0 0) a1), .int (a1), .ref (ad (22))]) ⟨hx, hb, hml, hown, hts⟩ (cc_T_offer l G A ad  (up2 s0 (0) 0 0) a1 (Wt_c hW) (isMac_in (Wt_c hW) h1)) cT_0 rfl tw_598 tw_595 tw_597 tw_p39 tw_4 hd_T_offer rfl rfl ⟨Nat.le_of_ble_eq_true rfl, Nat.le_of_ble_eq_true rfl⟩ hK hw hS hl.1 rfl (Nat.le_of_ble_eq_true rfl) ⟨Nat.zero_le _, Nat.zero_le _⟩ d_T_update_31 rfl (fun H locs hw hS => ?_)
      refine mw_iast hx hb hK.1 hw hS (22) 0 cT_22 rfl (isMac_in (Wt_c hW) h1) d_T_update_34 (fun H locs hw hS => ?_)
      replace hw := mw_encT (r := upd ((up2 s0 (0) 0 0) (22)) (Int32.toNatClampNeg a1) (f_T_offer (up2 s0 (0) 0 0) a1)) hw cT_22
      have hw : mwG G A ad (encT G.2 ad (up2 (up2 s0 (0) 0 0) (22) (Int32.toNatClampNeg a1) (f_T_offer (up2 s0 (0) 0 0) a1))) H := hw
      refine lv_aload_n hx hb d_T_update_35 rfl (lv_at hl 0 rfl) ?_
      refine mw_get (v := .ref (ad (22))) hx hb hts in_T hown hK.1 hw (0) cT_0 rfl 22 (by decide) (hts _ tw_431) rfl d_T_update_36 ?_
      refine lv_iload_n hx hb d_T_update_39 rfl (lv_at hl 1 rfl) ?_
      refine mw_iald hx hb hK.1 hw (22) 0 cT_22 rfl (isMac_in (Wt_c hW) h1) d_T_update_40 ?_
      have e9 : f_T_update s0 a1 = ((up2 (up2 s0 (0) 0 0) (22) (Int32.toNatClampNeg a1) (f_T_offer (up2 s0 (0) 0 0) a1)) (22) (Int32.toNatClampNeg a1), up2 (up2 s0 (0) 0 0) (22) (Int32.toNatClampNeg a1) (f_T_offer (up2 s0 (0) 0 0) a1)) := by unfold f_T_update; exact (if_neg h1).trans (if_neg h2)
      exact mw_iret hx hb hr rfl hw hS (congrArg (fun z => some (Value.int z.1)) e9.symm) ⟨rfl, congrArg (fun z => encT G.2 ad z.2) e9.symm⟩ hlocks d_T_update_41
    · skip
      refine lv_iconst (v := -1) hx hb d_T_update_22 (by decide) ?_
      have e9 : f_T_update s0 a1 = (-1, up2 s0 (0) 0 0) := by unfold f_T_update; exact (if_neg h1).trans (if_pos h2)
      exact mw_iret hx hb hr rfl hw hS (congrArg (fun z => some (Value.int z.1)) e9.symm) ⟨rfl, congrArg (fun z => encT G.2 ad z.2) e9.symm⟩ hlocks d_T_update_23

def h_T_delta_42 (s1 : S2) (a1 : Int32) (a2 : Int32) (a3 : Int32) : Nat → Int32 → Int32
  | 0, x4 => x4
  | n + 1, x4 =>
    if (s1 0 4) ≤ x4 then
      x4
    else
      if (s1 (24) (Int32.toNatClampNeg x4)) = a1 then
        if (s1 (25) (Int32.toNatClampNeg x4)) = a2 then
          x4
        else
          h_T_delta_42 s1 a1 a2 a3 n (x4 + 1)
      else
        h_T_delta_42 s1 a1 a2 a3 n (x4 + 1)
def f_T_delta (s0 : S2) (a1 : Int32) (a2 : Int32) (a3 : Int32) : Int32 × S2 :=
  if (f_T_isRelease (up2 s0 (0) 0 0) a1) = 0 then
    (0, up2 s0 (0) 0 0)
  else
    if (f_T_isRelease (up2 s0 (0) 0 0) a2) = 0 then
      (0, up2 s0 (0) 0 0)
    else
      if a1 = a2 then
        (0, up2 s0 (0) 0 0)
      else
        if (f_T_isWithin a3 1 1000) = 0 then
          (0, up2 s0 (0) 0 0)
        else
          if (h_T_delta_42 (up2 s0 (0) 0 0) a1 a2 a3 41 0) = 40 then
            (0, up2 s0 (0) 0 0)
          else
            if (h_T_delta_42 (up2 s0 (0) 0 0) a1 a2 a3 41 0) = ((up2 (up2 (up2 (up2 s0 (0) 0 0) (24) (Int32.toNatClampNeg (h_T_delta_42 (up2 s0 (0) 0 0) a1 a2 a3 41 0)) a1) (25) (Int32.toNatClampNeg (h_T_delta_42 (up2 s0 (0) 0 0) a1 a2 a3 41 0)) a2) (26) (Int32.toNatClampNeg (h_T_delta_42 (up2 s0 (0) 0 0) a1 a2 a3 41 0)) a3) 0 4) then
              (1, up2 (up2 (up2 (up2 (up2 s0 (0) 0 0) (24) (Int32.toNatClampNeg (h_T_delta_42 (up2 s0 (0) 0 0) a1 a2 a3 41 0)) a1) (25) (Int32.toNatClampNeg (h_T_delta_42 (up2 s0 (0) 0 0) a1 a2 a3 41 0)) a2) (26) (Int32.toNatClampNeg (h_T_delta_42 (up2 s0 (0) 0 0) a1 a2 a3 41 0)) a3) (0) 4 (((up2 (up2 (up2 (up2 s0 (0) 0 0) (24) (Int32.toNatClampNeg (h_T_delta_42 (up2 s0 (0) 0 0) a1 a2 a3 41 0)) a1) (25) (Int32.toNatClampNeg (h_T_delta_42 (up2 s0 (0) 0 0) a1 a2 a3 41 0)) a2) (26) (Int32.toNatClampNeg (h_T_delta_42 (up2 s0 (0) 0 0) a1 a2 a3 41 0)) a3) 0 4) + 1))
            else
              (1, up2 (up2 (up2 (up2 (up2 s0 (0) 0 0) (24) (Int32.toNatClampNeg (h_T_delta_42 (up2 s0 (0) 0 0) a1 a2 a3 41 0)) a1) (25) (Int32.toNatClampNeg (h_T_delta_42 (up2 s0 (0) 0 0) a1 a2 a3 41 0)) a2) (26) (Int32.toNatClampNeg (h_T_delta_42 (up2 s0 (0) 0 0) a1 a2 a3 41 0)) a3) (0) 4 (((up2 (up2 (up2 (up2 s0 (0) 0 0) (24) (Int32.toNatClampNeg (h_T_delta_42 (up2 s0 (0) 0 0) a1 a2 a3 41 0)) a1) (25) (Int32.toNatClampNeg (h_T_delta_42 (up2 s0 (0) 0 0) a1 a2 a3 41 0)) a2) (26) (Int32.toNatClampNeg (h_T_delta_42 (up2 s0 (0) 0 0) a1 a2 a3 41 0)) a3) 0 4) + 0))
theorem fb_T_delta (s0 : S2) (a1 : Int32) (a2 : Int32) (a3 : Int32) : narrow .boolean (.int ((f_T_delta s0 a1 a2 a3).1)) = .int ((f_T_delta s0 a1 a2 a3).1) := by
  unfold f_T_delta
  repeat' split
  all_goals first | rfl | exact narrow_b0 | exact narrow_b1
theorem dl_S {s : S2} {x : Int32} {n : Nat} (hI : Wt s ∧ 0 ≤ x.toInt ∧ x.toInt ≤ (s 0 4).toInt ∧ 41 ≤ x.toInt + ((n + 1 : Nat) : Int)) (h : ¬ s 0 4 ≤ x) : 0 ≤ (x + 1).toInt ∧ (x + 1).toInt ≤ (s 0 4).toInt ∧ 41 ≤ (x + 1).toInt + (n : Int) := by
  have h2 := hI.1.2.2.1
  rw [i_le] at h
  rw [i_up (by omega) (by omega)]
  omega
theorem dl_rng (s1 : S2) (a1 a2 a3 : Int32) : ∀ (n : Nat) (x4 : Int32), (Wt s1 ∧ 0 ≤ x4.toInt ∧ x4.toInt ≤ (s1 0 4).toInt ∧ 41 ≤ x4.toInt + (n : Int)) → 0 ≤ (h_T_delta_42 s1 a1 a2 a3 n x4).toInt ∧ (h_T_delta_42 s1 a1 a2 a3 n x4).toInt ≤ (s1 0 4).toInt := by
  intro n
  induction n with
  | zero => intro x4 h; exact ⟨h.2.1, h.2.2.1⟩
  | succ n ih =>
    intro x4 h
    rw [h_T_delta_42]
    by_cases h1 : s1 0 4 ≤ x4
    · rw [if_pos h1]; exact ⟨h.2.1, h.2.2.1⟩
    · rw [if_neg h1]
      repeat' split
      all_goals first | exact ⟨h.2.1, h.2.2.1⟩ | exact ih _ ⟨h.1, dl_S h h1⟩
theorem dl_in {s : S2} {x : Int32} (h : 0 ≤ x.toInt ∧ x.toInt ≤ (s 0 4).toInt) (hW : Wt s) (h40 : ¬ x = 40) : vp_in x 40 := by
  have h2 := hW.2.2.1
  have h3 := i_ne h40
  rw [show (40 : Int32).toInt = 40 from rfl] at h3
  rw [vp_in_iff]
  omega

set_option maxHeartbeats 4000000 in
set_option maxRecDepth 100000 in
theorem cc_T_delta (l : Launch) (G : Gx) (A : Nat → Prop) (ad : Nat → Nat) (s0 : S2) (a1 : Int32) (a2 : Int32) (a3 : Int32) (hW : Wt s0) : Met l y_T_delta ws_T_delta { frames := 1, cells := 0, slots := 0, locals := 22 } (PG G [.ref (ad (0)), .int (a1), .int (a2), .int (a3)] A ad (encT G.2 ad s0)) (EG G A (some (.int (f_T_delta s0 a1 a2 a3).1)) ad (encT G.2 ad ((f_T_delta s0 a1 a2 a3).2))) 0 0 A := by
  refine Met.ofW (cc := c_T_delta) (maxL := 5) (ret := (some .boolean)) (by decide) rfl ?_
  intro p e s m args below meth c s₁ B hml hv
  obtain ⟨rfl, hw, hK⟩ := hv
  have hx := B.exec
  have hb := B.bytes
  have hr := B.returns
  have hts : ∀ w ∈ tbG, w.before [.ref (ad (0)), .int (a1), .int (a2), .int (a3)].toArray s = true := fun w h => atoms_spec (ws := ws_T_delta) B.pre w (List.mem_cons_of_mem _ h)
  have hown : s.vm.findClass "RollStagesModel" = some m.cls := findClass_of_methodNamed B.named
  have hlocks := B.notSynchronized
  have hS : va_S A s.heap s.heap [] := va_S.rf
  have hw : mwG G A ad (encT G.2 ad s0) s.heap := hw
  have loop_42 : ∀ (Q : State → Prop) (s1 : S2) (n : Nat) (x4 : Int32), Wt s1 ∧ 0 ≤ x4.toInt ∧ x4.toInt ≤ (s1 0 4).toInt ∧ 41 ≤ x4.toInt + n → ∀ (H : Heap) (locs : List Loc) (ls : Array Slot), mwG G A ad (encT G.2 ad s1) H → va_S A s.heap H locs → lv_has ls 5 [(0, .ref (ad (0))), (1, .int (a1)), (2, .int (a2)), (3, .int (a3)), (4, .int (x4))] → (∀ (H : Heap) (locs : List Loc) (ls : Array Slot), mwG G A ad (encT G.2 ad s1) H → va_S A s.heap H locs → lv_has ls 5 [(0, .ref (ad (0))), (1, .int (a1)), (2, .int (a2)), (3, .int (a3)), (4, .int (h_T_delta_42 s1 a1 a2 a3 n x4))] → W p l e (headSpec ws_T_delta { frames := 1, cells := 0, slots := 0, locals := 22 }).room s m [.ref (ad (0)), .int (a1), .int (a2), .int (a3)].toArray below meth c H locs 0 0 Q (F0 m 79 ls [])) → W p l e (headSpec ws_T_delta { frames := 1, cells := 0, slots := 0, locals := 22 }).room s m [.ref (ad (0)), .int (a1), .int (a2), .int (a3)].toArray below meth c H locs 0 0 Q (F0 m 42 ls []) := by
    intro Q s1 n
    induction n with
    | zero =>
      intro x4 hI
      exact absurd hI.2 (by have := hI.1.2.2.1.2; omega)
    | succ n ih =>
      intro x4 hI H locs ls hw hS hl hQ
      refine lv_iload hx hb d_T_delta_42 (lv_at hl 4 rfl) ?_
      refine lv_aload_n hx hb d_T_delta_44 rfl (lv_at hl 0 rfl) ?_
      refine mw_get (v := .int (s1 0 4)) hx hb hts in_T hown hK.1 hw (0) cT_0 rfl 4 (by decide) (hts _ tw_413) rfl d_T_delta_45 ?_
      refine lv_icmp_ge (tgt := 79) hx hb d_T_delta_48 (by decide) (fun h421 => ?_) (fun h421 => ?_)
      · skip
        have e9 : h_T_delta_42 s1 a1 a2 a3 (n + 1) x4 = x4 := by rw [h_T_delta_42]; exact if_pos h421
        exact hQ _ _ _ hw hS (by rw [e9]; exact lv_sub hl [0, 1, 2, 3, 4] rfl)
      · skip
        refine lv_aload_n hx hb d_T_delta_51 rfl (lv_at hl 0 rfl) ?_
        refine mw_get (v := .ref (ad (24))) hx hb hts in_T hown hK.1 hw (0) cT_0 rfl 24 (by decide) (hts _ tw_433) rfl d_T_delta_52 ?_
        refine lv_iload hx hb d_T_delta_55 (lv_at hl 4 rfl) ?_
        refine mw_iald hx hb hK.1 hw (24) 0 cT_24 rfl (ct_in hI.1.2.2.1 hI.2.1 h421) d_T_delta_57 ?_
        refine lv_iload_n hx hb d_T_delta_58 rfl (lv_at hl 1 rfl) ?_
        refine lv_icmp_ne (tgt := 73) hx hb d_T_delta_59 (by decide) (fun h422 => ?_) (fun h422 => ?_)
        · skip
          refine lv_iinc (v := x4 + 1) (lv' := [(4, .int (x4 + 1)), (0, .ref (ad (0))), (1, .int (a1)), (2, .int (a2)), (3, .int (a3))]) hx hb d_T_delta_73 hl (k := 4) rfl (by first | rfl | decide) (by decide) rfl (fun ls hl => ?_)
          refine lv_goto (tgt := 42) hx hb d_T_delta_76 (by decide) ?_
          have e9 : h_T_delta_42 s1 a1 a2 a3 (n + 1) x4 = h_T_delta_42 s1 a1 a2 a3 n (x4 + 1) := by rw [h_T_delta_42]; exact (if_neg h421).trans (if_neg h422)
          refine ih (x4 + 1) ⟨hI.1, dl_S hI h421⟩ _ _ _ hw hS (lv_sub hl [1, 2, 3, 4, 0] rfl) (fun H locs ls hw hS hl => hQ H locs ls hw hS (by rw [e9]; exact hl))
        · skip
          refine lv_aload_n hx hb d_T_delta_62 rfl (lv_at hl 0 rfl) ?_
          refine mw_get (v := .ref (ad (25))) hx hb hts in_T hown hK.1 hw (0) cT_0 rfl 25 (by decide) (hts _ tw_434) rfl d_T_delta_63 ?_
          refine lv_iload hx hb d_T_delta_66 (lv_at hl 4 rfl) ?_
          refine mw_iald hx hb hK.1 hw (25) 0 cT_25 rfl (ct_in hI.1.2.2.1 hI.2.1 h421) d_T_delta_68 ?_
          refine lv_iload_n hx hb d_T_delta_69 rfl (lv_at hl 2 rfl) ?_
          refine lv_icmp_eq (tgt := 79) hx hb d_T_delta_70 (by decide) (fun h423 => ?_) (fun h423 => ?_)
          · skip
            have e9 : h_T_delta_42 s1 a1 a2 a3 (n + 1) x4 = x4 := by rw [h_T_delta_42]; exact (if_neg h421).trans ((if_pos h422).trans (if_pos h423))
            exact hQ _ _ _ hw hS (by rw [e9]; exact lv_sub hl [0, 1, 2, 3, 4] rfl)
          · skip
            refine lv_iinc (v := x4 + 1) (lv' := [(4, .int (x4 + 1)), (0, .ref (ad (0))), (1, .int (a1)), (2, .int (a2)), (3, .int (a3))]) hx hb d_T_delta_73 hl (k := 4) rfl (by first | rfl | decide) (by decide) rfl (fun ls hl => ?_)
            refine lv_goto (tgt := 42) hx hb d_T_delta_76 (by decide) ?_
            have e9 : h_T_delta_42 s1 a1 a2 a3 (n + 1) x4 = h_T_delta_42 s1 a1 a2 a3 n (x4 + 1) := by rw [h_T_delta_42]; exact (if_neg h421).trans ((if_pos h422).trans (if_neg h423))
            refine ih (x4 + 1) ⟨hI.1, dl_S hI h421⟩ _ _ _ hw hS (lv_sub hl [1, 2, 3, 4, 0] rfl) (fun H locs ls hw hS hl => hQ H locs ls hw hS (by rw [e9]; exact hl))
  have hl := lv_entry ([.ref (ad (0)), .int (a1), .int (a2), .int (a3)]) (n := 5) (Nat.le_of_ble_eq_true rfl)
  rw [lg_entry_eq]
  generalize (lg_sl ([.ref (ad (0)), .int (a1), .int (a2), .int (a3)]) ++ List.replicate (5 - (lg_sl ([.ref (ad (0)), .int (a1), .int (a2), .int (a3)])).length) Slot.unset).toArray = ls at hl ⊢
  have hl : lv_has ls 5 [(0, .ref (ad (0))), (1, .int (a1)), (2, .int (a2)), (3, .int (a3))] := hl
  refine lv_aload_n hx hb d_T_delta_0 rfl (lv_at hl 0 rfl) ?_
  refine lv_iconst (v := 0) hx hb d_T_delta_1 (by decide) ?_
  refine mw_put (v := .int (0)) hx hb hts in_T ty_T ty_T_ok n_T hown hK.1 hw hS (0) cT_0 rfl 0 (by decide) (hts _ tw_409) rfl rfl rfl (Nat.le_of_ble_eq_true rfl) d_T_delta_2 (fun H locs hw hS => ?_)
  replace hw := mw_encT (r := upd (s0 (0)) 0 0) hw cT_0
  have hw : mwG G A ad (encT G.2 ad (up2 s0 (0) 0 0)) H := hw
  refine lv_aload_n hx hb d_T_delta_5 rfl (lv_at hl 0 rfl) ?_
  refine lv_iload_n hx hb d_T_delta_6 rfl (lv_at hl 1 rfl) ?_
  refine gV (As := [.int (a1)]) (rest := []) (st1 := [.int (f_T_isRelease (up2 s0 (0) 0 0) a1)]) ⟨hx, hb, hml, hown, hts⟩ (cc_T_isRelease l G A ad  (up2 s0 (0) 0 0) a1) cT_0 rfl tw_519 tw_516 tw_518 tw_p33 tw_4 hd_T_isRelease rfl rfl ⟨Nat.le_of_ble_eq_true rfl, Nat.le_of_ble_eq_true rfl⟩ hK hw hS hl.1 rfl (Nat.le_of_ble_eq_true rfl) ⟨Nat.zero_le _, Nat.zero_le _⟩ d_T_delta_7 rfl (fun H locs hw hS => ?_)
  refine lv_if_eq (tgt := 37) hx hb d_T_delta_10 (by decide) (fun h1 => ?_) (fun h1 => ?_)
  · skip
    refine lv_iconst (v := 0) hx hb d_T_delta_37 (by decide) ?_
    have e9 : f_T_delta s0 a1 a2 a3 = (0, up2 s0 (0) 0 0) := by unfold f_T_delta; exact if_pos h1
    exact mw_iret hx hb hr rfl hw hS (congrArg (fun z => some (Value.int z.1)) e9.symm) ⟨rfl, congrArg (fun z => encT G.2 ad z.2) e9.symm⟩ hlocks d_T_delta_38
  · skip
    refine lv_aload_n hx hb d_T_delta_13 rfl (lv_at hl 0 rfl) ?_
    refine lv_iload_n hx hb d_T_delta_14 rfl (lv_at hl 2 rfl) ?_
    refine gV (As := [.int (a2)]) (rest := []) (st1 := [.int (f_T_isRelease (up2 s0 (0) 0 0) a2)]) ⟨hx, hb, hml, hown, hts⟩ (cc_T_isRelease l G A ad  (up2 s0 (0) 0 0) a2) cT_0 rfl tw_519 tw_516 tw_518 tw_p33 tw_4 hd_T_isRelease rfl rfl ⟨Nat.le_of_ble_eq_true rfl, Nat.le_of_ble_eq_true rfl⟩ hK hw hS hl.1 rfl (Nat.le_of_ble_eq_true rfl) ⟨Nat.zero_le _, Nat.zero_le _⟩ d_T_delta_15 rfl (fun H locs hw hS => ?_)
    refine lv_if_eq (tgt := 37) hx hb d_T_delta_18 (by decide) (fun h2 => ?_) (fun h2 => ?_)
    · skip
      refine lv_iconst (v := 0) hx hb d_T_delta_37 (by decide) ?_
      have e9 : f_T_delta s0 a1 a2 a3 = (0, up2 s0 (0) 0 0) := by unfold f_T_delta; exact (if_neg h1).trans (if_pos h2)
      exact mw_iret hx hb hr rfl hw hS (congrArg (fun z => some (Value.int z.1)) e9.symm) ⟨rfl, congrArg (fun z => encT G.2 ad z.2) e9.symm⟩ hlocks d_T_delta_38
    · skip
      refine lv_iload_n hx hb d_T_delta_21 rfl (lv_at hl 1 rfl) ?_
      refine lv_iload_n hx hb d_T_delta_22 rfl (lv_at hl 2 rfl) ?_
      refine lv_icmp_eq (tgt := 37) hx hb d_T_delta_23 (by decide) (fun h3 => ?_) (fun h3 => ?_)
      · skip
        refine lv_iconst (v := 0) hx hb d_T_delta_37 (by decide) ?_
        have e9 : f_T_delta s0 a1 a2 a3 = (0, up2 s0 (0) 0 0) := by unfold f_T_delta; exact (if_neg h1).trans ((if_neg h2).trans (if_pos h3))
        exact mw_iret hx hb hr rfl hw hS (congrArg (fun z => some (Value.int z.1)) e9.symm) ⟨rfl, congrArg (fun z => encT G.2 ad z.2) e9.symm⟩ hlocks d_T_delta_38
      · skip
        refine lv_iload_n hx hb d_T_delta_26 rfl (lv_at hl 3 rfl) ?_
        refine lv_iconst (v := 1) hx hb d_T_delta_27 (by decide) ?_
        refine lv_sipush (v := 1000) hx hb d_T_delta_28 (by decide) ?_
        refine gS (As := [.int (a3), .int (1), .int (1000)]) (rest := []) (st1 := [.int (f_T_isWithin a3 1 1000)]) ⟨hx, hb, hml, hown, hts⟩ (cc_T_isWithin l G A ad  (up2 s0 (0) 0 0) a3 1 1000) tw_510 tw_508 tw_509 tw_4 hd_T_isWithin rfl rfl ⟨Nat.le_of_ble_eq_true rfl, Nat.le_of_ble_eq_true rfl⟩ hK hw hS hl.1 rfl (Nat.le_of_ble_eq_true rfl) ⟨Nat.zero_le _, Nat.zero_le _⟩ d_T_delta_31 rfl (fun H locs hw hS => ?_)
        refine lv_if_ne (tgt := 39) hx hb d_T_delta_34 (by decide) (fun h4 => ?_) (fun h4 => ?_)
        · skip
          refine lv_iconst (v := 0) hx hb d_T_delta_39 (by decide) ?_
          refine lv_istore (lv' := [(4, .int (0)), (0, .ref (ad (0))), (1, .int (a1)), (2, .int (a2)), (3, .int (a3))]) hx hb d_T_delta_40 hl (by decide) rfl (fun ls hl => ?_)
          refine loop_42 _ (up2 s0 (0) 0 0) 41 0 ⟨Wt_c hW, by decide, (Wt_c hW).2.2.1.1, by decide⟩ _ _ _ hw hS (lv_sub hl [1, 2, 3, 4, 0] rfl) (fun H locs ls hw hS hl => ?_)
          refine lv_iload hx hb d_T_delta_79 (lv_at hl 4 rfl) ?_
          refine lv_bipush (v := 40) hx hb d_T_delta_81 (by decide) ?_
          refine lv_icmp_ne (tgt := 88) hx hb d_T_delta_83 (by decide) (fun h5 => ?_) (fun h5 => ?_)
          · skip
            refine lv_aload_n hx hb d_T_delta_88 rfl (lv_at hl 0 rfl) ?_
            refine mw_get (v := .ref (ad (24))) hx hb hts in_T hown hK.1 hw (0) cT_0 rfl 24 (by decide) (hts _ tw_433) rfl d_T_delta_89 ?_
            refine lv_iload hx hb d_T_delta_92 (lv_at hl 4 rfl) ?_
            refine lv_iload_n hx hb d_T_delta_94 rfl (lv_at hl 1 rfl) ?_
            refine mw_iast hx hb hK.1 hw hS (24) 0 cT_24 rfl (dl_in (dl_rng (up2 s0 (0) 0 0) a1 a2 a3 41 0 ⟨Wt_c hW, by decide, (Wt_c hW).2.2.1.1, by decide⟩) (Wt_c hW) h5) d_T_delta_95 (fun H locs hw hS => ?_)
            replace hw := mw_encT (r := upd ((up2 s0 (0) 0 0) (24)) (Int32.toNatClampNeg (h_T_delta_42 (up2 s0 (0) 0 0) a1 a2 a3 41 0)) a1) hw cT_24
            have hw : mwG G A ad (encT G.2 ad (up2 (up2 s0 (0) 0 0) (24) (Int32.toNatClampNeg (h_T_delta_42 (up2 s0 (0) 0 0) a1 a2 a3 41 0)) a1)) H := hw
            refine lv_aload_n hx hb d_T_delta_96 rfl (lv_at hl 0 rfl) ?_
            refine mw_get (v := .ref (ad (25))) hx hb hts in_T hown hK.1 hw (0) cT_0 rfl 25 (by decide) (hts _ tw_434) rfl d_T_delta_97 ?_
            refine lv_iload hx hb d_T_delta_100 (lv_at hl 4 rfl) ?_
            refine lv_iload_n hx hb d_T_delta_102 rfl (lv_at hl 2 rfl) ?_
            refine mw_iast hx hb hK.1 hw hS (25) 0 cT_25 rfl (dl_in (dl_rng (up2 s0 (0) 0 0) a1 a2 a3 41 0 ⟨Wt_c hW, by decide, (Wt_c hW).2.2.1.1, by decide⟩) (Wt_c hW) h5) d_T_delta_103 (fun H locs hw hS => ?_)
            replace hw := mw_encT (r := upd ((up2 (up2 s0 (0) 0 0) (24) (Int32.toNatClampNeg (h_T_delta_42 (up2 s0 (0) 0 0) a1 a2 a3 41 0)) a1) (25)) (Int32.toNatClampNeg (h_T_delta_42 (up2 s0 (0) 0 0) a1 a2 a3 41 0)) a2) hw cT_25
            have hw : mwG G A ad (encT G.2 ad (up2 (up2 (up2 s0 (0) 0 0) (24) (Int32.toNatClampNeg (h_T_delta_42 (up2 s0 (0) 0 0) a1 a2 a3 41 0)) a1) (25) (Int32.toNatClampNeg (h_T_delta_42 (up2 s0 (0) 0 0) a1 a2 a3 41 0)) a2)) H := hw
            refine lv_aload_n hx hb d_T_delta_104 rfl (lv_at hl 0 rfl) ?_
            refine mw_get (v := .ref (ad (26))) hx hb hts in_T hown hK.1 hw (0) cT_0 rfl 26 (by decide) (hts _ tw_435) rfl d_T_delta_105 ?_
            refine lv_iload hx hb d_T_delta_108 (lv_at hl 4 rfl) ?_
            refine lv_iload_n hx hb d_T_delta_110 rfl (lv_at hl 3 rfl) ?_
            refine mw_iast hx hb hK.1 hw hS (26) 0 cT_26 rfl (dl_in (dl_rng (up2 s0 (0) 0 0) a1 a2 a3 41 0 ⟨Wt_c hW, by decide, (Wt_c hW).2.2.1.1, by decide⟩) (Wt_c hW) h5) d_T_delta_111 (fun H locs hw hS => ?_)
            replace hw := mw_encT (r := upd ((up2 (up2 (up2 s0 (0) 0 0) (24) (Int32.toNatClampNeg (h_T_delta_42 (up2 s0 (0) 0 0) a1 a2 a3 41 0)) a1) (25) (Int32.toNatClampNeg (h_T_delta_42 (up2 s0 (0) 0 0) a1 a2 a3 41 0)) a2) (26)) (Int32.toNatClampNeg (h_T_delta_42 (up2 s0 (0) 0 0) a1 a2 a3 41 0)) a3) hw cT_26
            have hw : mwG G A ad (encT G.2 ad (up2 (up2 (up2 (up2 s0 (0) 0 0) (24) (Int32.toNatClampNeg (h_T_delta_42 (up2 s0 (0) 0 0) a1 a2 a3 41 0)) a1) (25) (Int32.toNatClampNeg (h_T_delta_42 (up2 s0 (0) 0 0) a1 a2 a3 41 0)) a2) (26) (Int32.toNatClampNeg (h_T_delta_42 (up2 s0 (0) 0 0) a1 a2 a3 41 0)) a3)) H := hw
            refine lv_aload_n hx hb d_T_delta_112 rfl (lv_at hl 0 rfl) ?_
            refine lv_dup hx hb d_T_delta_113 rfl ?_
            refine mw_get (v := .int ((up2 (up2 (up2 (up2 s0 (0) 0 0) (24) (Int32.toNatClampNeg (h_T_delta_42 (up2 s0 (0) 0 0) a1 a2 a3 41 0)) a1) (25) (Int32.toNatClampNeg (h_T_delta_42 (up2 s0 (0) 0 0) a1 a2 a3 41 0)) a2) (26) (Int32.toNatClampNeg (h_T_delta_42 (up2 s0 (0) 0 0) a1 a2 a3 41 0)) a3) 0 4)) hx hb hts in_T hown hK.1 hw (0) cT_0 rfl 4 (by decide) (hts _ tw_413) rfl d_T_delta_114 ?_
            refine lv_iload hx hb d_T_delta_117 (lv_at hl 4 rfl) ?_
            refine lv_aload_n hx hb d_T_delta_119 rfl (lv_at hl 0 rfl) ?_
            refine mw_get (v := .int ((up2 (up2 (up2 (up2 s0 (0) 0 0) (24) (Int32.toNatClampNeg (h_T_delta_42 (up2 s0 (0) 0 0) a1 a2 a3 41 0)) a1) (25) (Int32.toNatClampNeg (h_T_delta_42 (up2 s0 (0) 0 0) a1 a2 a3 41 0)) a2) (26) (Int32.toNatClampNeg (h_T_delta_42 (up2 s0 (0) 0 0) a1 a2 a3 41 0)) a3) 0 4)) hx hb hts in_T hown hK.1 hw (0) cT_0 rfl 4 (by decide) (hts _ tw_413) rfl d_T_delta_120 ?_
            refine lv_icmp_ne (tgt := 130) hx hb d_T_delta_123 (by decide) (fun h6 => ?_) (fun h6 => ?_)
            · skip
              refine lv_iconst (v := 0) hx hb d_T_delta_130 (by decide) ?_
              refine lv_iadd hx hb d_T_delta_131 ?_
              refine mw_put (v := .int (((up2 (up2 (up2 (up2 s0 (0) 0 0) (24) (Int32.toNatClampNeg (h_T_delta_42 (up2 s0 (0) 0 0) a1 a2 a3 41 0)) a1) (25) (Int32.toNatClampNeg (h_T_delta_42 (up2 s0 (0) 0 0) a1 a2 a3 41 0)) a2) (26) (Int32.toNatClampNeg (h_T_delta_42 (up2 s0 (0) 0 0) a1 a2 a3 41 0)) a3) 0 4) + 0)) hx hb hts in_T ty_T ty_T_ok n_T hown hK.1 hw hS (0) cT_0 rfl 4 (by decide) (hts _ tw_413) rfl rfl rfl (Nat.le_of_ble_eq_true rfl) d_T_delta_132 (fun H locs hw hS => ?_)
              replace hw := mw_encT (r := upd ((up2 (up2 (up2 (up2 s0 (0) 0 0) (24) (Int32.toNatClampNeg (h_T_delta_42 (up2 s0 (0) 0 0) a1 a2 a3 41 0)) a1) (25) (Int32.toNatClampNeg (h_T_delta_42 (up2 s0 (0) 0 0) a1 a2 a3 41 0)) a2) (26) (Int32.toNatClampNeg (h_T_delta_42 (up2 s0 (0) 0 0) a1 a2 a3 41 0)) a3) (0)) 4 (((up2 (up2 (up2 (up2 s0 (0) 0 0) (24) (Int32.toNatClampNeg (h_T_delta_42 (up2 s0 (0) 0 0) a1 a2 a3 41 0)) a1) (25) (Int32.toNatClampNeg (h_T_delta_42 (up2 s0 (0) 0 0) a1 a2 a3 41 0)) a2) (26) (Int32.toNatClampNeg (h_T_delta_42 (up2 s0 (0) 0 0) a1 a2 a3 41 0)) a3) 0 4) + 0)) hw cT_0
              have hw : mwG G A ad (encT G.2 ad (up2 (up2 (up2 (up2 (up2 s0 (0) 0 0) (24) (Int32.toNatClampNeg (h_T_delta_42 (up2 s0 (0) 0 0) a1 a2 a3 41 0)) a1) (25) (Int32.toNatClampNeg (h_T_delta_42 (up2 s0 (0) 0 0) a1 a2 a3 41 0)) a2) (26) (Int32.toNatClampNeg (h_T_delta_42 (up2 s0 (0) 0 0) a1 a2 a3 41 0)) a3) (0) 4 (((up2 (up2 (up2 (up2 s0 (0) 0 0) (24) (Int32.toNatClampNeg (h_T_delta_42 (up2 s0 (0) 0 0) a1 a2 a3 41 0)) a1) (25) (Int32.toNatClampNeg (h_T_delta_42 (up2 s0 (0) 0 0) a1 a2 a3 41 0)) a2) (26) (Int32.toNatClampNeg (h_T_delta_42 (up2 s0 (0) 0 0) a1 a2 a3 41 0)) a3) 0 4) + 0))) H := hw
              refine lv_iconst (v := 1) hx hb d_T_delta_135 (by decide) ?_
              have e9 : f_T_delta s0 a1 a2 a3 = (1, up2 (up2 (up2 (up2 (up2 s0 (0) 0 0) (24) (Int32.toNatClampNeg (h_T_delta_42 (up2 s0 (0) 0 0) a1 a2 a3 41 0)) a1) (25) (Int32.toNatClampNeg (h_T_delta_42 (up2 s0 (0) 0 0) a1 a2 a3 41 0)) a2) (26) (Int32.toNatClampNeg (h_T_delta_42 (up2 s0 (0) 0 0) a1 a2 a3 41 0)) a3) (0) 4 (((up2 (up2 (up2 (up2 s0 (0) 0 0) (24) (Int32.toNatClampNeg (h_T_delta_42 (up2 s0 (0) 0 0) a1 a2 a3 41 0)) a1) (25) (Int32.toNatClampNeg (h_T_delta_42 (up2 s0 (0) 0 0) a1 a2 a3 41 0)) a2) (26) (Int32.toNatClampNeg (h_T_delta_42 (up2 s0 (0) 0 0) a1 a2 a3 41 0)) a3) 0 4) + 0)) := by unfold f_T_delta; exact (if_neg h1).trans ((if_neg h2).trans ((if_neg h3).trans ((if_neg h4).trans ((if_neg h5).trans (if_neg h6)))))
              exact mw_iret hx hb hr rfl hw hS (congrArg (fun z => some (Value.int z.1)) e9.symm) ⟨rfl, congrArg (fun z => encT G.2 ad z.2) e9.symm⟩ hlocks d_T_delta_136
            · skip
              refine lv_iconst (v := 1) hx hb d_T_delta_126 (by decide) ?_
              refine lv_goto (tgt := 131) hx hb d_T_delta_127 (by decide) ?_
              refine lv_iadd hx hb d_T_delta_131 ?_
              refine mw_put (v := .int (((up2 (up2 (up2 (up2 s0 (0) 0 0) (24) (Int32.toNatClampNeg (h_T_delta_42 (up2 s0 (0) 0 0) a1 a2 a3 41 0)) a1) (25) (Int32.toNatClampNeg (h_T_delta_42 (up2 s0 (0) 0 0) a1 a2 a3 41 0)) a2) (26) (Int32.toNatClampNeg (h_T_delta_42 (up2 s0 (0) 0 0) a1 a2 a3 41 0)) a3) 0 4) + 1)) hx hb hts in_T ty_T ty_T_ok n_T hown hK.1 hw hS (0) cT_0 rfl 4 (by decide) (hts _ tw_413) rfl rfl rfl (Nat.le_of_ble_eq_true rfl) d_T_delta_132 (fun H locs hw hS => ?_)
              replace hw := mw_encT (r := upd ((up2 (up2 (up2 (up2 s0 (0) 0 0) (24) (Int32.toNatClampNeg (h_T_delta_42 (up2 s0 (0) 0 0) a1 a2 a3 41 0)) a1) (25) (Int32.toNatClampNeg (h_T_delta_42 (up2 s0 (0) 0 0) a1 a2 a3 41 0)) a2) (26) (Int32.toNatClampNeg (h_T_delta_42 (up2 s0 (0) 0 0) a1 a2 a3 41 0)) a3) (0)) 4 (((up2 (up2 (up2 (up2 s0 (0) 0 0) (24) (Int32.toNatClampNeg (h_T_delta_42 (up2 s0 (0) 0 0) a1 a2 a3 41 0)) a1) (25) (Int32.toNatClampNeg (h_T_delta_42 (up2 s0 (0) 0 0) a1 a2 a3 41 0)) a2) (26) (Int32.toNatClampNeg (h_T_delta_42 (up2 s0 (0) 0 0) a1 a2 a3 41 0)) a3) 0 4) + 1)) hw cT_0
              have hw : mwG G A ad (encT G.2 ad (up2 (up2 (up2 (up2 (up2 s0 (0) 0 0) (24) (Int32.toNatClampNeg (h_T_delta_42 (up2 s0 (0) 0 0) a1 a2 a3 41 0)) a1) (25) (Int32.toNatClampNeg (h_T_delta_42 (up2 s0 (0) 0 0) a1 a2 a3 41 0)) a2) (26) (Int32.toNatClampNeg (h_T_delta_42 (up2 s0 (0) 0 0) a1 a2 a3 41 0)) a3) (0) 4 (((up2 (up2 (up2 (up2 s0 (0) 0 0) (24) (Int32.toNatClampNeg (h_T_delta_42 (up2 s0 (0) 0 0) a1 a2 a3 41 0)) a1) (25) (Int32.toNatClampNeg (h_T_delta_42 (up2 s0 (0) 0 0) a1 a2 a3 41 0)) a2) (26) (Int32.toNatClampNeg (h_T_delta_42 (up2 s0 (0) 0 0) a1 a2 a3 41 0)) a3) 0 4) + 1))) H := hw
              refine lv_iconst (v := 1) hx hb d_T_delta_135 (by decide) ?_
              have e9 : f_T_delta s0 a1 a2 a3 = (1, up2 (up2 (up2 (up2 (up2 s0 (0) 0 0) (24) (Int32.toNatClampNeg (h_T_delta_42 (up2 s0 (0) 0 0) a1 a2 a3 41 0)) a1) (25) (Int32.toNatClampNeg (h_T_delta_42 (up2 s0 (0) 0 0) a1 a2 a3 41 0)) a2) (26) (Int32.toNatClampNeg (h_T_delta_42 (up2 s0 (0) 0 0) a1 a2 a3 41 0)) a3) (0) 4 (((up2 (up2 (up2 (up2 s0 (0) 0 0) (24) (Int32.toNatClampNeg (h_T_delta_42 (up2 s0 (0) 0 0) a1 a2 a3 41 0)) a1) (25) (Int32.toNatClampNeg (h_T_delta_42 (up2 s0 (0) 0 0) a1 a2 a3 41 0)) a2) (26) (Int32.toNatClampNeg (h_T_delta_42 (up2 s0 (0) 0 0) a1 a2 a3 41 0)) a3) 0 4) + 1)) := by unfold f_T_delta; exact (if_neg h1).trans ((if_neg h2).trans ((if_neg h3).trans ((if_neg h4).trans ((if_neg h5).trans (if_pos h6)))))
              exact mw_iret hx hb hr rfl hw hS (congrArg (fun z => some (Value.int z.1)) e9.symm) ⟨rfl, congrArg (fun z => encT G.2 ad z.2) e9.symm⟩ hlocks d_T_delta_136
          · skip
            refine lv_iconst (v := 0) hx hb d_T_delta_86 (by decide) ?_
            have e9 : f_T_delta s0 a1 a2 a3 = (0, up2 s0 (0) 0 0) := by unfold f_T_delta; exact (if_neg h1).trans ((if_neg h2).trans ((if_neg h3).trans ((if_neg h4).trans (if_pos h5))))
            exact mw_iret hx hb hr rfl hw hS (congrArg (fun z => some (Value.int z.1)) e9.symm) ⟨rfl, congrArg (fun z => encT G.2 ad z.2) e9.symm⟩ hlocks d_T_delta_87
        · skip
          refine lv_iconst (v := 0) hx hb d_T_delta_37 (by decide) ?_
          have e9 : f_T_delta s0 a1 a2 a3 = (0, up2 s0 (0) 0 0) := by unfold f_T_delta; exact (if_neg h1).trans ((if_neg h2).trans ((if_neg h3).trans (if_pos h4)))
          exact mw_iret hx hb hr rfl hw hS (congrArg (fun z => some (Value.int z.1)) e9.symm) ⟨rfl, congrArg (fun z => encT G.2 ad z.2) e9.symm⟩ hlocks d_T_delta_38

def f_T_release (s0 : S2) (a1 : Int32) (a2 : Int32) (a3 : Int32) : Int32 × S2 :=
  if ((up2 s0 (0) 0 0) 0 2) = 16 then
    (-1, up2 s0 (0) 0 0)
  else
    if (f_T_isWithin a1 0 2) = 0 then
      (-1, up2 s0 (0) 0 0)
    else
      if (f_T_isWithin a3 1 100000) = 0 then
        (-1, up2 s0 (0) 0 0)
      else
        (((up2 (up2 (up2 (up2 (up2 (up2 (up2 s0 (0) 0 0) (5) (Int32.toNatClampNeg ((up2 s0 (0) 0 0) 0 2)) a1) (18) (Int32.toNatClampNeg ((up2 (up2 s0 (0) 0 0) (5) (Int32.toNatClampNeg ((up2 s0 (0) 0 0) 0 2)) a1) 0 2)) a2) (6) (Int32.toNatClampNeg ((up2 (up2 (up2 s0 (0) 0 0) (5) (Int32.toNatClampNeg ((up2 s0 (0) 0 0) 0 2)) a1) (18) (Int32.toNatClampNeg ((up2 (up2 s0 (0) 0 0) (5) (Int32.toNatClampNeg ((up2 s0 (0) 0 0) 0 2)) a1) 0 2)) a2) 0 2)) a3) (10) (Int32.toNatClampNeg ((up2 (up2 (up2 (up2 s0 (0) 0 0) (5) (Int32.toNatClampNeg ((up2 s0 (0) 0 0) 0 2)) a1) (18) (Int32.toNatClampNeg ((up2 (up2 s0 (0) 0 0) (5) (Int32.toNatClampNeg ((up2 s0 (0) 0 0) 0 2)) a1) 0 2)) a2) (6) (Int32.toNatClampNeg ((up2 (up2 (up2 s0 (0) 0 0) (5) (Int32.toNatClampNeg ((up2 s0 (0) 0 0) 0 2)) a1) (18) (Int32.toNatClampNeg ((up2 (up2 s0 (0) 0 0) (5) (Int32.toNatClampNeg ((up2 s0 (0) 0 0) 0 2)) a1) 0 2)) a2) 0 2)) a3) 0 2)) 1) (11) (Int32.toNatClampNeg ((up2 (up2 (up2 (up2 (up2 s0 (0) 0 0) (5) (Int32.toNatClampNeg ((up2 s0 (0) 0 0) 0 2)) a1) (18) (Int32.toNatClampNeg ((up2 (up2 s0 (0) 0 0) (5) (Int32.toNatClampNeg ((up2 s0 (0) 0 0) 0 2)) a1) 0 2)) a2) (6) (Int32.toNatClampNeg ((up2 (up2 (up2 s0 (0) 0 0) (5) (Int32.toNatClampNeg ((up2 s0 (0) 0 0) 0 2)) a1) (18) (Int32.toNatClampNeg ((up2 (up2 s0 (0) 0 0) (5) (Int32.toNatClampNeg ((up2 s0 (0) 0 0) 0 2)) a1) 0 2)) a2) 0 2)) a3) (10) (Int32.toNatClampNeg ((up2 (up2 (up2 (up2 s0 (0) 0 0) (5) (Int32.toNatClampNeg ((up2 s0 (0) 0 0) 0 2)) a1) (18) (Int32.toNatClampNeg ((up2 (up2 s0 (0) 0 0) (5) (Int32.toNatClampNeg ((up2 s0 (0) 0 0) 0 2)) a1) 0 2)) a2) (6) (Int32.toNatClampNeg ((up2 (up2 (up2 s0 (0) 0 0) (5) (Int32.toNatClampNeg ((up2 s0 (0) 0 0) 0 2)) a1) (18) (Int32.toNatClampNeg ((up2 (up2 s0 (0) 0 0) (5) (Int32.toNatClampNeg ((up2 s0 (0) 0 0) 0 2)) a1) 0 2)) a2) 0 2)) a3) 0 2)) 1) 0 2)) 1) (0) 2 (((up2 (up2 (up2 (up2 (up2 (up2 s0 (0) 0 0) (5) (Int32.toNatClampNeg ((up2 s0 (0) 0 0) 0 2)) a1) (18) (Int32.toNatClampNeg ((up2 (up2 s0 (0) 0 0) (5) (Int32.toNatClampNeg ((up2 s0 (0) 0 0) 0 2)) a1) 0 2)) a2) (6) (Int32.toNatClampNeg ((up2 (up2 (up2 s0 (0) 0 0) (5) (Int32.toNatClampNeg ((up2 s0 (0) 0 0) 0 2)) a1) (18) (Int32.toNatClampNeg ((up2 (up2 s0 (0) 0 0) (5) (Int32.toNatClampNeg ((up2 s0 (0) 0 0) 0 2)) a1) 0 2)) a2) 0 2)) a3) (10) (Int32.toNatClampNeg ((up2 (up2 (up2 (up2 s0 (0) 0 0) (5) (Int32.toNatClampNeg ((up2 s0 (0) 0 0) 0 2)) a1) (18) (Int32.toNatClampNeg ((up2 (up2 s0 (0) 0 0) (5) (Int32.toNatClampNeg ((up2 s0 (0) 0 0) 0 2)) a1) 0 2)) a2) (6) (Int32.toNatClampNeg ((up2 (up2 (up2 s0 (0) 0 0) (5) (Int32.toNatClampNeg ((up2 s0 (0) 0 0) 0 2)) a1) (18) (Int32.toNatClampNeg ((up2 (up2 s0 (0) 0 0) (5) (Int32.toNatClampNeg ((up2 s0 (0) 0 0) 0 2)) a1) 0 2)) a2) 0 2)) a3) 0 2)) 1) (11) (Int32.toNatClampNeg ((up2 (up2 (up2 (up2 (up2 s0 (0) 0 0) (5) (Int32.toNatClampNeg ((up2 s0 (0) 0 0) 0 2)) a1) (18) (Int32.toNatClampNeg ((up2 (up2 s0 (0) 0 0) (5) (Int32.toNatClampNeg ((up2 s0 (0) 0 0) 0 2)) a1) 0 2)) a2) (6) (Int32.toNatClampNeg ((up2 (up2 (up2 s0 (0) 0 0) (5) (Int32.toNatClampNeg ((up2 s0 (0) 0 0) 0 2)) a1) (18) (Int32.toNatClampNeg ((up2 (up2 s0 (0) 0 0) (5) (Int32.toNatClampNeg ((up2 s0 (0) 0 0) 0 2)) a1) 0 2)) a2) 0 2)) a3) (10) (Int32.toNatClampNeg ((up2 (up2 (up2 (up2 s0 (0) 0 0) (5) (Int32.toNatClampNeg ((up2 s0 (0) 0 0) 0 2)) a1) (18) (Int32.toNatClampNeg ((up2 (up2 s0 (0) 0 0) (5) (Int32.toNatClampNeg ((up2 s0 (0) 0 0) 0 2)) a1) 0 2)) a2) (6) (Int32.toNatClampNeg ((up2 (up2 (up2 s0 (0) 0 0) (5) (Int32.toNatClampNeg ((up2 s0 (0) 0 0) 0 2)) a1) (18) (Int32.toNatClampNeg ((up2 (up2 s0 (0) 0 0) (5) (Int32.toNatClampNeg ((up2 s0 (0) 0 0) 0 2)) a1) 0 2)) a2) 0 2)) a3) 0 2)) 1) 0 2)) 1) 0 2) + 1)) 0 2) - 1, up2 (up2 (up2 (up2 (up2 (up2 (up2 s0 (0) 0 0) (5) (Int32.toNatClampNeg ((up2 s0 (0) 0 0) 0 2)) a1) (18) (Int32.toNatClampNeg ((up2 (up2 s0 (0) 0 0) (5) (Int32.toNatClampNeg ((up2 s0 (0) 0 0) 0 2)) a1) 0 2)) a2) (6) (Int32.toNatClampNeg ((up2 (up2 (up2 s0 (0) 0 0) (5) (Int32.toNatClampNeg ((up2 s0 (0) 0 0) 0 2)) a1) (18) (Int32.toNatClampNeg ((up2 (up2 s0 (0) 0 0) (5) (Int32.toNatClampNeg ((up2 s0 (0) 0 0) 0 2)) a1) 0 2)) a2) 0 2)) a3) (10) (Int32.toNatClampNeg ((up2 (up2 (up2 (up2 s0 (0) 0 0) (5) (Int32.toNatClampNeg ((up2 s0 (0) 0 0) 0 2)) a1) (18) (Int32.toNatClampNeg ((up2 (up2 s0 (0) 0 0) (5) (Int32.toNatClampNeg ((up2 s0 (0) 0 0) 0 2)) a1) 0 2)) a2) (6) (Int32.toNatClampNeg ((up2 (up2 (up2 s0 (0) 0 0) (5) (Int32.toNatClampNeg ((up2 s0 (0) 0 0) 0 2)) a1) (18) (Int32.toNatClampNeg ((up2 (up2 s0 (0) 0 0) (5) (Int32.toNatClampNeg ((up2 s0 (0) 0 0) 0 2)) a1) 0 2)) a2) 0 2)) a3) 0 2)) 1) (11) (Int32.toNatClampNeg ((up2 (up2 (up2 (up2 (up2 s0 (0) 0 0) (5) (Int32.toNatClampNeg ((up2 s0 (0) 0 0) 0 2)) a1) (18) (Int32.toNatClampNeg ((up2 (up2 s0 (0) 0 0) (5) (Int32.toNatClampNeg ((up2 s0 (0) 0 0) 0 2)) a1) 0 2)) a2) (6) (Int32.toNatClampNeg ((up2 (up2 (up2 s0 (0) 0 0) (5) (Int32.toNatClampNeg ((up2 s0 (0) 0 0) 0 2)) a1) (18) (Int32.toNatClampNeg ((up2 (up2 s0 (0) 0 0) (5) (Int32.toNatClampNeg ((up2 s0 (0) 0 0) 0 2)) a1) 0 2)) a2) 0 2)) a3) (10) (Int32.toNatClampNeg ((up2 (up2 (up2 (up2 s0 (0) 0 0) (5) (Int32.toNatClampNeg ((up2 s0 (0) 0 0) 0 2)) a1) (18) (Int32.toNatClampNeg ((up2 (up2 s0 (0) 0 0) (5) (Int32.toNatClampNeg ((up2 s0 (0) 0 0) 0 2)) a1) 0 2)) a2) (6) (Int32.toNatClampNeg ((up2 (up2 (up2 s0 (0) 0 0) (5) (Int32.toNatClampNeg ((up2 s0 (0) 0 0) 0 2)) a1) (18) (Int32.toNatClampNeg ((up2 (up2 s0 (0) 0 0) (5) (Int32.toNatClampNeg ((up2 s0 (0) 0 0) 0 2)) a1) 0 2)) a2) 0 2)) a3) 0 2)) 1) 0 2)) 1) (0) 2 (((up2 (up2 (up2 (up2 (up2 (up2 s0 (0) 0 0) (5) (Int32.toNatClampNeg ((up2 s0 (0) 0 0) 0 2)) a1) (18) (Int32.toNatClampNeg ((up2 (up2 s0 (0) 0 0) (5) (Int32.toNatClampNeg ((up2 s0 (0) 0 0) 0 2)) a1) 0 2)) a2) (6) (Int32.toNatClampNeg ((up2 (up2 (up2 s0 (0) 0 0) (5) (Int32.toNatClampNeg ((up2 s0 (0) 0 0) 0 2)) a1) (18) (Int32.toNatClampNeg ((up2 (up2 s0 (0) 0 0) (5) (Int32.toNatClampNeg ((up2 s0 (0) 0 0) 0 2)) a1) 0 2)) a2) 0 2)) a3) (10) (Int32.toNatClampNeg ((up2 (up2 (up2 (up2 s0 (0) 0 0) (5) (Int32.toNatClampNeg ((up2 s0 (0) 0 0) 0 2)) a1) (18) (Int32.toNatClampNeg ((up2 (up2 s0 (0) 0 0) (5) (Int32.toNatClampNeg ((up2 s0 (0) 0 0) 0 2)) a1) 0 2)) a2) (6) (Int32.toNatClampNeg ((up2 (up2 (up2 s0 (0) 0 0) (5) (Int32.toNatClampNeg ((up2 s0 (0) 0 0) 0 2)) a1) (18) (Int32.toNatClampNeg ((up2 (up2 s0 (0) 0 0) (5) (Int32.toNatClampNeg ((up2 s0 (0) 0 0) 0 2)) a1) 0 2)) a2) 0 2)) a3) 0 2)) 1) (11) (Int32.toNatClampNeg ((up2 (up2 (up2 (up2 (up2 s0 (0) 0 0) (5) (Int32.toNatClampNeg ((up2 s0 (0) 0 0) 0 2)) a1) (18) (Int32.toNatClampNeg ((up2 (up2 s0 (0) 0 0) (5) (Int32.toNatClampNeg ((up2 s0 (0) 0 0) 0 2)) a1) 0 2)) a2) (6) (Int32.toNatClampNeg ((up2 (up2 (up2 s0 (0) 0 0) (5) (Int32.toNatClampNeg ((up2 s0 (0) 0 0) 0 2)) a1) (18) (Int32.toNatClampNeg ((up2 (up2 s0 (0) 0 0) (5) (Int32.toNatClampNeg ((up2 s0 (0) 0 0) 0 2)) a1) 0 2)) a2) 0 2)) a3) (10) (Int32.toNatClampNeg ((up2 (up2 (up2 (up2 s0 (0) 0 0) (5) (Int32.toNatClampNeg ((up2 s0 (0) 0 0) 0 2)) a1) (18) (Int32.toNatClampNeg ((up2 (up2 s0 (0) 0 0) (5) (Int32.toNatClampNeg ((up2 s0 (0) 0 0) 0 2)) a1) 0 2)) a2) (6) (Int32.toNatClampNeg ((up2 (up2 (up2 s0 (0) 0 0) (5) (Int32.toNatClampNeg ((up2 s0 (0) 0 0) 0 2)) a1) (18) (Int32.toNatClampNeg ((up2 (up2 s0 (0) 0 0) (5) (Int32.toNatClampNeg ((up2 s0 (0) 0 0) 0 2)) a1) 0 2)) a2) 0 2)) a3) 0 2)) 1) 0 2)) 1) 0 2) + 1))
set_option maxHeartbeats 4000000 in
set_option maxRecDepth 100000 in
theorem cc_T_release (l : Launch) (G : Gx) (A : Nat → Prop) (ad : Nat → Nat) (s0 : S2) (a1 : Int32) (a2 : Int32) (a3 : Int32) (hW : Wt s0) (hz : narrow .boolean (.int a2) = .int a2) : Met l y_T_release ws_T_release { frames := 1, cells := 0, slots := 0, locals := 22 } (PG G [.ref (ad (0)), .int (a1), .int (a2), .int (a3)] A ad (encT G.2 ad s0)) (EG G A (some (.int (f_T_release s0 a1 a2 a3).1)) ad (encT G.2 ad ((f_T_release s0 a1 a2 a3).2))) 0 0 A := by
  refine Met.ofW (cc := c_T_release) (maxL := 4) (ret := (some .int)) (by decide) rfl ?_
  intro p e s m args below meth c s₁ B hml hv
  obtain ⟨rfl, hw, hK⟩ := hv
  have hx := B.exec
  have hb := B.bytes
  have hr := B.returns
  have hts : ∀ w ∈ tbG, w.before [.ref (ad (0)), .int (a1), .int (a2), .int (a3)].toArray s = true := fun w h => atoms_spec (ws := ws_T_release) B.pre w (List.mem_cons_of_mem _ h)
  have hown : s.vm.findClass "RollStagesModel" = some m.cls := findClass_of_methodNamed B.named
  have hlocks := B.notSynchronized
  have hS : va_S A s.heap s.heap [] := va_S.rf
  have hw : mwG G A ad (encT G.2 ad s0) s.heap := hw
  have hl := lv_entry ([.ref (ad (0)), .int (a1), .int (a2), .int (a3)]) (n := 4) (Nat.le_of_ble_eq_true rfl)
  rw [lg_entry_eq]
  generalize (lg_sl ([.ref (ad (0)), .int (a1), .int (a2), .int (a3)]) ++ List.replicate (4 - (lg_sl ([.ref (ad (0)), .int (a1), .int (a2), .int (a3)])).length) Slot.unset).toArray = ls at hl ⊢
  have hl : lv_has ls 4 [(0, .ref (ad (0))), (1, .int (a1)), (2, .int (a2)), (3, .int (a3))] := hl
  refine lv_aload_n hx hb d_T_release_0 rfl (lv_at hl 0 rfl) ?_
  refine lv_iconst (v := 0) hx hb d_T_release_1 (by decide) ?_
  refine mw_put (v := .int (0)) hx hb hts in_T ty_T ty_T_ok n_T hown hK.1 hw hS (0) cT_0 rfl 0 (by decide) (hts _ tw_409) rfl rfl rfl (Nat.le_of_ble_eq_true rfl) d_T_release_2 (fun H locs hw hS => ?_)
  replace hw := mw_encT (r := upd (s0 (0)) 0 0) hw cT_0
  have hw : mwG G A ad (encT G.2 ad (up2 s0 (0) 0 0)) H := hw
  refine lv_aload_n hx hb d_T_release_5 rfl (lv_at hl 0 rfl) ?_
  refine mw_get (v := .int ((up2 s0 (0) 0 0) 0 2)) hx hb hts in_T hown hK.1 hw (0) cT_0 rfl 2 (by decide) (hts _ tw_411) rfl d_T_release_6 ?_
  refine lv_bipush (v := 16) hx hb d_T_release_9 (by decide) ?_
  refine lv_icmp_eq (tgt := 33) hx hb d_T_release_11 (by decide) (fun h1 => ?_) (fun h1 => ?_)
  · skip
    refine lv_iconst (v := -1) hx hb d_T_release_33 (by decide) ?_
    have e9 : f_T_release s0 a1 a2 a3 = (-1, up2 s0 (0) 0 0) := by unfold f_T_release; exact if_pos h1
    exact mw_iret hx hb hr rfl hw hS (congrArg (fun z => some (Value.int z.1)) e9.symm) ⟨rfl, congrArg (fun z => encT G.2 ad z.2) e9.symm⟩ hlocks d_T_release_34
  · skip
    refine lv_iload_n hx hb d_T_release_14 rfl (lv_at hl 1 rfl) ?_
    refine lv_iconst (v := 0) hx hb d_T_release_15 (by decide) ?_
    refine lv_iconst (v := 2) hx hb d_T_release_16 (by decide) ?_
    refine gS (As := [.int (a1), .int (0), .int (2)]) (rest := []) (st1 := [.int (f_T_isWithin a1 0 2)]) ⟨hx, hb, hml, hown, hts⟩ (cc_T_isWithin l G A ad  (up2 s0 (0) 0 0) a1 0 2) tw_510 tw_508 tw_509 tw_4 hd_T_isWithin rfl rfl ⟨Nat.le_of_ble_eq_true rfl, Nat.le_of_ble_eq_true rfl⟩ hK hw hS hl.1 rfl (Nat.le_of_ble_eq_true rfl) ⟨Nat.zero_le _, Nat.zero_le _⟩ d_T_release_17 rfl (fun H locs hw hS => ?_)
    refine lv_if_eq (tgt := 33) hx hb d_T_release_20 (by decide) (fun h2 => ?_) (fun h2 => ?_)
    · skip
      refine lv_iconst (v := -1) hx hb d_T_release_33 (by decide) ?_
      have e9 : f_T_release s0 a1 a2 a3 = (-1, up2 s0 (0) 0 0) := by unfold f_T_release; exact (if_neg h1).trans (if_pos h2)
      exact mw_iret hx hb hr rfl hw hS (congrArg (fun z => some (Value.int z.1)) e9.symm) ⟨rfl, congrArg (fun z => encT G.2 ad z.2) e9.symm⟩ hlocks d_T_release_34
    · skip
      refine lv_iload_n hx hb d_T_release_23 rfl (lv_at hl 3 rfl) ?_
      refine lv_iconst (v := 1) hx hb d_T_release_24 (by decide) ?_
      refine lv_ldc (v := 100000) hx hb hown (hts _ tw_511) d_T_release_25 ?_
      refine gS (As := [.int (a3), .int (1), .int (100000)]) (rest := []) (st1 := [.int (f_T_isWithin a3 1 100000)]) ⟨hx, hb, hml, hown, hts⟩ (cc_T_isWithin l G A ad  (up2 s0 (0) 0 0) a3 1 100000) tw_510 tw_508 tw_509 tw_4 hd_T_isWithin rfl rfl ⟨Nat.le_of_ble_eq_true rfl, Nat.le_of_ble_eq_true rfl⟩ hK hw hS hl.1 rfl (Nat.le_of_ble_eq_true rfl) ⟨Nat.zero_le _, Nat.zero_le _⟩ d_T_release_27 rfl (fun H locs hw hS => ?_)
      refine lv_if_ne (tgt := 35) hx hb d_T_release_30 (by decide) (fun h3 => ?_) (fun h3 => ?_)
      · skip
        refine lv_aload_n hx hb d_T_release_35 rfl (lv_at hl 0 rfl) ?_
        refine mw_get (v := .ref (ad (5))) hx hb hts in_T hown hK.1 hw (0) cT_0 rfl 5 (by decide) (hts _ tw_414) rfl d_T_release_36 ?_
        refine lv_aload_n hx hb d_T_release_39 rfl (lv_at hl 0 rfl) ?_
        refine mw_get (v := .int ((up2 s0 (0) 0 0) 0 2)) hx hb hts in_T hown hK.1 hw (0) cT_0 rfl 2 (by decide) (hts _ tw_411) rfl d_T_release_40 ?_
        refine lv_iload_n hx hb d_T_release_43 rfl (lv_at hl 1 rfl) ?_
        refine mw_iast hx hb hK.1 hw hS (5) 0 cT_5 rfl (r_in (Wt_c hW) h1) d_T_release_44 (fun H locs hw hS => ?_)
        replace hw := mw_encT (r := upd ((up2 s0 (0) 0 0) (5)) (Int32.toNatClampNeg ((up2 s0 (0) 0 0) 0 2)) a1) hw cT_5
        have hw : mwG G A ad (encT G.2 ad (up2 (up2 s0 (0) 0 0) (5) (Int32.toNatClampNeg ((up2 s0 (0) 0 0) 0 2)) a1)) H := hw
        refine lv_aload_n hx hb d_T_release_45 rfl (lv_at hl 0 rfl) ?_
        refine mw_get (v := .ref (ad (18))) hx hb hts in_T hown hK.1 hw (0) cT_0 rfl 18 (by decide) (hts _ tw_427) rfl d_T_release_46 ?_
        refine lv_aload_n hx hb d_T_release_49 rfl (lv_at hl 0 rfl) ?_
        refine mw_get (v := .int ((up2 (up2 s0 (0) 0 0) (5) (Int32.toNatClampNeg ((up2 s0 (0) 0 0) 0 2)) a1) 0 2)) hx hb hts in_T hown hK.1 hw (0) cT_0 rfl 2 (by decide) (hts _ tw_411) rfl d_T_release_50 ?_
        refine lv_iload_n hx hb d_T_release_53 rfl (lv_at hl 2 rfl) ?_
        refine mw_zast hx hb hK.1 hw hS (18) 3 cT_18 rfl (by simp only [up2_ne (k := 5) (k' := 0) (by decide)]; exact r_in (Wt_c hW) h1) hz d_T_release_54 (fun H locs hw hS => ?_)
        replace hw := mw_encT (r := upd ((up2 (up2 s0 (0) 0 0) (5) (Int32.toNatClampNeg ((up2 s0 (0) 0 0) 0 2)) a1) (18)) (Int32.toNatClampNeg ((up2 (up2 s0 (0) 0 0) (5) (Int32.toNatClampNeg ((up2 s0 (0) 0 0) 0 2)) a1) 0 2)) a2) hw cT_18
        have hw : mwG G A ad (encT G.2 ad (up2 (up2 (up2 s0 (0) 0 0) (5) (Int32.toNatClampNeg ((up2 s0 (0) 0 0) 0 2)) a1) (18) (Int32.toNatClampNeg ((up2 (up2 s0 (0) 0 0) (5) (Int32.toNatClampNeg ((up2 s0 (0) 0 0) 0 2)) a1) 0 2)) a2)) H := hw
        refine lv_aload_n hx hb d_T_release_55 rfl (lv_at hl 0 rfl) ?_
        refine mw_get (v := .ref (ad (6))) hx hb hts in_T hown hK.1 hw (0) cT_0 rfl 6 (by decide) (hts _ tw_415) rfl d_T_release_56 ?_
        refine lv_aload_n hx hb d_T_release_59 rfl (lv_at hl 0 rfl) ?_
        refine mw_get (v := .int ((up2 (up2 (up2 s0 (0) 0 0) (5) (Int32.toNatClampNeg ((up2 s0 (0) 0 0) 0 2)) a1) (18) (Int32.toNatClampNeg ((up2 (up2 s0 (0) 0 0) (5) (Int32.toNatClampNeg ((up2 s0 (0) 0 0) 0 2)) a1) 0 2)) a2) 0 2)) hx hb hts in_T hown hK.1 hw (0) cT_0 rfl 2 (by decide) (hts _ tw_411) rfl d_T_release_60 ?_
        refine lv_iload_n hx hb d_T_release_63 rfl (lv_at hl 3 rfl) ?_
        refine mw_iast hx hb hK.1 hw hS (6) 0 cT_6 rfl (by simp only [up2_ne (k := 5) (k' := 0) (by decide), up2_ne (k := 18) (k' := 0) (by decide)]; exact r_in (Wt_c hW) h1) d_T_release_64 (fun H locs hw hS => ?_)
        replace hw := mw_encT (r := upd ((up2 (up2 (up2 s0 (0) 0 0) (5) (Int32.toNatClampNeg ((up2 s0 (0) 0 0) 0 2)) a1) (18) (Int32.toNatClampNeg ((up2 (up2 s0 (0) 0 0) (5) (Int32.toNatClampNeg ((up2 s0 (0) 0 0) 0 2)) a1) 0 2)) a2) (6)) (Int32.toNatClampNeg ((up2 (up2 (up2 s0 (0) 0 0) (5) (Int32.toNatClampNeg ((up2 s0 (0) 0 0) 0 2)) a1) (18) (Int32.toNatClampNeg ((up2 (up2 s0 (0) 0 0) (5) (Int32.toNatClampNeg ((up2 s0 (0) 0 0) 0 2)) a1) 0 2)) a2) 0 2)) a3) hw cT_6
        have hw : mwG G A ad (encT G.2 ad (up2 (up2 (up2 (up2 s0 (0) 0 0) (5) (Int32.toNatClampNeg ((up2 s0 (0) 0 0) 0 2)) a1) (18) (Int32.toNatClampNeg ((up2 (up2 s0 (0) 0 0) (5) (Int32.toNatClampNeg ((up2 s0 (0) 0 0) 0 2)) a1) 0 2)) a2) (6) (Int32.toNatClampNeg ((up2 (up2 (up2 s0 (0) 0 0) (5) (Int32.toNatClampNeg ((up2 s0 (0) 0 0) 0 2)) a1) (18) (Int32.toNatClampNeg ((up2 (up2 s0 (0) 0 0) (5) (Int32.toNatClampNeg ((up2 s0 (0) 0 0) 0 2)) a1) 0 2)) a2) 0 2)) a3)) H := hw
        refine lv_aload_n hx hb d_T_release_65 rfl (lv_at hl 0 rfl) ?_
        refine mw_get (v := .ref (ad (10))) hx hb hts in_T hown hK.1 hw (0) cT_0 rfl 10 (by decide) (hts _ tw_419) rfl d_T_release_66 ?_
        refine lv_aload_n hx hb d_T_release_69 rfl (lv_at hl 0 rfl) ?_
        refine mw_get (v := .int ((up2 (up2 (up2 (up2 s0 (0) 0 0) (5) (Int32.toNatClampNeg ((up2 s0 (0) 0 0) 0 2)) a1) (18) (Int32.toNatClampNeg ((up2 (up2 s0 (0) 0 0) (5) (Int32.toNatClampNeg ((up2 s0 (0) 0 0) 0 2)) a1) 0 2)) a2) (6) (Int32.toNatClampNeg ((up2 (up2 (up2 s0 (0) 0 0) (5) (Int32.toNatClampNeg ((up2 s0 (0) 0 0) 0 2)) a1) (18) (Int32.toNatClampNeg ((up2 (up2 s0 (0) 0 0) (5) (Int32.toNatClampNeg ((up2 s0 (0) 0 0) 0 2)) a1) 0 2)) a2) 0 2)) a3) 0 2)) hx hb hts in_T hown hK.1 hw (0) cT_0 rfl 2 (by decide) (hts _ tw_411) rfl d_T_release_70 ?_
        refine lv_iconst (v := 1) hx hb d_T_release_73 (by decide) ?_
        refine mw_iast hx hb hK.1 hw hS (10) 0 cT_10 rfl (by simp only [up2_ne (k := 5) (k' := 0) (by decide), up2_ne (k := 18) (k' := 0) (by decide), up2_ne (k := 6) (k' := 0) (by decide)]; exact r_in (Wt_c hW) h1) d_T_release_74 (fun H locs hw hS => ?_)
        replace hw := mw_encT (r := upd ((up2 (up2 (up2 (up2 s0 (0) 0 0) (5) (Int32.toNatClampNeg ((up2 s0 (0) 0 0) 0 2)) a1) (18) (Int32.toNatClampNeg ((up2 (up2 s0 (0) 0 0) (5) (Int32.toNatClampNeg ((up2 s0 (0) 0 0) 0 2)) a1) 0 2)) a2) (6) (Int32.toNatClampNeg ((up2 (up2 (up2 s0 (0) 0 0) (5) (Int32.toNatClampNeg ((up2 s0 (0) 0 0) 0 2)) a1) (18) (Int32.toNatClampNeg ((up2 (up2 s0 (0) 0 0) (5) (Int32.toNatClampNeg ((up2 s0 (0) 0 0) 0 2)) a1) 0 2)) a2) 0 2)) a3) (10)) (Int32.toNatClampNeg ((up2 (up2 (up2 (up2 s0 (0) 0 0) (5) (Int32.toNatClampNeg ((up2 s0 (0) 0 0) 0 2)) a1) (18) (Int32.toNatClampNeg ((up2 (up2 s0 (0) 0 0) (5) (Int32.toNatClampNeg ((up2 s0 (0) 0 0) 0 2)) a1) 0 2)) a2) (6) (Int32.toNatClampNeg ((up2 (up2 (up2 s0 (0) 0 0) (5) (Int32.toNatClampNeg ((up2 s0 (0) 0 0) 0 2)) a1) (18) (Int32.toNatClampNeg ((up2 (up2 s0 (0) 0 0) (5) (Int32.toNatClampNeg ((up2 s0 (0) 0 0) 0 2)) a1) 0 2)) a2) 0 2)) a3) 0 2)) 1) hw cT_10
        have hw : mwG G A ad (encT G.2 ad (up2 (up2 (up2 (up2 (up2 s0 (0) 0 0) (5) (Int32.toNatClampNeg ((up2 s0 (0) 0 0) 0 2)) a1) (18) (Int32.toNatClampNeg ((up2 (up2 s0 (0) 0 0) (5) (Int32.toNatClampNeg ((up2 s0 (0) 0 0) 0 2)) a1) 0 2)) a2) (6) (Int32.toNatClampNeg ((up2 (up2 (up2 s0 (0) 0 0) (5) (Int32.toNatClampNeg ((up2 s0 (0) 0 0) 0 2)) a1) (18) (Int32.toNatClampNeg ((up2 (up2 s0 (0) 0 0) (5) (Int32.toNatClampNeg ((up2 s0 (0) 0 0) 0 2)) a1) 0 2)) a2) 0 2)) a3) (10) (Int32.toNatClampNeg ((up2 (up2 (up2 (up2 s0 (0) 0 0) (5) (Int32.toNatClampNeg ((up2 s0 (0) 0 0) 0 2)) a1) (18) (Int32.toNatClampNeg ((up2 (up2 s0 (0) 0 0) (5) (Int32.toNatClampNeg ((up2 s0 (0) 0 0) 0 2)) a1) 0 2)) a2) (6) (Int32.toNatClampNeg ((up2 (up2 (up2 s0 (0) 0 0) (5) (Int32.toNatClampNeg ((up2 s0 (0) 0 0) 0 2)) a1) (18) (Int32.toNatClampNeg ((up2 (up2 s0 (0) 0 0) (5) (Int32.toNatClampNeg ((up2 s0 (0) 0 0) 0 2)) a1) 0 2)) a2) 0 2)) a3) 0 2)) 1)) H := hw
        refine lv_aload_n hx hb d_T_release_75 rfl (lv_at hl 0 rfl) ?_
        refine mw_get (v := .ref (ad (11))) hx hb hts in_T hown hK.1 hw (0) cT_0 rfl 11 (by decide) (hts _ tw_420) rfl d_T_release_76 ?_
        refine lv_aload_n hx hb d_T_release_79 rfl (lv_at hl 0 rfl) ?_
        refine mw_get (v := .int ((up2 (up2 (up2 (up2 (up2 s0 (0) 0 0) (5) (Int32.toNatClampNeg ((up2 s0 (0) 0 0) 0 2)) a1) (18) (Int32.toNatClampNeg ((up2 (up2 s0 (0) 0 0) (5) (Int32.toNatClampNeg ((up2 s0 (0) 0 0) 0 2)) a1) 0 2)) a2) (6) (Int32.toNatClampNeg ((up2 (up2 (up2 s0 (0) 0 0) (5) (Int32.toNatClampNeg ((up2 s0 (0) 0 0) 0 2)) a1) (18) (Int32.toNatClampNeg ((up2 (up2 s0 (0) 0 0) (5) (Int32.toNatClampNeg ((up2 s0 (0) 0 0) 0 2)) a1) 0 2)) a2) 0 2)) a3) (10) (Int32.toNatClampNeg ((up2 (up2 (up2 (up2 s0 (0) 0 0) (5) (Int32.toNatClampNeg ((up2 s0 (0) 0 0) 0 2)) a1) (18) (Int32.toNatClampNeg ((up2 (up2 s0 (0) 0 0) (5) (Int32.toNatClampNeg ((up2 s0 (0) 0 0) 0 2)) a1) 0 2)) a2) (6) (Int32.toNatClampNeg ((up2 (up2 (up2 s0 (0) 0 0) (5) (Int32.toNatClampNeg ((up2 s0 (0) 0 0) 0 2)) a1) (18) (Int32.toNatClampNeg ((up2 (up2 s0 (0) 0 0) (5) (Int32.toNatClampNeg ((up2 s0 (0) 0 0) 0 2)) a1) 0 2)) a2) 0 2)) a3) 0 2)) 1) 0 2)) hx hb hts in_T hown hK.1 hw (0) cT_0 rfl 2 (by decide) (hts _ tw_411) rfl d_T_release_80 ?_
        refine lv_iconst (v := 1) hx hb d_T_release_83 (by decide) ?_
        refine mw_iast hx hb hK.1 hw hS (11) 0 cT_11 rfl (by simp only [up2_ne (k := 5) (k' := 0) (by decide), up2_ne (k := 18) (k' := 0) (by decide), up2_ne (k := 6) (k' := 0) (by decide), up2_ne (k := 10) (k' := 0) (by decide)]; exact r_in (Wt_c hW) h1) d_T_release_84 (fun H locs hw hS => ?_)
        replace hw := mw_encT (r := upd ((up2 (up2 (up2 (up2 (up2 s0 (0) 0 0) (5) (Int32.toNatClampNeg ((up2 s0 (0) 0 0) 0 2)) a1) (18) (Int32.toNatClampNeg ((up2 (up2 s0 (0) 0 0) (5) (Int32.toNatClampNeg ((up2 s0 (0) 0 0) 0 2)) a1) 0 2)) a2) (6) (Int32.toNatClampNeg ((up2 (up2 (up2 s0 (0) 0 0) (5) (Int32.toNatClampNeg ((up2 s0 (0) 0 0) 0 2)) a1) (18) (Int32.toNatClampNeg ((up2 (up2 s0 (0) 0 0) (5) (Int32.toNatClampNeg ((up2 s0 (0) 0 0) 0 2)) a1) 0 2)) a2) 0 2)) a3) (10) (Int32.toNatClampNeg ((up2 (up2 (up2 (up2 s0 (0) 0 0) (5) (Int32.toNatClampNeg ((up2 s0 (0) 0 0) 0 2)) a1) (18) (Int32.toNatClampNeg ((up2 (up2 s0 (0) 0 0) (5) (Int32.toNatClampNeg ((up2 s0 (0) 0 0) 0 2)) a1) 0 2)) a2) (6) (Int32.toNatClampNeg ((up2 (up2 (up2 s0 (0) 0 0) (5) (Int32.toNatClampNeg ((up2 s0 (0) 0 0) 0 2)) a1) (18) (Int32.toNatClampNeg ((up2 (up2 s0 (0) 0 0) (5) (Int32.toNatClampNeg ((up2 s0 (0) 0 0) 0 2)) a1) 0 2)) a2) 0 2)) a3) 0 2)) 1) (11)) (Int32.toNatClampNeg ((up2 (up2 (up2 (up2 (up2 s0 (0) 0 0) (5) (Int32.toNatClampNeg ((up2 s0 (0) 0 0) 0 2)) a1) (18) (Int32.toNatClampNeg ((up2 (up2 s0 (0) 0 0) (5) (Int32.toNatClampNeg ((up2 s0 (0) 0 0) 0 2)) a1) 0 2)) a2) (6) (Int32.toNatClampNeg ((up2 (up2 (up2 s0 (0) 0 0) (5) (Int32.toNatClampNeg ((up2 s0 (0) 0 0) 0 2)) a1) (18) (Int32.toNatClampNeg ((up2 (up2 s0 (0) 0 0) (5) (Int32.toNatClampNeg ((up2 s0 (0) 0 0) 0 2)) a1) 0 2)) a2) 0 2)) a3) (10) (Int32.toNatClampNeg ((up2 (up2 (up2 (up2 s0 (0) 0 0) (5) (Int32.toNatClampNeg ((up2 s0 (0) 0 0) 0 2)) a1) (18) (Int32.toNatClampNeg ((up2 (up2 s0 (0) 0 0) (5) (Int32.toNatClampNeg ((up2 s0 (0) 0 0) 0 2)) a1) 0 2)) a2) (6) (Int32.toNatClampNeg ((up2 (up2 (up2 s0 (0) 0 0) (5) (Int32.toNatClampNeg ((up2 s0 (0) 0 0) 0 2)) a1) (18) (Int32.toNatClampNeg ((up2 (up2 s0 (0) 0 0) (5) (Int32.toNatClampNeg ((up2 s0 (0) 0 0) 0 2)) a1) 0 2)) a2) 0 2)) a3) 0 2)) 1) 0 2)) 1) hw cT_11
        have hw : mwG G A ad (encT G.2 ad (up2 (up2 (up2 (up2 (up2 (up2 s0 (0) 0 0) (5) (Int32.toNatClampNeg ((up2 s0 (0) 0 0) 0 2)) a1) (18) (Int32.toNatClampNeg ((up2 (up2 s0 (0) 0 0) (5) (Int32.toNatClampNeg ((up2 s0 (0) 0 0) 0 2)) a1) 0 2)) a2) (6) (Int32.toNatClampNeg ((up2 (up2 (up2 s0 (0) 0 0) (5) (Int32.toNatClampNeg ((up2 s0 (0) 0 0) 0 2)) a1) (18) (Int32.toNatClampNeg ((up2 (up2 s0 (0) 0 0) (5) (Int32.toNatClampNeg ((up2 s0 (0) 0 0) 0 2)) a1) 0 2)) a2) 0 2)) a3) (10) (Int32.toNatClampNeg ((up2 (up2 (up2 (up2 s0 (0) 0 0) (5) (Int32.toNatClampNeg ((up2 s0 (0) 0 0) 0 2)) a1) (18) (Int32.toNatClampNeg ((up2 (up2 s0 (0) 0 0) (5) (Int32.toNatClampNeg ((up2 s0 (0) 0 0) 0 2)) a1) 0 2)) a2) (6) (Int32.toNatClampNeg ((up2 (up2 (up2 s0 (0) 0 0) (5) (Int32.toNatClampNeg ((up2 s0 (0) 0 0) 0 2)) a1) (18) (Int32.toNatClampNeg ((up2 (up2 s0 (0) 0 0) (5) (Int32.toNatClampNeg ((up2 s0 (0) 0 0) 0 2)) a1) 0 2)) a2) 0 2)) a3) 0 2)) 1) (11) (Int32.toNatClampNeg ((up2 (up2 (up2 (up2 (up2 s0 (0) 0 0) (5) (Int32.toNatClampNeg ((up2 s0 (0) 0 0) 0 2)) a1) (18) (Int32.toNatClampNeg ((up2 (up2 s0 (0) 0 0) (5) (Int32.toNatClampNeg ((up2 s0 (0) 0 0) 0 2)) a1) 0 2)) a2) (6) (Int32.toNatClampNeg ((up2 (up2 (up2 s0 (0) 0 0) (5) (Int32.toNatClampNeg ((up2 s0 (0) 0 0) 0 2)) a1) (18) (Int32.toNatClampNeg ((up2 (up2 s0 (0) 0 0) (5) (Int32.toNatClampNeg ((up2 s0 (0) 0 0) 0 2)) a1) 0 2)) a2) 0 2)) a3) (10) (Int32.toNatClampNeg ((up2 (up2 (up2 (up2 s0 (0) 0 0) (5) (Int32.toNatClampNeg ((up2 s0 (0) 0 0) 0 2)) a1) (18) (Int32.toNatClampNeg ((up2 (up2 s0 (0) 0 0) (5) (Int32.toNatClampNeg ((up2 s0 (0) 0 0) 0 2)) a1) 0 2)) a2) (6) (Int32.toNatClampNeg ((up2 (up2 (up2 s0 (0) 0 0) (5) (Int32.toNatClampNeg ((up2 s0 (0) 0 0) 0 2)) a1) (18) (Int32.toNatClampNeg ((up2 (up2 s0 (0) 0 0) (5) (Int32.toNatClampNeg ((up2 s0 (0) 0 0) 0 2)) a1) 0 2)) a2) 0 2)) a3) 0 2)) 1) 0 2)) 1)) H := hw
        refine lv_aload_n hx hb d_T_release_85 rfl (lv_at hl 0 rfl) ?_
        refine lv_dup hx hb d_T_release_86 rfl ?_
        refine mw_get (v := .int ((up2 (up2 (up2 (up2 (up2 (up2 s0 (0) 0 0) (5) (Int32.toNatClampNeg ((up2 s0 (0) 0 0) 0 2)) a1) (18) (Int32.toNatClampNeg ((up2 (up2 s0 (0) 0 0) (5) (Int32.toNatClampNeg ((up2 s0 (0) 0 0) 0 2)) a1) 0 2)) a2) (6) (Int32.toNatClampNeg ((up2 (up2 (up2 s0 (0) 0 0) (5) (Int32.toNatClampNeg ((up2 s0 (0) 0 0) 0 2)) a1) (18) (Int32.toNatClampNeg ((up2 (up2 s0 (0) 0 0) (5) (Int32.toNatClampNeg ((up2 s0 (0) 0 0) 0 2)) a1) 0 2)) a2) 0 2)) a3) (10) (Int32.toNatClampNeg ((up2 (up2 (up2 (up2 s0 (0) 0 0) (5) (Int32.toNatClampNeg ((up2 s0 (0) 0 0) 0 2)) a1) (18) (Int32.toNatClampNeg ((up2 (up2 s0 (0) 0 0) (5) (Int32.toNatClampNeg ((up2 s0 (0) 0 0) 0 2)) a1) 0 2)) a2) (6) (Int32.toNatClampNeg ((up2 (up2 (up2 s0 (0) 0 0) (5) (Int32.toNatClampNeg ((up2 s0 (0) 0 0) 0 2)) a1) (18) (Int32.toNatClampNeg ((up2 (up2 s0 (0) 0 0) (5) (Int32.toNatClampNeg ((up2 s0 (0) 0 0) 0 2)) a1) 0 2)) a2) 0 2)) a3) 0 2)) 1) (11) (Int32.toNatClampNeg ((up2 (up2 (up2 (up2 (up2 s0 (0) 0 0) (5) (Int32.toNatClampNeg ((up2 s0 (0) 0 0) 0 2)) a1) (18) (Int32.toNatClampNeg ((up2 (up2 s0 (0) 0 0) (5) (Int32.toNatClampNeg ((up2 s0 (0) 0 0) 0 2)) a1) 0 2)) a2) (6) (Int32.toNatClampNeg ((up2 (up2 (up2 s0 (0) 0 0) (5) (Int32.toNatClampNeg ((up2 s0 (0) 0 0) 0 2)) a1) (18) (Int32.toNatClampNeg ((up2 (up2 s0 (0) 0 0) (5) (Int32.toNatClampNeg ((up2 s0 (0) 0 0) 0 2)) a1) 0 2)) a2) 0 2)) a3) (10) (Int32.toNatClampNeg ((up2 (up2 (up2 (up2 s0 (0) 0 0) (5) (Int32.toNatClampNeg ((up2 s0 (0) 0 0) 0 2)) a1) (18) (Int32.toNatClampNeg ((up2 (up2 s0 (0) 0 0) (5) (Int32.toNatClampNeg ((up2 s0 (0) 0 0) 0 2)) a1) 0 2)) a2) (6) (Int32.toNatClampNeg ((up2 (up2 (up2 s0 (0) 0 0) (5) (Int32.toNatClampNeg ((up2 s0 (0) 0 0) 0 2)) a1) (18) (Int32.toNatClampNeg ((up2 (up2 s0 (0) 0 0) (5) (Int32.toNatClampNeg ((up2 s0 (0) 0 0) 0 2)) a1) 0 2)) a2) 0 2)) a3) 0 2)) 1) 0 2)) 1) 0 2)) hx hb hts in_T hown hK.1 hw (0) cT_0 rfl 2 (by decide) (hts _ tw_411) rfl d_T_release_87 ?_
        refine lv_iconst (v := 1) hx hb d_T_release_90 (by decide) ?_
        refine lv_iadd hx hb d_T_release_91 ?_
        refine mw_put (v := .int (((up2 (up2 (up2 (up2 (up2 (up2 s0 (0) 0 0) (5) (Int32.toNatClampNeg ((up2 s0 (0) 0 0) 0 2)) a1) (18) (Int32.toNatClampNeg ((up2 (up2 s0 (0) 0 0) (5) (Int32.toNatClampNeg ((up2 s0 (0) 0 0) 0 2)) a1) 0 2)) a2) (6) (Int32.toNatClampNeg ((up2 (up2 (up2 s0 (0) 0 0) (5) (Int32.toNatClampNeg ((up2 s0 (0) 0 0) 0 2)) a1) (18) (Int32.toNatClampNeg ((up2 (up2 s0 (0) 0 0) (5) (Int32.toNatClampNeg ((up2 s0 (0) 0 0) 0 2)) a1) 0 2)) a2) 0 2)) a3) (10) (Int32.toNatClampNeg ((up2 (up2 (up2 (up2 s0 (0) 0 0) (5) (Int32.toNatClampNeg ((up2 s0 (0) 0 0) 0 2)) a1) (18) (Int32.toNatClampNeg ((up2 (up2 s0 (0) 0 0) (5) (Int32.toNatClampNeg ((up2 s0 (0) 0 0) 0 2)) a1) 0 2)) a2) (6) (Int32.toNatClampNeg ((up2 (up2 (up2 s0 (0) 0 0) (5) (Int32.toNatClampNeg ((up2 s0 (0) 0 0) 0 2)) a1) (18) (Int32.toNatClampNeg ((up2 (up2 s0 (0) 0 0) (5) (Int32.toNatClampNeg ((up2 s0 (0) 0 0) 0 2)) a1) 0 2)) a2) 0 2)) a3) 0 2)) 1) (11) (Int32.toNatClampNeg ((up2 (up2 (up2 (up2 (up2 s0 (0) 0 0) (5) (Int32.toNatClampNeg ((up2 s0 (0) 0 0) 0 2)) a1) (18) (Int32.toNatClampNeg ((up2 (up2 s0 (0) 0 0) (5) (Int32.toNatClampNeg ((up2 s0 (0) 0 0) 0 2)) a1) 0 2)) a2) (6) (Int32.toNatClampNeg ((up2 (up2 (up2 s0 (0) 0 0) (5) (Int32.toNatClampNeg ((up2 s0 (0) 0 0) 0 2)) a1) (18) (Int32.toNatClampNeg ((up2 (up2 s0 (0) 0 0) (5) (Int32.toNatClampNeg ((up2 s0 (0) 0 0) 0 2)) a1) 0 2)) a2) 0 2)) a3) (10) (Int32.toNatClampNeg ((up2 (up2 (up2 (up2 s0 (0) 0 0) (5) (Int32.toNatClampNeg ((up2 s0 (0) 0 0) 0 2)) a1) (18) (Int32.toNatClampNeg ((up2 (up2 s0 (0) 0 0) (5) (Int32.toNatClampNeg ((up2 s0 (0) 0 0) 0 2)) a1) 0 2)) a2) (6) (Int32.toNatClampNeg ((up2 (up2 (up2 s0 (0) 0 0) (5) (Int32.toNatClampNeg ((up2 s0 (0) 0 0) 0 2)) a1) (18) (Int32.toNatClampNeg ((up2 (up2 s0 (0) 0 0) (5) (Int32.toNatClampNeg ((up2 s0 (0) 0 0) 0 2)) a1) 0 2)) a2) 0 2)) a3) 0 2)) 1) 0 2)) 1) 0 2) + 1)) hx hb hts in_T ty_T ty_T_ok n_T hown hK.1 hw hS (0) cT_0 rfl 2 (by decide) (hts _ tw_411) rfl rfl rfl (Nat.le_of_ble_eq_true rfl) d_T_release_92 (fun H locs hw hS => ?_)
        replace hw := mw_encT (r := upd ((up2 (up2 (up2 (up2 (up2 (up2 s0 (0) 0 0) (5) (Int32.toNatClampNeg ((up2 s0 (0) 0 0) 0 2)) a1) (18) (Int32.toNatClampNeg ((up2 (up2 s0 (0) 0 0) (5) (Int32.toNatClampNeg ((up2 s0 (0) 0 0) 0 2)) a1) 0 2)) a2) (6) (Int32.toNatClampNeg ((up2 (up2 (up2 s0 (0) 0 0) (5) (Int32.toNatClampNeg ((up2 s0 (0) 0 0) 0 2)) a1) (18) (Int32.toNatClampNeg ((up2 (up2 s0 (0) 0 0) (5) (Int32.toNatClampNeg ((up2 s0 (0) 0 0) 0 2)) a1) 0 2)) a2) 0 2)) a3) (10) (Int32.toNatClampNeg ((up2 (up2 (up2 (up2 s0 (0) 0 0) (5) (Int32.toNatClampNeg ((up2 s0 (0) 0 0) 0 2)) a1) (18) (Int32.toNatClampNeg ((up2 (up2 s0 (0) 0 0) (5) (Int32.toNatClampNeg ((up2 s0 (0) 0 0) 0 2)) a1) 0 2)) a2) (6) (Int32.toNatClampNeg ((up2 (up2 (up2 s0 (0) 0 0) (5) (Int32.toNatClampNeg ((up2 s0 (0) 0 0) 0 2)) a1) (18) (Int32.toNatClampNeg ((up2 (up2 s0 (0) 0 0) (5) (Int32.toNatClampNeg ((up2 s0 (0) 0 0) 0 2)) a1) 0 2)) a2) 0 2)) a3) 0 2)) 1) (11) (Int32.toNatClampNeg ((up2 (up2 (up2 (up2 (up2 s0 (0) 0 0) (5) (Int32.toNatClampNeg ((up2 s0 (0) 0 0) 0 2)) a1) (18) (Int32.toNatClampNeg ((up2 (up2 s0 (0) 0 0) (5) (Int32.toNatClampNeg ((up2 s0 (0) 0 0) 0 2)) a1) 0 2)) a2) (6) (Int32.toNatClampNeg ((up2 (up2 (up2 s0 (0) 0 0) (5) (Int32.toNatClampNeg ((up2 s0 (0) 0 0) 0 2)) a1) (18) (Int32.toNatClampNeg ((up2 (up2 s0 (0) 0 0) (5) (Int32.toNatClampNeg ((up2 s0 (0) 0 0) 0 2)) a1) 0 2)) a2) 0 2)) a3) (10) (Int32.toNatClampNeg ((up2 (up2 (up2 (up2 s0 (0) 0 0) (5) (Int32.toNatClampNeg ((up2 s0 (0) 0 0) 0 2)) a1) (18) (Int32.toNatClampNeg ((up2 (up2 s0 (0) 0 0) (5) (Int32.toNatClampNeg ((up2 s0 (0) 0 0) 0 2)) a1) 0 2)) a2) (6) (Int32.toNatClampNeg ((up2 (up2 (up2 s0 (0) 0 0) (5) (Int32.toNatClampNeg ((up2 s0 (0) 0 0) 0 2)) a1) (18) (Int32.toNatClampNeg ((up2 (up2 s0 (0) 0 0) (5) (Int32.toNatClampNeg ((up2 s0 (0) 0 0) 0 2)) a1) 0 2)) a2) 0 2)) a3) 0 2)) 1) 0 2)) 1) (0)) 2 (((up2 (up2 (up2 (up2 (up2 (up2 s0 (0) 0 0) (5) (Int32.toNatClampNeg ((up2 s0 (0) 0 0) 0 2)) a1) (18) (Int32.toNatClampNeg ((up2 (up2 s0 (0) 0 0) (5) (Int32.toNatClampNeg ((up2 s0 (0) 0 0) 0 2)) a1) 0 2)) a2) (6) (Int32.toNatClampNeg ((up2 (up2 (up2 s0 (0) 0 0) (5) (Int32.toNatClampNeg ((up2 s0 (0) 0 0) 0 2)) a1) (18) (Int32.toNatClampNeg ((up2 (up2 s0 (0) 0 0) (5) (Int32.toNatClampNeg ((up2 s0 (0) 0 0) 0 2)) a1) 0 2)) a2) 0 2)) a3) (10) (Int32.toNatClampNeg ((up2 (up2 (up2 (up2 s0 (0) 0 0) (5) (Int32.toNatClampNeg ((up2 s0 (0) 0 0) 0 2)) a1) (18) (Int32.toNatClampNeg ((up2 (up2 s0 (0) 0 0) (5) (Int32.toNatClampNeg ((up2 s0 (0) 0 0) 0 2)) a1) 0 2)) a2) (6) (Int32.toNatClampNeg ((up2 (up2 (up2 s0 (0) 0 0) (5) (Int32.toNatClampNeg ((up2 s0 (0) 0 0) 0 2)) a1) (18) (Int32.toNatClampNeg ((up2 (up2 s0 (0) 0 0) (5) (Int32.toNatClampNeg ((up2 s0 (0) 0 0) 0 2)) a1) 0 2)) a2) 0 2)) a3) 0 2)) 1) (11) (Int32.toNatClampNeg ((up2 (up2 (up2 (up2 (up2 s0 (0) 0 0) (5) (Int32.toNatClampNeg ((up2 s0 (0) 0 0) 0 2)) a1) (18) (Int32.toNatClampNeg ((up2 (up2 s0 (0) 0 0) (5) (Int32.toNatClampNeg ((up2 s0 (0) 0 0) 0 2)) a1) 0 2)) a2) (6) (Int32.toNatClampNeg ((up2 (up2 (up2 s0 (0) 0 0) (5) (Int32.toNatClampNeg ((up2 s0 (0) 0 0) 0 2)) a1) (18) (Int32.toNatClampNeg ((up2 (up2 s0 (0) 0 0) (5) (Int32.toNatClampNeg ((up2 s0 (0) 0 0) 0 2)) a1) 0 2)) a2) 0 2)) a3) (10) (Int32.toNatClampNeg ((up2 (up2 (up2 (up2 s0 (0) 0 0) (5) (Int32.toNatClampNeg ((up2 s0 (0) 0 0) 0 2)) a1) (18) (Int32.toNatClampNeg ((up2 (up2 s0 (0) 0 0) (5) (Int32.toNatClampNeg ((up2 s0 (0) 0 0) 0 2)) a1) 0 2)) a2) (6) (Int32.toNatClampNeg ((up2 (up2 (up2 s0 (0) 0 0) (5) (Int32.toNatClampNeg ((up2 s0 (0) 0 0) 0 2)) a1) (18) (Int32.toNatClampNeg ((up2 (up2 s0 (0) 0 0) (5) (Int32.toNatClampNeg ((up2 s0 (0) 0 0) 0 2)) a1) 0 2)) a2) 0 2)) a3) 0 2)) 1) 0 2)) 1) 0 2) + 1)) hw cT_0
        have hw : mwG G A ad (encT G.2 ad (up2 (up2 (up2 (up2 (up2 (up2 (up2 s0 (0) 0 0) (5) (Int32.toNatClampNeg ((up2 s0 (0) 0 0) 0 2)) a1) (18) (Int32.toNatClampNeg ((up2 (up2 s0 (0) 0 0) (5) (Int32.toNatClampNeg ((up2 s0 (0) 0 0) 0 2)) a1) 0 2)) a2) (6) (Int32.toNatClampNeg ((up2 (up2 (up2 s0 (0) 0 0) (5) (Int32.toNatClampNeg ((up2 s0 (0) 0 0) 0 2)) a1) (18) (Int32.toNatClampNeg ((up2 (up2 s0 (0) 0 0) (5) (Int32.toNatClampNeg ((up2 s0 (0) 0 0) 0 2)) a1) 0 2)) a2) 0 2)) a3) (10) (Int32.toNatClampNeg ((up2 (up2 (up2 (up2 s0 (0) 0 0) (5) (Int32.toNatClampNeg ((up2 s0 (0) 0 0) 0 2)) a1) (18) (Int32.toNatClampNeg ((up2 (up2 s0 (0) 0 0) (5) (Int32.toNatClampNeg ((up2 s0 (0) 0 0) 0 2)) a1) 0 2)) a2) (6) (Int32.toNatClampNeg ((up2 (up2 (up2 s0 (0) 0 0) (5) (Int32.toNatClampNeg ((up2 s0 (0) 0 0) 0 2)) a1) (18) (Int32.toNatClampNeg ((up2 (up2 s0 (0) 0 0) (5) (Int32.toNatClampNeg ((up2 s0 (0) 0 0) 0 2)) a1) 0 2)) a2) 0 2)) a3) 0 2)) 1) (11) (Int32.toNatClampNeg ((up2 (up2 (up2 (up2 (up2 s0 (0) 0 0) (5) (Int32.toNatClampNeg ((up2 s0 (0) 0 0) 0 2)) a1) (18) (Int32.toNatClampNeg ((up2 (up2 s0 (0) 0 0) (5) (Int32.toNatClampNeg ((up2 s0 (0) 0 0) 0 2)) a1) 0 2)) a2) (6) (Int32.toNatClampNeg ((up2 (up2 (up2 s0 (0) 0 0) (5) (Int32.toNatClampNeg ((up2 s0 (0) 0 0) 0 2)) a1) (18) (Int32.toNatClampNeg ((up2 (up2 s0 (0) 0 0) (5) (Int32.toNatClampNeg ((up2 s0 (0) 0 0) 0 2)) a1) 0 2)) a2) 0 2)) a3) (10) (Int32.toNatClampNeg ((up2 (up2 (up2 (up2 s0 (0) 0 0) (5) (Int32.toNatClampNeg ((up2 s0 (0) 0 0) 0 2)) a1) (18) (Int32.toNatClampNeg ((up2 (up2 s0 (0) 0 0) (5) (Int32.toNatClampNeg ((up2 s0 (0) 0 0) 0 2)) a1) 0 2)) a2) (6) (Int32.toNatClampNeg ((up2 (up2 (up2 s0 (0) 0 0) (5) (Int32.toNatClampNeg ((up2 s0 (0) 0 0) 0 2)) a1) (18) (Int32.toNatClampNeg ((up2 (up2 s0 (0) 0 0) (5) (Int32.toNatClampNeg ((up2 s0 (0) 0 0) 0 2)) a1) 0 2)) a2) 0 2)) a3) 0 2)) 1) 0 2)) 1) (0) 2 (((up2 (up2 (up2 (up2 (up2 (up2 s0 (0) 0 0) (5) (Int32.toNatClampNeg ((up2 s0 (0) 0 0) 0 2)) a1) (18) (Int32.toNatClampNeg ((up2 (up2 s0 (0) 0 0) (5) (Int32.toNatClampNeg ((up2 s0 (0) 0 0) 0 2)) a1) 0 2)) a2) (6) (Int32.toNatClampNeg ((up2 (up2 (up2 s0 (0) 0 0) (5) (Int32.toNatClampNeg ((up2 s0 (0) 0 0) 0 2)) a1) (18) (Int32.toNatClampNeg ((up2 (up2 s0 (0) 0 0) (5) (Int32.toNatClampNeg ((up2 s0 (0) 0 0) 0 2)) a1) 0 2)) a2) 0 2)) a3) (10) (Int32.toNatClampNeg ((up2 (up2 (up2 (up2 s0 (0) 0 0) (5) (Int32.toNatClampNeg ((up2 s0 (0) 0 0) 0 2)) a1) (18) (Int32.toNatClampNeg ((up2 (up2 s0 (0) 0 0) (5) (Int32.toNatClampNeg ((up2 s0 (0) 0 0) 0 2)) a1) 0 2)) a2) (6) (Int32.toNatClampNeg ((up2 (up2 (up2 s0 (0) 0 0) (5) (Int32.toNatClampNeg ((up2 s0 (0) 0 0) 0 2)) a1) (18) (Int32.toNatClampNeg ((up2 (up2 s0 (0) 0 0) (5) (Int32.toNatClampNeg ((up2 s0 (0) 0 0) 0 2)) a1) 0 2)) a2) 0 2)) a3) 0 2)) 1) (11) (Int32.toNatClampNeg ((up2 (up2 (up2 (up2 (up2 s0 (0) 0 0) (5) (Int32.toNatClampNeg ((up2 s0 (0) 0 0) 0 2)) a1) (18) (Int32.toNatClampNeg ((up2 (up2 s0 (0) 0 0) (5) (Int32.toNatClampNeg ((up2 s0 (0) 0 0) 0 2)) a1) 0 2)) a2) (6) (Int32.toNatClampNeg ((up2 (up2 (up2 s0 (0) 0 0) (5) (Int32.toNatClampNeg ((up2 s0 (0) 0 0) 0 2)) a1) (18) (Int32.toNatClampNeg ((up2 (up2 s0 (0) 0 0) (5) (Int32.toNatClampNeg ((up2 s0 (0) 0 0) 0 2)) a1) 0 2)) a2) 0 2)) a3) (10) (Int32.toNatClampNeg ((up2 (up2 (up2 (up2 s0 (0) 0 0) (5) (Int32.toNatClampNeg ((up2 s0 (0) 0 0) 0 2)) a1) (18) (Int32.toNatClampNeg ((up2 (up2 s0 (0) 0 0) (5) (Int32.toNatClampNeg ((up2 s0 (0) 0 0) 0 2)) a1) 0 2)) a2) (6) (Int32.toNatClampNeg ((up2 (up2 (up2 s0 (0) 0 0) (5) (Int32.toNatClampNeg ((up2 s0 (0) 0 0) 0 2)) a1) (18) (Int32.toNatClampNeg ((up2 (up2 s0 (0) 0 0) (5) (Int32.toNatClampNeg ((up2 s0 (0) 0 0) 0 2)) a1) 0 2)) a2) 0 2)) a3) 0 2)) 1) 0 2)) 1) 0 2) + 1))) H := hw
        refine lv_aload_n hx hb d_T_release_95 rfl (lv_at hl 0 rfl) ?_
        refine mw_get (v := .int ((up2 (up2 (up2 (up2 (up2 (up2 (up2 s0 (0) 0 0) (5) (Int32.toNatClampNeg ((up2 s0 (0) 0 0) 0 2)) a1) (18) (Int32.toNatClampNeg ((up2 (up2 s0 (0) 0 0) (5) (Int32.toNatClampNeg ((up2 s0 (0) 0 0) 0 2)) a1) 0 2)) a2) (6) (Int32.toNatClampNeg ((up2 (up2 (up2 s0 (0) 0 0) (5) (Int32.toNatClampNeg ((up2 s0 (0) 0 0) 0 2)) a1) (18) (Int32.toNatClampNeg ((up2 (up2 s0 (0) 0 0) (5) (Int32.toNatClampNeg ((up2 s0 (0) 0 0) 0 2)) a1) 0 2)) a2) 0 2)) a3) (10) (Int32.toNatClampNeg ((up2 (up2 (up2 (up2 s0 (0) 0 0) (5) (Int32.toNatClampNeg ((up2 s0 (0) 0 0) 0 2)) a1) (18) (Int32.toNatClampNeg ((up2 (up2 s0 (0) 0 0) (5) (Int32.toNatClampNeg ((up2 s0 (0) 0 0) 0 2)) a1) 0 2)) a2) (6) (Int32.toNatClampNeg ((up2 (up2 (up2 s0 (0) 0 0) (5) (Int32.toNatClampNeg ((up2 s0 (0) 0 0) 0 2)) a1) (18) (Int32.toNatClampNeg ((up2 (up2 s0 (0) 0 0) (5) (Int32.toNatClampNeg ((up2 s0 (0) 0 0) 0 2)) a1) 0 2)) a2) 0 2)) a3) 0 2)) 1) (11) (Int32.toNatClampNeg ((up2 (up2 (up2 (up2 (up2 s0 (0) 0 0) (5) (Int32.toNatClampNeg ((up2 s0 (0) 0 0) 0 2)) a1) (18) (Int32.toNatClampNeg ((up2 (up2 s0 (0) 0 0) (5) (Int32.toNatClampNeg ((up2 s0 (0) 0 0) 0 2)) a1) 0 2)) a2) (6) (Int32.toNatClampNeg ((up2 (up2 (up2 s0 (0) 0 0) (5) (Int32.toNatClampNeg ((up2 s0 (0) 0 0) 0 2)) a1) (18) (Int32.toNatClampNeg ((up2 (up2 s0 (0) 0 0) (5) (Int32.toNatClampNeg ((up2 s0 (0) 0 0) 0 2)) a1) 0 2)) a2) 0 2)) a3) (10) (Int32.toNatClampNeg ((up2 (up2 (up2 (up2 s0 (0) 0 0) (5) (Int32.toNatClampNeg ((up2 s0 (0) 0 0) 0 2)) a1) (18) (Int32.toNatClampNeg ((up2 (up2 s0 (0) 0 0) (5) (Int32.toNatClampNeg ((up2 s0 (0) 0 0) 0 2)) a1) 0 2)) a2) (6) (Int32.toNatClampNeg ((up2 (up2 (up2 s0 (0) 0 0) (5) (Int32.toNatClampNeg ((up2 s0 (0) 0 0) 0 2)) a1) (18) (Int32.toNatClampNeg ((up2 (up2 s0 (0) 0 0) (5) (Int32.toNatClampNeg ((up2 s0 (0) 0 0) 0 2)) a1) 0 2)) a2) 0 2)) a3) 0 2)) 1) 0 2)) 1) (0) 2 (((up2 (up2 (up2 (up2 (up2 (up2 s0 (0) 0 0) (5) (Int32.toNatClampNeg ((up2 s0 (0) 0 0) 0 2)) a1) (18) (Int32.toNatClampNeg ((up2 (up2 s0 (0) 0 0) (5) (Int32.toNatClampNeg ((up2 s0 (0) 0 0) 0 2)) a1) 0 2)) a2) (6) (Int32.toNatClampNeg ((up2 (up2 (up2 s0 (0) 0 0) (5) (Int32.toNatClampNeg ((up2 s0 (0) 0 0) 0 2)) a1) (18) (Int32.toNatClampNeg ((up2 (up2 s0 (0) 0 0) (5) (Int32.toNatClampNeg ((up2 s0 (0) 0 0) 0 2)) a1) 0 2)) a2) 0 2)) a3) (10) (Int32.toNatClampNeg ((up2 (up2 (up2 (up2 s0 (0) 0 0) (5) (Int32.toNatClampNeg ((up2 s0 (0) 0 0) 0 2)) a1) (18) (Int32.toNatClampNeg ((up2 (up2 s0 (0) 0 0) (5) (Int32.toNatClampNeg ((up2 s0 (0) 0 0) 0 2)) a1) 0 2)) a2) (6) (Int32.toNatClampNeg ((up2 (up2 (up2 s0 (0) 0 0) (5) (Int32.toNatClampNeg ((up2 s0 (0) 0 0) 0 2)) a1) (18) (Int32.toNatClampNeg ((up2 (up2 s0 (0) 0 0) (5) (Int32.toNatClampNeg ((up2 s0 (0) 0 0) 0 2)) a1) 0 2)) a2) 0 2)) a3) 0 2)) 1) (11) (Int32.toNatClampNeg ((up2 (up2 (up2 (up2 (up2 s0 (0) 0 0) (5) (Int32.toNatClampNeg ((up2 s0 (0) 0 0) 0 2)) a1) (18) (Int32.toNatClampNeg ((up2 (up2 s0 (0) 0 0) (5) (Int32.toNatClampNeg ((up2 s0 (0) 0 0) 0 2)) a1) 0 2)) a2) (6) (Int32.toNatClampNeg ((up2 (up2 (up2 s0 (0) 0 0) (5) (Int32.toNatClampNeg ((up2 s0 (0) 0 0) 0 2)) a1) (18) (Int32.toNatClampNeg ((up2 (up2 s0 (0) 0 0) (5) (Int32.toNatClampNeg ((up2 s0 (0) 0 0) 0 2)) a1) 0 2)) a2) 0 2)) a3) (10) (Int32.toNatClampNeg ((up2 (up2 (up2 (up2 s0 (0) 0 0) (5) (Int32.toNatClampNeg ((up2 s0 (0) 0 0) 0 2)) a1) (18) (Int32.toNatClampNeg ((up2 (up2 s0 (0) 0 0) (5) (Int32.toNatClampNeg ((up2 s0 (0) 0 0) 0 2)) a1) 0 2)) a2) (6) (Int32.toNatClampNeg ((up2 (up2 (up2 s0 (0) 0 0) (5) (Int32.toNatClampNeg ((up2 s0 (0) 0 0) 0 2)) a1) (18) (Int32.toNatClampNeg ((up2 (up2 s0 (0) 0 0) (5) (Int32.toNatClampNeg ((up2 s0 (0) 0 0) 0 2)) a1) 0 2)) a2) 0 2)) a3) 0 2)) 1) 0 2)) 1) 0 2) + 1)) 0 2)) hx hb hts in_T hown hK.1 hw (0) cT_0 rfl 2 (by decide) (hts _ tw_411) rfl d_T_release_96 ?_
        refine lv_iconst (v := 1) hx hb d_T_release_99 (by decide) ?_
        refine lv_isub hx hb d_T_release_100 ?_
        have e9 : f_T_release s0 a1 a2 a3 = (((up2 (up2 (up2 (up2 (up2 (up2 (up2 s0 (0) 0 0) (5) (Int32.toNatClampNeg ((up2 s0 (0) 0 0) 0 2)) a1) (18) (Int32.toNatClampNeg ((up2 (up2 s0 (0) 0 0) (5) (Int32.toNatClampNeg ((up2 s0 (0) 0 0) 0 2)) a1) 0 2)) a2) (6) (Int32.toNatClampNeg ((up2 (up2 (up2 s0 (0) 0 0) (5) (Int32.toNatClampNeg ((up2 s0 (0) 0 0) 0 2)) a1) (18) (Int32.toNatClampNeg ((up2 (up2 s0 (0) 0 0) (5) (Int32.toNatClampNeg ((up2 s0 (0) 0 0) 0 2)) a1) 0 2)) a2) 0 2)) a3) (10) (Int32.toNatClampNeg ((up2 (up2 (up2 (up2 s0 (0) 0 0) (5) (Int32.toNatClampNeg ((up2 s0 (0) 0 0) 0 2)) a1) (18) (Int32.toNatClampNeg ((up2 (up2 s0 (0) 0 0) (5) (Int32.toNatClampNeg ((up2 s0 (0) 0 0) 0 2)) a1) 0 2)) a2) (6) (Int32.toNatClampNeg ((up2 (up2 (up2 s0 (0) 0 0) (5) (Int32.toNatClampNeg ((up2 s0 (0) 0 0) 0 2)) a1) (18) (Int32.toNatClampNeg ((up2 (up2 s0 (0) 0 0) (5) (Int32.toNatClampNeg ((up2 s0 (0) 0 0) 0 2)) a1) 0 2)) a2) 0 2)) a3) 0 2)) 1) (11) (Int32.toNatClampNeg ((up2 (up2 (up2 (up2 (up2 s0 (0) 0 0) (5) (Int32.toNatClampNeg ((up2 s0 (0) 0 0) 0 2)) a1) (18) (Int32.toNatClampNeg ((up2 (up2 s0 (0) 0 0) (5) (Int32.toNatClampNeg ((up2 s0 (0) 0 0) 0 2)) a1) 0 2)) a2) (6) (Int32.toNatClampNeg ((up2 (up2 (up2 s0 (0) 0 0) (5) (Int32.toNatClampNeg ((up2 s0 (0) 0 0) 0 2)) a1) (18) (Int32.toNatClampNeg ((up2 (up2 s0 (0) 0 0) (5) (Int32.toNatClampNeg ((up2 s0 (0) 0 0) 0 2)) a1) 0 2)) a2) 0 2)) a3) (10) (Int32.toNatClampNeg ((up2 (up2 (up2 (up2 s0 (0) 0 0) (5) (Int32.toNatClampNeg ((up2 s0 (0) 0 0) 0 2)) a1) (18) (Int32.toNatClampNeg ((up2 (up2 s0 (0) 0 0) (5) (Int32.toNatClampNeg ((up2 s0 (0) 0 0) 0 2)) a1) 0 2)) a2) (6) (Int32.toNatClampNeg ((up2 (up2 (up2 s0 (0) 0 0) (5) (Int32.toNatClampNeg ((up2 s0 (0) 0 0) 0 2)) a1) (18) (Int32.toNatClampNeg ((up2 (up2 s0 (0) 0 0) (5) (Int32.toNatClampNeg ((up2 s0 (0) 0 0) 0 2)) a1) 0 2)) a2) 0 2)) a3) 0 2)) 1) 0 2)) 1) (0) 2 (((up2 (up2 (up2 (up2 (up2 (up2 s0 (0) 0 0) (5) (Int32.toNatClampNeg ((up2 s0 (0) 0 0) 0 2)) a1) (18) (Int32.toNatClampNeg ((up2 (up2 s0 (0) 0 0) (5) (Int32.toNatClampNeg ((up2 s0 (0) 0 0) 0 2)) a1) 0 2)) a2) (6) (Int32.toNatClampNeg ((up2 (up2 (up2 s0 (0) 0 0) (5) (Int32.toNatClampNeg ((up2 s0 (0) 0 0) 0 2)) a1) (18) (Int32.toNatClampNeg ((up2 (up2 s0 (0) 0 0) (5) (Int32.toNatClampNeg ((up2 s0 (0) 0 0) 0 2)) a1) 0 2)) a2) 0 2)) a3) (10) (Int32.toNatClampNeg ((up2 (up2 (up2 (up2 s0 (0) 0 0) (5) (Int32.toNatClampNeg ((up2 s0 (0) 0 0) 0 2)) a1) (18) (Int32.toNatClampNeg ((up2 (up2 s0 (0) 0 0) (5) (Int32.toNatClampNeg ((up2 s0 (0) 0 0) 0 2)) a1) 0 2)) a2) (6) (Int32.toNatClampNeg ((up2 (up2 (up2 s0 (0) 0 0) (5) (Int32.toNatClampNeg ((up2 s0 (0) 0 0) 0 2)) a1) (18) (Int32.toNatClampNeg ((up2 (up2 s0 (0) 0 0) (5) (Int32.toNatClampNeg ((up2 s0 (0) 0 0) 0 2)) a1) 0 2)) a2) 0 2)) a3) 0 2)) 1) (11) (Int32.toNatClampNeg ((up2 (up2 (up2 (up2 (up2 s0 (0) 0 0) (5) (Int32.toNatClampNeg ((up2 s0 (0) 0 0) 0 2)) a1) (18) (Int32.toNatClampNeg ((up2 (up2 s0 (0) 0 0) (5) (Int32.toNatClampNeg ((up2 s0 (0) 0 0) 0 2)) a1) 0 2)) a2) (6) (Int32.toNatClampNeg ((up2 (up2 (up2 s0 (0) 0 0) (5) (Int32.toNatClampNeg ((up2 s0 (0) 0 0) 0 2)) a1) (18) (Int32.toNatClampNeg ((up2 (up2 s0 (0) 0 0) (5) (Int32.toNatClampNeg ((up2 s0 (0) 0 0) 0 2)) a1) 0 2)) a2) 0 2)) a3) (10) (Int32.toNatClampNeg ((up2 (up2 (up2 (up2 s0 (0) 0 0) (5) (Int32.toNatClampNeg ((up2 s0 (0) 0 0) 0 2)) a1) (18) (Int32.toNatClampNeg ((up2 (up2 s0 (0) 0 0) (5) (Int32.toNatClampNeg ((up2 s0 (0) 0 0) 0 2)) a1) 0 2)) a2) (6) (Int32.toNatClampNeg ((up2 (up2 (up2 s0 (0) 0 0) (5) (Int32.toNatClampNeg ((up2 s0 (0) 0 0) 0 2)) a1) (18) (Int32.toNatClampNeg ((up2 (up2 s0 (0) 0 0) (5) (Int32.toNatClampNeg ((up2 s0 (0) 0 0) 0 2)) a1) 0 2)) a2) 0 2)) a3) 0 2)) 1) 0 2)) 1) 0 2) + 1)) 0 2) - 1, up2 (up2 (up2 (up2 (up2 (up2 (up2 s0 (0) 0 0) (5) (Int32.toNatClampNeg ((up2 s0 (0) 0 0) 0 2)) a1) (18) (Int32.toNatClampNeg ((up2 (up2 s0 (0) 0 0) (5) (Int32.toNatClampNeg ((up2 s0 (0) 0 0) 0 2)) a1) 0 2)) a2) (6) (Int32.toNatClampNeg ((up2 (up2 (up2 s0 (0) 0 0) (5) (Int32.toNatClampNeg ((up2 s0 (0) 0 0) 0 2)) a1) (18) (Int32.toNatClampNeg ((up2 (up2 s0 (0) 0 0) (5) (Int32.toNatClampNeg ((up2 s0 (0) 0 0) 0 2)) a1) 0 2)) a2) 0 2)) a3) (10) (Int32.toNatClampNeg ((up2 (up2 (up2 (up2 s0 (0) 0 0) (5) (Int32.toNatClampNeg ((up2 s0 (0) 0 0) 0 2)) a1) (18) (Int32.toNatClampNeg ((up2 (up2 s0 (0) 0 0) (5) (Int32.toNatClampNeg ((up2 s0 (0) 0 0) 0 2)) a1) 0 2)) a2) (6) (Int32.toNatClampNeg ((up2 (up2 (up2 s0 (0) 0 0) (5) (Int32.toNatClampNeg ((up2 s0 (0) 0 0) 0 2)) a1) (18) (Int32.toNatClampNeg ((up2 (up2 s0 (0) 0 0) (5) (Int32.toNatClampNeg ((up2 s0 (0) 0 0) 0 2)) a1) 0 2)) a2) 0 2)) a3) 0 2)) 1) (11) (Int32.toNatClampNeg ((up2 (up2 (up2 (up2 (up2 s0 (0) 0 0) (5) (Int32.toNatClampNeg ((up2 s0 (0) 0 0) 0 2)) a1) (18) (Int32.toNatClampNeg ((up2 (up2 s0 (0) 0 0) (5) (Int32.toNatClampNeg ((up2 s0 (0) 0 0) 0 2)) a1) 0 2)) a2) (6) (Int32.toNatClampNeg ((up2 (up2 (up2 s0 (0) 0 0) (5) (Int32.toNatClampNeg ((up2 s0 (0) 0 0) 0 2)) a1) (18) (Int32.toNatClampNeg ((up2 (up2 s0 (0) 0 0) (5) (Int32.toNatClampNeg ((up2 s0 (0) 0 0) 0 2)) a1) 0 2)) a2) 0 2)) a3) (10) (Int32.toNatClampNeg ((up2 (up2 (up2 (up2 s0 (0) 0 0) (5) (Int32.toNatClampNeg ((up2 s0 (0) 0 0) 0 2)) a1) (18) (Int32.toNatClampNeg ((up2 (up2 s0 (0) 0 0) (5) (Int32.toNatClampNeg ((up2 s0 (0) 0 0) 0 2)) a1) 0 2)) a2) (6) (Int32.toNatClampNeg ((up2 (up2 (up2 s0 (0) 0 0) (5) (Int32.toNatClampNeg ((up2 s0 (0) 0 0) 0 2)) a1) (18) (Int32.toNatClampNeg ((up2 (up2 s0 (0) 0 0) (5) (Int32.toNatClampNeg ((up2 s0 (0) 0 0) 0 2)) a1) 0 2)) a2) 0 2)) a3) 0 2)) 1) 0 2)) 1) (0) 2 (((up2 (up2 (up2 (up2 (up2 (up2 s0 (0) 0 0) (5) (Int32.toNatClampNeg ((up2 s0 (0) 0 0) 0 2)) a1) (18) (Int32.toNatClampNeg ((up2 (up2 s0 (0) 0 0) (5) (Int32.toNatClampNeg ((up2 s0 (0) 0 0) 0 2)) a1) 0 2)) a2) (6) (Int32.toNatClampNeg ((up2 (up2 (up2 s0 (0) 0 0) (5) (Int32.toNatClampNeg ((up2 s0 (0) 0 0) 0 2)) a1) (18) (Int32.toNatClampNeg ((up2 (up2 s0 (0) 0 0) (5) (Int32.toNatClampNeg ((up2 s0 (0) 0 0) 0 2)) a1) 0 2)) a2) 0 2)) a3) (10) (Int32.toNatClampNeg ((up2 (up2 (up2 (up2 s0 (0) 0 0) (5) (Int32.toNatClampNeg ((up2 s0 (0) 0 0) 0 2)) a1) (18) (Int32.toNatClampNeg ((up2 (up2 s0 (0) 0 0) (5) (Int32.toNatClampNeg ((up2 s0 (0) 0 0) 0 2)) a1) 0 2)) a2) (6) (Int32.toNatClampNeg ((up2 (up2 (up2 s0 (0) 0 0) (5) (Int32.toNatClampNeg ((up2 s0 (0) 0 0) 0 2)) a1) (18) (Int32.toNatClampNeg ((up2 (up2 s0 (0) 0 0) (5) (Int32.toNatClampNeg ((up2 s0 (0) 0 0) 0 2)) a1) 0 2)) a2) 0 2)) a3) 0 2)) 1) (11) (Int32.toNatClampNeg ((up2 (up2 (up2 (up2 (up2 s0 (0) 0 0) (5) (Int32.toNatClampNeg ((up2 s0 (0) 0 0) 0 2)) a1) (18) (Int32.toNatClampNeg ((up2 (up2 s0 (0) 0 0) (5) (Int32.toNatClampNeg ((up2 s0 (0) 0 0) 0 2)) a1) 0 2)) a2) (6) (Int32.toNatClampNeg ((up2 (up2 (up2 s0 (0) 0 0) (5) (Int32.toNatClampNeg ((up2 s0 (0) 0 0) 0 2)) a1) (18) (Int32.toNatClampNeg ((up2 (up2 s0 (0) 0 0) (5) (Int32.toNatClampNeg ((up2 s0 (0) 0 0) 0 2)) a1) 0 2)) a2) 0 2)) a3) (10) (Int32.toNatClampNeg ((up2 (up2 (up2 (up2 s0 (0) 0 0) (5) (Int32.toNatClampNeg ((up2 s0 (0) 0 0) 0 2)) a1) (18) (Int32.toNatClampNeg ((up2 (up2 s0 (0) 0 0) (5) (Int32.toNatClampNeg ((up2 s0 (0) 0 0) 0 2)) a1) 0 2)) a2) (6) (Int32.toNatClampNeg ((up2 (up2 (up2 s0 (0) 0 0) (5) (Int32.toNatClampNeg ((up2 s0 (0) 0 0) 0 2)) a1) (18) (Int32.toNatClampNeg ((up2 (up2 s0 (0) 0 0) (5) (Int32.toNatClampNeg ((up2 s0 (0) 0 0) 0 2)) a1) 0 2)) a2) 0 2)) a3) 0 2)) 1) 0 2)) 1) 0 2) + 1)) := by unfold f_T_release; exact (if_neg h1).trans ((if_neg h2).trans (if_neg h3))
        exact mw_iret hx hb hr rfl hw hS (congrArg (fun z => some (Value.int z.1)) e9.symm) ⟨rfl, congrArg (fun z => encT G.2 ad z.2) e9.symm⟩ hlocks d_T_release_101
      · skip
        refine lv_iconst (v := -1) hx hb d_T_release_33 (by decide) ?_
        have e9 : f_T_release s0 a1 a2 a3 = (-1, up2 s0 (0) 0 0) := by unfold f_T_release; exact (if_neg h1).trans ((if_neg h2).trans (if_pos h3))
        exact mw_iret hx hb hr rfl hw hS (congrArg (fun z => some (Value.int z.1)) e9.symm) ⟨rfl, congrArg (fun z => encT G.2 ad z.2) e9.symm⟩ hlocks d_T_release_34

def f_T_machine (s0 : S2) (a1 : Int32) (a2 : Int32) : Int32 × S2 :=
  if ((up2 s0 (0) 0 0) 0 3) = 30 then
    (-1, up2 s0 (0) 0 0)
  else
    if (f_T_isWithin a1 0 2) = 0 then
      (-1, up2 s0 (0) 0 0)
    else
      if (f_T_isWithin a2 0 3) = 0 then
        (-1, up2 s0 (0) 0 0)
      else
        (((up2 (up2 (up2 (up2 (up2 (up2 s0 (0) 0 0) (20) (Int32.toNatClampNeg ((up2 s0 (0) 0 0) 0 3)) a1) (21) (Int32.toNatClampNeg ((up2 (up2 s0 (0) 0 0) (20) (Int32.toNatClampNeg ((up2 s0 (0) 0 0) 0 3)) a1) 0 3)) a2) (22) (Int32.toNatClampNeg ((up2 (up2 (up2 s0 (0) 0 0) (20) (Int32.toNatClampNeg ((up2 s0 (0) 0 0) 0 3)) a1) (21) (Int32.toNatClampNeg ((up2 (up2 s0 (0) 0 0) (20) (Int32.toNatClampNeg ((up2 s0 (0) 0 0) 0 3)) a1) 0 3)) a2) 0 3)) (-1)) (23) (Int32.toNatClampNeg ((up2 (up2 (up2 (up2 s0 (0) 0 0) (20) (Int32.toNatClampNeg ((up2 s0 (0) 0 0) 0 3)) a1) (21) (Int32.toNatClampNeg ((up2 (up2 s0 (0) 0 0) (20) (Int32.toNatClampNeg ((up2 s0 (0) 0 0) 0 3)) a1) 0 3)) a2) (22) (Int32.toNatClampNeg ((up2 (up2 (up2 s0 (0) 0 0) (20) (Int32.toNatClampNeg ((up2 s0 (0) 0 0) 0 3)) a1) (21) (Int32.toNatClampNeg ((up2 (up2 s0 (0) 0 0) (20) (Int32.toNatClampNeg ((up2 s0 (0) 0 0) 0 3)) a1) 0 3)) a2) 0 3)) (-1)) 0 3)) (-1)) (0) 3 (((up2 (up2 (up2 (up2 (up2 s0 (0) 0 0) (20) (Int32.toNatClampNeg ((up2 s0 (0) 0 0) 0 3)) a1) (21) (Int32.toNatClampNeg ((up2 (up2 s0 (0) 0 0) (20) (Int32.toNatClampNeg ((up2 s0 (0) 0 0) 0 3)) a1) 0 3)) a2) (22) (Int32.toNatClampNeg ((up2 (up2 (up2 s0 (0) 0 0) (20) (Int32.toNatClampNeg ((up2 s0 (0) 0 0) 0 3)) a1) (21) (Int32.toNatClampNeg ((up2 (up2 s0 (0) 0 0) (20) (Int32.toNatClampNeg ((up2 s0 (0) 0 0) 0 3)) a1) 0 3)) a2) 0 3)) (-1)) (23) (Int32.toNatClampNeg ((up2 (up2 (up2 (up2 s0 (0) 0 0) (20) (Int32.toNatClampNeg ((up2 s0 (0) 0 0) 0 3)) a1) (21) (Int32.toNatClampNeg ((up2 (up2 s0 (0) 0 0) (20) (Int32.toNatClampNeg ((up2 s0 (0) 0 0) 0 3)) a1) 0 3)) a2) (22) (Int32.toNatClampNeg ((up2 (up2 (up2 s0 (0) 0 0) (20) (Int32.toNatClampNeg ((up2 s0 (0) 0 0) 0 3)) a1) (21) (Int32.toNatClampNeg ((up2 (up2 s0 (0) 0 0) (20) (Int32.toNatClampNeg ((up2 s0 (0) 0 0) 0 3)) a1) 0 3)) a2) 0 3)) (-1)) 0 3)) (-1)) 0 3) + 1)) 0 3) - 1, up2 (up2 (up2 (up2 (up2 (up2 s0 (0) 0 0) (20) (Int32.toNatClampNeg ((up2 s0 (0) 0 0) 0 3)) a1) (21) (Int32.toNatClampNeg ((up2 (up2 s0 (0) 0 0) (20) (Int32.toNatClampNeg ((up2 s0 (0) 0 0) 0 3)) a1) 0 3)) a2) (22) (Int32.toNatClampNeg ((up2 (up2 (up2 s0 (0) 0 0) (20) (Int32.toNatClampNeg ((up2 s0 (0) 0 0) 0 3)) a1) (21) (Int32.toNatClampNeg ((up2 (up2 s0 (0) 0 0) (20) (Int32.toNatClampNeg ((up2 s0 (0) 0 0) 0 3)) a1) 0 3)) a2) 0 3)) (-1)) (23) (Int32.toNatClampNeg ((up2 (up2 (up2 (up2 s0 (0) 0 0) (20) (Int32.toNatClampNeg ((up2 s0 (0) 0 0) 0 3)) a1) (21) (Int32.toNatClampNeg ((up2 (up2 s0 (0) 0 0) (20) (Int32.toNatClampNeg ((up2 s0 (0) 0 0) 0 3)) a1) 0 3)) a2) (22) (Int32.toNatClampNeg ((up2 (up2 (up2 s0 (0) 0 0) (20) (Int32.toNatClampNeg ((up2 s0 (0) 0 0) 0 3)) a1) (21) (Int32.toNatClampNeg ((up2 (up2 s0 (0) 0 0) (20) (Int32.toNatClampNeg ((up2 s0 (0) 0 0) 0 3)) a1) 0 3)) a2) 0 3)) (-1)) 0 3)) (-1)) (0) 3 (((up2 (up2 (up2 (up2 (up2 s0 (0) 0 0) (20) (Int32.toNatClampNeg ((up2 s0 (0) 0 0) 0 3)) a1) (21) (Int32.toNatClampNeg ((up2 (up2 s0 (0) 0 0) (20) (Int32.toNatClampNeg ((up2 s0 (0) 0 0) 0 3)) a1) 0 3)) a2) (22) (Int32.toNatClampNeg ((up2 (up2 (up2 s0 (0) 0 0) (20) (Int32.toNatClampNeg ((up2 s0 (0) 0 0) 0 3)) a1) (21) (Int32.toNatClampNeg ((up2 (up2 s0 (0) 0 0) (20) (Int32.toNatClampNeg ((up2 s0 (0) 0 0) 0 3)) a1) 0 3)) a2) 0 3)) (-1)) (23) (Int32.toNatClampNeg ((up2 (up2 (up2 (up2 s0 (0) 0 0) (20) (Int32.toNatClampNeg ((up2 s0 (0) 0 0) 0 3)) a1) (21) (Int32.toNatClampNeg ((up2 (up2 s0 (0) 0 0) (20) (Int32.toNatClampNeg ((up2 s0 (0) 0 0) 0 3)) a1) 0 3)) a2) (22) (Int32.toNatClampNeg ((up2 (up2 (up2 s0 (0) 0 0) (20) (Int32.toNatClampNeg ((up2 s0 (0) 0 0) 0 3)) a1) (21) (Int32.toNatClampNeg ((up2 (up2 s0 (0) 0 0) (20) (Int32.toNatClampNeg ((up2 s0 (0) 0 0) 0 3)) a1) 0 3)) a2) 0 3)) (-1)) 0 3)) (-1)) 0 3) + 1))
set_option maxHeartbeats 4000000 in
set_option maxRecDepth 100000 in
theorem cc_T_machine (l : Launch) (G : Gx) (A : Nat → Prop) (ad : Nat → Nat) (s0 : S2) (a1 : Int32) (a2 : Int32) (hW : Wt s0) : Met l y_T_machine ws_T_machine { frames := 1, cells := 0, slots := 0, locals := 22 } (PG G [.ref (ad (0)), .int (a1), .int (a2)] A ad (encT G.2 ad s0)) (EG G A (some (.int (f_T_machine s0 a1 a2).1)) ad (encT G.2 ad ((f_T_machine s0 a1 a2).2))) 0 0 A := by
  refine Met.ofW (cc := c_T_machine) (maxL := 3) (ret := (some .int)) (by decide) rfl ?_
  intro p e s m args below meth c s₁ B hml hv
  obtain ⟨rfl, hw, hK⟩ := hv
  have hx := B.exec
  have hb := B.bytes
  have hr := B.returns
  have hts : ∀ w ∈ tbG, w.before [.ref (ad (0)), .int (a1), .int (a2)].toArray s = true := fun w h => atoms_spec (ws := ws_T_machine) B.pre w (List.mem_cons_of_mem _ h)
  have hown : s.vm.findClass "RollStagesModel" = some m.cls := findClass_of_methodNamed B.named
  have hlocks := B.notSynchronized
  have hS : va_S A s.heap s.heap [] := va_S.rf
  have hw : mwG G A ad (encT G.2 ad s0) s.heap := hw
  have hl := lv_entry ([.ref (ad (0)), .int (a1), .int (a2)]) (n := 3) (Nat.le_of_ble_eq_true rfl)
  rw [lg_entry_eq]
  generalize (lg_sl ([.ref (ad (0)), .int (a1), .int (a2)]) ++ List.replicate (3 - (lg_sl ([.ref (ad (0)), .int (a1), .int (a2)])).length) Slot.unset).toArray = ls at hl ⊢
  have hl : lv_has ls 3 [(0, .ref (ad (0))), (1, .int (a1)), (2, .int (a2))] := hl
  refine lv_aload_n hx hb d_T_machine_0 rfl (lv_at hl 0 rfl) ?_
  refine lv_iconst (v := 0) hx hb d_T_machine_1 (by decide) ?_
  refine mw_put (v := .int (0)) hx hb hts in_T ty_T ty_T_ok n_T hown hK.1 hw hS (0) cT_0 rfl 0 (by decide) (hts _ tw_409) rfl rfl rfl (Nat.le_of_ble_eq_true rfl) d_T_machine_2 (fun H locs hw hS => ?_)
  replace hw := mw_encT (r := upd (s0 (0)) 0 0) hw cT_0
  have hw : mwG G A ad (encT G.2 ad (up2 s0 (0) 0 0)) H := hw
  refine lv_aload_n hx hb d_T_machine_5 rfl (lv_at hl 0 rfl) ?_
  refine mw_get (v := .int ((up2 s0 (0) 0 0) 0 3)) hx hb hts in_T hown hK.1 hw (0) cT_0 rfl 3 (by decide) (hts _ tw_412) rfl d_T_machine_6 ?_
  refine lv_bipush (v := 30) hx hb d_T_machine_9 (by decide) ?_
  refine lv_icmp_eq (tgt := 32) hx hb d_T_machine_11 (by decide) (fun h1 => ?_) (fun h1 => ?_)
  · skip
    refine lv_iconst (v := -1) hx hb d_T_machine_32 (by decide) ?_
    have e9 : f_T_machine s0 a1 a2 = (-1, up2 s0 (0) 0 0) := by unfold f_T_machine; exact if_pos h1
    exact mw_iret hx hb hr rfl hw hS (congrArg (fun z => some (Value.int z.1)) e9.symm) ⟨rfl, congrArg (fun z => encT G.2 ad z.2) e9.symm⟩ hlocks d_T_machine_33
  · skip
    refine lv_iload_n hx hb d_T_machine_14 rfl (lv_at hl 1 rfl) ?_
    refine lv_iconst (v := 0) hx hb d_T_machine_15 (by decide) ?_
    refine lv_iconst (v := 2) hx hb d_T_machine_16 (by decide) ?_
    refine gS (As := [.int (a1), .int (0), .int (2)]) (rest := []) (st1 := [.int (f_T_isWithin a1 0 2)]) ⟨hx, hb, hml, hown, hts⟩ (cc_T_isWithin l G A ad  (up2 s0 (0) 0 0) a1 0 2) tw_510 tw_508 tw_509 tw_4 hd_T_isWithin rfl rfl ⟨Nat.le_of_ble_eq_true rfl, Nat.le_of_ble_eq_true rfl⟩ hK hw hS hl.1 rfl (Nat.le_of_ble_eq_true rfl) ⟨Nat.zero_le _, Nat.zero_le _⟩ d_T_machine_17 rfl (fun H locs hw hS => ?_)
    refine lv_if_eq (tgt := 32) hx hb d_T_machine_20 (by decide) (fun h2 => ?_) (fun h2 => ?_)
    · skip
      refine lv_iconst (v := -1) hx hb d_T_machine_32 (by decide) ?_
      have e9 : f_T_machine s0 a1 a2 = (-1, up2 s0 (0) 0 0) := by unfold f_T_machine; exact (if_neg h1).trans (if_pos h2)
      exact mw_iret hx hb hr rfl hw hS (congrArg (fun z => some (Value.int z.1)) e9.symm) ⟨rfl, congrArg (fun z => encT G.2 ad z.2) e9.symm⟩ hlocks d_T_machine_33
    · skip
      refine lv_iload_n hx hb d_T_machine_23 rfl (lv_at hl 2 rfl) ?_
      refine lv_iconst (v := 0) hx hb d_T_machine_24 (by decide) ?_
      refine lv_iconst (v := 3) hx hb d_T_machine_25 (by decide) ?_
      refine gS (As := [.int (a2), .int (0), .int (3)]) (rest := []) (st1 := [.int (f_T_isWithin a2 0 3)]) ⟨hx, hb, hml, hown, hts⟩ (cc_T_isWithin l G A ad  (up2 s0 (0) 0 0) a2 0 3) tw_510 tw_508 tw_509 tw_4 hd_T_isWithin rfl rfl ⟨Nat.le_of_ble_eq_true rfl, Nat.le_of_ble_eq_true rfl⟩ hK hw hS hl.1 rfl (Nat.le_of_ble_eq_true rfl) ⟨Nat.zero_le _, Nat.zero_le _⟩ d_T_machine_26 rfl (fun H locs hw hS => ?_)
      refine lv_if_ne (tgt := 34) hx hb d_T_machine_29 (by decide) (fun h3 => ?_) (fun h3 => ?_)
      · skip
        refine lv_aload_n hx hb d_T_machine_34 rfl (lv_at hl 0 rfl) ?_
        refine mw_get (v := .ref (ad (20))) hx hb hts in_T hown hK.1 hw (0) cT_0 rfl 20 (by decide) (hts _ tw_429) rfl d_T_machine_35 ?_
        refine lv_aload_n hx hb d_T_machine_38 rfl (lv_at hl 0 rfl) ?_
        refine mw_get (v := .int ((up2 s0 (0) 0 0) 0 3)) hx hb hts in_T hown hK.1 hw (0) cT_0 rfl 3 (by decide) (hts _ tw_412) rfl d_T_machine_39 ?_
        refine lv_iload_n hx hb d_T_machine_42 rfl (lv_at hl 1 rfl) ?_
        refine mw_iast hx hb hK.1 hw hS (20) 0 cT_20 rfl (m_in (Wt_c hW) h1) d_T_machine_43 (fun H locs hw hS => ?_)
        replace hw := mw_encT (r := upd ((up2 s0 (0) 0 0) (20)) (Int32.toNatClampNeg ((up2 s0 (0) 0 0) 0 3)) a1) hw cT_20
        have hw : mwG G A ad (encT G.2 ad (up2 (up2 s0 (0) 0 0) (20) (Int32.toNatClampNeg ((up2 s0 (0) 0 0) 0 3)) a1)) H := hw
        refine lv_aload_n hx hb d_T_machine_44 rfl (lv_at hl 0 rfl) ?_
        refine mw_get (v := .ref (ad (21))) hx hb hts in_T hown hK.1 hw (0) cT_0 rfl 21 (by decide) (hts _ tw_430) rfl d_T_machine_45 ?_
        refine lv_aload_n hx hb d_T_machine_48 rfl (lv_at hl 0 rfl) ?_
        refine mw_get (v := .int ((up2 (up2 s0 (0) 0 0) (20) (Int32.toNatClampNeg ((up2 s0 (0) 0 0) 0 3)) a1) 0 3)) hx hb hts in_T hown hK.1 hw (0) cT_0 rfl 3 (by decide) (hts _ tw_412) rfl d_T_machine_49 ?_
        refine lv_iload_n hx hb d_T_machine_52 rfl (lv_at hl 2 rfl) ?_
        refine mw_iast hx hb hK.1 hw hS (21) 0 cT_21 rfl (by simp only [up2_ne (k := 20) (k' := 0) (by decide)]; exact m_in (Wt_c hW) h1) d_T_machine_53 (fun H locs hw hS => ?_)
        replace hw := mw_encT (r := upd ((up2 (up2 s0 (0) 0 0) (20) (Int32.toNatClampNeg ((up2 s0 (0) 0 0) 0 3)) a1) (21)) (Int32.toNatClampNeg ((up2 (up2 s0 (0) 0 0) (20) (Int32.toNatClampNeg ((up2 s0 (0) 0 0) 0 3)) a1) 0 3)) a2) hw cT_21
        have hw : mwG G A ad (encT G.2 ad (up2 (up2 (up2 s0 (0) 0 0) (20) (Int32.toNatClampNeg ((up2 s0 (0) 0 0) 0 3)) a1) (21) (Int32.toNatClampNeg ((up2 (up2 s0 (0) 0 0) (20) (Int32.toNatClampNeg ((up2 s0 (0) 0 0) 0 3)) a1) 0 3)) a2)) H := hw
        refine lv_aload_n hx hb d_T_machine_54 rfl (lv_at hl 0 rfl) ?_
        refine mw_get (v := .ref (ad (22))) hx hb hts in_T hown hK.1 hw (0) cT_0 rfl 22 (by decide) (hts _ tw_431) rfl d_T_machine_55 ?_
        refine lv_aload_n hx hb d_T_machine_58 rfl (lv_at hl 0 rfl) ?_
        refine mw_get (v := .int ((up2 (up2 (up2 s0 (0) 0 0) (20) (Int32.toNatClampNeg ((up2 s0 (0) 0 0) 0 3)) a1) (21) (Int32.toNatClampNeg ((up2 (up2 s0 (0) 0 0) (20) (Int32.toNatClampNeg ((up2 s0 (0) 0 0) 0 3)) a1) 0 3)) a2) 0 3)) hx hb hts in_T hown hK.1 hw (0) cT_0 rfl 3 (by decide) (hts _ tw_412) rfl d_T_machine_59 ?_
        refine lv_iconst (v := -1) hx hb d_T_machine_62 (by decide) ?_
        refine mw_iast hx hb hK.1 hw hS (22) 0 cT_22 rfl (by simp only [up2_ne (k := 20) (k' := 0) (by decide), up2_ne (k := 21) (k' := 0) (by decide)]; exact m_in (Wt_c hW) h1) d_T_machine_63 (fun H locs hw hS => ?_)
        replace hw := mw_encT (r := upd ((up2 (up2 (up2 s0 (0) 0 0) (20) (Int32.toNatClampNeg ((up2 s0 (0) 0 0) 0 3)) a1) (21) (Int32.toNatClampNeg ((up2 (up2 s0 (0) 0 0) (20) (Int32.toNatClampNeg ((up2 s0 (0) 0 0) 0 3)) a1) 0 3)) a2) (22)) (Int32.toNatClampNeg ((up2 (up2 (up2 s0 (0) 0 0) (20) (Int32.toNatClampNeg ((up2 s0 (0) 0 0) 0 3)) a1) (21) (Int32.toNatClampNeg ((up2 (up2 s0 (0) 0 0) (20) (Int32.toNatClampNeg ((up2 s0 (0) 0 0) 0 3)) a1) 0 3)) a2) 0 3)) (-1)) hw cT_22
        have hw : mwG G A ad (encT G.2 ad (up2 (up2 (up2 (up2 s0 (0) 0 0) (20) (Int32.toNatClampNeg ((up2 s0 (0) 0 0) 0 3)) a1) (21) (Int32.toNatClampNeg ((up2 (up2 s0 (0) 0 0) (20) (Int32.toNatClampNeg ((up2 s0 (0) 0 0) 0 3)) a1) 0 3)) a2) (22) (Int32.toNatClampNeg ((up2 (up2 (up2 s0 (0) 0 0) (20) (Int32.toNatClampNeg ((up2 s0 (0) 0 0) 0 3)) a1) (21) (Int32.toNatClampNeg ((up2 (up2 s0 (0) 0 0) (20) (Int32.toNatClampNeg ((up2 s0 (0) 0 0) 0 3)) a1) 0 3)) a2) 0 3)) (-1))) H := hw
        refine lv_aload_n hx hb d_T_machine_64 rfl (lv_at hl 0 rfl) ?_
        refine mw_get (v := .ref (ad (23))) hx hb hts in_T hown hK.1 hw (0) cT_0 rfl 23 (by decide) (hts _ tw_432) rfl d_T_machine_65 ?_
        refine lv_aload_n hx hb d_T_machine_68 rfl (lv_at hl 0 rfl) ?_
        refine mw_get (v := .int ((up2 (up2 (up2 (up2 s0 (0) 0 0) (20) (Int32.toNatClampNeg ((up2 s0 (0) 0 0) 0 3)) a1) (21) (Int32.toNatClampNeg ((up2 (up2 s0 (0) 0 0) (20) (Int32.toNatClampNeg ((up2 s0 (0) 0 0) 0 3)) a1) 0 3)) a2) (22) (Int32.toNatClampNeg ((up2 (up2 (up2 s0 (0) 0 0) (20) (Int32.toNatClampNeg ((up2 s0 (0) 0 0) 0 3)) a1) (21) (Int32.toNatClampNeg ((up2 (up2 s0 (0) 0 0) (20) (Int32.toNatClampNeg ((up2 s0 (0) 0 0) 0 3)) a1) 0 3)) a2) 0 3)) (-1)) 0 3)) hx hb hts in_T hown hK.1 hw (0) cT_0 rfl 3 (by decide) (hts _ tw_412) rfl d_T_machine_69 ?_
        refine lv_iconst (v := -1) hx hb d_T_machine_72 (by decide) ?_
        refine mw_iast hx hb hK.1 hw hS (23) 0 cT_23 rfl (by simp only [up2_ne (k := 20) (k' := 0) (by decide), up2_ne (k := 21) (k' := 0) (by decide), up2_ne (k := 22) (k' := 0) (by decide)]; exact m_in (Wt_c hW) h1) d_T_machine_73 (fun H locs hw hS => ?_)
        replace hw := mw_encT (r := upd ((up2 (up2 (up2 (up2 s0 (0) 0 0) (20) (Int32.toNatClampNeg ((up2 s0 (0) 0 0) 0 3)) a1) (21) (Int32.toNatClampNeg ((up2 (up2 s0 (0) 0 0) (20) (Int32.toNatClampNeg ((up2 s0 (0) 0 0) 0 3)) a1) 0 3)) a2) (22) (Int32.toNatClampNeg ((up2 (up2 (up2 s0 (0) 0 0) (20) (Int32.toNatClampNeg ((up2 s0 (0) 0 0) 0 3)) a1) (21) (Int32.toNatClampNeg ((up2 (up2 s0 (0) 0 0) (20) (Int32.toNatClampNeg ((up2 s0 (0) 0 0) 0 3)) a1) 0 3)) a2) 0 3)) (-1)) (23)) (Int32.toNatClampNeg ((up2 (up2 (up2 (up2 s0 (0) 0 0) (20) (Int32.toNatClampNeg ((up2 s0 (0) 0 0) 0 3)) a1) (21) (Int32.toNatClampNeg ((up2 (up2 s0 (0) 0 0) (20) (Int32.toNatClampNeg ((up2 s0 (0) 0 0) 0 3)) a1) 0 3)) a2) (22) (Int32.toNatClampNeg ((up2 (up2 (up2 s0 (0) 0 0) (20) (Int32.toNatClampNeg ((up2 s0 (0) 0 0) 0 3)) a1) (21) (Int32.toNatClampNeg ((up2 (up2 s0 (0) 0 0) (20) (Int32.toNatClampNeg ((up2 s0 (0) 0 0) 0 3)) a1) 0 3)) a2) 0 3)) (-1)) 0 3)) (-1)) hw cT_23
        have hw : mwG G A ad (encT G.2 ad (up2 (up2 (up2 (up2 (up2 s0 (0) 0 0) (20) (Int32.toNatClampNeg ((up2 s0 (0) 0 0) 0 3)) a1) (21) (Int32.toNatClampNeg ((up2 (up2 s0 (0) 0 0) (20) (Int32.toNatClampNeg ((up2 s0 (0) 0 0) 0 3)) a1) 0 3)) a2) (22) (Int32.toNatClampNeg ((up2 (up2 (up2 s0 (0) 0 0) (20) (Int32.toNatClampNeg ((up2 s0 (0) 0 0) 0 3)) a1) (21) (Int32.toNatClampNeg ((up2 (up2 s0 (0) 0 0) (20) (Int32.toNatClampNeg ((up2 s0 (0) 0 0) 0 3)) a1) 0 3)) a2) 0 3)) (-1)) (23) (Int32.toNatClampNeg ((up2 (up2 (up2 (up2 s0 (0) 0 0) (20) (Int32.toNatClampNeg ((up2 s0 (0) 0 0) 0 3)) a1) (21) (Int32.toNatClampNeg ((up2 (up2 s0 (0) 0 0) (20) (Int32.toNatClampNeg ((up2 s0 (0) 0 0) 0 3)) a1) 0 3)) a2) (22) (Int32.toNatClampNeg ((up2 (up2 (up2 s0 (0) 0 0) (20) (Int32.toNatClampNeg ((up2 s0 (0) 0 0) 0 3)) a1) (21) (Int32.toNatClampNeg ((up2 (up2 s0 (0) 0 0) (20) (Int32.toNatClampNeg ((up2 s0 (0) 0 0) 0 3)) a1) 0 3)) a2) 0 3)) (-1)) 0 3)) (-1))) H := hw
        refine lv_aload_n hx hb d_T_machine_74 rfl (lv_at hl 0 rfl) ?_
        refine lv_dup hx hb d_T_machine_75 rfl ?_
        refine mw_get (v := .int ((up2 (up2 (up2 (up2 (up2 s0 (0) 0 0) (20) (Int32.toNatClampNeg ((up2 s0 (0) 0 0) 0 3)) a1) (21) (Int32.toNatClampNeg ((up2 (up2 s0 (0) 0 0) (20) (Int32.toNatClampNeg ((up2 s0 (0) 0 0) 0 3)) a1) 0 3)) a2) (22) (Int32.toNatClampNeg ((up2 (up2 (up2 s0 (0) 0 0) (20) (Int32.toNatClampNeg ((up2 s0 (0) 0 0) 0 3)) a1) (21) (Int32.toNatClampNeg ((up2 (up2 s0 (0) 0 0) (20) (Int32.toNatClampNeg ((up2 s0 (0) 0 0) 0 3)) a1) 0 3)) a2) 0 3)) (-1)) (23) (Int32.toNatClampNeg ((up2 (up2 (up2 (up2 s0 (0) 0 0) (20) (Int32.toNatClampNeg ((up2 s0 (0) 0 0) 0 3)) a1) (21) (Int32.toNatClampNeg ((up2 (up2 s0 (0) 0 0) (20) (Int32.toNatClampNeg ((up2 s0 (0) 0 0) 0 3)) a1) 0 3)) a2) (22) (Int32.toNatClampNeg ((up2 (up2 (up2 s0 (0) 0 0) (20) (Int32.toNatClampNeg ((up2 s0 (0) 0 0) 0 3)) a1) (21) (Int32.toNatClampNeg ((up2 (up2 s0 (0) 0 0) (20) (Int32.toNatClampNeg ((up2 s0 (0) 0 0) 0 3)) a1) 0 3)) a2) 0 3)) (-1)) 0 3)) (-1)) 0 3)) hx hb hts in_T hown hK.1 hw (0) cT_0 rfl 3 (by decide) (hts _ tw_412) rfl d_T_machine_76 ?_
        refine lv_iconst (v := 1) hx hb d_T_machine_79 (by decide) ?_
        refine lv_iadd hx hb d_T_machine_80 ?_
        refine mw_put (v := .int (((up2 (up2 (up2 (up2 (up2 s0 (0) 0 0) (20) (Int32.toNatClampNeg ((up2 s0 (0) 0 0) 0 3)) a1) (21) (Int32.toNatClampNeg ((up2 (up2 s0 (0) 0 0) (20) (Int32.toNatClampNeg ((up2 s0 (0) 0 0) 0 3)) a1) 0 3)) a2) (22) (Int32.toNatClampNeg ((up2 (up2 (up2 s0 (0) 0 0) (20) (Int32.toNatClampNeg ((up2 s0 (0) 0 0) 0 3)) a1) (21) (Int32.toNatClampNeg ((up2 (up2 s0 (0) 0 0) (20) (Int32.toNatClampNeg ((up2 s0 (0) 0 0) 0 3)) a1) 0 3)) a2) 0 3)) (-1)) (23) (Int32.toNatClampNeg ((up2 (up2 (up2 (up2 s0 (0) 0 0) (20) (Int32.toNatClampNeg ((up2 s0 (0) 0 0) 0 3)) a1) (21) (Int32.toNatClampNeg ((up2 (up2 s0 (0) 0 0) (20) (Int32.toNatClampNeg ((up2 s0 (0) 0 0) 0 3)) a1) 0 3)) a2) (22) (Int32.toNatClampNeg ((up2 (up2 (up2 s0 (0) 0 0) (20) (Int32.toNatClampNeg ((up2 s0 (0) 0 0) 0 3)) a1) (21) (Int32.toNatClampNeg ((up2 (up2 s0 (0) 0 0) (20) (Int32.toNatClampNeg ((up2 s0 (0) 0 0) 0 3)) a1) 0 3)) a2) 0 3)) (-1)) 0 3)) (-1)) 0 3) + 1)) hx hb hts in_T ty_T ty_T_ok n_T hown hK.1 hw hS (0) cT_0 rfl 3 (by decide) (hts _ tw_412) rfl rfl rfl (Nat.le_of_ble_eq_true rfl) d_T_machine_81 (fun H locs hw hS => ?_)
        replace hw := mw_encT (r := upd ((up2 (up2 (up2 (up2 (up2 s0 (0) 0 0) (20) (Int32.toNatClampNeg ((up2 s0 (0) 0 0) 0 3)) a1) (21) (Int32.toNatClampNeg ((up2 (up2 s0 (0) 0 0) (20) (Int32.toNatClampNeg ((up2 s0 (0) 0 0) 0 3)) a1) 0 3)) a2) (22) (Int32.toNatClampNeg ((up2 (up2 (up2 s0 (0) 0 0) (20) (Int32.toNatClampNeg ((up2 s0 (0) 0 0) 0 3)) a1) (21) (Int32.toNatClampNeg ((up2 (up2 s0 (0) 0 0) (20) (Int32.toNatClampNeg ((up2 s0 (0) 0 0) 0 3)) a1) 0 3)) a2) 0 3)) (-1)) (23) (Int32.toNatClampNeg ((up2 (up2 (up2 (up2 s0 (0) 0 0) (20) (Int32.toNatClampNeg ((up2 s0 (0) 0 0) 0 3)) a1) (21) (Int32.toNatClampNeg ((up2 (up2 s0 (0) 0 0) (20) (Int32.toNatClampNeg ((up2 s0 (0) 0 0) 0 3)) a1) 0 3)) a2) (22) (Int32.toNatClampNeg ((up2 (up2 (up2 s0 (0) 0 0) (20) (Int32.toNatClampNeg ((up2 s0 (0) 0 0) 0 3)) a1) (21) (Int32.toNatClampNeg ((up2 (up2 s0 (0) 0 0) (20) (Int32.toNatClampNeg ((up2 s0 (0) 0 0) 0 3)) a1) 0 3)) a2) 0 3)) (-1)) 0 3)) (-1)) (0)) 3 (((up2 (up2 (up2 (up2 (up2 s0 (0) 0 0) (20) (Int32.toNatClampNeg ((up2 s0 (0) 0 0) 0 3)) a1) (21) (Int32.toNatClampNeg ((up2 (up2 s0 (0) 0 0) (20) (Int32.toNatClampNeg ((up2 s0 (0) 0 0) 0 3)) a1) 0 3)) a2) (22) (Int32.toNatClampNeg ((up2 (up2 (up2 s0 (0) 0 0) (20) (Int32.toNatClampNeg ((up2 s0 (0) 0 0) 0 3)) a1) (21) (Int32.toNatClampNeg ((up2 (up2 s0 (0) 0 0) (20) (Int32.toNatClampNeg ((up2 s0 (0) 0 0) 0 3)) a1) 0 3)) a2) 0 3)) (-1)) (23) (Int32.toNatClampNeg ((up2 (up2 (up2 (up2 s0 (0) 0 0) (20) (Int32.toNatClampNeg ((up2 s0 (0) 0 0) 0 3)) a1) (21) (Int32.toNatClampNeg ((up2 (up2 s0 (0) 0 0) (20) (Int32.toNatClampNeg ((up2 s0 (0) 0 0) 0 3)) a1) 0 3)) a2) (22) (Int32.toNatClampNeg ((up2 (up2 (up2 s0 (0) 0 0) (20) (Int32.toNatClampNeg ((up2 s0 (0) 0 0) 0 3)) a1) (21) (Int32.toNatClampNeg ((up2 (up2 s0 (0) 0 0) (20) (Int32.toNatClampNeg ((up2 s0 (0) 0 0) 0 3)) a1) 0 3)) a2) 0 3)) (-1)) 0 3)) (-1)) 0 3) + 1)) hw cT_0
        have hw : mwG G A ad (encT G.2 ad (up2 (up2 (up2 (up2 (up2 (up2 s0 (0) 0 0) (20) (Int32.toNatClampNeg ((up2 s0 (0) 0 0) 0 3)) a1) (21) (Int32.toNatClampNeg ((up2 (up2 s0 (0) 0 0) (20) (Int32.toNatClampNeg ((up2 s0 (0) 0 0) 0 3)) a1) 0 3)) a2) (22) (Int32.toNatClampNeg ((up2 (up2 (up2 s0 (0) 0 0) (20) (Int32.toNatClampNeg ((up2 s0 (0) 0 0) 0 3)) a1) (21) (Int32.toNatClampNeg ((up2 (up2 s0 (0) 0 0) (20) (Int32.toNatClampNeg ((up2 s0 (0) 0 0) 0 3)) a1) 0 3)) a2) 0 3)) (-1)) (23) (Int32.toNatClampNeg ((up2 (up2 (up2 (up2 s0 (0) 0 0) (20) (Int32.toNatClampNeg ((up2 s0 (0) 0 0) 0 3)) a1) (21) (Int32.toNatClampNeg ((up2 (up2 s0 (0) 0 0) (20) (Int32.toNatClampNeg ((up2 s0 (0) 0 0) 0 3)) a1) 0 3)) a2) (22) (Int32.toNatClampNeg ((up2 (up2 (up2 s0 (0) 0 0) (20) (Int32.toNatClampNeg ((up2 s0 (0) 0 0) 0 3)) a1) (21) (Int32.toNatClampNeg ((up2 (up2 s0 (0) 0 0) (20) (Int32.toNatClampNeg ((up2 s0 (0) 0 0) 0 3)) a1) 0 3)) a2) 0 3)) (-1)) 0 3)) (-1)) (0) 3 (((up2 (up2 (up2 (up2 (up2 s0 (0) 0 0) (20) (Int32.toNatClampNeg ((up2 s0 (0) 0 0) 0 3)) a1) (21) (Int32.toNatClampNeg ((up2 (up2 s0 (0) 0 0) (20) (Int32.toNatClampNeg ((up2 s0 (0) 0 0) 0 3)) a1) 0 3)) a2) (22) (Int32.toNatClampNeg ((up2 (up2 (up2 s0 (0) 0 0) (20) (Int32.toNatClampNeg ((up2 s0 (0) 0 0) 0 3)) a1) (21) (Int32.toNatClampNeg ((up2 (up2 s0 (0) 0 0) (20) (Int32.toNatClampNeg ((up2 s0 (0) 0 0) 0 3)) a1) 0 3)) a2) 0 3)) (-1)) (23) (Int32.toNatClampNeg ((up2 (up2 (up2 (up2 s0 (0) 0 0) (20) (Int32.toNatClampNeg ((up2 s0 (0) 0 0) 0 3)) a1) (21) (Int32.toNatClampNeg ((up2 (up2 s0 (0) 0 0) (20) (Int32.toNatClampNeg ((up2 s0 (0) 0 0) 0 3)) a1) 0 3)) a2) (22) (Int32.toNatClampNeg ((up2 (up2 (up2 s0 (0) 0 0) (20) (Int32.toNatClampNeg ((up2 s0 (0) 0 0) 0 3)) a1) (21) (Int32.toNatClampNeg ((up2 (up2 s0 (0) 0 0) (20) (Int32.toNatClampNeg ((up2 s0 (0) 0 0) 0 3)) a1) 0 3)) a2) 0 3)) (-1)) 0 3)) (-1)) 0 3) + 1))) H := hw
        refine lv_aload_n hx hb d_T_machine_84 rfl (lv_at hl 0 rfl) ?_
        refine mw_get (v := .int ((up2 (up2 (up2 (up2 (up2 (up2 s0 (0) 0 0) (20) (Int32.toNatClampNeg ((up2 s0 (0) 0 0) 0 3)) a1) (21) (Int32.toNatClampNeg ((up2 (up2 s0 (0) 0 0) (20) (Int32.toNatClampNeg ((up2 s0 (0) 0 0) 0 3)) a1) 0 3)) a2) (22) (Int32.toNatClampNeg ((up2 (up2 (up2 s0 (0) 0 0) (20) (Int32.toNatClampNeg ((up2 s0 (0) 0 0) 0 3)) a1) (21) (Int32.toNatClampNeg ((up2 (up2 s0 (0) 0 0) (20) (Int32.toNatClampNeg ((up2 s0 (0) 0 0) 0 3)) a1) 0 3)) a2) 0 3)) (-1)) (23) (Int32.toNatClampNeg ((up2 (up2 (up2 (up2 s0 (0) 0 0) (20) (Int32.toNatClampNeg ((up2 s0 (0) 0 0) 0 3)) a1) (21) (Int32.toNatClampNeg ((up2 (up2 s0 (0) 0 0) (20) (Int32.toNatClampNeg ((up2 s0 (0) 0 0) 0 3)) a1) 0 3)) a2) (22) (Int32.toNatClampNeg ((up2 (up2 (up2 s0 (0) 0 0) (20) (Int32.toNatClampNeg ((up2 s0 (0) 0 0) 0 3)) a1) (21) (Int32.toNatClampNeg ((up2 (up2 s0 (0) 0 0) (20) (Int32.toNatClampNeg ((up2 s0 (0) 0 0) 0 3)) a1) 0 3)) a2) 0 3)) (-1)) 0 3)) (-1)) (0) 3 (((up2 (up2 (up2 (up2 (up2 s0 (0) 0 0) (20) (Int32.toNatClampNeg ((up2 s0 (0) 0 0) 0 3)) a1) (21) (Int32.toNatClampNeg ((up2 (up2 s0 (0) 0 0) (20) (Int32.toNatClampNeg ((up2 s0 (0) 0 0) 0 3)) a1) 0 3)) a2) (22) (Int32.toNatClampNeg ((up2 (up2 (up2 s0 (0) 0 0) (20) (Int32.toNatClampNeg ((up2 s0 (0) 0 0) 0 3)) a1) (21) (Int32.toNatClampNeg ((up2 (up2 s0 (0) 0 0) (20) (Int32.toNatClampNeg ((up2 s0 (0) 0 0) 0 3)) a1) 0 3)) a2) 0 3)) (-1)) (23) (Int32.toNatClampNeg ((up2 (up2 (up2 (up2 s0 (0) 0 0) (20) (Int32.toNatClampNeg ((up2 s0 (0) 0 0) 0 3)) a1) (21) (Int32.toNatClampNeg ((up2 (up2 s0 (0) 0 0) (20) (Int32.toNatClampNeg ((up2 s0 (0) 0 0) 0 3)) a1) 0 3)) a2) (22) (Int32.toNatClampNeg ((up2 (up2 (up2 s0 (0) 0 0) (20) (Int32.toNatClampNeg ((up2 s0 (0) 0 0) 0 3)) a1) (21) (Int32.toNatClampNeg ((up2 (up2 s0 (0) 0 0) (20) (Int32.toNatClampNeg ((up2 s0 (0) 0 0) 0 3)) a1) 0 3)) a2) 0 3)) (-1)) 0 3)) (-1)) 0 3) + 1)) 0 3)) hx hb hts in_T hown hK.1 hw (0) cT_0 rfl 3 (by decide) (hts _ tw_412) rfl d_T_machine_85 ?_
        refine lv_iconst (v := 1) hx hb d_T_machine_88 (by decide) ?_
        refine lv_isub hx hb d_T_machine_89 ?_
        have e9 : f_T_machine s0 a1 a2 = (((up2 (up2 (up2 (up2 (up2 (up2 s0 (0) 0 0) (20) (Int32.toNatClampNeg ((up2 s0 (0) 0 0) 0 3)) a1) (21) (Int32.toNatClampNeg ((up2 (up2 s0 (0) 0 0) (20) (Int32.toNatClampNeg ((up2 s0 (0) 0 0) 0 3)) a1) 0 3)) a2) (22) (Int32.toNatClampNeg ((up2 (up2 (up2 s0 (0) 0 0) (20) (Int32.toNatClampNeg ((up2 s0 (0) 0 0) 0 3)) a1) (21) (Int32.toNatClampNeg ((up2 (up2 s0 (0) 0 0) (20) (Int32.toNatClampNeg ((up2 s0 (0) 0 0) 0 3)) a1) 0 3)) a2) 0 3)) (-1)) (23) (Int32.toNatClampNeg ((up2 (up2 (up2 (up2 s0 (0) 0 0) (20) (Int32.toNatClampNeg ((up2 s0 (0) 0 0) 0 3)) a1) (21) (Int32.toNatClampNeg ((up2 (up2 s0 (0) 0 0) (20) (Int32.toNatClampNeg ((up2 s0 (0) 0 0) 0 3)) a1) 0 3)) a2) (22) (Int32.toNatClampNeg ((up2 (up2 (up2 s0 (0) 0 0) (20) (Int32.toNatClampNeg ((up2 s0 (0) 0 0) 0 3)) a1) (21) (Int32.toNatClampNeg ((up2 (up2 s0 (0) 0 0) (20) (Int32.toNatClampNeg ((up2 s0 (0) 0 0) 0 3)) a1) 0 3)) a2) 0 3)) (-1)) 0 3)) (-1)) (0) 3 (((up2 (up2 (up2 (up2 (up2 s0 (0) 0 0) (20) (Int32.toNatClampNeg ((up2 s0 (0) 0 0) 0 3)) a1) (21) (Int32.toNatClampNeg ((up2 (up2 s0 (0) 0 0) (20) (Int32.toNatClampNeg ((up2 s0 (0) 0 0) 0 3)) a1) 0 3)) a2) (22) (Int32.toNatClampNeg ((up2 (up2 (up2 s0 (0) 0 0) (20) (Int32.toNatClampNeg ((up2 s0 (0) 0 0) 0 3)) a1) (21) (Int32.toNatClampNeg ((up2 (up2 s0 (0) 0 0) (20) (Int32.toNatClampNeg ((up2 s0 (0) 0 0) 0 3)) a1) 0 3)) a2) 0 3)) (-1)) (23) (Int32.toNatClampNeg ((up2 (up2 (up2 (up2 s0 (0) 0 0) (20) (Int32.toNatClampNeg ((up2 s0 (0) 0 0) 0 3)) a1) (21) (Int32.toNatClampNeg ((up2 (up2 s0 (0) 0 0) (20) (Int32.toNatClampNeg ((up2 s0 (0) 0 0) 0 3)) a1) 0 3)) a2) (22) (Int32.toNatClampNeg ((up2 (up2 (up2 s0 (0) 0 0) (20) (Int32.toNatClampNeg ((up2 s0 (0) 0 0) 0 3)) a1) (21) (Int32.toNatClampNeg ((up2 (up2 s0 (0) 0 0) (20) (Int32.toNatClampNeg ((up2 s0 (0) 0 0) 0 3)) a1) 0 3)) a2) 0 3)) (-1)) 0 3)) (-1)) 0 3) + 1)) 0 3) - 1, up2 (up2 (up2 (up2 (up2 (up2 s0 (0) 0 0) (20) (Int32.toNatClampNeg ((up2 s0 (0) 0 0) 0 3)) a1) (21) (Int32.toNatClampNeg ((up2 (up2 s0 (0) 0 0) (20) (Int32.toNatClampNeg ((up2 s0 (0) 0 0) 0 3)) a1) 0 3)) a2) (22) (Int32.toNatClampNeg ((up2 (up2 (up2 s0 (0) 0 0) (20) (Int32.toNatClampNeg ((up2 s0 (0) 0 0) 0 3)) a1) (21) (Int32.toNatClampNeg ((up2 (up2 s0 (0) 0 0) (20) (Int32.toNatClampNeg ((up2 s0 (0) 0 0) 0 3)) a1) 0 3)) a2) 0 3)) (-1)) (23) (Int32.toNatClampNeg ((up2 (up2 (up2 (up2 s0 (0) 0 0) (20) (Int32.toNatClampNeg ((up2 s0 (0) 0 0) 0 3)) a1) (21) (Int32.toNatClampNeg ((up2 (up2 s0 (0) 0 0) (20) (Int32.toNatClampNeg ((up2 s0 (0) 0 0) 0 3)) a1) 0 3)) a2) (22) (Int32.toNatClampNeg ((up2 (up2 (up2 s0 (0) 0 0) (20) (Int32.toNatClampNeg ((up2 s0 (0) 0 0) 0 3)) a1) (21) (Int32.toNatClampNeg ((up2 (up2 s0 (0) 0 0) (20) (Int32.toNatClampNeg ((up2 s0 (0) 0 0) 0 3)) a1) 0 3)) a2) 0 3)) (-1)) 0 3)) (-1)) (0) 3 (((up2 (up2 (up2 (up2 (up2 s0 (0) 0 0) (20) (Int32.toNatClampNeg ((up2 s0 (0) 0 0) 0 3)) a1) (21) (Int32.toNatClampNeg ((up2 (up2 s0 (0) 0 0) (20) (Int32.toNatClampNeg ((up2 s0 (0) 0 0) 0 3)) a1) 0 3)) a2) (22) (Int32.toNatClampNeg ((up2 (up2 (up2 s0 (0) 0 0) (20) (Int32.toNatClampNeg ((up2 s0 (0) 0 0) 0 3)) a1) (21) (Int32.toNatClampNeg ((up2 (up2 s0 (0) 0 0) (20) (Int32.toNatClampNeg ((up2 s0 (0) 0 0) 0 3)) a1) 0 3)) a2) 0 3)) (-1)) (23) (Int32.toNatClampNeg ((up2 (up2 (up2 (up2 s0 (0) 0 0) (20) (Int32.toNatClampNeg ((up2 s0 (0) 0 0) 0 3)) a1) (21) (Int32.toNatClampNeg ((up2 (up2 s0 (0) 0 0) (20) (Int32.toNatClampNeg ((up2 s0 (0) 0 0) 0 3)) a1) 0 3)) a2) (22) (Int32.toNatClampNeg ((up2 (up2 (up2 s0 (0) 0 0) (20) (Int32.toNatClampNeg ((up2 s0 (0) 0 0) 0 3)) a1) (21) (Int32.toNatClampNeg ((up2 (up2 s0 (0) 0 0) (20) (Int32.toNatClampNeg ((up2 s0 (0) 0 0) 0 3)) a1) 0 3)) a2) 0 3)) (-1)) 0 3)) (-1)) 0 3) + 1)) := by unfold f_T_machine; exact (if_neg h1).trans ((if_neg h2).trans (if_neg h3))
        exact mw_iret hx hb hr rfl hw hS (congrArg (fun z => some (Value.int z.1)) e9.symm) ⟨rfl, congrArg (fun z => encT G.2 ad z.2) e9.symm⟩ hlocks d_T_machine_90
      · skip
        refine lv_iconst (v := -1) hx hb d_T_machine_32 (by decide) ?_
        have e9 : f_T_machine s0 a1 a2 = (-1, up2 s0 (0) 0 0) := by unfold f_T_machine; exact (if_neg h1).trans ((if_neg h2).trans (if_pos h3))
        exact mw_iret hx hb hr rfl hw hS (congrArg (fun z => some (Value.int z.1)) e9.symm) ⟨rfl, congrArg (fun z => encT G.2 ad z.2) e9.symm⟩ hlocks d_T_machine_33

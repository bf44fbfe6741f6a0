def g_D_takeOneMore : Nat → S2 → Int32 → S2
  | 0, s1, _ => s1
  | n + 1, s1, x1 =>
    if (s1 4 3) ≤ x1 then
      s1
    else
      if (f_D_sizeAt s1 8 16 (s1 (5) (Int32.toNatClampNeg x1))) = 2147483647 then
        g_D_takeOneMore n s1 (x1 + 1)
      else
        g_D_takeOneMore n (f_D_lower s1 9 16 (s1 (6) (Int32.toNatClampNeg x1)) ((f_D_sizeAt s1 8 16 (s1 (5) (Int32.toNatClampNeg x1))) + (s1 (7) (Int32.toNatClampNeg x1)))) (x1 + 1)
def f_D_takeOneMore (s0 : S2)  : S2 :=
  g_D_takeOneMore 41 (f_A_fill s0 9 16 2147483647) 0
set_option maxHeartbeats 4000000 in
set_option maxRecDepth 100000 in
theorem cc_D_takeOneMore (l : Launch) (G : Gx) (A : Nat → Prop) (ad : Nat → Nat) (nr nm : Nat) (hnr : nr ≤ 16) (hnm : nm ≤ 30) (s0 : S2) (hct : 0 ≤ (s0 4 3).toInt ∧ (s0 4 3).toInt ≤ 40) : Met l y_D_takeOneMore ws_D_takeOneMore { frames := 2, cells := 0, slots := 0, locals := 44 } (PG G [.ref (ad (4))] A ad (encC G.2 ad nr nm s0)) (EG G A none ad (encC G.2 ad nr nm (f_D_takeOneMore s0))) 0 0 A := by
  refine Met.ofW (cc := c_D_takeOneMore) (maxL := 3) (ret := none) (by decide) rfl ?_
  intro p e s m args below meth c s₁ B hml hv
  obtain ⟨rfl, hw, hK⟩ := hv
  have hx := B.exec
  have hb := B.bytes
  have hr := B.returns
  have hts : ∀ w ∈ tbG, w.before [.ref (ad (4))].toArray s = true := fun w h => atoms_spec (ws := ws_D_takeOneMore) B.pre w (List.mem_cons_of_mem _ h)
  have hown : s.vm.findClass "RollStages$Deltas" = some m.cls := findClass_of_methodNamed B.named
  have hlocks := B.notSynchronized
  have hS : va_S A s.heap s.heap [] := va_S.rf
  have hw : mwG G A ad (encC G.2 ad nr nm s0) s.heap := hw
  have loop : ∀ (n : Nat) (s1 : S2) (x1 : Int32), (0 ≤ (s1 4 3).toInt ∧ (s1 4 3).toInt ≤ 40) ∧ 0 ≤ x1.toInt ∧ x1.toInt ≤ 40 ∧ 41 ≤ x1.toInt + n → ∀ (H : Heap) (locs : List Loc) (ls : Array Slot), mwG G A ad (encC G.2 ad nr nm s1) H → va_S A s.heap H locs → lv_has ls 3 [(0, .ref (ad (4))), (1, .int (x1))] → W p l e (headSpec ws_D_takeOneMore { frames := 2, cells := 0, slots := 0, locals := 44 }).room s m [.ref (ad (4))].toArray below meth c H locs 0 0 (MQ below (EG G A none ad (encC G.2 ad nr nm (g_D_takeOneMore n s1 x1))) [.ref (ad (4))].toArray s 0 0 A) (F0 m 11 ls []) := by
    intro n
    induction n with
    | zero =>
      intro s1 x1 hI
      exact absurd hI.2 (by omega)
    | succ n ih =>
      intro s1 x1 hI H locs ls hw hS hl
      refine lv_iload_n hx hb d_D_takeOneMore_11 rfl (lv_at hl 1 rfl) ?_
      refine lv_aload_n hx hb d_D_takeOneMore_12 rfl (lv_at hl 0 rfl) ?_
      refine mw_get (v := .int (s1 4 3)) hx hb hts in_D hown hK.1 hw (4) cC_4 rfl 3 (by decide) (hts _ tw_30) rfl d_D_takeOneMore_13 ?_
      refine lv_icmp_ge (tgt := 66) hx hb d_D_takeOneMore_16 (by decide) (fun h501 => ?_) (fun h501 => ?_)
      · skip
        have e9 : g_D_takeOneMore (n + 1) s1 x1 = s1 := by rw [g_D_takeOneMore]; exact if_pos h501
        exact mw_vret hx hb hr hw hS ⟨rfl, congrArg (fun z => encC G.2 ad nr nm z) e9.symm⟩ hlocks d_D_takeOneMore_66
      · skip
        refine lv_aload_n hx hb d_D_takeOneMore_19 rfl (lv_at hl 0 rfl) ?_
        refine mw_get (v := .ref (ad (8))) hx hb hts in_D hown hK.1 hw (4) cC_4 rfl 4 (by decide) (hts _ tw_31) rfl d_D_takeOneMore_20 ?_
        refine lv_aload_n hx hb d_D_takeOneMore_23 rfl (lv_at hl 0 rfl) ?_
        refine mw_get (v := .ref (ad (5))) hx hb hts in_D hown hK.1 hw (4) cC_4 rfl 0 (by decide) (hts _ tw_27) rfl d_D_takeOneMore_24 ?_
        refine lv_iload_n hx hb d_D_takeOneMore_27 rfl (lv_at hl 1 rfl) ?_
        refine mw_iald hx hb hK.1 hw (5) 0 cC_5 rfl (ct_in hI.1 hI.2.1 h501) d_D_takeOneMore_28 ?_
        refine gS (As := [.ref (ad (8)), .int (s1 (5) (Int32.toNatClampNeg x1))]) (rest := []) (st1 := [.int (f_D_sizeAt s1 8 16 (s1 (5) (Int32.toNatClampNeg x1)))]) ⟨hx, hb, hml, hown, hts⟩ (cc_D_sizeAt l G A ad nr nm hnr hnm s1 8 16 (fun _ => cC_8) (s1 (5) (Int32.toNatClampNeg x1)) (by decide)) tw_382 tw_380 tw_381 tw_2 hd_D_sizeAt rfl rfl ⟨Nat.le_of_ble_eq_true rfl, Nat.le_of_ble_eq_true rfl⟩ hK hw hS hl.1 rfl (Nat.le_of_ble_eq_true rfl) ⟨Nat.zero_le _, Nat.zero_le _⟩ d_D_takeOneMore_29 rfl (fun H locs hw hS => ?_)
        refine lv_istore_n (lv' := [(2, .int (f_D_sizeAt s1 8 16 (s1 (5) (Int32.toNatClampNeg x1)))), (0, .ref (ad (4))), (1, .int (x1))]) hx hb d_D_takeOneMore_32 rfl hl (by decide) rfl (fun ls hl => ?_)
        refine lv_iload_n hx hb d_D_takeOneMore_33 rfl (lv_at hl 0 rfl) ?_
        refine lv_ldc (v := 2147483647) hx hb hown (hts _ tw_371) d_D_takeOneMore_34 ?_
        refine lv_icmp_eq (tgt := 60) hx hb d_D_takeOneMore_36 (by decide) (fun h502 => ?_) (fun h502 => ?_)
        · skip
          refine lv_iinc (v := x1 + 1) (lv' := [(1, .int (x1 + 1)), (2, .int (f_D_sizeAt s1 8 16 (s1 (5) (Int32.toNatClampNeg x1)))), (0, .ref (ad (4)))]) hx hb d_D_takeOneMore_60 hl (k := 2) rfl (by first | rfl | decide) (by decide) rfl (fun ls hl => ?_)
          refine lv_goto (tgt := 11) hx hb d_D_takeOneMore_63 (by decide) ?_
          have e9 : g_D_takeOneMore (n + 1) s1 x1 = g_D_takeOneMore n s1 (x1 + 1) := by rw [g_D_takeOneMore]; exact (if_neg h501).trans (if_pos h502)
          rw [e9]
          exact ih s1 (x1 + 1) ⟨by first | exact hI.1 | (rw [lower_fr (by decide)]; exact hI.1), ct_S hI.1 hI.2 h501⟩ _ _ _ hw hS (lv_sub hl [2, 0] rfl)
        · skip
          refine lv_aload_n hx hb d_D_takeOneMore_39 rfl (lv_at hl 1 rfl) ?_
          refine mw_get (v := .ref (ad (9))) hx hb hts in_D hown hK.1 hw (4) cC_4 rfl 5 (by decide) (hts _ tw_32) rfl d_D_takeOneMore_40 ?_
          refine lv_aload_n hx hb d_D_takeOneMore_43 rfl (lv_at hl 1 rfl) ?_
          refine mw_get (v := .ref (ad (6))) hx hb hts in_D hown hK.1 hw (4) cC_4 rfl 1 (by decide) (hts _ tw_28) rfl d_D_takeOneMore_44 ?_
          refine lv_iload_n hx hb d_D_takeOneMore_47 rfl (lv_at hl 2 rfl) ?_
          refine mw_iald hx hb hK.1 hw (6) 0 cC_6 rfl (ct_in hI.1 hI.2.1 h501) d_D_takeOneMore_48 ?_
          refine lv_iload_n hx hb d_D_takeOneMore_49 rfl (lv_at hl 0 rfl) ?_
          refine lv_aload_n hx hb d_D_takeOneMore_50 rfl (lv_at hl 1 rfl) ?_
          refine mw_get (v := .ref (ad (7))) hx hb hts in_D hown hK.1 hw (4) cC_4 rfl 2 (by decide) (hts _ tw_29) rfl d_D_takeOneMore_51 ?_
          refine lv_iload_n hx hb d_D_takeOneMore_54 rfl (lv_at hl 2 rfl) ?_
          refine mw_iald hx hb hK.1 hw (7) 0 cC_7 rfl (ct_in hI.1 hI.2.1 h501) d_D_takeOneMore_55 ?_
          refine lv_iadd hx hb d_D_takeOneMore_56 ?_
          refine gS (As := [.ref (ad (9)), .int (s1 (6) (Int32.toNatClampNeg x1)), .int ((f_D_sizeAt s1 8 16 (s1 (5) (Int32.toNatClampNeg x1))) + (s1 (7) (Int32.toNatClampNeg x1)))]) (rest := []) (st1 := []) ⟨hx, hb, hml, hown, hts⟩ (cc_D_lower l G A ad nr nm hnr hnm s1 9 16 (fun _ => cC_9) (s1 (6) (Int32.toNatClampNeg x1)) ((f_D_sizeAt s1 8 16 (s1 (5) (Int32.toNatClampNeg x1))) + (s1 (7) (Int32.toNatClampNeg x1))) (by decide)) tw_375 tw_373 tw_374 tw_2 hd_D_lower rfl rfl ⟨Nat.le_of_ble_eq_true rfl, Nat.le_of_ble_eq_true rfl⟩ hK hw hS hl.1 rfl (Nat.le_of_ble_eq_true rfl) ⟨Nat.zero_le _, Nat.zero_le _⟩ d_D_takeOneMore_57 rfl (fun H locs hw hS => ?_)
          refine lv_iinc (v := x1 + 1) (lv' := [(1, .int (x1 + 1)), (2, .int (f_D_sizeAt s1 8 16 (s1 (5) (Int32.toNatClampNeg x1)))), (0, .ref (ad (4)))]) hx hb d_D_takeOneMore_60 hl (k := 2) rfl (by first | rfl | decide) (by decide) rfl (fun ls hl => ?_)
          refine lv_goto (tgt := 11) hx hb d_D_takeOneMore_63 (by decide) ?_
          have e9 : g_D_takeOneMore (n + 1) s1 x1 = g_D_takeOneMore n (f_D_lower s1 9 16 (s1 (6) (Int32.toNatClampNeg x1)) ((f_D_sizeAt s1 8 16 (s1 (5) (Int32.toNatClampNeg x1))) + (s1 (7) (Int32.toNatClampNeg x1)))) (x1 + 1) := by rw [g_D_takeOneMore]; exact (if_neg h501).trans (if_neg h502)
          rw [e9]
          exact ih (f_D_lower s1 9 16 (s1 (6) (Int32.toNatClampNeg x1)) ((f_D_sizeAt s1 8 16 (s1 (5) (Int32.toNatClampNeg x1))) + (s1 (7) (Int32.toNatClampNeg x1)))) (x1 + 1) ⟨by first | exact hI.1 | (rw [lower_fr (by decide)]; exact hI.1), ct_S hI.1 hI.2 h501⟩ _ _ _ hw hS (lv_sub hl [2, 0] rfl)
  have hl := lv_entry ([.ref (ad (4))]) (n := 3) (Nat.le_of_ble_eq_true rfl)
  rw [lg_entry_eq]
  generalize (lg_sl ([.ref (ad (4))]) ++ List.replicate (3 - (lg_sl ([.ref (ad (4))])).length) Slot.unset).toArray = ls at hl ⊢
  have hl : lv_has ls 3 [(0, .ref (ad (4)))] := hl
  refine lv_aload_n hx hb d_D_takeOneMore_0 rfl (lv_at hl 0 rfl) ?_
  refine mw_get (v := .ref (ad (9))) hx hb hts in_D hown hK.1 hw (4) cC_4 rfl 5 (by decide) (hts _ tw_32) rfl d_D_takeOneMore_1 ?_
  refine lv_ldc (v := 2147483647) hx hb hown (hts _ tw_371) d_D_takeOneMore_4 ?_
  refine gS (As := [.ref (ad (9)), .int (2147483647)]) (rest := []) (st1 := []) ⟨hx, hb, hml, hown, hts⟩ (cc_A_fill l G A ad nr nm hnr hnm s0 9 16 (fun _ => cC_9) 2147483647 (by decide)) tw_57 tw_372 tw_56 tw_3 hd_A_fill rfl rfl ⟨Nat.le_of_ble_eq_true rfl, Nat.le_of_ble_eq_true rfl⟩ hK hw hS hl.1 rfl (Nat.le_of_ble_eq_true rfl) ⟨Nat.zero_le _, Nat.zero_le _⟩ d_D_takeOneMore_6 rfl (fun H locs hw hS => ?_)
  refine lv_iconst (v := 0) hx hb d_D_takeOneMore_9 (by decide) ?_
  refine lv_istore_n (lv' := [(1, .int (0)), (0, .ref (ad (4)))]) hx hb d_D_takeOneMore_10 rfl hl (by decide) rfl (fun ls hl => ?_)
  have e9 : f_D_takeOneMore s0 = g_D_takeOneMore 41 (f_A_fill s0 9 16 2147483647) 0 := rfl
  rw [e9]
  exact loop 41 (f_A_fill s0 9 16 2147483647) 0 ⟨by rw [fill_fr _ _ _ _ (by decide)]; exact hct, by decide⟩ _ _ _ hw hS (lv_sub hl [1, 0] rfl)

def g_D_dropRevoked (nr nm : Nat) : Nat → S2 → Int32 → S2
  | 0, s1, _ => s1
  | n + 1, s1, x2 =>
    if 16 ≤ x2 then
      s1
    else
      if Int32.toNatClampNeg x2 < nr then
        if (s1 (10 + 3 * (Int32.toNatClampNeg x2)) 8) = 4 then
          g_D_dropRevoked nr nm n (up2 s1 (8) (Int32.toNatClampNeg x2) 2147483647) (x2 + 1)
        else
          g_D_dropRevoked nr nm n s1 (x2 + 1)
      else
        g_D_dropRevoked nr nm n s1 (x2 + 1)
def f_D_dropRevoked (nr nm : Nat) (s0 : S2)  : S2 :=
  g_D_dropRevoked nr nm 17 s0 0
set_option maxHeartbeats 4000000 in
set_option maxRecDepth 100000 in
theorem cc_D_dropRevoked (l : Launch) (G : Gx) (A : Nat → Prop) (ad : Nat → Nat) (nr nm : Nat) (hnr : nr ≤ 16) (hnm : nm ≤ 30) (s0 : S2)  : Met l y_D_dropRevoked ws_D_dropRevoked { frames := 0, cells := 0, slots := 0, locals := 0 } (PG G [.ref (ad (4)), .ref (ad (1))] A ad (encC G.2 ad nr nm s0)) (EG G A none ad (encC G.2 ad nr nm (f_D_dropRevoked nr nm s0))) 0 0 A := by
  refine Met.ofW (cc := c_D_dropRevoked) (maxL := 4) (ret := none) (by decide) rfl ?_
  intro p e s m args below meth c s₁ B hml hv
  obtain ⟨rfl, hw, hK⟩ := hv
  have hx := B.exec
  have hb := B.bytes
  have hr := B.returns
  have hts : ∀ w ∈ tbG, w.before [.ref (ad (4)), .ref (ad (1))].toArray s = true := fun w h => atoms_spec (ws := ws_D_dropRevoked) B.pre w (List.mem_cons_of_mem _ h)
  have hown : s.vm.findClass "RollStages$Deltas" = some m.cls := findClass_of_methodNamed B.named
  have hlocks := B.notSynchronized
  have hS : va_S A s.heap s.heap [] := va_S.rf
  have hw : mwG G A ad (encC G.2 ad nr nm s0) s.heap := hw
  have loop : ∀ (n : Nat) (s1 : S2) (x2 : Int32), 0 ≤ x2.toInt ∧ x2.toInt ≤ 16 ∧ 17 ≤ x2.toInt + n → ∀ (H : Heap) (locs : List Loc) (ls : Array Slot), mwG G A ad (encC G.2 ad nr nm s1) H → va_S A s.heap H locs → lv_has ls 4 [(0, .ref (ad (4))), (1, .ref (ad (1))), (2, .int (x2))] → W p l e (headSpec ws_D_dropRevoked { frames := 0, cells := 0, slots := 0, locals := 0 }).room s m [.ref (ad (4)), .ref (ad (1))].toArray below meth c H locs 0 0 (MQ below (EG G A none ad (encC G.2 ad nr nm (g_D_dropRevoked nr nm n s1 x2))) [.ref (ad (4)), .ref (ad (1))].toArray s 0 0 A) (F0 m 2 ls []) := by
    intro n
    induction n with
    | zero =>
      intro s1 x2 hI
      exact absurd hI (by omega)
    | succ n ih =>
      intro s1 x2 hI H locs ls hw hS hl
      refine lv_iload_n hx hb d_D_dropRevoked_2 rfl (lv_at hl 2 rfl) ?_
      refine lv_aload_n hx hb d_D_dropRevoked_3 rfl (lv_at hl 1 rfl) ?_
      refine mw_alen (v := 16) hx hb hK.1 hw (1) 1 cC_1 rfl (by first | rfl | decide) d_D_dropRevoked_4 ?_
      refine lv_icmp_ge (tgt := 44) hx hb d_D_dropRevoked_5 (by decide) (fun h501 => ?_) (fun h501 => ?_)
      · skip
        have e9 : g_D_dropRevoked nr nm (n + 1) s1 x2 = s1 := by rw [g_D_dropRevoked]; exact if_pos h501
        exact mw_vret hx hb hr hw hS ⟨rfl, congrArg (fun z => encC G.2 ad nr nm z) e9.symm⟩ hlocks d_D_dropRevoked_44
      · skip
        refine lv_iload_n hx hb d_D_dropRevoked_8 rfl (lv_at hl 2 rfl) ?_
        refine lv_bipush (v := 16) hx hb d_D_dropRevoked_9 (by decide) ?_
        refine lv_icmp_ge (tgt := 44) hx hb d_D_dropRevoked_11 (by decide) (fun h502 => ?_) (fun h502 => ?_)
        · exact absurd h502 h501
        · skip
          refine lv_aload_n hx hb d_D_dropRevoked_14 rfl (lv_at hl 1 rfl) ?_
          refine lv_iload_n hx hb d_D_dropRevoked_15 rfl (lv_at hl 2 rfl) ?_
          refine mw_aldq hx hb hK.1 hw (1) 1 cC_1 rfl (dr_in hI.1 h501) d_D_dropRevoked_16 ?_
          by_cases h503 : Int32.toNatClampNeg x2 < nr
          · skip
            refine W.eq (g2 := F0 m (16 + 1) ls [.ref (ad (10 + 3 * (Int32.toNatClampNeg x2)))]) (by rw [rfRel_p h503]) ?_
            refine lv_astore_n (lv' := [(3, .ref (ad (10 + 3 * (Int32.toNatClampNeg x2)))), (0, .ref (ad (4))), (1, .ref (ad (1))), (2, .int (x2))]) hx hb d_D_dropRevoked_17 rfl hl (by decide) rfl (fun ls hl => ?_)
            refine lv_aload_n hx hb d_D_dropRevoked_18 rfl (lv_at hl 0 rfl) ?_
            refine lv_ifnull hx hb d_D_dropRevoked_19 ?_
            refine lv_aload_n hx hb d_D_dropRevoked_22 rfl (lv_at hl 0 rfl) ?_
            refine mw_getN (v := .int (s1 (10 + 3 * (Int32.toNatClampNeg x2)) 8)) hx hb hts in_R hown hK.1 hw (10 + 3 * (Int32.toNatClampNeg x2)) (cC_rel hnr h503) rfl 8 (by decide) (hK.2.1 _ nf_4) rfl d_D_dropRevoked_23 ?_
            refine lv_iconst (v := 4) hx hb d_D_dropRevoked_26 (by decide) ?_
            refine lv_icmp_ne (tgt := 38) hx hb d_D_dropRevoked_27 (by decide) (fun h504 => ?_) (fun h504 => ?_)
            · skip
              refine lv_iinc (v := x2 + 1) (lv' := [(2, .int (x2 + 1)), (3, .ref (ad (10 + 3 * (Int32.toNatClampNeg x2)))), (0, .ref (ad (4))), (1, .ref (ad (1)))]) hx hb d_D_dropRevoked_38 hl (k := 3) rfl (by first | rfl | decide) (by decide) rfl (fun ls hl => ?_)
              refine lv_goto (tgt := 2) hx hb d_D_dropRevoked_41 (by decide) ?_
              have e9 : g_D_dropRevoked nr nm (n + 1) s1 x2 = g_D_dropRevoked nr nm n s1 (x2 + 1) := by rw [g_D_dropRevoked]; exact (if_neg h501).trans ((if_pos h503).trans (if_neg h504))
              rw [e9]
              exact ih s1 (x2 + 1) (dr_S hI h501) _ _ _ hw hS (lv_sub hl [2, 3, 0] rfl)
            · skip
              refine lv_aload_n hx hb d_D_dropRevoked_30 rfl (lv_at hl 1 rfl) ?_
              refine mw_get (v := .ref (ad (8))) hx hb hts in_D hown hK.1 hw (4) cC_4 rfl 4 (by decide) (hts _ tw_31) rfl d_D_dropRevoked_31 ?_
              refine lv_iload_n hx hb d_D_dropRevoked_34 rfl (lv_at hl 3 rfl) ?_
              refine lv_ldc (v := 2147483647) hx hb hown (hts _ tw_371) d_D_dropRevoked_35 ?_
              refine mw_iast hx hb hK.1 hw hS (8) 0 cC_8 rfl (dr_in hI.1 h501) d_D_dropRevoked_37 (fun H locs hw hS => ?_)
              replace hw := mw_encC (r := upd (s1 (8)) (Int32.toNatClampNeg x2) 2147483647) hw cC_8
              have hw : mwG G A ad (encC G.2 ad nr nm (up2 s1 (8) (Int32.toNatClampNeg x2) 2147483647)) H := hw
              refine lv_iinc (v := x2 + 1) (lv' := [(2, .int (x2 + 1)), (3, .ref (ad (10 + 3 * (Int32.toNatClampNeg x2)))), (0, .ref (ad (4))), (1, .ref (ad (1)))]) hx hb d_D_dropRevoked_38 hl (k := 3) rfl (by first | rfl | decide) (by decide) rfl (fun ls hl => ?_)
              refine lv_goto (tgt := 2) hx hb d_D_dropRevoked_41 (by decide) ?_
              have e9 : g_D_dropRevoked nr nm (n + 1) s1 x2 = g_D_dropRevoked nr nm n (up2 s1 (8) (Int32.toNatClampNeg x2) 2147483647) (x2 + 1) := by rw [g_D_dropRevoked]; exact (if_neg h501).trans ((if_pos h503).trans (if_pos h504))
              rw [e9]
              exact ih (up2 s1 (8) (Int32.toNatClampNeg x2) 2147483647) (x2 + 1) (dr_S hI h501) _ _ _ hw hS (lv_sub hl [2, 3, 0] rfl)
          · skip
            refine W.eq (g2 := F0 m (16 + 1) ls [.null]) (by rw [rfRel_n h503]) ?_
            refine lv_astore_nN (lv' := [(3, .null), (0, .ref (ad (4))), (1, .ref (ad (1))), (2, .int (x2))]) hx hb d_D_dropRevoked_17 rfl hl (by decide) rfl (fun ls hl => ?_)
            refine lv_aload_nN hx hb d_D_dropRevoked_18 rfl (lv_at hl 0 rfl) ?_
            refine lv_ifnullN (tgt := 38) hx hb d_D_dropRevoked_19 (by decide) ?_
            refine lv_iinc (v := x2 + 1) (lv' := [(2, .int (x2 + 1)), (3, .null), (0, .ref (ad (4))), (1, .ref (ad (1)))]) hx hb d_D_dropRevoked_38 hl (k := 3) rfl (by first | rfl | decide) (by decide) rfl (fun ls hl => ?_)
            refine lv_goto (tgt := 2) hx hb d_D_dropRevoked_41 (by decide) ?_
            have e9 : g_D_dropRevoked nr nm (n + 1) s1 x2 = g_D_dropRevoked nr nm n s1 (x2 + 1) := by rw [g_D_dropRevoked]; exact (if_neg h501).trans (if_neg h503)
            rw [e9]
            exact ih s1 (x2 + 1) (dr_S hI h501) _ _ _ hw hS (lv_sub hl [2, 3, 0] rfl)
  have hl := lv_entry ([.ref (ad (4)), .ref (ad (1))]) (n := 4) (Nat.le_of_ble_eq_true rfl)
  rw [lg_entry_eq]
  generalize (lg_sl ([.ref (ad (4)), .ref (ad (1))]) ++ List.replicate (4 - (lg_sl ([.ref (ad (4)), .ref (ad (1))])).length) Slot.unset).toArray = ls at hl ⊢
  have hl : lv_has ls 4 [(0, .ref (ad (4))), (1, .ref (ad (1)))] := hl
  refine lv_iconst (v := 0) hx hb d_D_dropRevoked_0 (by decide) ?_
  refine lv_istore_n (lv' := [(2, .int (0)), (0, .ref (ad (4))), (1, .ref (ad (1)))]) hx hb d_D_dropRevoked_1 rfl hl (by decide) rfl (fun ls hl => ?_)
  have e9 : f_D_dropRevoked nr nm s0 = g_D_dropRevoked nr nm 17 s0 0 := rfl
  rw [e9]
  exact loop 17 s0 0 (by decide) _ _ _ hw hS (lv_sub hl [1, 2, 0] rfl)

theorem takeg_fr : ∀ (n : Nat) (s : S2) (x1 : Int32) (q : Nat), q ≠ 9 → g_D_takeOneMore n s x1 q = s q := by
  intro n
  induction n with
  | zero => intro s x1 q h; rfl
  | succ n ih =>
    intro s x1 q h
    rw [g_D_takeOneMore]
    repeat' split
    all_goals first | rfl | (rw [ih _ _ _ h]; done) | (rw [ih _ _ _ h, lower_fr h])
theorem take_fr' (s : S2) {q : Nat} (h : q ≠ 9) : f_D_takeOneMore s q = s q := by
  unfold f_D_takeOneMore
  rw [takeg_fr _ _ _ _ h, fill_fr _ _ _ _ h]
theorem take_fr (s : S2) : f_D_takeOneMore s 4 = s 4 := take_fr' s (by decide)
theorem dropg_fr (nr nm : Nat) : ∀ (n : Nat) (s : S2) (x2 : Int32) (q : Nat), q ≠ 8 → g_D_dropRevoked nr nm n s x2 q = s q := by
  intro n
  induction n with
  | zero => intro s x2 q h; rfl
  | succ n ih =>
    intro s x2 q h
    rw [g_D_dropRevoked]
    repeat' split
    all_goals first | rfl | (rw [ih _ _ _ h]; done) | (rw [ih _ _ _ h, up2_ne h])
theorem drop_fr' (nr nm : Nat) (s : S2) {q : Nat} (h : q ≠ 8) : f_D_dropRevoked nr nm s q = s q := dropg_fr nr nm _ s _ q h
theorem drop_fr {nr nm : Nat} {s : S2} : f_D_dropRevoked nr nm s 4 = s 4 := drop_fr' nr nm s (by decide)

def g_D_searchCheaper (nr nm : Nat) (a1 : Int32) (a2 : Int32) : Nat → S2 → Int32 → S2
  | 0, s1, _ => s1
  | n + 1, s1, x4 =>
    if 4 < x4 then
      s1
    else
      if ((f_D_takeOneMore s1) 4 6) ≤ (f_D_sizeAt (f_D_takeOneMore s1) 9 16 a2) then
        g_D_searchCheaper nr nm a1 a2 n (f_D_dropRevoked nr nm (va_up (f_D_takeOneMore s1) 8 (va_cpy ((f_D_takeOneMore s1) 9) ((f_D_takeOneMore s1) 8) 0 0 16))) (x4 + 1)
      else
        g_D_searchCheaper nr nm a1 a2 n (f_D_dropRevoked nr nm (va_up (f_D_setWay (f_D_takeOneMore s1) (f_D_sizeAt (f_D_takeOneMore s1) 9 16 a2) x4) 8 (va_cpy ((f_D_setWay (f_D_takeOneMore s1) (f_D_sizeAt (f_D_takeOneMore s1) 9 16 a2) x4) 9) ((f_D_setWay (f_D_takeOneMore s1) (f_D_sizeAt (f_D_takeOneMore s1) 9 16 a2) x4) 8) 0 0 16))) (x4 + 1)
def f_D_searchCheaper (nr nm : Nat) (s0 : S2) (a1 : Int32) (a2 : Int32) : S2 :=
  g_D_searchCheaper nr nm a1 a2 5 (f_D_lower (f_A_fill s0 8 16 2147483647) 8 16 a1 0) 1
set_option maxHeartbeats 4000000 in
set_option maxRecDepth 100000 in
theorem cc_D_searchCheaper (l : Launch) (G : Gx) (A : Nat → Prop) (ad : Nat → Nat) (nr nm : Nat) (hnr : nr ≤ 16) (hnm : nm ≤ 30) (s0 : S2) (a1 : Int32) (a2 : Int32) (hct : 0 ≤ (s0 4 3).toInt ∧ (s0 4 3).toInt ≤ 40) : Met l y_D_searchCheaper ws_D_searchCheaper { frames := 3, cells := 0, slots := 0, locals := 66 } (PG G [.ref (ad (4)), .int (a1), .int (a2), .ref (ad (1))] A ad (encC G.2 ad nr nm s0)) (EG G A none ad (encC G.2 ad nr nm (f_D_searchCheaper nr nm s0 a1 a2))) 0 0 A := by
  refine Met.ofW (cc := c_D_searchCheaper) (maxL := 6) (ret := none) (by decide) rfl ?_
  intro p e s m args below meth c s₁ B hml hv
  obtain ⟨rfl, hw, hK⟩ := hv
  have hx := B.exec
  have hb := B.bytes
  have hr := B.returns
  have hts : ∀ w ∈ tbG, w.before [.ref (ad (4)), .int (a1), .int (a2), .ref (ad (1))].toArray s = true := fun w h => atoms_spec (ws := ws_D_searchCheaper) B.pre w (List.mem_cons_of_mem _ h)
  have hown : s.vm.findClass "RollStages$Deltas" = some m.cls := findClass_of_methodNamed B.named
  have hlocks := B.notSynchronized
  have hS : va_S A s.heap s.heap [] := va_S.rf
  have hw : mwG G A ad (encC G.2 ad nr nm s0) s.heap := hw
  have loop : ∀ (n : Nat) (s1 : S2) (x4 : Int32), (0 ≤ (s1 4 3).toInt ∧ (s1 4 3).toInt ≤ 40) ∧ 1 ≤ x4.toInt ∧ x4.toInt ≤ 5 ∧ 6 ≤ x4.toInt + n → ∀ (H : Heap) (locs : List Loc) (ls : Array Slot), mwG G A ad (encC G.2 ad nr nm s1) H → va_S A s.heap H locs → lv_has ls 6 [(0, .ref (ad (4))), (1, .int (a1)), (2, .int (a2)), (3, .ref (ad (1))), (4, .int (x4))] → W p l e (headSpec ws_D_searchCheaper { frames := 3, cells := 0, slots := 0, locals := 66 }).room s m [.ref (ad (4)), .int (a1), .int (a2), .ref (ad (1))].toArray below meth c H locs 0 0 (MQ below (EG G A none ad (encC G.2 ad nr nm (g_D_searchCheaper nr nm a1 a2 n s1 x4))) [.ref (ad (4)), .int (a1), .int (a2), .ref (ad (1))].toArray s 0 0 A) (F0 m 21 ls []) := by
    intro n
    induction n with
    | zero =>
      intro s1 x4 hI
      exact absurd hI.2 (by omega)
    | succ n ih =>
      intro s1 x4 hI H locs ls hw hS hl
      refine lv_iload hx hb d_D_searchCheaper_21 (lv_at hl 4 rfl) ?_
      refine lv_iconst (v := 4) hx hb d_D_searchCheaper_23 (by decide) ?_
      refine lv_icmp_gt (tgt := 84) hx hb d_D_searchCheaper_24 (by decide) (fun h501 => ?_) (fun h501 => ?_)
      · skip
        have e9 : g_D_searchCheaper nr nm a1 a2 (n + 1) s1 x4 = s1 := by rw [g_D_searchCheaper]; exact if_pos h501
        exact mw_vret hx hb hr hw hS ⟨rfl, congrArg (fun z => encC G.2 ad nr nm z) e9.symm⟩ hlocks d_D_searchCheaper_84
      · skip
        refine lv_aload_n hx hb d_D_searchCheaper_27 rfl (lv_at hl 0 rfl) ?_
        refine gV (As := []) (rest := []) (st1 := []) ⟨hx, hb, hml, hown, hts⟩ (cc_D_takeOneMore l G A ad nr nm hnr hnm s1 hI.1) cC_4 rfl tw_379 tw_376 tw_378 tw_p31 tw_2 hd_D_takeOneMore rfl rfl ⟨Nat.le_of_ble_eq_true rfl, Nat.le_of_ble_eq_true rfl⟩ hK hw hS hl.1 rfl (Nat.le_of_ble_eq_true rfl) ⟨Nat.zero_le _, Nat.zero_le _⟩ d_D_searchCheaper_28 rfl (fun H locs hw hS => ?_)
        refine lv_aload_n hx hb d_D_searchCheaper_31 rfl (lv_at hl 0 rfl) ?_
        refine mw_get (v := .ref (ad (9))) hx hb hts in_D hown hK.1 hw (4) cC_4 rfl 5 (by decide) (hts _ tw_32) rfl d_D_searchCheaper_32 ?_
        refine lv_iload_n hx hb d_D_searchCheaper_35 rfl (lv_at hl 2 rfl) ?_
        refine gS (As := [.ref (ad (9)), .int (a2)]) (rest := []) (st1 := [.int (f_D_sizeAt (f_D_takeOneMore s1) 9 16 a2)]) ⟨hx, hb, hml, hown, hts⟩ (cc_D_sizeAt l G A ad nr nm hnr hnm (f_D_takeOneMore s1) 9 16 (fun _ => cC_9) a2 (by decide)) tw_382 tw_380 tw_381 tw_2 hd_D_sizeAt rfl rfl ⟨Nat.le_of_ble_eq_true rfl, Nat.le_of_ble_eq_true rfl⟩ hK hw hS hl.1 rfl (Nat.le_of_ble_eq_true rfl) ⟨Nat.zero_le _, Nat.zero_le _⟩ d_D_searchCheaper_36 rfl (fun H locs hw hS => ?_)
        refine lv_istore (lv' := [(5, .int (f_D_sizeAt (f_D_takeOneMore s1) 9 16 a2)), (0, .ref (ad (4))), (1, .int (a1)), (2, .int (a2)), (3, .ref (ad (1))), (4, .int (x4))]) hx hb d_D_searchCheaper_39 hl (by decide) rfl (fun ls hl => ?_)
        refine lv_iload hx hb d_D_searchCheaper_41 (lv_at hl 0 rfl) ?_
        refine lv_aload_n hx hb d_D_searchCheaper_43 rfl (lv_at hl 1 rfl) ?_
        refine mw_get (v := .int ((f_D_takeOneMore s1) 4 6)) hx hb hts in_D hown hK.1 hw (4) cC_4 rfl 6 (by decide) (hts _ tw_33) rfl d_D_searchCheaper_44 ?_
        refine lv_icmp_ge (tgt := 58) hx hb d_D_searchCheaper_47 (by decide) (fun h502 => ?_) (fun h502 => ?_)
        · skip
          refine lv_aload_n hx hb d_D_searchCheaper_58 rfl (lv_at hl 1 rfl) ?_
          refine mw_get (v := .ref (ad (9))) hx hb hts in_D hown hK.1 hw (4) cC_4 rfl 5 (by decide) (hts _ tw_32) rfl d_D_searchCheaper_59 ?_
          refine lv_iconst (v := 0) hx hb d_D_searchCheaper_62 (by decide) ?_
          refine lv_aload_n hx hb d_D_searchCheaper_63 rfl (lv_at hl 1 rfl) ?_
          refine mw_get (v := .ref (ad (8))) hx hb hts in_D hown hK.1 hw (4) cC_4 rfl 4 (by decide) (hts _ tw_31) rfl d_D_searchCheaper_64 ?_
          refine lv_iconst (v := 0) hx hb d_D_searchCheaper_67 (by decide) ?_
          refine lv_bipush (v := 16) hx hb d_D_searchCheaper_68 (by decide) ?_
          refine mw_copyi hx hb (hml.trans hl.1.symm) hown (hts _ tw_384) (hts _ tw_386) (hts _ tw_385) (hts _ tw_8) hK.1 hw hS (9) (8) 0 0 cC_9 cC_8 rfl rfl rfl (by decide) (by decide) (by decide) (by decide) (by decide) (fun _ _ => rfl) (Nat.le_of_ble_eq_true rfl) (Nat.le_of_ble_eq_true rfl) d_D_searchCheaper_70 (fun H locs hw hS => ?_)
          replace hw := mw_encC (r := va_cpy ((f_D_takeOneMore s1) 9) ((f_D_takeOneMore s1) 8) 0 0 16) hw cC_8
          have hw : mwG G A ad (encC G.2 ad nr nm (va_up (f_D_takeOneMore s1) 8 (va_cpy ((f_D_takeOneMore s1) 9) ((f_D_takeOneMore s1) 8) 0 0 16))) H := hw
          refine lv_aload_n hx hb d_D_searchCheaper_73 rfl (lv_at hl 1 rfl) ?_
          refine lv_aload_n hx hb d_D_searchCheaper_74 rfl (lv_at hl 4 rfl) ?_
          refine gV (As := [.ref (ad (1))]) (rest := []) (st1 := []) ⟨hx, hb, hml, hown, hts⟩ (cc_D_dropRevoked l G A ad nr nm hnr hnm (va_up (f_D_takeOneMore s1) 8 (va_cpy ((f_D_takeOneMore s1) 9) ((f_D_takeOneMore s1) 8) 0 0 16))) cC_4 rfl tw_390 tw_387 tw_389 tw_p32 tw_2 hd_D_dropRevoked rfl rfl ⟨Nat.le_of_ble_eq_true rfl, Nat.le_of_ble_eq_true rfl⟩ hK hw hS hl.1 rfl (Nat.le_of_ble_eq_true rfl) ⟨Nat.zero_le _, Nat.zero_le _⟩ d_D_searchCheaper_75 rfl (fun H locs hw hS => ?_)
          refine lv_iinc (v := x4 + 1) (lv' := [(4, .int (x4 + 1)), (5, .int (f_D_sizeAt (f_D_takeOneMore s1) 9 16 a2)), (0, .ref (ad (4))), (1, .int (a1)), (2, .int (a2)), (3, .ref (ad (1)))]) hx hb d_D_searchCheaper_78 hl (k := 5) rfl (by first | rfl | decide) (by decide) rfl (fun ls hl => ?_)
          refine lv_goto (tgt := 21) hx hb d_D_searchCheaper_81 (by decide) ?_
          have e9 : g_D_searchCheaper nr nm a1 a2 (n + 1) s1 x4 = g_D_searchCheaper nr nm a1 a2 n (f_D_dropRevoked nr nm (va_up (f_D_takeOneMore s1) 8 (va_cpy ((f_D_takeOneMore s1) 9) ((f_D_takeOneMore s1) 8) 0 0 16))) (x4 + 1) := by rw [g_D_searchCheaper]; exact (if_neg h501).trans (if_pos h502)
          rw [e9]
          exact ih (f_D_dropRevoked nr nm (va_up (f_D_takeOneMore s1) 8 (va_cpy ((f_D_takeOneMore s1) 9) ((f_D_takeOneMore s1) 8) 0 0 16))) (x4 + 1) ⟨by rw [drop_fr]; first | (rw [va_up_ne _ _ (by decide), take_fr]; exact hI.1) | (rw [va_up_ne _ _ (by decide), setWay_3, take_fr]; exact hI.1), sc_S hI.2 h501⟩ _ _ _ hw hS (lv_sub hl [2, 3, 4, 5, 0] rfl)
        · skip
          refine lv_aload_n hx hb d_D_searchCheaper_50 rfl (lv_at hl 1 rfl) ?_
          refine lv_iload hx hb d_D_searchCheaper_51 (lv_at hl 0 rfl) ?_
          refine lv_iload hx hb d_D_searchCheaper_53 (lv_at hl 5 rfl) ?_
          refine gV (As := [.int (f_D_sizeAt (f_D_takeOneMore s1) 9 16 a2), .int (x4)]) (rest := []) (st1 := []) ⟨hx, hb, hml, hown, hts⟩ (cc_D_setWay l G A ad nr nm hnr hnm (f_D_takeOneMore s1) (f_D_sizeAt (f_D_takeOneMore s1) 9 16 a2) x4) cC_4 rfl tw_366 tw_383 tw_365 tw_p29 tw_2 hd_D_setWay rfl rfl ⟨Nat.le_of_ble_eq_true rfl, Nat.le_of_ble_eq_true rfl⟩ hK hw hS hl.1 rfl (Nat.le_of_ble_eq_true rfl) ⟨Nat.zero_le _, Nat.zero_le _⟩ d_D_searchCheaper_55 rfl (fun H locs hw hS => ?_)
          refine lv_aload_n hx hb d_D_searchCheaper_58 rfl (lv_at hl 1 rfl) ?_
          refine mw_get (v := .ref (ad (9))) hx hb hts in_D hown hK.1 hw (4) cC_4 rfl 5 (by decide) (hts _ tw_32) rfl d_D_searchCheaper_59 ?_
          refine lv_iconst (v := 0) hx hb d_D_searchCheaper_62 (by decide) ?_
          refine lv_aload_n hx hb d_D_searchCheaper_63 rfl (lv_at hl 1 rfl) ?_
          refine mw_get (v := .ref (ad (8))) hx hb hts in_D hown hK.1 hw (4) cC_4 rfl 4 (by decide) (hts _ tw_31) rfl d_D_searchCheaper_64 ?_
          refine lv_iconst (v := 0) hx hb d_D_searchCheaper_67 (by decide) ?_
          refine lv_bipush (v := 16) hx hb d_D_searchCheaper_68 (by decide) ?_
          refine mw_copyi hx hb (hml.trans hl.1.symm) hown (hts _ tw_384) (hts _ tw_386) (hts _ tw_385) (hts _ tw_8) hK.1 hw hS (9) (8) 0 0 cC_9 cC_8 rfl rfl rfl (by decide) (by decide) (by decide) (by decide) (by decide) (fun _ _ => rfl) (Nat.le_of_ble_eq_true rfl) (Nat.le_of_ble_eq_true rfl) d_D_searchCheaper_70 (fun H locs hw hS => ?_)
          replace hw := mw_encC (r := va_cpy ((f_D_setWay (f_D_takeOneMore s1) (f_D_sizeAt (f_D_takeOneMore s1) 9 16 a2) x4) 9) ((f_D_setWay (f_D_takeOneMore s1) (f_D_sizeAt (f_D_takeOneMore s1) 9 16 a2) x4) 8) 0 0 16) hw cC_8
          have hw : mwG G A ad (encC G.2 ad nr nm (va_up (f_D_setWay (f_D_takeOneMore s1) (f_D_sizeAt (f_D_takeOneMore s1) 9 16 a2) x4) 8 (va_cpy ((f_D_setWay (f_D_takeOneMore s1) (f_D_sizeAt (f_D_takeOneMore s1) 9 16 a2) x4) 9) ((f_D_setWay (f_D_takeOneMore s1) (f_D_sizeAt (f_D_takeOneMore s1) 9 16 a2) x4) 8) 0 0 16))) H := hw
          refine lv_aload_n hx hb d_D_searchCheaper_73 rfl (lv_at hl 1 rfl) ?_
          refine lv_aload_n hx hb d_D_searchCheaper_74 rfl (lv_at hl 4 rfl) ?_
          refine gV (As := [.ref (ad (1))]) (rest := []) (st1 := []) ⟨hx, hb, hml, hown, hts⟩ (cc_D_dropRevoked l G A ad nr nm hnr hnm (va_up (f_D_setWay (f_D_takeOneMore s1) (f_D_sizeAt (f_D_takeOneMore s1) 9 16 a2) x4) 8 (va_cpy ((f_D_setWay (f_D_takeOneMore s1) (f_D_sizeAt (f_D_takeOneMore s1) 9 16 a2) x4) 9) ((f_D_setWay (f_D_takeOneMore s1) (f_D_sizeAt (f_D_takeOneMore s1) 9 16 a2) x4) 8) 0 0 16))) cC_4 rfl tw_390 tw_387 tw_389 tw_p32 tw_2 hd_D_dropRevoked rfl rfl ⟨Nat.le_of_ble_eq_true rfl, Nat.le_of_ble_eq_true rfl⟩ hK hw hS hl.1 rfl (Nat.le_of_ble_eq_true rfl) ⟨Nat.zero_le _, Nat.zero_le _⟩ d_D_searchCheaper_75 rfl (fun H locs hw hS => ?_)
          refine lv_iinc (v := x4 + 1) (lv' := [(4, .int (x4 + 1)), (5, .int (f_D_sizeAt (f_D_takeOneMore s1) 9 16 a2)), (0, .ref (ad (4))), (1, .int (a1)), (2, .int (a2)), (3, .ref (ad (1)))]) hx hb d_D_searchCheaper_78 hl (k := 5) rfl (by first | rfl | decide) (by decide) rfl (fun ls hl => ?_)
          refine lv_goto (tgt := 21) hx hb d_D_searchCheaper_81 (by decide) ?_
          have e9 : g_D_searchCheaper nr nm a1 a2 (n + 1) s1 x4 = g_D_searchCheaper nr nm a1 a2 n (f_D_dropRevoked nr nm (va_up (f_D_setWay (f_D_takeOneMore s1) (f_D_sizeAt (f_D_takeOneMore s1) 9 16 a2) x4) 8 (va_cpy ((f_D_setWay (f_D_takeOneMore s1) (f_D_sizeAt (f_D_takeOneMore s1) 9 16 a2) x4) 9) ((f_D_setWay (f_D_takeOneMore s1) (f_D_sizeAt (f_D_takeOneMore s1) 9 16 a2) x4) 8) 0 0 16))) (x4 + 1) := by rw [g_D_searchCheaper]; exact (if_neg h501).trans (if_neg h502)
          rw [e9]
          exact ih (f_D_dropRevoked nr nm (va_up (f_D_setWay (f_D_takeOneMore s1) (f_D_sizeAt (f_D_takeOneMore s1) 9 16 a2) x4) 8 (va_cpy ((f_D_setWay (f_D_takeOneMore s1) (f_D_sizeAt (f_D_takeOneMore s1) 9 16 a2) x4) 9) ((f_D_setWay (f_D_takeOneMore s1) (f_D_sizeAt (f_D_takeOneMore s1) 9 16 a2) x4) 8) 0 0 16))) (x4 + 1) ⟨by rw [drop_fr]; first | (rw [va_up_ne _ _ (by decide), take_fr]; exact hI.1) | (rw [va_up_ne _ _ (by decide), setWay_3, take_fr]; exact hI.1), sc_S hI.2 h501⟩ _ _ _ hw hS (lv_sub hl [2, 3, 4, 5, 0] rfl)
  have hl := lv_entry ([.ref (ad (4)), .int (a1), .int (a2), .ref (ad (1))]) (n := 6) (Nat.le_of_ble_eq_true rfl)
  rw [lg_entry_eq]
  generalize (lg_sl ([.ref (ad (4)), .int (a1), .int (a2), .ref (ad (1))]) ++ List.replicate (6 - (lg_sl ([.ref (ad (4)), .int (a1), .int (a2), .ref (ad (1))])).length) Slot.unset).toArray = ls at hl ⊢
  have hl : lv_has ls 6 [(0, .ref (ad (4))), (1, .int (a1)), (2, .int (a2)), (3, .ref (ad (1)))] := hl
  refine lv_aload_n hx hb d_D_searchCheaper_0 rfl (lv_at hl 0 rfl) ?_
  refine mw_get (v := .ref (ad (8))) hx hb hts in_D hown hK.1 hw (4) cC_4 rfl 4 (by decide) (hts _ tw_31) rfl d_D_searchCheaper_1 ?_
  refine lv_ldc (v := 2147483647) hx hb hown (hts _ tw_371) d_D_searchCheaper_4 ?_
  refine gS (As := [.ref (ad (8)), .int (2147483647)]) (rest := []) (st1 := []) ⟨hx, hb, hml, hown, hts⟩ (cc_A_fill l G A ad nr nm hnr hnm s0 8 16 (fun _ => cC_8) 2147483647 (by decide)) tw_57 tw_372 tw_56 tw_3 hd_A_fill rfl rfl ⟨Nat.le_of_ble_eq_true rfl, Nat.le_of_ble_eq_true rfl⟩ hK hw hS hl.1 rfl (Nat.le_of_ble_eq_true rfl) ⟨Nat.zero_le _, Nat.zero_le _⟩ d_D_searchCheaper_6 rfl (fun H locs hw hS => ?_)
  refine lv_aload_n hx hb d_D_searchCheaper_9 rfl (lv_at hl 0 rfl) ?_
  refine mw_get (v := .ref (ad (8))) hx hb hts in_D hown hK.1 hw (4) cC_4 rfl 4 (by decide) (hts _ tw_31) rfl d_D_searchCheaper_10 ?_
  refine lv_iload_n hx hb d_D_searchCheaper_13 rfl (lv_at hl 1 rfl) ?_
  refine lv_iconst (v := 0) hx hb d_D_searchCheaper_14 (by decide) ?_
  refine gS (As := [.ref (ad (8)), .int (a1), .int (0)]) (rest := []) (st1 := []) ⟨hx, hb, hml, hown, hts⟩ (cc_D_lower l G A ad nr nm hnr hnm (f_A_fill s0 8 16 2147483647) 8 16 (fun _ => cC_8) a1 0 (by decide)) tw_375 tw_373 tw_374 tw_2 hd_D_lower rfl rfl ⟨Nat.le_of_ble_eq_true rfl, Nat.le_of_ble_eq_true rfl⟩ hK hw hS hl.1 rfl (Nat.le_of_ble_eq_true rfl) ⟨Nat.zero_le _, Nat.zero_le _⟩ d_D_searchCheaper_15 rfl (fun H locs hw hS => ?_)
  refine lv_iconst (v := 1) hx hb d_D_searchCheaper_18 (by decide) ?_
  refine lv_istore (lv' := [(4, .int (1)), (0, .ref (ad (4))), (1, .int (a1)), (2, .int (a2)), (3, .ref (ad (1)))]) hx hb d_D_searchCheaper_19 hl (by decide) rfl (fun ls hl => ?_)
  have e9 : f_D_searchCheaper nr nm s0 a1 a2 = g_D_searchCheaper nr nm a1 a2 5 (f_D_lower (f_A_fill s0 8 16 2147483647) 8 16 a1 0) 1 := rfl
  rw [e9]
  exact loop 5 (f_D_lower (f_A_fill s0 8 16 2147483647) 8 16 a1 0) 1 ⟨by rw [lower_fr (by decide), fill_fr _ _ _ _ (by decide)]; exact hct, by decide⟩ _ _ _ hw hS (lv_sub hl [1, 2, 3, 4, 0] rfl)

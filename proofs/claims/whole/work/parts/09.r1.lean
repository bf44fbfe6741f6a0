def f_C_within (a1 : Int32) (a2 : Int32) (a3 : Int32) : Int32 :=
  if a1 < a2 then
    0
  else
    if a3 < a1 then
      0
    else
      1
theorem fb_C_within (a1 : Int32) (a2 : Int32) (a3 : Int32) : narrow .boolean (.int (f_C_within a1 a2 a3)) = .int (f_C_within a1 a2 a3) := by
  unfold f_C_within
  repeat' split
  all_goals first | rfl | exact narrow_b0 | exact narrow_b1
set_option maxHeartbeats 4000000 in
set_option maxRecDepth 100000 in
theorem cc_C_within (l : Launch) (G : Gx) (A : Nat → Prop) (ad : Nat → Nat) (nr nm : Nat) (hnr : nr ≤ 16) (hnm : nm ≤ 30) (s0 : S2) (a1 : Int32) (a2 : Int32) (a3 : Int32) : Met l y_C_within ws_C_within { frames := 0, cells := 0, slots := 0, locals := 0 } (PG G [.int (a1), .int (a2), .int (a3)] A ad (encC G.2 ad nr nm s0)) (EG G A (some (.int (f_C_within a1 a2 a3))) ad (encC G.2 ad nr nm s0)) 0 0 A := by
  refine Met.ofW (cc := c_C_within) (maxL := 3) (ret := (some .boolean)) (by decide) rfl ?_
  intro p e s m args below meth c s₁ B hml hv
  obtain ⟨rfl, hw, hK⟩ := hv
  have hx := B.exec
  have hb := B.bytes
  have hr := B.returns
  have hts : ∀ w ∈ tbG, w.before [.int (a1), .int (a2), .int (a3)].toArray s = true := fun w h => atoms_spec (ws := ws_C_within) B.pre w (List.mem_cons_of_mem _ h)
  have hown : s.vm.findClass "RollStages" = some m.cls := findClass_of_methodNamed B.named
  have hlocks := B.notSynchronized
  have hS : va_S A s.heap s.heap [] := va_S.rf
  have hw : mwG G A ad (encC G.2 ad nr nm s0) s.heap := hw
  have hl := lv_entry ([.int (a1), .int (a2), .int (a3)]) (n := 3) (Nat.le_of_ble_eq_true rfl)
  rw [lg_entry_eq]
  generalize (lg_sl ([.int (a1), .int (a2), .int (a3)]) ++ List.replicate (3 - (lg_sl ([.int (a1), .int (a2), .int (a3)])).length) Slot.unset).toArray = ls at hl ⊢
  have hl : lv_has ls 3 [(0, .int (a1)), (1, .int (a2)), (2, .int (a3))] := hl
  refine lv_iload_n hx hb d_C_within_0 rfl (lv_at hl 0 rfl) ?_
  refine lv_iload_n hx hb d_C_within_1 rfl (lv_at hl 1 rfl) ?_
  refine lv_icmp_lt (tgt := 14) hx hb d_C_within_2 (by decide) (fun h1 => ?_) (fun h1 => ?_)
  · skip
    refine lv_iconst (v := 0) hx hb d_C_within_14 (by decide) ?_
    have e9 : f_C_within a1 a2 a3 = 0 := by unfold f_C_within; exact if_pos h1
    exact mw_iret hx hb hr rfl hw hS (congrArg (fun z => some (Value.int z)) e9.symm) ⟨rfl, rfl⟩ hlocks d_C_within_15
  · skip
    refine lv_iload_n hx hb d_C_within_5 rfl (lv_at hl 0 rfl) ?_
    refine lv_iload_n hx hb d_C_within_6 rfl (lv_at hl 2 rfl) ?_
    refine lv_icmp_gt (tgt := 14) hx hb d_C_within_7 (by decide) (fun h2 => ?_) (fun h2 => ?_)
    · skip
      refine lv_iconst (v := 0) hx hb d_C_within_14 (by decide) ?_
      have e9 : f_C_within a1 a2 a3 = 0 := by unfold f_C_within; exact (if_neg h1).trans (if_pos h2)
      exact mw_iret hx hb hr rfl hw hS (congrArg (fun z => some (Value.int z)) e9.symm) ⟨rfl, rfl⟩ hlocks d_C_within_15
    · skip
      refine lv_iconst (v := 1) hx hb d_C_within_10 (by decide) ?_
      refine lv_goto (tgt := 15) hx hb d_C_within_11 (by decide) ?_
      have e9 : f_C_within a1 a2 a3 = 1 := by unfold f_C_within; exact (if_neg h1).trans (if_neg h2)
      exact mw_iret hx hb hr rfl hw hS (congrArg (fun z => some (Value.int z)) e9.symm) ⟨rfl, rfl⟩ hlocks d_C_within_15

theorem within_ne {a b c : Int32} : ¬ f_C_within a b c = 0 ↔ b ≤ a ∧ a ≤ c := by
  unfold f_C_within
  simp only [Int32.lt_iff_toInt_lt, Int32.le_iff_toInt_le]
  by_cases h1 : a.toInt < b.toInt
  · simp [h1]; try omega
  · by_cases h2 : c.toInt < a.toInt
    · simp [h1, h2]; try omega
    · simp [h1, h2]; try omega
theorem within_e {a b c : Int32} : f_C_within a b c = 0 ↔ ¬ (b ≤ a ∧ a ≤ c) := by
  rw [← within_ne]
  exact Decidable.not_not.symm
theorem nI_m1 {n : Nat} (h : n < 2 ^ 31) : (nI n - 1).toInt = (n : Int) - 1 := by
  rw [Int32.toInt_sub, nI_toInt h]
  show ((n : Int) - 1).bmod (2 ^ 32) = _
  rw [Int.bmod_def]
  omega
theorem within_inN {n : Int32} {nA : Nat} (h : ¬ f_C_within n 0 ((nI nA) - 1) = 0) (hA : nA < 2 ^ 31) : vp_in n nA := by
  rw [within_ne, Int32.le_iff_toInt_le, Int32.le_iff_toInt_le, nI_m1 hA, Int32.toInt_zero] at h
  rw [vp_in_iff]
  omega
theorem within_inC {n m : Int32} {N : Nat} (h : ¬ f_C_within n 0 m = 0) (hm : m.toInt + 1 = N) : vp_in n N := by
  rw [within_ne, Int32.le_iff_toInt_le, Int32.le_iff_toInt_le, Int32.toInt_zero] at h
  rw [vp_in_iff]
  omega
theorem stc_i {x : Int32} (h : 0 ≤ x.toInt ∧ x.toInt ≤ 5) (h2 : x < 5) : vp_in x 5 := by
  rw [Int32.lt_iff_toInt_lt, show (5 : Int32).toInt = 5 from rfl] at h2
  rw [vp_in_iff]
  omega
theorem stc_p {x : Int32} (h : 0 ≤ x.toInt ∧ x.toInt ≤ 5) (h3 : ¬ x = 0) : vp_in (x - 1) 5 := by
  have h4 : x.toInt ≠ 0 := fun q => h3 (Int32.toInt_inj.mp (by rw [q, Int32.toInt_zero]))
  rw [vp_in_iff, Int32.toInt_sub, show (1 : Int32).toInt = 1 from rfl, Int.bmod_def]
  omega
theorem in_N {n : Int32} {nA : Nat} (h1 : ¬ n < 0) (h2 : ¬ nI nA ≤ n) (hA : nA < 2 ^ 31) : vp_in n nA := by
  rw [Int32.lt_iff_toInt_lt, Int32.toInt_zero] at h1
  rw [Int32.le_iff_toInt_le, nI_toInt hA] at h2
  rw [vp_in_iff]
  omega

def f_C_isChannel (a1 : Int32) : Int32 :=
  f_C_within a1 0 2
theorem fb_C_isChannel (a1 : Int32) : narrow .boolean (.int (f_C_isChannel a1)) = .int (f_C_isChannel a1) := by
  unfold f_C_isChannel
  repeat' split
  all_goals first | rfl | exact fb_C_within _ _ _
set_option maxHeartbeats 4000000 in
set_option maxRecDepth 100000 in
theorem cc_C_isChannel (l : Launch) (G : Gx) (A : Nat → Prop) (ad : Nat → Nat) (nr nm : Nat) (hnr : nr ≤ 16) (hnm : nm ≤ 30) (s0 : S2) (a1 : Int32) : Met l y_C_isChannel ws_C_isChannel { frames := 1, cells := 0, slots := 0, locals := 22 } (PG G [.int (a1)] A ad (encC G.2 ad nr nm s0)) (EG G A (some (.int (f_C_isChannel a1))) ad (encC G.2 ad nr nm s0)) 0 0 A := by
  refine Met.ofW (cc := c_C_isChannel) (maxL := 1) (ret := (some .boolean)) (by decide) rfl ?_
  intro p e s m args below meth c s₁ B hml hv
  obtain ⟨rfl, hw, hK⟩ := hv
  have hx := B.exec
  have hb := B.bytes
  have hr := B.returns
  have hts : ∀ w ∈ tbG, w.before [.int (a1)].toArray s = true := fun w h => atoms_spec (ws := ws_C_isChannel) B.pre w (List.mem_cons_of_mem _ h)
  have hown : s.vm.findClass "RollStages" = some m.cls := findClass_of_methodNamed B.named
  have hlocks := B.notSynchronized
  have hS : va_S A s.heap s.heap [] := va_S.rf
  have hw : mwG G A ad (encC G.2 ad nr nm s0) s.heap := hw
  have hl := lv_entry ([.int (a1)]) (n := 1) (Nat.le_of_ble_eq_true rfl)
  rw [lg_entry_eq]
  generalize (lg_sl ([.int (a1)]) ++ List.replicate (1 - (lg_sl ([.int (a1)])).length) Slot.unset).toArray = ls at hl ⊢
  have hl : lv_has ls 1 [(0, .int (a1))] := hl
  refine lv_iload_n hx hb d_C_isChannel_0 rfl (lv_at hl 0 rfl) ?_
  refine lv_iconst (v := 0) hx hb d_C_isChannel_1 (by decide) ?_
  refine lv_iconst (v := 2) hx hb d_C_isChannel_2 (by decide) ?_
  refine gS (As := [.int (a1), .int (0), .int (2)]) (rest := []) (st1 := [.int (f_C_within a1 0 2)]) ⟨hx, hb, hml, hown, hts⟩ (cc_C_within l G A ad nr nm hnr hnm s0 a1 0 2) tw_89 tw_87 tw_88 tw_1 hd_C_within rfl rfl ⟨Nat.le_of_ble_eq_true rfl, Nat.le_of_ble_eq_true rfl⟩ hK hw hS hl.1 rfl (Nat.le_of_ble_eq_true rfl) ⟨Nat.zero_le _, Nat.zero_le _⟩ d_C_isChannel_3 rfl (fun H locs hw hS => ?_)
  have e9 : f_C_isChannel a1 = f_C_within a1 0 2 := by unfold f_C_isChannel; exact rfl
  exact mw_iret hx hb hr (fb_C_within _ _ _) hw hS (congrArg (fun z => some (Value.int z)) e9.symm) ⟨rfl, rfl⟩ hlocks d_C_isChannel_6

def f_C_rowOf (a1 : Int32) : Int32 :=
  Int64.toInt32 (((((Int32.toInt64 (a1 + 1)) * 2654435761) &&& 4294967295) >>> (Int32.toInt64 7 &&& 63)) - ((((Int32.toInt64 (a1 + 1)) * 2654435761) &&& 4294967295) >>> (Int32.toInt64 7 &&& 63)) / 1000 * 1000)
set_option maxHeartbeats 4000000 in
set_option maxRecDepth 100000 in
theorem cc_C_rowOf (l : Launch) (G : Gx) (A : Nat → Prop) (ad : Nat → Nat) (nr nm : Nat) (hnr : nr ≤ 16) (hnm : nm ≤ 30) (s0 : S2) (a1 : Int32) : Met l y_C_rowOf ws_C_rowOf { frames := 0, cells := 0, slots := 0, locals := 0 } (PG G [.int (a1)] A ad (encC G.2 ad nr nm s0)) (EG G A (some (.int (f_C_rowOf a1))) ad (encC G.2 ad nr nm s0)) 0 0 A := by
  refine Met.ofW (cc := c_C_rowOf) (maxL := 3) (ret := (some .int)) (by decide) rfl ?_
  intro p e s m args below meth c s₁ B hml hv
  obtain ⟨rfl, hw, hK⟩ := hv
  have hx := B.exec
  have hb := B.bytes
  have hr := B.returns
  have hts : ∀ w ∈ tbG, w.before [.int (a1)].toArray s = true := fun w h => atoms_spec (ws := ws_C_rowOf) B.pre w (List.mem_cons_of_mem _ h)
  have hown : s.vm.findClass "RollStages" = some m.cls := findClass_of_methodNamed B.named
  have hlocks := B.notSynchronized
  have hS : va_S A s.heap s.heap [] := va_S.rf
  have hw : mwG G A ad (encC G.2 ad nr nm s0) s.heap := hw
  have hl := lv_entry ([.int (a1)]) (n := 3) (Nat.le_of_ble_eq_true rfl)
  rw [lg_entry_eq]
  generalize (lg_sl ([.int (a1)]) ++ List.replicate (3 - (lg_sl ([.int (a1)])).length) Slot.unset).toArray = ls at hl ⊢
  have hl : lv_has ls 3 [(0, .int (a1))] := hl
  refine lv_iload_n hx hb d_C_rowOf_0 rfl (lv_at hl 0 rfl) ?_
  refine lv_iconst (v := 1) hx hb d_C_rowOf_1 (by decide) ?_
  refine lv_iadd hx hb d_C_rowOf_2 ?_
  refine lv_i2l (v := Int32.toInt64 (a1 + 1)) hx hb d_C_rowOf_3 rfl ?_
  refine lv_ldc2 (v := 2654435761) hx hb hown (hts _ tw_265) d_C_rowOf_4 ?_
  refine lv_lmul hx hb d_C_rowOf_7 ?_
  refine lv_ldc2 (v := 4294967295) hx hb hown (hts _ tw_266) d_C_rowOf_8 ?_
  refine lv_land hx hb d_C_rowOf_11 ?_
  refine lv_lstore_n (lv' := [(1, .long (((Int32.toInt64 (a1 + 1)) * 2654435761) &&& 4294967295)), (0, .int (a1))]) hx hb d_C_rowOf_12 rfl hl (by decide) rfl (fun ls hl => ?_)
  refine lv_lload_n hx hb d_C_rowOf_13 rfl (lv_at hl 0 rfl) ?_
  refine lv_bipush (v := 7) hx hb d_C_rowOf_14 (by decide) ?_
  refine lv_lshr (v := (((Int32.toInt64 (a1 + 1)) * 2654435761) &&& 4294967295) >>> (Int32.toInt64 7 &&& 63)) hx hb d_C_rowOf_16 rfl ?_
  refine lv_ldc2 (v := 1000) hx hb hown (hts _ tw_267) d_C_rowOf_17 ?_
  refine lv_lrem hx hb d_C_rowOf_20 (by decide) ?_
  refine lv_l2i (v := Int64.toInt32 (((((Int32.toInt64 (a1 + 1)) * 2654435761) &&& 4294967295) >>> (Int32.toInt64 7 &&& 63)) - ((((Int32.toInt64 (a1 + 1)) * 2654435761) &&& 4294967295) >>> (Int32.toInt64 7 &&& 63)) / 1000 * 1000)) hx hb d_C_rowOf_21 rfl ?_
  have e9 : f_C_rowOf a1 = Int64.toInt32 (((((Int32.toInt64 (a1 + 1)) * 2654435761) &&& 4294967295) >>> (Int32.toInt64 7 &&& 63)) - ((((Int32.toInt64 (a1 + 1)) * 2654435761) &&& 4294967295) >>> (Int32.toInt64 7 &&& 63)) / 1000 * 1000) := by unfold f_C_rowOf; exact rfl
  exact mw_iret hx hb hr rfl hw hS (congrArg (fun z => some (Value.int z)) e9.symm) ⟨rfl, rfl⟩ hlocks d_C_rowOf_22

def f_R_allReports (s0 : S2) (i : Nat) : Int32 :=
  (s0 (10 + 3 * i) 12) + (s0 (10 + 3 * i) 13)
set_option maxHeartbeats 4000000 in
set_option maxRecDepth 100000 in
theorem cc_R_allReports (l : Launch) (G : Gx) (A : Nat → Prop) (ad : Nat → Nat) (nr nm : Nat) (hnr : nr ≤ 16) (hnm : nm ≤ 30) (s0 : S2) (i : Nat) (hi : i < nr) : Met l y_R_allReports ws_R_allReports { frames := 0, cells := 0, slots := 0, locals := 0 } (PG G [.ref (ad (10 + 3 * i))] A ad (encC G.2 ad nr nm s0)) (EG G A (some (.int (f_R_allReports s0 i))) ad (encC G.2 ad nr nm s0)) 0 0 A := by
  refine Met.ofW (cc := c_R_allReports) (maxL := 1) (ret := (some .int)) (by decide) rfl ?_
  intro p e s m args below meth c s₁ B hml hv
  obtain ⟨rfl, hw, hK⟩ := hv
  have hx := B.exec
  have hb := B.bytes
  have hr := B.returns
  have hts : ∀ w ∈ tbG, w.before [.ref (ad (10 + 3 * i))].toArray s = true := fun w h => atoms_spec (ws := ws_R_allReports) B.pre w (List.mem_cons_of_mem _ h)
  have hown : s.vm.findClass "RollStages$Release" = some m.cls := findClass_of_methodNamed B.named
  have hlocks := B.notSynchronized
  have hS : va_S A s.heap s.heap [] := va_S.rf
  have hw : mwG G A ad (encC G.2 ad nr nm s0) s.heap := hw
  have hl := lv_entry ([.ref (ad (10 + 3 * i))]) (n := 1) (Nat.le_of_ble_eq_true rfl)
  rw [lg_entry_eq]
  generalize (lg_sl ([.ref (ad (10 + 3 * i))]) ++ List.replicate (1 - (lg_sl ([.ref (ad (10 + 3 * i))])).length) Slot.unset).toArray = ls at hl ⊢
  have hl : lv_has ls 1 [(0, .ref (ad (10 + 3 * i)))] := hl
  refine lv_aload_n hx hb d_R_allReports_0 rfl (lv_at hl 0 rfl) ?_
  refine mw_get (v := .int (s0 (10 + 3 * i) 12)) hx hb hts in_R hown hK.1 hw (10 + 3 * i) (cC_rel hnr hi) rfl 12 (by decide) (hts _ tw_113) rfl d_R_allReports_1 ?_
  refine lv_aload_n hx hb d_R_allReports_4 rfl (lv_at hl 0 rfl) ?_
  refine mw_get (v := .int (s0 (10 + 3 * i) 13)) hx hb hts in_R hown hK.1 hw (10 + 3 * i) (cC_rel hnr hi) rfl 13 (by decide) (hts _ tw_114) rfl d_R_allReports_5 ?_
  refine lv_iadd hx hb d_R_allReports_8 ?_
  have e9 : f_R_allReports s0 i = (s0 (10 + 3 * i) 12) + (s0 (10 + 3 * i) 13) := by unfold f_R_allReports; exact rfl
  exact mw_iret hx hb hr rfl hw hS (congrArg (fun z => some (Value.int z)) e9.symm) ⟨rfl, rfl⟩ hlocks d_R_allReports_9

def f_R_isAtStage (s0 : S2) (i : Nat) : Int32 :=
  if (s0 (10 + 3 * i) 8) = 1 then
    1
  else
    if (s0 (10 + 3 * i) 8) = 2 then
      1
    else
      0
theorem fb_R_isAtStage (s0 : S2) (i : Nat) : narrow .boolean (.int (f_R_isAtStage s0 i)) = .int (f_R_isAtStage s0 i) := by
  unfold f_R_isAtStage
  repeat' split
  all_goals first | rfl | exact narrow_b0 | exact narrow_b1
set_option maxHeartbeats 4000000 in
set_option maxRecDepth 100000 in
theorem cc_R_isAtStage (l : Launch) (G : Gx) (A : Nat → Prop) (ad : Nat → Nat) (nr nm : Nat) (hnr : nr ≤ 16) (hnm : nm ≤ 30) (s0 : S2) (i : Nat) (hi : i < nr) : Met l y_R_isAtStage ws_R_isAtStage { frames := 0, cells := 0, slots := 0, locals := 0 } (PG G [.ref (ad (10 + 3 * i))] A ad (encC G.2 ad nr nm s0)) (EG G A (some (.int (f_R_isAtStage s0 i))) ad (encC G.2 ad nr nm s0)) 0 0 A := by
  refine Met.ofW (cc := c_R_isAtStage) (maxL := 1) (ret := (some .boolean)) (by decide) rfl ?_
  intro p e s m args below meth c s₁ B hml hv
  obtain ⟨rfl, hw, hK⟩ := hv
  have hx := B.exec
  have hb := B.bytes
  have hr := B.returns
  have hts : ∀ w ∈ tbG, w.before [.ref (ad (10 + 3 * i))].toArray s = true := fun w h => atoms_spec (ws := ws_R_isAtStage) B.pre w (List.mem_cons_of_mem _ h)
  have hown : s.vm.findClass "RollStages$Release" = some m.cls := findClass_of_methodNamed B.named
  have hlocks := B.notSynchronized
  have hS : va_S A s.heap s.heap [] := va_S.rf
  have hw : mwG G A ad (encC G.2 ad nr nm s0) s.heap := hw
  have hl := lv_entry ([.ref (ad (10 + 3 * i))]) (n := 1) (Nat.le_of_ble_eq_true rfl)
  rw [lg_entry_eq]
  generalize (lg_sl ([.ref (ad (10 + 3 * i))]) ++ List.replicate (1 - (lg_sl ([.ref (ad (10 + 3 * i))])).length) Slot.unset).toArray = ls at hl ⊢
  have hl : lv_has ls 1 [(0, .ref (ad (10 + 3 * i)))] := hl
  refine lv_aload_n hx hb d_R_isAtStage_0 rfl (lv_at hl 0 rfl) ?_
  refine mw_get (v := .int (s0 (10 + 3 * i) 8)) hx hb hts in_R hown hK.1 hw (10 + 3 * i) (cC_rel hnr hi) rfl 8 (by decide) (hts _ tw_106) rfl d_R_isAtStage_1 ?_
  refine lv_iconst (v := 1) hx hb d_R_isAtStage_4 (by decide) ?_
  refine lv_icmp_eq (tgt := 16) hx hb d_R_isAtStage_5 (by decide) (fun h1 => ?_) (fun h1 => ?_)
  · skip
    refine lv_iconst (v := 1) hx hb d_R_isAtStage_16 (by decide) ?_
    refine lv_goto (tgt := 21) hx hb d_R_isAtStage_17 (by decide) ?_
    have e9 : f_R_isAtStage s0 i = 1 := by unfold f_R_isAtStage; exact if_pos h1
    exact mw_iret hx hb hr rfl hw hS (congrArg (fun z => some (Value.int z)) e9.symm) ⟨rfl, rfl⟩ hlocks d_R_isAtStage_21
  · skip
    refine lv_aload_n hx hb d_R_isAtStage_8 rfl (lv_at hl 0 rfl) ?_
    refine mw_get (v := .int (s0 (10 + 3 * i) 8)) hx hb hts in_R hown hK.1 hw (10 + 3 * i) (cC_rel hnr hi) rfl 8 (by decide) (hts _ tw_106) rfl d_R_isAtStage_9 ?_
    refine lv_iconst (v := 2) hx hb d_R_isAtStage_12 (by decide) ?_
    refine lv_icmp_ne (tgt := 20) hx hb d_R_isAtStage_13 (by decide) (fun h2 => ?_) (fun h2 => ?_)
    · skip
      refine lv_iconst (v := 0) hx hb d_R_isAtStage_20 (by decide) ?_
      have e9 : f_R_isAtStage s0 i = 0 := by unfold f_R_isAtStage; exact (if_neg h1).trans (if_neg h2)
      exact mw_iret hx hb hr rfl hw hS (congrArg (fun z => some (Value.int z)) e9.symm) ⟨rfl, rfl⟩ hlocks d_R_isAtStage_21
    · skip
      refine lv_iconst (v := 1) hx hb d_R_isAtStage_16 (by decide) ?_
      refine lv_goto (tgt := 21) hx hb d_R_isAtStage_17 (by decide) ?_
      have e9 : f_R_isAtStage s0 i = 1 := by unfold f_R_isAtStage; exact (if_neg h1).trans (if_pos h2)
      exact mw_iret hx hb hr rfl hw hS (congrArg (fun z => some (Value.int z)) e9.symm) ⟨rfl, rfl⟩ hlocks d_R_isAtStage_21

def f_R_stageNow (s0 : S2) (i : Nat) : Int32 :=
  if (f_R_isAtStage s0 i) = 0 then
    -1
  else
    s0 (10 + 3 * i) 10
set_option maxHeartbeats 4000000 in
set_option maxRecDepth 100000 in
theorem cc_R_stageNow (l : Launch) (G : Gx) (A : Nat → Prop) (ad : Nat → Nat) (nr nm : Nat) (hnr : nr ≤ 16) (hnm : nm ≤ 30) (s0 : S2) (i : Nat) (hi : i < nr) : Met l y_R_stageNow ws_R_stageNow { frames := 1, cells := 0, slots := 0, locals := 20 } (PG G [.ref (ad (10 + 3 * i))] A ad (encC G.2 ad nr nm s0)) (EG G A (some (.int (f_R_stageNow s0 i))) ad (encC G.2 ad nr nm s0)) 0 0 A := by
  refine Met.ofW (cc := c_R_stageNow) (maxL := 1) (ret := (some .int)) (by decide) rfl ?_
  intro p e s m args below meth c s₁ B hml hv
  obtain ⟨rfl, hw, hK⟩ := hv
  have hx := B.exec
  have hb := B.bytes
  have hr := B.returns
  have hts : ∀ w ∈ tbG, w.before [.ref (ad (10 + 3 * i))].toArray s = true := fun w h => atoms_spec (ws := ws_R_stageNow) B.pre w (List.mem_cons_of_mem _ h)
  have hown : s.vm.findClass "RollStages$Release" = some m.cls := findClass_of_methodNamed B.named
  have hlocks := B.notSynchronized
  have hS : va_S A s.heap s.heap [] := va_S.rf
  have hw : mwG G A ad (encC G.2 ad nr nm s0) s.heap := hw
  have hl := lv_entry ([.ref (ad (10 + 3 * i))]) (n := 1) (Nat.le_of_ble_eq_true rfl)
  rw [lg_entry_eq]
  generalize (lg_sl ([.ref (ad (10 + 3 * i))]) ++ List.replicate (1 - (lg_sl ([.ref (ad (10 + 3 * i))])).length) Slot.unset).toArray = ls at hl ⊢
  have hl : lv_has ls 1 [(0, .ref (ad (10 + 3 * i)))] := hl
  refine lv_aload_n hx hb d_R_stageNow_0 rfl (lv_at hl 0 rfl) ?_
  refine gV (As := []) (rest := []) (st1 := [.int (f_R_isAtStage s0 i)]) ⟨hx, hb, hml, hown, hts⟩ (cc_R_isAtStage l G A ad nr nm hnr hnm s0 i hi) (cC_rel hnr hi) rfl tw_247 tw_244 tw_246 tw_p16 tw_5 hd_R_isAtStage rfl rfl ⟨Nat.le_of_ble_eq_true rfl, Nat.le_of_ble_eq_true rfl⟩ hK hw hS hl.1 rfl (Nat.le_of_ble_eq_true rfl) ⟨Nat.zero_le _, Nat.zero_le _⟩ d_R_stageNow_1 rfl (fun H locs hw hS => ?_)
  refine lv_if_eq (tgt := 14) hx hb d_R_stageNow_4 (by decide) (fun h1 => ?_) (fun h1 => ?_)
  · skip
    refine lv_iconst (v := -1) hx hb d_R_stageNow_14 (by decide) ?_
    have e9 : f_R_stageNow s0 i = -1 := by unfold f_R_stageNow; exact if_pos h1
    exact mw_iret hx hb hr rfl hw hS (congrArg (fun z => some (Value.int z)) e9.symm) ⟨rfl, rfl⟩ hlocks d_R_stageNow_15
  · skip
    refine lv_aload_n hx hb d_R_stageNow_7 rfl (lv_at hl 0 rfl) ?_
    refine mw_get (v := .int (s0 (10 + 3 * i) 10)) hx hb hts in_R hown hK.1 hw (10 + 3 * i) (cC_rel hnr hi) rfl 10 (by decide) (hts _ tw_111) rfl d_R_stageNow_8 ?_
    refine lv_goto (tgt := 15) hx hb d_R_stageNow_11 (by decide) ?_
    have e9 : f_R_stageNow s0 i = s0 (10 + 3 * i) 10 := by unfold f_R_stageNow; exact if_neg h1
    exact mw_iret hx hb hr rfl hw hS (congrArg (fun z => some (Value.int z)) e9.symm) ⟨rfl, rfl⟩ hlocks d_R_stageNow_15

def f_R_valueOfStage (s0 : S2) (i : Nat) (k nA : Nat) : Int32 :=
  if (s0 (10 + 3 * i) 10) < 0 then
    0
  else
    if (nI nA) ≤ (s0 (10 + 3 * i) 10) then
      0
    else
      s0 (k) (Int32.toNatClampNeg (s0 (10 + 3 * i) 10))
set_option maxHeartbeats 4000000 in
set_option maxRecDepth 100000 in
theorem cc_R_valueOfStage (l : Launch) (G : Gx) (A : Nat → Prop) (ad : Nat → Nat) (nr nm : Nat) (hnr : nr ≤ 16) (hnm : nm ≤ 30) (s0 : S2) (i : Nat) (hi : i < nr) (k nA : Nat) (hk : ∀ r, cellC G.2 ad nr nm k r = some (.inl (G.2 0, nA, .inl r))) (hA : nA < 2 ^ 31) : Met l y_R_valueOfStage ws_R_valueOfStage { frames := 0, cells := 0, slots := 0, locals := 0 } (PG G [.ref (ad (10 + 3 * i)), .ref (ad (k))] A ad (encC G.2 ad nr nm s0)) (EG G A (some (.int (f_R_valueOfStage s0 i k nA))) ad (encC G.2 ad nr nm s0)) 0 0 A := by
  refine Met.ofW (cc := c_R_valueOfStage) (maxL := 2) (ret := (some .int)) (by decide) rfl ?_
  intro p e s m args below meth c s₁ B hml hv
  obtain ⟨rfl, hw, hK⟩ := hv
  have hx := B.exec
  have hb := B.bytes
  have hr := B.returns
  have hts : ∀ w ∈ tbG, w.before [.ref (ad (10 + 3 * i)), .ref (ad (k))].toArray s = true := fun w h => atoms_spec (ws := ws_R_valueOfStage) B.pre w (List.mem_cons_of_mem _ h)
  have hown : s.vm.findClass "RollStages$Release" = some m.cls := findClass_of_methodNamed B.named
  have hlocks := B.notSynchronized
  have hS : va_S A s.heap s.heap [] := va_S.rf
  have hw : mwG G A ad (encC G.2 ad nr nm s0) s.heap := hw
  have hl := lv_entry ([.ref (ad (10 + 3 * i)), .ref (ad (k))]) (n := 2) (Nat.le_of_ble_eq_true rfl)
  rw [lg_entry_eq]
  generalize (lg_sl ([.ref (ad (10 + 3 * i)), .ref (ad (k))]) ++ List.replicate (2 - (lg_sl ([.ref (ad (10 + 3 * i)), .ref (ad (k))])).length) Slot.unset).toArray = ls at hl ⊢
  have hl : lv_has ls 2 [(0, .ref (ad (10 + 3 * i))), (1, .ref (ad (k)))] := hl
  refine lv_aload_n hx hb d_R_valueOfStage_0 rfl (lv_at hl 0 rfl) ?_
  refine mw_get (v := .int (s0 (10 + 3 * i) 10)) hx hb hts in_R hown hK.1 hw (10 + 3 * i) (cC_rel hnr hi) rfl 10 (by decide) (hts _ tw_111) rfl d_R_valueOfStage_1 ?_
  refine lv_if_lt (tgt := 25) hx hb d_R_valueOfStage_4 (by decide) (fun h1 => ?_) (fun h1 => ?_)
  · skip
    refine lv_iconst (v := 0) hx hb d_R_valueOfStage_25 (by decide) ?_
    have e9 : f_R_valueOfStage s0 i k nA = 0 := by unfold f_R_valueOfStage; exact if_pos h1
    exact mw_iret hx hb hr rfl hw hS (congrArg (fun z => some (Value.int z)) e9.symm) ⟨rfl, rfl⟩ hlocks d_R_valueOfStage_26
  · skip
    refine lv_aload_n hx hb d_R_valueOfStage_7 rfl (lv_at hl 0 rfl) ?_
    refine mw_get (v := .int (s0 (10 + 3 * i) 10)) hx hb hts in_R hown hK.1 hw (10 + 3 * i) (cC_rel hnr hi) rfl 10 (by decide) (hts _ tw_111) rfl d_R_valueOfStage_8 ?_
    refine lv_aload_n hx hb d_R_valueOfStage_11 rfl (lv_at hl 1 rfl) ?_
    refine mw_alen (v := nI nA) hx hb hK.1 hw (k) 0 (hk _) rfl (by first | rfl | decide) d_R_valueOfStage_12 ?_
    refine lv_icmp_ge (tgt := 25) hx hb d_R_valueOfStage_13 (by decide) (fun h2 => ?_) (fun h2 => ?_)
    · skip
      refine lv_iconst (v := 0) hx hb d_R_valueOfStage_25 (by decide) ?_
      have e9 : f_R_valueOfStage s0 i k nA = 0 := by unfold f_R_valueOfStage; exact (if_neg h1).trans (if_pos h2)
      exact mw_iret hx hb hr rfl hw hS (congrArg (fun z => some (Value.int z)) e9.symm) ⟨rfl, rfl⟩ hlocks d_R_valueOfStage_26
    · skip
      refine lv_aload_n hx hb d_R_valueOfStage_16 rfl (lv_at hl 1 rfl) ?_
      refine lv_aload_n hx hb d_R_valueOfStage_17 rfl (lv_at hl 0 rfl) ?_
      refine mw_get (v := .int (s0 (10 + 3 * i) 10)) hx hb hts in_R hown hK.1 hw (10 + 3 * i) (cC_rel hnr hi) rfl 10 (by decide) (hts _ tw_111) rfl d_R_valueOfStage_18 ?_
      refine mw_iald hx hb hK.1 hw (k) 0 (hk _) rfl (in_N h1 h2 hA) d_R_valueOfStage_21 ?_
      refine lv_goto (tgt := 26) hx hb d_R_valueOfStage_22 (by decide) ?_
      have e9 : f_R_valueOfStage s0 i k nA = s0 (k) (Int32.toNatClampNeg (s0 (10 + 3 * i) 10)) := by unfold f_R_valueOfStage; exact (if_neg h1).trans (if_neg h2)
      exact mw_iret hx hb hr rfl hw hS (congrArg (fun z => some (Value.int z)) e9.symm) ⟨rfl, rfl⟩ hlocks d_R_valueOfStage_26

def f_R_shareNow (s0 : S2) (i : Nat) : Int32 :=
  if (s0 (10 + 3 * i) 8) = 3 then
    1000
  else
    if (f_R_isAtStage s0 i) = 0 then
      0
    else
      f_R_valueOfStage s0 i (10 + 3 * i + 1) 5
set_option maxHeartbeats 4000000 in
set_option maxRecDepth 100000 in
theorem cc_R_shareNow (l : Launch) (G : Gx) (A : Nat → Prop) (ad : Nat → Nat) (nr nm : Nat) (hnr : nr ≤ 16) (hnm : nm ≤ 30) (s0 : S2) (i : Nat) (hi : i < nr) : Met l y_R_shareNow ws_R_shareNow { frames := 1, cells := 0, slots := 0, locals := 21 } (PG G [.ref (ad (10 + 3 * i))] A ad (encC G.2 ad nr nm s0)) (EG G A (some (.int (f_R_shareNow s0 i))) ad (encC G.2 ad nr nm s0)) 0 0 A := by
  refine Met.ofW (cc := c_R_shareNow) (maxL := 1) (ret := (some .int)) (by decide) rfl ?_
  intro p e s m args below meth c s₁ B hml hv
  obtain ⟨rfl, hw, hK⟩ := hv
  have hx := B.exec
  have hb := B.bytes
  have hr := B.returns
  have hts : ∀ w ∈ tbG, w.before [.ref (ad (10 + 3 * i))].toArray s = true := fun w h => atoms_spec (ws := ws_R_shareNow) B.pre w (List.mem_cons_of_mem _ h)
  have hown : s.vm.findClass "RollStages$Release" = some m.cls := findClass_of_methodNamed B.named
  have hlocks := B.notSynchronized
  have hS : va_S A s.heap s.heap [] := va_S.rf
  have hw : mwG G A ad (encC G.2 ad nr nm s0) s.heap := hw
  have hl := lv_entry ([.ref (ad (10 + 3 * i))]) (n := 1) (Nat.le_of_ble_eq_true rfl)
  rw [lg_entry_eq]
  generalize (lg_sl ([.ref (ad (10 + 3 * i))]) ++ List.replicate (1 - (lg_sl ([.ref (ad (10 + 3 * i))])).length) Slot.unset).toArray = ls at hl ⊢
  have hl : lv_has ls 1 [(0, .ref (ad (10 + 3 * i)))] := hl
  refine lv_aload_n hx hb d_R_shareNow_0 rfl (lv_at hl 0 rfl) ?_
  refine mw_get (v := .int (s0 (10 + 3 * i) 8)) hx hb hts in_R hown hK.1 hw (10 + 3 * i) (cC_rel hnr hi) rfl 8 (by decide) (hts _ tw_106) rfl d_R_shareNow_1 ?_
  refine lv_iconst (v := 3) hx hb d_R_shareNow_4 (by decide) ?_
  refine lv_icmp_ne (tgt := 12) hx hb d_R_shareNow_5 (by decide) (fun h1 => ?_) (fun h1 => ?_)
  · skip
    refine lv_aload_n hx hb d_R_shareNow_12 rfl (lv_at hl 0 rfl) ?_
    refine gV (As := []) (rest := []) (st1 := [.int (f_R_isAtStage s0 i)]) ⟨hx, hb, hml, hown, hts⟩ (cc_R_isAtStage l G A ad nr nm hnr hnm s0 i hi) (cC_rel hnr hi) rfl tw_247 tw_244 tw_246 tw_p16 tw_5 hd_R_isAtStage rfl rfl ⟨Nat.le_of_ble_eq_true rfl, Nat.le_of_ble_eq_true rfl⟩ hK hw hS hl.1 rfl (Nat.le_of_ble_eq_true rfl) ⟨Nat.zero_le _, Nat.zero_le _⟩ d_R_shareNow_13 rfl (fun H locs hw hS => ?_)
    refine lv_if_eq (tgt := 30) hx hb d_R_shareNow_16 (by decide) (fun h2 => ?_) (fun h2 => ?_)
    · skip
      refine lv_iconst (v := 0) hx hb d_R_shareNow_30 (by decide) ?_
      have e9 : f_R_shareNow s0 i = 0 := by unfold f_R_shareNow; exact (if_neg h1).trans (if_pos h2)
      exact mw_iret hx hb hr rfl hw hS (congrArg (fun z => some (Value.int z)) e9.symm) ⟨rfl, rfl⟩ hlocks d_R_shareNow_31
    · skip
      refine lv_aload_n hx hb d_R_shareNow_19 rfl (lv_at hl 0 rfl) ?_
      refine lv_aload_n hx hb d_R_shareNow_20 rfl (lv_at hl 0 rfl) ?_
      refine mw_get (v := .ref (ad (10 + 3 * i + 1))) hx hb hts in_R hown hK.1 hw (10 + 3 * i) (cC_rel hnr hi) rfl 3 (by decide) (hts _ tw_101) rfl d_R_shareNow_21 ?_
      refine gV (As := [.ref (ad (10 + 3 * i + 1))]) (rest := []) (st1 := [.int (f_R_valueOfStage s0 i (10 + 3 * i + 1) 5)]) ⟨hx, hb, hml, hown, hts⟩ (cc_R_valueOfStage l G A ad nr nm hnr hnm s0 i hi (10 + 3 * i + 1) 5 (fun _ => cC_sh hnr hi) (by decide)) (cC_rel hnr hi) rfl tw_220 tw_217 tw_219 tw_p11 tw_5 hd_R_valueOfStage rfl rfl ⟨Nat.le_of_ble_eq_true rfl, Nat.le_of_ble_eq_true rfl⟩ hK hw hS hl.1 rfl (Nat.le_of_ble_eq_true rfl) ⟨Nat.zero_le _, Nat.zero_le _⟩ d_R_shareNow_24 rfl (fun H locs hw hS => ?_)
      refine lv_goto (tgt := 31) hx hb d_R_shareNow_27 (by decide) ?_
      have e9 : f_R_shareNow s0 i = f_R_valueOfStage s0 i (10 + 3 * i + 1) 5 := by unfold f_R_shareNow; exact (if_neg h1).trans (if_neg h2)
      exact mw_iret hx hb hr rfl hw hS (congrArg (fun z => some (Value.int z)) e9.symm) ⟨rfl, rfl⟩ hlocks d_R_shareNow_31
  · skip
    refine lv_sipush (v := 1000) hx hb d_R_shareNow_8 (by decide) ?_
    have e9 : f_R_shareNow s0 i = 1000 := by unfold f_R_shareNow; exact if_pos h1
    exact mw_iret hx hb hr rfl hw hS (congrArg (fun z => some (Value.int z)) e9.symm) ⟨rfl, rfl⟩ hlocks d_R_shareNow_11

def f_R_isForced (s0 : S2) (i : Nat) : Int32 :=
  if (s0 (10 + 3 * i) 1) = 0 then
    0
  else
    if (s0 (10 + 3 * i) 8) = 1 then
      1
    else
      if (s0 (10 + 3 * i) 8) = 3 then
        1
      else
        if (s0 (10 + 3 * i) 9) = 3 then
          1
        else
          0
theorem fb_R_isForced (s0 : S2) (i : Nat) : narrow .boolean (.int (f_R_isForced s0 i)) = .int (f_R_isForced s0 i) := by
  unfold f_R_isForced
  repeat' split
  all_goals first | rfl | exact narrow_b0 | exact narrow_b1
set_option maxHeartbeats 4000000 in
set_option maxRecDepth 100000 in
theorem cc_R_isForced (l : Launch) (G : Gx) (A : Nat → Prop) (ad : Nat → Nat) (nr nm : Nat) (hnr : nr ≤ 16) (hnm : nm ≤ 30) (s0 : S2) (i : Nat) (hi : i < nr) : Met l y_R_isForced ws_R_isForced { frames := 0, cells := 0, slots := 0, locals := 0 } (PG G [.ref (ad (10 + 3 * i))] A ad (encC G.2 ad nr nm s0)) (EG G A (some (.int (f_R_isForced s0 i))) ad (encC G.2 ad nr nm s0)) 0 0 A := by
  refine Met.ofW (cc := c_R_isForced) (maxL := 1) (ret := (some .boolean)) (by decide) rfl ?_
  intro p e s m args below meth c s₁ B hml hv
  obtain ⟨rfl, hw, hK⟩ := hv
  have hx := B.exec
  have hb := B.bytes
  have hr := B.returns
  have hts : ∀ w ∈ tbG, w.before [.ref (ad (10 + 3 * i))].toArray s = true := fun w h => atoms_spec (ws := ws_R_isForced) B.pre w (List.mem_cons_of_mem _ h)
  have hown : s.vm.findClass "RollStages$Release" = some m.cls := findClass_of_methodNamed B.named
  have hlocks := B.notSynchronized
  have hS : va_S A s.heap s.heap [] := va_S.rf
  have hw : mwG G A ad (encC G.2 ad nr nm s0) s.heap := hw
  have hl := lv_entry ([.ref (ad (10 + 3 * i))]) (n := 1) (Nat.le_of_ble_eq_true rfl)
  rw [lg_entry_eq]
  generalize (lg_sl ([.ref (ad (10 + 3 * i))]) ++ List.replicate (1 - (lg_sl ([.ref (ad (10 + 3 * i))])).length) Slot.unset).toArray = ls at hl ⊢
  have hl : lv_has ls 1 [(0, .ref (ad (10 + 3 * i)))] := hl
  refine lv_aload_n hx hb d_R_isForced_0 rfl (lv_at hl 0 rfl) ?_
  refine mw_get (v := .int (s0 (10 + 3 * i) 1)) hx hb hts in_R hown hK.1 hw (10 + 3 * i) (cC_rel hnr hi) rfl 1 (by decide) (hts _ tw_98) rfl d_R_isForced_1 ?_
  refine lv_if_eq (tgt := 35) hx hb d_R_isForced_4 (by decide) (fun h1 => ?_) (fun h1 => ?_)
  · skip
    refine lv_iconst (v := 0) hx hb d_R_isForced_35 (by decide) ?_
    have e9 : f_R_isForced s0 i = 0 := by unfold f_R_isForced; exact if_pos h1
    exact mw_iret hx hb hr rfl hw hS (congrArg (fun z => some (Value.int z)) e9.symm) ⟨rfl, rfl⟩ hlocks d_R_isForced_36
  · skip
    refine lv_aload_n hx hb d_R_isForced_7 rfl (lv_at hl 0 rfl) ?_
    refine mw_get (v := .int (s0 (10 + 3 * i) 8)) hx hb hts in_R hown hK.1 hw (10 + 3 * i) (cC_rel hnr hi) rfl 8 (by decide) (hts _ tw_106) rfl d_R_isForced_8 ?_
    refine lv_iconst (v := 1) hx hb d_R_isForced_11 (by decide) ?_
    refine lv_icmp_eq (tgt := 31) hx hb d_R_isForced_12 (by decide) (fun h2 => ?_) (fun h2 => ?_)
    · skip
      refine lv_iconst (v := 1) hx hb d_R_isForced_31 (by decide) ?_
      refine lv_goto (tgt := 36) hx hb d_R_isForced_32 (by decide) ?_
      have e9 : f_R_isForced s0 i = 1 := by unfold f_R_isForced; exact (if_neg h1).trans (if_pos h2)
      exact mw_iret hx hb hr rfl hw hS (congrArg (fun z => some (Value.int z)) e9.symm) ⟨rfl, rfl⟩ hlocks d_R_isForced_36
    · skip
      refine lv_aload_n hx hb d_R_isForced_15 rfl (lv_at hl 0 rfl) ?_
      refine mw_get (v := .int (s0 (10 + 3 * i) 8)) hx hb hts in_R hown hK.1 hw (10 + 3 * i) (cC_rel hnr hi) rfl 8 (by decide) (hts _ tw_106) rfl d_R_isForced_16 ?_
      refine lv_iconst (v := 3) hx hb d_R_isForced_19 (by decide) ?_
      refine lv_icmp_eq (tgt := 31) hx hb d_R_isForced_20 (by decide) (fun h3 => ?_) (fun h3 => ?_)
      · skip
        refine lv_iconst (v := 1) hx hb d_R_isForced_31 (by decide) ?_
        refine lv_goto (tgt := 36) hx hb d_R_isForced_32 (by decide) ?_
        have e9 : f_R_isForced s0 i = 1 := by unfold f_R_isForced; exact (if_neg h1).trans ((if_neg h2).trans (if_pos h3))
        exact mw_iret hx hb hr rfl hw hS (congrArg (fun z => some (Value.int z)) e9.symm) ⟨rfl, rfl⟩ hlocks d_R_isForced_36
      · skip
        refine lv_aload_n hx hb d_R_isForced_23 rfl (lv_at hl 0 rfl) ?_
        refine mw_get (v := .int (s0 (10 + 3 * i) 9)) hx hb hts in_R hown hK.1 hw (10 + 3 * i) (cC_rel hnr hi) rfl 9 (by decide) (hts _ tw_109) rfl d_R_isForced_24 ?_
        refine lv_iconst (v := 3) hx hb d_R_isForced_27 (by decide) ?_
        refine lv_icmp_ne (tgt := 35) hx hb d_R_isForced_28 (by decide) (fun h4 => ?_) (fun h4 => ?_)
        · skip
          refine lv_iconst (v := 0) hx hb d_R_isForced_35 (by decide) ?_
          have e9 : f_R_isForced s0 i = 0 := by unfold f_R_isForced; exact (if_neg h1).trans ((if_neg h2).trans ((if_neg h3).trans (if_neg h4)))
          exact mw_iret hx hb hr rfl hw hS (congrArg (fun z => some (Value.int z)) e9.symm) ⟨rfl, rfl⟩ hlocks d_R_isForced_36
        · skip
          refine lv_iconst (v := 1) hx hb d_R_isForced_31 (by decide) ?_
          refine lv_goto (tgt := 36) hx hb d_R_isForced_32 (by decide) ?_
          have e9 : f_R_isForced s0 i = 1 := by unfold f_R_isForced; exact (if_neg h1).trans ((if_neg h2).trans ((if_neg h3).trans (if_pos h4)))
          exact mw_iret hx hb hr rfl hw hS (congrArg (fun z => some (Value.int z)) e9.symm) ⟨rfl, rfl⟩ hlocks d_R_isForced_36

def f_R_reachesRing (s0 : S2) (i : Nat) (a1 : Int32) : Int32 :=
  if (s0 (10 + 3 * i) 8) = 3 then
    1
  else
    if (f_R_isAtStage s0 i) = 0 then
      0
    else
      if (s0 (10 + 3 * i) 10) < a1 then
        0
      else
        1
theorem fb_R_reachesRing (s0 : S2) (i : Nat) (a1 : Int32) : narrow .boolean (.int (f_R_reachesRing s0 i a1)) = .int (f_R_reachesRing s0 i a1) := by
  unfold f_R_reachesRing
  repeat' split
  all_goals first | rfl | exact narrow_b0 | exact narrow_b1
set_option maxHeartbeats 4000000 in
set_option maxRecDepth 100000 in
theorem cc_R_reachesRing (l : Launch) (G : Gx) (A : Nat → Prop) (ad : Nat → Nat) (nr nm : Nat) (hnr : nr ≤ 16) (hnm : nm ≤ 30) (s0 : S2) (i : Nat) (hi : i < nr) (a1 : Int32) : Met l y_R_reachesRing ws_R_reachesRing { frames := 1, cells := 0, slots := 0, locals := 20 } (PG G [.ref (ad (10 + 3 * i)), .int (a1)] A ad (encC G.2 ad nr nm s0)) (EG G A (some (.int (f_R_reachesRing s0 i a1))) ad (encC G.2 ad nr nm s0)) 0 0 A := by
  refine Met.ofW (cc := c_R_reachesRing) (maxL := 2) (ret := (some .boolean)) (by decide) rfl ?_
  intro p e s m args below meth c s₁ B hml hv
  obtain ⟨rfl, hw, hK⟩ := hv
  have hx := B.exec
  have hb := B.bytes
  have hr := B.returns
  have hts : ∀ w ∈ tbG, w.before [.ref (ad (10 + 3 * i)), .int (a1)].toArray s = true := fun w h => atoms_spec (ws := ws_R_reachesRing) B.pre w (List.mem_cons_of_mem _ h)
  have hown : s.vm.findClass "RollStages$Release" = some m.cls := findClass_of_methodNamed B.named
  have hlocks := B.notSynchronized
  have hS : va_S A s.heap s.heap [] := va_S.rf
  have hw : mwG G A ad (encC G.2 ad nr nm s0) s.heap := hw
  have hl := lv_entry ([.ref (ad (10 + 3 * i)), .int (a1)]) (n := 2) (Nat.le_of_ble_eq_true rfl)
  rw [lg_entry_eq]
  generalize (lg_sl ([.ref (ad (10 + 3 * i)), .int (a1)]) ++ List.replicate (2 - (lg_sl ([.ref (ad (10 + 3 * i)), .int (a1)])).length) Slot.unset).toArray = ls at hl ⊢
  have hl : lv_has ls 2 [(0, .ref (ad (10 + 3 * i))), (1, .int (a1))] := hl
  refine lv_aload_n hx hb d_R_reachesRing_0 rfl (lv_at hl 0 rfl) ?_
  refine mw_get (v := .int (s0 (10 + 3 * i) 8)) hx hb hts in_R hown hK.1 hw (10 + 3 * i) (cC_rel hnr hi) rfl 8 (by decide) (hts _ tw_106) rfl d_R_reachesRing_1 ?_
  refine lv_iconst (v := 3) hx hb d_R_reachesRing_4 (by decide) ?_
  refine lv_icmp_eq (tgt := 23) hx hb d_R_reachesRing_5 (by decide) (fun h1 => ?_) (fun h1 => ?_)
  · skip
    refine lv_iconst (v := 1) hx hb d_R_reachesRing_23 (by decide) ?_
    refine lv_goto (tgt := 28) hx hb d_R_reachesRing_24 (by decide) ?_
    have e9 : f_R_reachesRing s0 i a1 = 1 := by unfold f_R_reachesRing; exact if_pos h1
    exact mw_iret hx hb hr rfl hw hS (congrArg (fun z => some (Value.int z)) e9.symm) ⟨rfl, rfl⟩ hlocks d_R_reachesRing_28
  · skip
    refine lv_aload_n hx hb d_R_reachesRing_8 rfl (lv_at hl 0 rfl) ?_
    refine gV (As := []) (rest := []) (st1 := [.int (f_R_isAtStage s0 i)]) ⟨hx, hb, hml, hown, hts⟩ (cc_R_isAtStage l G A ad nr nm hnr hnm s0 i hi) (cC_rel hnr hi) rfl tw_247 tw_244 tw_246 tw_p16 tw_5 hd_R_isAtStage rfl rfl ⟨Nat.le_of_ble_eq_true rfl, Nat.le_of_ble_eq_true rfl⟩ hK hw hS hl.1 rfl (Nat.le_of_ble_eq_true rfl) ⟨Nat.zero_le _, Nat.zero_le _⟩ d_R_reachesRing_9 rfl (fun H locs hw hS => ?_)
    refine lv_if_eq (tgt := 27) hx hb d_R_reachesRing_12 (by decide) (fun h2 => ?_) (fun h2 => ?_)
    · skip
      refine lv_iconst (v := 0) hx hb d_R_reachesRing_27 (by decide) ?_
      have e9 : f_R_reachesRing s0 i a1 = 0 := by unfold f_R_reachesRing; exact (if_neg h1).trans (if_pos h2)
      exact mw_iret hx hb hr rfl hw hS (congrArg (fun z => some (Value.int z)) e9.symm) ⟨rfl, rfl⟩ hlocks d_R_reachesRing_28
    · skip
      refine lv_aload_n hx hb d_R_reachesRing_15 rfl (lv_at hl 0 rfl) ?_
      refine mw_get (v := .int (s0 (10 + 3 * i) 10)) hx hb hts in_R hown hK.1 hw (10 + 3 * i) (cC_rel hnr hi) rfl 10 (by decide) (hts _ tw_111) rfl d_R_reachesRing_16 ?_
      refine lv_iload_n hx hb d_R_reachesRing_19 rfl (lv_at hl 1 rfl) ?_
      refine lv_icmp_lt (tgt := 27) hx hb d_R_reachesRing_20 (by decide) (fun h3 => ?_) (fun h3 => ?_)
      · skip
        refine lv_iconst (v := 0) hx hb d_R_reachesRing_27 (by decide) ?_
        have e9 : f_R_reachesRing s0 i a1 = 0 := by unfold f_R_reachesRing; exact (if_neg h1).trans ((if_neg h2).trans (if_pos h3))
        exact mw_iret hx hb hr rfl hw hS (congrArg (fun z => some (Value.int z)) e9.symm) ⟨rfl, rfl⟩ hlocks d_R_reachesRing_28
      · skip
        refine lv_iconst (v := 1) hx hb d_R_reachesRing_23 (by decide) ?_
        refine lv_goto (tgt := 28) hx hb d_R_reachesRing_24 (by decide) ?_
        have e9 : f_R_reachesRing s0 i a1 = 1 := by unfold f_R_reachesRing; exact (if_neg h1).trans ((if_neg h2).trans (if_neg h3))
        exact mw_iret hx hb hr rfl hw hS (congrArg (fun z => some (Value.int z)) e9.symm) ⟨rfl, rfl⟩ hlocks d_R_reachesRing_28

def f_R_isTooBad (s0 : S2) (i : Nat) : Int32 :=
  if (lg_cmp ((Int32.toInt64 (s0 (10 + 3 * i) 13)) * (Int32.toInt64 (s0 (10 + 3 * i) 7))) ((Int32.toInt64 (s0 (10 + 3 * i) 6)) * (Int32.toInt64 (f_R_allReports s0 i)))) ≤ 0 then
    0
  else
    1
theorem fb_R_isTooBad (s0 : S2) (i : Nat) : narrow .boolean (.int (f_R_isTooBad s0 i)) = .int (f_R_isTooBad s0 i) := by
  unfold f_R_isTooBad
  repeat' split
  all_goals first | rfl | exact narrow_b0 | exact narrow_b1
set_option maxHeartbeats 4000000 in
set_option maxRecDepth 100000 in
theorem cc_R_isTooBad (l : Launch) (G : Gx) (A : Nat → Prop) (ad : Nat → Nat) (nr nm : Nat) (hnr : nr ≤ 16) (hnm : nm ≤ 30) (s0 : S2) (i : Nat) (hi : i < nr) : Met l y_R_isTooBad ws_R_isTooBad { frames := 1, cells := 0, slots := 0, locals := 20 } (PG G [.ref (ad (10 + 3 * i))] A ad (encC G.2 ad nr nm s0)) (EG G A (some (.int (f_R_isTooBad s0 i))) ad (encC G.2 ad nr nm s0)) 0 0 A := by
  refine Met.ofW (cc := c_R_isTooBad) (maxL := 1) (ret := (some .boolean)) (by decide) rfl ?_
  intro p e s m args below meth c s₁ B hml hv
  obtain ⟨rfl, hw, hK⟩ := hv
  have hx := B.exec
  have hb := B.bytes
  have hr := B.returns
  have hts : ∀ w ∈ tbG, w.before [.ref (ad (10 + 3 * i))].toArray s = true := fun w h => atoms_spec (ws := ws_R_isTooBad) B.pre w (List.mem_cons_of_mem _ h)
  have hown : s.vm.findClass "RollStages$Release" = some m.cls := findClass_of_methodNamed B.named
  have hlocks := B.notSynchronized
  have hS : va_S A s.heap s.heap [] := va_S.rf
  have hw : mwG G A ad (encC G.2 ad nr nm s0) s.heap := hw
  have hl := lv_entry ([.ref (ad (10 + 3 * i))]) (n := 1) (Nat.le_of_ble_eq_true rfl)
  rw [lg_entry_eq]
  generalize (lg_sl ([.ref (ad (10 + 3 * i))]) ++ List.replicate (1 - (lg_sl ([.ref (ad (10 + 3 * i))])).length) Slot.unset).toArray = ls at hl ⊢
  have hl : lv_has ls 1 [(0, .ref (ad (10 + 3 * i)))] := hl
  refine lv_aload_n hx hb d_R_isTooBad_0 rfl (lv_at hl 0 rfl) ?_
  refine mw_get (v := .int (s0 (10 + 3 * i) 13)) hx hb hts in_R hown hK.1 hw (10 + 3 * i) (cC_rel hnr hi) rfl 13 (by decide) (hts _ tw_114) rfl d_R_isTooBad_1 ?_
  refine lv_i2l (v := Int32.toInt64 (s0 (10 + 3 * i) 13)) hx hb d_R_isTooBad_4 rfl ?_
  refine lv_aload_n hx hb d_R_isTooBad_5 rfl (lv_at hl 0 rfl) ?_
  refine mw_get (v := .int (s0 (10 + 3 * i) 7)) hx hb hts in_R hown hK.1 hw (10 + 3 * i) (cC_rel hnr hi) rfl 7 (by decide) (hts _ tw_105) rfl d_R_isTooBad_6 ?_
  refine lv_i2l (v := Int32.toInt64 (s0 (10 + 3 * i) 7)) hx hb d_R_isTooBad_9 rfl ?_
  refine lv_lmul hx hb d_R_isTooBad_10 ?_
  refine lv_aload_n hx hb d_R_isTooBad_11 rfl (lv_at hl 0 rfl) ?_
  refine mw_get (v := .int (s0 (10 + 3 * i) 6)) hx hb hts in_R hown hK.1 hw (10 + 3 * i) (cC_rel hnr hi) rfl 6 (by decide) (hts _ tw_104) rfl d_R_isTooBad_12 ?_
  refine lv_i2l (v := Int32.toInt64 (s0 (10 + 3 * i) 6)) hx hb d_R_isTooBad_15 rfl ?_
  refine lv_aload_n hx hb d_R_isTooBad_16 rfl (lv_at hl 0 rfl) ?_
  refine gV (As := []) (rest := [.long (Int32.toInt64 (s0 (10 + 3 * i) 6)), .long ((Int32.toInt64 (s0 (10 + 3 * i) 13)) * (Int32.toInt64 (s0 (10 + 3 * i) 7)))]) (st1 := [.int (f_R_allReports s0 i), .long (Int32.toInt64 (s0 (10 + 3 * i) 6)), .long ((Int32.toInt64 (s0 (10 + 3 * i) 13)) * (Int32.toInt64 (s0 (10 + 3 * i) 7)))]) ⟨hx, hb, hml, hown, hts⟩ (cc_R_allReports l G A ad nr nm hnr hnm s0 i hi) (cC_rel hnr hi) rfl tw_231 tw_228 tw_230 tw_p13 tw_5 hd_R_allReports rfl rfl ⟨Nat.le_of_ble_eq_true rfl, Nat.le_of_ble_eq_true rfl⟩ hK hw hS hl.1 rfl (Nat.le_of_ble_eq_true rfl) ⟨Nat.zero_le _, Nat.zero_le _⟩ d_R_isTooBad_17 rfl (fun H locs hw hS => ?_)
  refine lv_i2l (v := Int32.toInt64 (f_R_allReports s0 i)) hx hb d_R_isTooBad_20 rfl ?_
  refine lv_lmul hx hb d_R_isTooBad_21 ?_
  refine W.lcmp hx hb d_R_isTooBad_22 ?_
  refine lv_if_le (tgt := 30) hx hb d_R_isTooBad_23 (by decide) (fun h1 => ?_) (fun h1 => ?_)
  · skip
    refine lv_iconst (v := 0) hx hb d_R_isTooBad_30 (by decide) ?_
    have e9 : f_R_isTooBad s0 i = 0 := by unfold f_R_isTooBad; exact if_pos h1
    exact mw_iret hx hb hr rfl hw hS (congrArg (fun z => some (Value.int z)) e9.symm) ⟨rfl, rfl⟩ hlocks d_R_isTooBad_31
  · skip
    refine lv_iconst (v := 1) hx hb d_R_isTooBad_26 (by decide) ?_
    refine lv_goto (tgt := 31) hx hb d_R_isTooBad_27 (by decide) ?_
    have e9 : f_R_isTooBad s0 i = 1 := by unfold f_R_isTooBad; exact if_neg h1
    exact mw_iret hx hb hr rfl hw hS (congrArg (fun z => some (Value.int z)) e9.symm) ⟨rfl, rfl⟩ hlocks d_R_isTooBad_31

def h_T_tick_37 (a1 : Int32) (x2 : Int32) : Nat → S2 → Int32 → S2
  | 0, s1, _ => s1
  | n + 1, s1, x3 =>
    if (s1 0 2) ≤ x3 then
      s1
    else
      h_T_tick_37 a1 x2 n (f_T_pass s1 x3) (x3 + 1)
def h_T_tick_20 (a1 : Int32) : Nat → S2 → Int32 → S2
  | 0, s1, _ => s1
  | n + 1, s1, x2 =>
    if a1 ≤ x2 then
      s1
    else
      h_T_tick_20 a1 n (h_T_tick_37 a1 x2 17 (up2 s1 (0) 1 ((s1 0 1) + 1)) 0) (x2 + 1)
def f_T_tick (s0 : S2) (a1 : Int32) : Int32 × S2 :=
  if (f_T_isWithin a1 0 2000) = 0 then
    (-1, up2 s0 (0) 0 0)
  else
    ((h_T_tick_20 a1 2001 (up2 s0 (0) 0 0) 0) 0 1, h_T_tick_20 a1 2001 (up2 s0 (0) 0 0) 0)
theorem Wt_begin {s : S2} {a k : Int32} (h : Wt s) (hk : 0 ≤ k.toInt ∧ k.toInt ≤ 4) : Wt (f_T_begin s a k) := by
  unfold f_T_begin
  exact Wt_up (Wt_up (Wt_up (Wt_up (Wt_up (Wt_up h (by unfold Wk; omega)) (by unfold Wk; omega)) (by unfold Wk; omega)) (by unfold Wk; omega)) (by unfold Wk; omega)) (by unfold Wk; omega)
theorem Wt_halt {s : S2} {a k : Int32} (h : Wt s) : Wt (f_T_halt s a k) := by
  unfold f_T_halt
  exact Wt_up (Wt_up h (by unfold Wk; omega)) (by unfold Wk; omega)
theorem Wt_pass {s : S2} {a : Int32} (h : Wt s) (hq : vp_in a 16) : Wt (f_T_pass s a) := by
  have h1 := (h.2.2.2.1 _ (vin hq).2.2)
  unfold f_T_pass
  repeat' split
  all_goals first | exact h | exact Wt_halt h | exact Wt_up h (by unfold Wk; omega) | skip
  rename_i hh
  refine Wt_begin h ?_
  rw [i_le, i_up (by omega) (by omega)] at hh
  rw [i_up (by omega) (by omega)]
  omega
theorem Wt_h37 (a1 x2 : Int32) : ∀ (n : Nat) (s : S2) (x : Int32), 0 ≤ x.toInt → Wt s → Wt (h_T_tick_37 a1 x2 n s x) := by
  intro n
  induction n with
  | zero => intro s x h0 h; exact h
  | succ n ih =>
    intro s x h0 h
    have hr := h.1
    rw [h_T_tick_37]
    by_cases h3 : s 0 2 ≤ x
    · rw [if_pos h3]; exact h
    · rw [if_neg h3]
      have h5 := lt_in h h0 h3
      rw [i_le] at h3
      exact ih _ _ (by rw [i_up (by omega) (by omega)]; omega) (Wt_pass h h5)
theorem tk_a {a : Int32} (h : ¬ f_T_isWithin a 0 2000 = 0) : (0 : Int32).toInt ≤ a.toInt ∧ a.toInt ≤ 2000 ∧ (2001 : Int) ≤ (0 : Int32).toInt + ((2001 : Nat) : Int) := by
  rw [isW_ne, i_le, i_le, show (2000 : Int32).toInt = 2000 from rfl] at h
  exact ⟨h.1, h.2, by decide⟩
theorem tk_S2 {x a : Int32} {n : Nat} (hI : 0 ≤ x.toInt ∧ x.toInt ≤ a.toInt ∧ a.toInt ≤ 2000 ∧ 2001 ≤ x.toInt + ((n + 1 : Nat) : Int)) (h : ¬ a ≤ x) : 0 ≤ (x + 1).toInt ∧ (x + 1).toInt ≤ a.toInt ∧ a.toInt ≤ 2000 ∧ 2001 ≤ (x + 1).toInt + (n : Int) := by
  rw [i_le] at h
  rw [i_up (by omega) (by omega)]
  omega

set_option maxHeartbeats 4000000 in
set_option maxRecDepth 100000 in
theorem cc_T_tick (l : Launch) (G : Gx) (A : Nat → Prop) (ad : Nat → Nat) (s0 : S2) (a1 : Int32) (hW : Wt s0) : Met l y_T_tick ws_T_tick { frames := 2, cells := 0, slots := 0, locals := 43 } (PG G [.ref (ad (0)), .int (a1)] A ad (encT G.2 ad s0)) (EG G A (some (.int (f_T_tick s0 a1).1)) ad (encT G.2 ad ((f_T_tick s0 a1).2))) 0 0 A := by
  refine Met.ofW (cc := c_T_tick) (maxL := 4) (ret := (some .int)) (by decide) rfl ?_
  intro p e s m args below meth c s₁ B hml hv
  obtain ⟨rfl, hw, hK⟩ := hv
  have hx := B.exec
  have hb := B.bytes
  have hr := B.returns
  have hts : ∀ w ∈ tbG, w.before [.ref (ad (0)), .int (a1)].toArray s = true := fun w h => atoms_spec (ws := ws_T_tick) B.pre w (List.mem_cons_of_mem _ h)
  have hown : s.vm.findClass "RollStagesModel" = some m.cls := findClass_of_methodNamed B.named
  have hlocks := B.notSynchronized
  have hS : va_S A s.heap s.heap [] := va_S.rf
  have hw : mwG G A ad (encT G.2 ad s0) s.heap := hw
  have loop_37 : ∀ (Q : State → Prop) (x2 : Int32) (n : Nat) (s1 : S2) (x3 : Int32), Wt s1 ∧ 0 ≤ x3.toInt ∧ x3.toInt ≤ 16 ∧ 17 ≤ x3.toInt + n → ∀ (H : Heap) (locs : List Loc) (ls : Array Slot), mwG G A ad (encT G.2 ad s1) H → va_S A s.heap H locs → lv_has ls 4 [(0, .ref (ad (0))), (1, .int (a1)), (2, .int (x2)), (3, .int (x3))] → (∀ (H : Heap) (locs : List Loc) (ls : Array Slot), mwG G A ad (encT G.2 ad (h_T_tick_37 a1 x2 n s1 x3)) H → va_S A s.heap H locs → lv_has ls 4 [(0, .ref (ad (0))), (1, .int (a1)), (2, .int (x2))] → W p l e (headSpec ws_T_tick { frames := 2, cells := 0, slots := 0, locals := 43 }).room s m [.ref (ad (0)), .int (a1)].toArray below meth c H locs 0 0 Q (F0 m 56 ls [])) → W p l e (headSpec ws_T_tick { frames := 2, cells := 0, slots := 0, locals := 43 }).room s m [.ref (ad (0)), .int (a1)].toArray below meth c H locs 0 0 Q (F0 m 37 ls []) := by
    intro Q x2 n
    induction n with
    | zero =>
      intro s1 x3 hI
      exact absurd hI.2 (by omega)
    | succ n ih =>
      intro s1 x3 hI H locs ls hw hS hl hQ
      refine lv_iload_n hx hb d_T_tick_37 rfl (lv_at hl 3 rfl) ?_
      refine lv_aload_n hx hb d_T_tick_38 rfl (lv_at hl 0 rfl) ?_
      refine mw_get (v := .int (s1 0 2)) hx hb hts in_T hown hK.1 hw (0) cT_0 rfl 2 (by decide) (hts _ tw_411) rfl d_T_tick_39 ?_
      refine lv_icmp_ge (tgt := 56) hx hb d_T_tick_42 (by decide) (fun h371 => ?_) (fun h371 => ?_)
      · skip
        have e9 : h_T_tick_37 a1 x2 (n + 1) s1 x3 = s1 := by rw [h_T_tick_37]; exact if_pos h371
        exact hQ _ _ _ (by rw [e9]; exact hw) hS (lv_sub hl [0, 1, 2] rfl)
      · skip
        refine lv_aload_n hx hb d_T_tick_45 rfl (lv_at hl 0 rfl) ?_
        refine lv_iload_n hx hb d_T_tick_46 rfl (lv_at hl 3 rfl) ?_
        refine gV (As := [.int (x3)]) (rest := []) (st1 := []) ⟨hx, hb, hml, hown, hts⟩ (cc_T_pass l G A ad  s1 x3 hI.1 (lt_in hI.1 hI.2.1 h371)) cT_0 rfl tw_555 tw_552 tw_554 tw_p36 tw_4 hd_T_pass rfl rfl ⟨Nat.le_of_ble_eq_true rfl, Nat.le_of_ble_eq_true rfl⟩ hK hw hS hl.1 rfl (Nat.le_of_ble_eq_true rfl) ⟨Nat.zero_le _, Nat.zero_le _⟩ d_T_tick_47 rfl (fun H locs hw hS => ?_)
        refine lv_iinc (v := x3 + 1) (lv' := [(3, .int (x3 + 1)), (0, .ref (ad (0))), (1, .int (a1)), (2, .int (x2))]) hx hb d_T_tick_50 hl (k := 3) rfl (by first | rfl | decide) (by decide) rfl (fun ls hl => ?_)
        refine lv_goto (tgt := 37) hx hb d_T_tick_53 (by decide) ?_
        have e9 : h_T_tick_37 a1 x2 (n + 1) s1 x3 = h_T_tick_37 a1 x2 n (f_T_pass s1 x3) (x3 + 1) := by rw [h_T_tick_37]; exact if_neg h371
        refine ih (f_T_pass s1 x3) (x3 + 1) ⟨Wt_pass hI.1 (lt_in hI.1 hI.2.1 h371), lt_S hI.1 hI.2 h371⟩ _ _ _ hw hS (lv_sub hl [1, 2, 3, 0] rfl) (fun H locs ls hw hS hl => hQ H locs ls (by rw [e9]; exact hw) hS hl)
  have loop_20 : ∀ (Q : State → Prop) (n : Nat) (s1 : S2) (x2 : Int32), Wt s1 ∧ 0 ≤ x2.toInt ∧ x2.toInt ≤ a1.toInt ∧ a1.toInt ≤ 2000 ∧ 2001 ≤ x2.toInt + n → ∀ (H : Heap) (locs : List Loc) (ls : Array Slot), mwG G A ad (encT G.2 ad s1) H → va_S A s.heap H locs → lv_has ls 4 [(0, .ref (ad (0))), (1, .int (a1)), (2, .int (x2))] → (∀ (H : Heap) (locs : List Loc) (ls : Array Slot), mwG G A ad (encT G.2 ad (h_T_tick_20 a1 n s1 x2)) H → va_S A s.heap H locs → lv_has ls 4 [(0, .ref (ad (0))), (1, .int (a1))] → W p l e (headSpec ws_T_tick { frames := 2, cells := 0, slots := 0, locals := 43 }).room s m [.ref (ad (0)), .int (a1)].toArray below meth c H locs 0 0 Q (F0 m 62 ls [])) → W p l e (headSpec ws_T_tick { frames := 2, cells := 0, slots := 0, locals := 43 }).room s m [.ref (ad (0)), .int (a1)].toArray below meth c H locs 0 0 Q (F0 m 20 ls []) := by
    intro Q n
    induction n with
    | zero =>
      intro s1 x2 hI
      exact absurd hI.2 (by omega)
    | succ n ih =>
      intro s1 x2 hI H locs ls hw hS hl hQ
      refine lv_iload_n hx hb d_T_tick_20 rfl (lv_at hl 2 rfl) ?_
      refine lv_iload_n hx hb d_T_tick_21 rfl (lv_at hl 1 rfl) ?_
      refine lv_icmp_ge (tgt := 62) hx hb d_T_tick_22 (by decide) (fun h201 => ?_) (fun h201 => ?_)
      · skip
        have e9 : h_T_tick_20 a1 (n + 1) s1 x2 = s1 := by rw [h_T_tick_20]; exact if_pos h201
        exact hQ _ _ _ (by rw [e9]; exact hw) hS (lv_sub hl [0, 1] rfl)
      · skip
        refine lv_aload_n hx hb d_T_tick_25 rfl (lv_at hl 0 rfl) ?_
        refine lv_dup hx hb d_T_tick_26 rfl ?_
        refine mw_get (v := .int (s1 0 1)) hx hb hts in_T hown hK.1 hw (0) cT_0 rfl 1 (by decide) (hts _ tw_410) rfl d_T_tick_27 ?_
        refine lv_iconst (v := 1) hx hb d_T_tick_30 (by decide) ?_
        refine lv_iadd hx hb d_T_tick_31 ?_
        refine mw_put (v := .int ((s1 0 1) + 1)) hx hb hts in_T ty_T ty_T_ok n_T hown hK.1 hw hS (0) cT_0 rfl 1 (by decide) (hts _ tw_410) rfl rfl rfl (Nat.le_of_ble_eq_true rfl) d_T_tick_32 (fun H locs hw hS => ?_)
        replace hw := mw_encT (r := upd (s1 (0)) 1 ((s1 0 1) + 1)) hw cT_0
        have hw : mwG G A ad (encT G.2 ad (up2 s1 (0) 1 ((s1 0 1) + 1))) H := hw
        refine lv_iconst (v := 0) hx hb d_T_tick_35 (by decide) ?_
        refine lv_istore_n (lv' := [(3, .int (0)), (0, .ref (ad (0))), (1, .int (a1)), (2, .int (x2))]) hx hb d_T_tick_36 rfl hl (by decide) rfl (fun ls hl => ?_)
        refine loop_37 _ x2 17 (up2 s1 (0) 1 ((s1 0 1) + 1)) 0 ⟨Wt_up hI.1 (by unfold Wk; omega), by decide⟩ _ _ _ hw hS (lv_sub hl [1, 2, 3, 0] rfl) (fun H locs ls hw hS hl => ?_)
        refine lv_iinc (v := x2 + 1) (lv' := [(2, .int (x2 + 1)), (0, .ref (ad (0))), (1, .int (a1))]) hx hb d_T_tick_56 hl (k := 2) rfl (by first | rfl | decide) (by decide) rfl (fun ls hl => ?_)
        refine lv_goto (tgt := 20) hx hb d_T_tick_59 (by decide) ?_
        have e9 : h_T_tick_20 a1 (n + 1) s1 x2 = h_T_tick_20 a1 n (h_T_tick_37 a1 x2 17 (up2 s1 (0) 1 ((s1 0 1) + 1)) 0) (x2 + 1) := by rw [h_T_tick_20]; exact if_neg h201
        refine ih (h_T_tick_37 a1 x2 17 (up2 s1 (0) 1 ((s1 0 1) + 1)) 0) (x2 + 1) ⟨Wt_h37 _ _ _ _ _ (by decide) (Wt_up hI.1 (by unfold Wk; omega)), tk_S2 hI.2 h201⟩ _ _ _ hw hS (lv_sub hl [1, 2, 0] rfl) (fun H locs ls hw hS hl => hQ H locs ls (by rw [e9]; exact hw) hS hl)
  have hl := lv_entry ([.ref (ad (0)), .int (a1)]) (n := 4) (Nat.le_of_ble_eq_true rfl)
  rw [lg_entry_eq]
  generalize (lg_sl ([.ref (ad (0)), .int (a1)]) ++ List.replicate (4 - (lg_sl ([.ref (ad (0)), .int (a1)])).length) Slot.unset).toArray = ls at hl ⊢
  have hl : lv_has ls 4 [(0, .ref (ad (0))), (1, .int (a1))] := hl
  refine lv_aload_n hx hb d_T_tick_0 rfl (lv_at hl 0 rfl) ?_
  refine lv_iconst (v := 0) hx hb d_T_tick_1 (by decide) ?_
  refine mw_put (v := .int (0)) hx hb hts in_T ty_T ty_T_ok n_T hown hK.1 hw hS (0) cT_0 rfl 0 (by decide) (hts _ tw_409) rfl rfl rfl (Nat.le_of_ble_eq_true rfl) d_T_tick_2 (fun H locs hw hS => ?_)
  replace hw := mw_encT (r := upd (s0 (0)) 0 0) hw cT_0
  have hw : mwG G A ad (encT G.2 ad (up2 s0 (0) 0 0)) H := hw
  refine lv_iload_n hx hb d_T_tick_5 rfl (lv_at hl 1 rfl) ?_
  refine lv_iconst (v := 0) hx hb d_T_tick_6 (by decide) ?_
  refine lv_sipush (v := 2000) hx hb d_T_tick_7 (by decide) ?_
  refine gS (As := [.int (a1), .int (0), .int (2000)]) (rest := []) (st1 := [.int (f_T_isWithin a1 0 2000)]) ⟨hx, hb, hml, hown, hts⟩ (cc_T_isWithin l G A ad  (up2 s0 (0) 0 0) a1 0 2000) tw_510 tw_508 tw_509 tw_4 hd_T_isWithin rfl rfl ⟨Nat.le_of_ble_eq_true rfl, Nat.le_of_ble_eq_true rfl⟩ hK hw hS hl.1 rfl (Nat.le_of_ble_eq_true rfl) ⟨Nat.zero_le _, Nat.zero_le _⟩ d_T_tick_10 rfl (fun H locs hw hS => ?_)
  refine lv_if_ne (tgt := 18) hx hb d_T_tick_13 (by decide) (fun h1 => ?_) (fun h1 => ?_)
  · skip
    refine lv_iconst (v := 0) hx hb d_T_tick_18 (by decide) ?_
    refine lv_istore_n (lv' := [(2, .int (0)), (0, .ref (ad (0))), (1, .int (a1))]) hx hb d_T_tick_19 rfl hl (by decide) rfl (fun ls hl => ?_)
    refine loop_20 _ 2001 (up2 s0 (0) 0 0) 0 ⟨Wt_c hW, by decide, tk_a h1⟩ _ _ _ hw hS (lv_sub hl [1, 2, 0] rfl) (fun H locs ls hw hS hl => ?_)
    refine lv_aload_n hx hb d_T_tick_62 rfl (lv_at hl 0 rfl) ?_
    refine mw_get (v := .int ((h_T_tick_20 a1 2001 (up2 s0 (0) 0 0) 0) 0 1)) hx hb hts in_T hown hK.1 hw (0) cT_0 rfl 1 (by decide) (hts _ tw_410) rfl d_T_tick_63 ?_
    have e9 : f_T_tick s0 a1 = ((h_T_tick_20 a1 2001 (up2 s0 (0) 0 0) 0) 0 1, h_T_tick_20 a1 2001 (up2 s0 (0) 0 0) 0) := by unfold f_T_tick; exact if_neg h1
    exact mw_iret hx hb hr rfl hw hS (congrArg (fun z => some (Value.int z.1)) e9.symm) ⟨rfl, congrArg (fun z => encT G.2 ad z.2) e9.symm⟩ hlocks d_T_tick_66
  · skip
    refine lv_iconst (v := -1) hx hb d_T_tick_16 (by decide) ?_
    have e9 : f_T_tick s0 a1 = (-1, up2 s0 (0) 0 0) := by unfold f_T_tick; exact if_pos h1
    exact mw_iret hx hb hr rfl hw hS (congrArg (fun z => some (Value.int z.1)) e9.symm) ⟨rfl, congrArg (fun z => encT G.2 ad z.2) e9.symm⟩ hlocks d_T_tick_17

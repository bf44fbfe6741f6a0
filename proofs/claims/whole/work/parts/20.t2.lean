theorem of_rng {s : S2} {a : Int32} (h : Wt s) (hq : vp_in a 30) : -1 ≤ (f_T_offer s a).toInt ∧ (f_T_offer s a).toInt ≤ 15 := by
  have h1 := h.2.2.2.2.1 _ (vin hq).2.2
  have h2 := of_rg s a h 17 (-1) 0 (by decide) (by decide)
  unfold f_T_offer
  repeat' split
  all_goals first | exact h2 | exact h1.2.1 | exact h1.2.2
theorem of_in {s : S2} {a : Int32} (h : Wt s) (hq : vp_in a 30) (hx : ¬ f_T_offer s a = (-1)) : vp_in (f_T_offer s a) 16 := by
  have h2 := of_rng h hq
  have h3 := i_ne hx
  rw [show (-1 : Int32).toInt = -1 from rfl] at h3
  rw [vp_in_iff]
  omega

def h_T_findWays_2 (a1 : Int32) : Nat → S2 → Int32 → S2
  | 0, s1, _ => s1
  | n + 1, s1, x2 =>
    if 16 ≤ x2 then
      s1
    else
      if x2 = a1 then
        h_T_findWays_2 a1 n (up2 (up2 s1 (27) (Int32.toNatClampNeg x2) 0) (28) (Int32.toNatClampNeg x2) 0) (x2 + 1)
      else
        h_T_findWays_2 a1 n (up2 (up2 s1 (27) (Int32.toNatClampNeg x2) 1000000) (28) (Int32.toNatClampNeg x2) 0) (x2 + 1)
def h_T_findWays_47 (a1 : Int32) (x2 : Int32) : Nat → S2 → Int32 → S2
  | 0, s1, _ => s1
  | n + 1, s1, x3 =>
    if 16 ≤ x3 then
      s1
    else
      h_T_findWays_47 a1 x2 n (up2 (up2 s1 (29) (Int32.toNatClampNeg x3) (s1 (27) (Int32.toNatClampNeg x3))) (30) (Int32.toNatClampNeg x3) ((up2 s1 (29) (Int32.toNatClampNeg x3) (s1 (27) (Int32.toNatClampNeg x3))) (28) (Int32.toNatClampNeg x3))) (x3 + 1)
def h_T_findWays_85 (a1 : Int32) (x2 : Int32) : Nat → S2 → Int32 → S2
  | 0, s1, _ => s1
  | n + 1, s1, x3 =>
    if (s1 0 4) ≤ x3 then
      s1
    else
      if (s1 (27) (Int32.toNatClampNeg (s1 (24) (Int32.toNatClampNeg x3)))) = 1000000 then
        h_T_findWays_85 a1 x2 n s1 (x3 + 1)
      else
        if (s1 (24) (Int32.toNatClampNeg x3)) = a1 then
          if ((s1 (27) (Int32.toNatClampNeg (s1 (24) (Int32.toNatClampNeg x3)))) + (s1 (26) (Int32.toNatClampNeg x3))) < (s1 (29) (Int32.toNatClampNeg (s1 (25) (Int32.toNatClampNeg x3)))) then
            h_T_findWays_85 a1 x2 n (up2 (up2 s1 (29) (Int32.toNatClampNeg (s1 (25) (Int32.toNatClampNeg x3))) ((s1 (27) (Int32.toNatClampNeg (s1 (24) (Int32.toNatClampNeg x3)))) + (s1 (26) (Int32.toNatClampNeg x3)))) (30) (Int32.toNatClampNeg ((up2 s1 (29) (Int32.toNatClampNeg (s1 (25) (Int32.toNatClampNeg x3))) ((s1 (27) (Int32.toNatClampNeg (s1 (24) (Int32.toNatClampNeg x3)))) + (s1 (26) (Int32.toNatClampNeg x3)))) (25) (Int32.toNatClampNeg x3))) x2) (x3 + 1)
          else
            h_T_findWays_85 a1 x2 n s1 (x3 + 1)
        else
          if (s1 (12) (Int32.toNatClampNeg (s1 (24) (Int32.toNatClampNeg x3)))) = 4 then
            h_T_findWays_85 a1 x2 n s1 (x3 + 1)
          else
            if ((s1 (27) (Int32.toNatClampNeg (s1 (24) (Int32.toNatClampNeg x3)))) + (s1 (26) (Int32.toNatClampNeg x3))) < (s1 (29) (Int32.toNatClampNeg (s1 (25) (Int32.toNatClampNeg x3)))) then
              h_T_findWays_85 a1 x2 n (up2 (up2 s1 (29) (Int32.toNatClampNeg (s1 (25) (Int32.toNatClampNeg x3))) ((s1 (27) (Int32.toNatClampNeg (s1 (24) (Int32.toNatClampNeg x3)))) + (s1 (26) (Int32.toNatClampNeg x3)))) (30) (Int32.toNatClampNeg ((up2 s1 (29) (Int32.toNatClampNeg (s1 (25) (Int32.toNatClampNeg x3))) ((s1 (27) (Int32.toNatClampNeg (s1 (24) (Int32.toNatClampNeg x3)))) + (s1 (26) (Int32.toNatClampNeg x3)))) (25) (Int32.toNatClampNeg x3))) x2) (x3 + 1)
            else
              h_T_findWays_85 a1 x2 n s1 (x3 + 1)
def h_T_findWays_206 (a1 : Int32) (x2 : Int32) : Nat → S2 → Int32 → S2
  | 0, s1, _ => s1
  | n + 1, s1, x3 =>
    if 16 ≤ x3 then
      s1
    else
      h_T_findWays_206 a1 x2 n (up2 (up2 s1 (27) (Int32.toNatClampNeg x3) (s1 (29) (Int32.toNatClampNeg x3))) (28) (Int32.toNatClampNeg x3) ((up2 s1 (27) (Int32.toNatClampNeg x3) (s1 (29) (Int32.toNatClampNeg x3))) (30) (Int32.toNatClampNeg x3))) (x3 + 1)
def h_T_findWays_40 (a1 : Int32) : Nat → S2 → Int32 → S2
  | 0, s1, _ => s1
  | n + 1, s1, x2 =>
    if 4 < x2 then
      s1
    else
      h_T_findWays_40 a1 n (h_T_findWays_206 a1 x2 17 (h_T_findWays_85 a1 x2 41 (h_T_findWays_47 a1 x2 17 s1 0) 0) 0) (x2 + 1)
def f_T_findWays (s0 : S2) (a1 : Int32) : S2 :=
  h_T_findWays_40 a1 5 (h_T_findWays_2 a1 17 s0 0) 1
theorem Wt_h2 {a1 : Int32} : ∀ {n : Nat} {s : S2} {x : Int32}, Wt s → Wt (h_T_findWays_2 a1 n s x) := by
  intro n
  induction n with
  | zero => intro s x h; exact h
  | succ n ih =>
    intro s x h
    rw [h_T_findWays_2]
    repeat' split
    all_goals first | exact h | exact ih (Wt_up (Wt_up h (by unfold Wk; omega)) (by unfold Wk; omega))
theorem Wt_h47 {a1 x2 : Int32} : ∀ {n : Nat} {s : S2} {x : Int32}, Wt s → Wt (h_T_findWays_47 a1 x2 n s x) := by
  intro n
  induction n with
  | zero => intro s x h; exact h
  | succ n ih =>
    intro s x h
    rw [h_T_findWays_47]
    repeat' split
    all_goals first | exact h | exact ih (Wt_up (Wt_up h (by unfold Wk; omega)) (by unfold Wk; omega))
theorem Wt_h85 {a1 x2 : Int32} : ∀ {n : Nat} {s : S2} {x : Int32}, Wt s → Wt (h_T_findWays_85 a1 x2 n s x) := by
  intro n
  induction n with
  | zero => intro s x h; exact h
  | succ n ih =>
    intro s x h
    rw [h_T_findWays_85]
    repeat' split
    all_goals first | exact h | exact ih h | exact ih (Wt_up (Wt_up h (by unfold Wk; omega)) (by unfold Wk; omega))
theorem Wt_h206 {a1 x2 : Int32} : ∀ {n : Nat} {s : S2} {x : Int32}, Wt s → Wt (h_T_findWays_206 a1 x2 n s x) := by
  intro n
  induction n with
  | zero => intro s x h; exact h
  | succ n ih =>
    intro s x h
    rw [h_T_findWays_206]
    repeat' split
    all_goals first | exact h | exact ih (Wt_up (Wt_up h (by unfold Wk; omega)) (by unfold Wk; omega))

set_option maxHeartbeats 4000000 in
set_option maxRecDepth 100000 in
theorem cc_T_findWays (l : Launch) (G : Gx) (A : Nat → Prop) (ad : Nat → Nat) (s0 : S2) (a1 : Int32) (hW : Wt s0) : Met l y_T_findWays ws_T_findWays { frames := 0, cells := 0, slots := 0, locals := 0 } (PG G [.ref (ad (0)), .int (a1)] A ad (encT G.2 ad s0)) (EG G A none ad (encT G.2 ad (f_T_findWays s0 a1))) 0 0 A := by
  refine Met.ofW (cc := c_T_findWays) (maxL := 5) (ret := none) (by decide) rfl ?_
  intro p e s m args below meth c s₁ B hml hv
  obtain ⟨rfl, hw, hK⟩ := hv
  have hx := B.exec
  have hb := B.bytes
  have hr := B.returns
  have hts : ∀ w ∈ tbG, w.before [.ref (ad (0)), .int (a1)].toArray s = true := fun w h => atoms_spec (ws := ws_T_findWays) B.pre w (List.mem_cons_of_mem _ h)
  have hown : s.vm.findClass "RollStagesModel" = some m.cls := findClass_of_methodNamed B.named
  have hlocks := B.notSynchronized
  have hS : va_S A s.heap s.heap [] := va_S.rf
  have hw : mwG G A ad (encT G.2 ad s0) s.heap := hw
  have loop_2 : ∀ (Q : State → Prop) (n : Nat) (s1 : S2) (x2 : Int32), Wt s1 ∧ 0 ≤ x2.toInt ∧ x2.toInt ≤ 16 ∧ 17 ≤ x2.toInt + n → ∀ (H : Heap) (locs : List Loc) (ls : Array Slot), mwG G A ad (encT G.2 ad s1) H → va_S A s.heap H locs → lv_has ls 5 [(0, .ref (ad (0))), (1, .int (a1)), (2, .int (x2))] → (∀ (H : Heap) (locs : List Loc) (ls : Array Slot), mwG G A ad (encT G.2 ad (h_T_findWays_2 a1 n s1 x2)) H → va_S A s.heap H locs → lv_has ls 5 [(0, .ref (ad (0))), (1, .int (a1))] → W p l e (headSpec ws_T_findWays { frames := 0, cells := 0, slots := 0, locals := 0 }).room s m [.ref (ad (0)), .int (a1)].toArray below meth c H locs 0 0 Q (F0 m 38 ls [])) → W p l e (headSpec ws_T_findWays { frames := 0, cells := 0, slots := 0, locals := 0 }).room s m [.ref (ad (0)), .int (a1)].toArray below meth c H locs 0 0 Q (F0 m 2 ls []) := by
    intro Q n
    induction n with
    | zero =>
      intro s1 x2 hI
      exact absurd hI.2 (by omega)
    | succ n ih =>
      intro s1 x2 hI H locs ls hw hS hl hQ
      refine lv_iload_n hx hb d_T_findWays_2 rfl (lv_at hl 2 rfl) ?_
      refine lv_bipush (v := 16) hx hb d_T_findWays_3 (by decide) ?_
      refine lv_icmp_ge (tgt := 38) hx hb d_T_findWays_5 (by decide) (fun h21 => ?_) (fun h21 => ?_)
      · skip
        have e9 : h_T_findWays_2 a1 (n + 1) s1 x2 = s1 := by rw [h_T_findWays_2]; exact if_pos h21
        exact hQ _ _ _ (by rw [e9]; exact hw) hS (lv_sub hl [0, 1] rfl)
      · skip
        refine lv_aload_n hx hb d_T_findWays_8 rfl (lv_at hl 0 rfl) ?_
        refine mw_get (v := .ref (ad (27))) hx hb hts in_T hown hK.1 hw (0) cT_0 rfl 27 (by decide) (hts _ tw_436) rfl d_T_findWays_9 ?_
        refine lv_iload_n hx hb d_T_findWays_12 rfl (lv_at hl 2 rfl) ?_
        refine lv_iload_n hx hb d_T_findWays_13 rfl (lv_at hl 2 rfl) ?_
        refine lv_iload_n hx hb d_T_findWays_14 rfl (lv_at hl 1 rfl) ?_
        refine lv_icmp_ne (tgt := 22) hx hb d_T_findWays_15 (by decide) (fun h22 => ?_) (fun h22 => ?_)
        · skip
          refine lv_ldc (v := 1000000) hx hb hown (hts _ tw_627) d_T_findWays_22 ?_
          refine mw_iast hx hb hK.1 hw hS (27) 0 cT_27 rfl (dr_in hI.2.1 h21) d_T_findWays_24 (fun H locs hw hS => ?_)
          replace hw := mw_encT (r := upd (s1 (27)) (Int32.toNatClampNeg x2) 1000000) hw cT_27
          have hw : mwG G A ad (encT G.2 ad (up2 s1 (27) (Int32.toNatClampNeg x2) 1000000)) H := hw
          refine lv_aload_n hx hb d_T_findWays_25 rfl (lv_at hl 0 rfl) ?_
          refine mw_get (v := .ref (ad (28))) hx hb hts in_T hown hK.1 hw (0) cT_0 rfl 28 (by decide) (hts _ tw_437) rfl d_T_findWays_26 ?_
          refine lv_iload_n hx hb d_T_findWays_29 rfl (lv_at hl 2 rfl) ?_
          refine lv_iconst (v := 0) hx hb d_T_findWays_30 (by decide) ?_
          refine mw_iast hx hb hK.1 hw hS (28) 0 cT_28 rfl (dr_in hI.2.1 h21) d_T_findWays_31 (fun H locs hw hS => ?_)
          replace hw := mw_encT (r := upd ((up2 s1 (27) (Int32.toNatClampNeg x2) 1000000) (28)) (Int32.toNatClampNeg x2) 0) hw cT_28
          have hw : mwG G A ad (encT G.2 ad (up2 (up2 s1 (27) (Int32.toNatClampNeg x2) 1000000) (28) (Int32.toNatClampNeg x2) 0)) H := hw
          refine lv_iinc (v := x2 + 1) (lv' := [(2, .int (x2 + 1)), (0, .ref (ad (0))), (1, .int (a1))]) hx hb d_T_findWays_32 hl (k := 2) rfl (by first | rfl | decide) (by decide) rfl (fun ls hl => ?_)
          refine lv_goto (tgt := 2) hx hb d_T_findWays_35 (by decide) ?_
          have e9 : h_T_findWays_2 a1 (n + 1) s1 x2 = h_T_findWays_2 a1 n (up2 (up2 s1 (27) (Int32.toNatClampNeg x2) 1000000) (28) (Int32.toNatClampNeg x2) 0) (x2 + 1) := by rw [h_T_findWays_2]; exact (if_neg h21).trans (if_neg h22)
          refine ih (up2 (up2 s1 (27) (Int32.toNatClampNeg x2) 1000000) (28) (Int32.toNatClampNeg x2) 0) (x2 + 1) ⟨Wt_up (Wt_up hI.1 (by unfold Wk; omega)) (by unfold Wk; omega), dr_S hI.2 h21⟩ _ _ _ hw hS (lv_sub hl [1, 2, 0] rfl) (fun H locs ls hw hS hl => hQ H locs ls (by rw [e9]; exact hw) hS hl)
        · skip
          refine lv_iconst (v := 0) hx hb d_T_findWays_18 (by decide) ?_
          refine lv_goto (tgt := 24) hx hb d_T_findWays_19 (by decide) ?_
          refine mw_iast hx hb hK.1 hw hS (27) 0 cT_27 rfl (dr_in hI.2.1 h21) d_T_findWays_24 (fun H locs hw hS => ?_)
          replace hw := mw_encT (r := upd (s1 (27)) (Int32.toNatClampNeg x2) 0) hw cT_27
          have hw : mwG G A ad (encT G.2 ad (up2 s1 (27) (Int32.toNatClampNeg x2) 0)) H := hw
          refine lv_aload_n hx hb d_T_findWays_25 rfl (lv_at hl 0 rfl) ?_
          refine mw_get (v := .ref (ad (28))) hx hb hts in_T hown hK.1 hw (0) cT_0 rfl 28 (by decide) (hts _ tw_437) rfl d_T_findWays_26 ?_
          refine lv_iload_n hx hb d_T_findWays_29 rfl (lv_at hl 2 rfl) ?_
          refine lv_iconst (v := 0) hx hb d_T_findWays_30 (by decide) ?_
          refine mw_iast hx hb hK.1 hw hS (28) 0 cT_28 rfl (dr_in hI.2.1 h21) d_T_findWays_31 (fun H locs hw hS => ?_)
          replace hw := mw_encT (r := upd ((up2 s1 (27) (Int32.toNatClampNeg x2) 0) (28)) (Int32.toNatClampNeg x2) 0) hw cT_28
          have hw : mwG G A ad (encT G.2 ad (up2 (up2 s1 (27) (Int32.toNatClampNeg x2) 0) (28) (Int32.toNatClampNeg x2) 0)) H := hw
          refine lv_iinc (v := x2 + 1) (lv' := [(2, .int (x2 + 1)), (0, .ref (ad (0))), (1, .int (a1))]) hx hb d_T_findWays_32 hl (k := 2) rfl (by first | rfl | decide) (by decide) rfl (fun ls hl => ?_)
          refine lv_goto (tgt := 2) hx hb d_T_findWays_35 (by decide) ?_
          have e9 : h_T_findWays_2 a1 (n + 1) s1 x2 = h_T_findWays_2 a1 n (up2 (up2 s1 (27) (Int32.toNatClampNeg x2) 0) (28) (Int32.toNatClampNeg x2) 0) (x2 + 1) := by rw [h_T_findWays_2]; exact (if_neg h21).trans (if_pos h22)
          refine ih (up2 (up2 s1 (27) (Int32.toNatClampNeg x2) 0) (28) (Int32.toNatClampNeg x2) 0) (x2 + 1) ⟨Wt_up (Wt_up hI.1 (by unfold Wk; omega)) (by unfold Wk; omega), dr_S hI.2 h21⟩ _ _ _ hw hS (lv_sub hl [1, 2, 0] rfl) (fun H locs ls hw hS hl => hQ H locs ls (by rw [e9]; exact hw) hS hl)
  have loop_47 : ∀ (Q : State → Prop) (x2 : Int32) (n : Nat) (s1 : S2) (x3 : Int32), Wt s1 ∧ 0 ≤ x3.toInt ∧ x3.toInt ≤ 16 ∧ 17 ≤ x3.toInt + n → ∀ (H : Heap) (locs : List Loc) (ls : Array Slot), mwG G A ad (encT G.2 ad s1) H → va_S A s.heap H locs → lv_has ls 5 [(0, .ref (ad (0))), (1, .int (a1)), (2, .int (x2)), (3, .int (x3))] → (∀ (H : Heap) (locs : List Loc) (ls : Array Slot), mwG G A ad (encT G.2 ad (h_T_findWays_47 a1 x2 n s1 x3)) H → va_S A s.heap H locs → lv_has ls 5 [(0, .ref (ad (0))), (1, .int (a1)), (2, .int (x2))] → W p l e (headSpec ws_T_findWays { frames := 0, cells := 0, slots := 0, locals := 0 }).room s m [.ref (ad (0)), .int (a1)].toArray below meth c H locs 0 0 Q (F0 m 83 ls [])) → W p l e (headSpec ws_T_findWays { frames := 0, cells := 0, slots := 0, locals := 0 }).room s m [.ref (ad (0)), .int (a1)].toArray below meth c H locs 0 0 Q (F0 m 47 ls []) := by
    intro Q x2 n
    induction n with
    | zero =>
      intro s1 x3 hI
      exact absurd hI.2 (by omega)
    | succ n ih =>
      intro s1 x3 hI H locs ls hw hS hl hQ
      refine lv_iload_n hx hb d_T_findWays_47 rfl (lv_at hl 3 rfl) ?_
      refine lv_bipush (v := 16) hx hb d_T_findWays_48 (by decide) ?_
      refine lv_icmp_ge (tgt := 83) hx hb d_T_findWays_50 (by decide) (fun h471 => ?_) (fun h471 => ?_)
      · skip
        have e9 : h_T_findWays_47 a1 x2 (n + 1) s1 x3 = s1 := by rw [h_T_findWays_47]; exact if_pos h471
        exact hQ _ _ _ (by rw [e9]; exact hw) hS (lv_sub hl [0, 1, 2] rfl)
      · skip
        refine lv_aload_n hx hb d_T_findWays_53 rfl (lv_at hl 0 rfl) ?_
        refine mw_get (v := .ref (ad (29))) hx hb hts in_T hown hK.1 hw (0) cT_0 rfl 29 (by decide) (hts _ tw_438) rfl d_T_findWays_54 ?_
        refine lv_iload_n hx hb d_T_findWays_57 rfl (lv_at hl 3 rfl) ?_
        refine lv_aload_n hx hb d_T_findWays_58 rfl (lv_at hl 0 rfl) ?_
        refine mw_get (v := .ref (ad (27))) hx hb hts in_T hown hK.1 hw (0) cT_0 rfl 27 (by decide) (hts _ tw_436) rfl d_T_findWays_59 ?_
        refine lv_iload_n hx hb d_T_findWays_62 rfl (lv_at hl 3 rfl) ?_
        refine mw_iald hx hb hK.1 hw (27) 0 cT_27 rfl (dr_in hI.2.1 h471) d_T_findWays_63 ?_
        refine mw_iast hx hb hK.1 hw hS (29) 0 cT_29 rfl (dr_in hI.2.1 h471) d_T_findWays_64 (fun H locs hw hS => ?_)
        replace hw := mw_encT (r := upd (s1 (29)) (Int32.toNatClampNeg x3) (s1 (27) (Int32.toNatClampNeg x3))) hw cT_29
        have hw : mwG G A ad (encT G.2 ad (up2 s1 (29) (Int32.toNatClampNeg x3) (s1 (27) (Int32.toNatClampNeg x3)))) H := hw
        refine lv_aload_n hx hb d_T_findWays_65 rfl (lv_at hl 0 rfl) ?_
        refine mw_get (v := .ref (ad (30))) hx hb hts in_T hown hK.1 hw (0) cT_0 rfl 30 (by decide) (hts _ tw_439) rfl d_T_findWays_66 ?_
        refine lv_iload_n hx hb d_T_findWays_69 rfl (lv_at hl 3 rfl) ?_
        refine lv_aload_n hx hb d_T_findWays_70 rfl (lv_at hl 0 rfl) ?_
        refine mw_get (v := .ref (ad (28))) hx hb hts in_T hown hK.1 hw (0) cT_0 rfl 28 (by decide) (hts _ tw_437) rfl d_T_findWays_71 ?_
        refine lv_iload_n hx hb d_T_findWays_74 rfl (lv_at hl 3 rfl) ?_
        refine mw_iald hx hb hK.1 hw (28) 0 cT_28 rfl (dr_in hI.2.1 h471) d_T_findWays_75 ?_
        refine mw_iast hx hb hK.1 hw hS (30) 0 cT_30 rfl (dr_in hI.2.1 h471) d_T_findWays_76 (fun H locs hw hS => ?_)
        replace hw := mw_encT (r := upd ((up2 s1 (29) (Int32.toNatClampNeg x3) (s1 (27) (Int32.toNatClampNeg x3))) (30)) (Int32.toNatClampNeg x3) ((up2 s1 (29) (Int32.toNatClampNeg x3) (s1 (27) (Int32.toNatClampNeg x3))) (28) (Int32.toNatClampNeg x3))) hw cT_30
        have hw : mwG G A ad (encT G.2 ad (up2 (up2 s1 (29) (Int32.toNatClampNeg x3) (s1 (27) (Int32.toNatClampNeg x3))) (30) (Int32.toNatClampNeg x3) ((up2 s1 (29) (Int32.toNatClampNeg x3) (s1 (27) (Int32.toNatClampNeg x3))) (28) (Int32.toNatClampNeg x3)))) H := hw
        refine lv_iinc (v := x3 + 1) (lv' := [(3, .int (x3 + 1)), (0, .ref (ad (0))), (1, .int (a1)), (2, .int (x2))]) hx hb d_T_findWays_77 hl (k := 3) rfl (by first | rfl | decide) (by decide) rfl (fun ls hl => ?_)
        refine lv_goto (tgt := 47) hx hb d_T_findWays_80 (by decide) ?_
        have e9 : h_T_findWays_47 a1 x2 (n + 1) s1 x3 = h_T_findWays_47 a1 x2 n (up2 (up2 s1 (29) (Int32.toNatClampNeg x3) (s1 (27) (Int32.toNatClampNeg x3))) (30) (Int32.toNatClampNeg x3) ((up2 s1 (29) (Int32.toNatClampNeg x3) (s1 (27) (Int32.toNatClampNeg x3))) (28) (Int32.toNatClampNeg x3))) (x3 + 1) := by rw [h_T_findWays_47]; exact if_neg h471
        refine ih (up2 (up2 s1 (29) (Int32.toNatClampNeg x3) (s1 (27) (Int32.toNatClampNeg x3))) (30) (Int32.toNatClampNeg x3) ((up2 s1 (29) (Int32.toNatClampNeg x3) (s1 (27) (Int32.toNatClampNeg x3))) (28) (Int32.toNatClampNeg x3))) (x3 + 1) ⟨Wt_up (Wt_up hI.1 (by unfold Wk; omega)) (by unfold Wk; omega), dr_S hI.2 h471⟩ _ _ _ hw hS (lv_sub hl [1, 2, 3, 0] rfl) (fun H locs ls hw hS hl => hQ H locs ls (by rw [e9]; exact hw) hS hl)
  have loop_85 : ∀ (Q : State → Prop) (x2 : Int32) (n : Nat) (s1 : S2) (x3 : Int32), Wt s1 ∧ 0 ≤ x3.toInt ∧ x3.toInt ≤ 40 ∧ 41 ≤ x3.toInt + n → ∀ (H : Heap) (locs : List Loc) (ls : Array Slot), mwG G A ad (encT G.2 ad s1) H → va_S A s.heap H locs → lv_has ls 5 [(0, .ref (ad (0))), (1, .int (a1)), (2, .int (x2)), (3, .int (x3))] → (∀ (H : Heap) (locs : List Loc) (ls : Array Slot), mwG G A ad (encT G.2 ad (h_T_findWays_85 a1 x2 n s1 x3)) H → va_S A s.heap H locs → lv_has ls 5 [(0, .ref (ad (0))), (1, .int (a1)), (2, .int (x2))] → W p l e (headSpec ws_T_findWays { frames := 0, cells := 0, slots := 0, locals := 0 }).room s m [.ref (ad (0)), .int (a1)].toArray below meth c H locs 0 0 Q (F0 m 204 ls [])) → W p l e (headSpec ws_T_findWays { frames := 0, cells := 0, slots := 0, locals := 0 }).room s m [.ref (ad (0)), .int (a1)].toArray below meth c H locs 0 0 Q (F0 m 85 ls []) := by
    intro Q x2 n
    induction n with
    | zero =>
      intro s1 x3 hI
      exact absurd hI.2 (by omega)
    | succ n ih =>
      intro s1 x3 hI H locs ls hw hS hl hQ
      refine lv_iload_n hx hb d_T_findWays_85 rfl (lv_at hl 3 rfl) ?_
      refine lv_aload_n hx hb d_T_findWays_86 rfl (lv_at hl 0 rfl) ?_
      refine mw_get (v := .int (s1 0 4)) hx hb hts in_T hown hK.1 hw (0) cT_0 rfl 4 (by decide) (hts _ tw_413) rfl d_T_findWays_87 ?_
      refine lv_icmp_ge (tgt := 204) hx hb d_T_findWays_90 (by decide) (fun h851 => ?_) (fun h851 => ?_)
      · skip
        have e9 : h_T_findWays_85 a1 x2 (n + 1) s1 x3 = s1 := by rw [h_T_findWays_85]; exact if_pos h851
        exact hQ _ _ _ (by rw [e9]; exact hw) hS (lv_sub hl [0, 1, 2] rfl)
      · skip
        refine lv_aload_n hx hb d_T_findWays_93 rfl (lv_at hl 0 rfl) ?_
        refine mw_get (v := .ref (ad (24))) hx hb hts in_T hown hK.1 hw (0) cT_0 rfl 24 (by decide) (hts _ tw_433) rfl d_T_findWays_94 ?_
        refine lv_iload_n hx hb d_T_findWays_97 rfl (lv_at hl 3 rfl) ?_
        refine mw_iald hx hb hK.1 hw (24) 0 cT_24 rfl (ct_in hI.1.2.2.1 hI.2.1 h851) d_T_findWays_98 ?_
        refine lv_istore (lv' := [(4, .int (s1 (24) (Int32.toNatClampNeg x3))), (0, .ref (ad (0))), (1, .int (a1)), (2, .int (x2)), (3, .int (x3))]) hx hb d_T_findWays_99 hl (by decide) rfl (fun ls hl => ?_)
        refine lv_aload_n hx hb d_T_findWays_101 rfl (lv_at hl 1 rfl) ?_
        refine mw_get (v := .ref (ad (27))) hx hb hts in_T hown hK.1 hw (0) cT_0 rfl 27 (by decide) (hts _ tw_436) rfl d_T_findWays_102 ?_
        refine lv_iload hx hb d_T_findWays_105 (lv_at hl 0 rfl) ?_
        refine mw_iald hx hb hK.1 hw (27) 0 cT_27 rfl (fr_in hI.1 (ct_in hI.1.2.2.1 hI.2.1 h851)) d_T_findWays_107 ?_
        refine lv_ldc (v := 1000000) hx hb hown (hts _ tw_627) d_T_findWays_108 ?_
        refine lv_icmp_eq (tgt := 198) hx hb d_T_findWays_110 (by decide) (fun h852 => ?_) (fun h852 => ?_)
        · skip
          refine lv_iinc (v := x3 + 1) (lv' := [(3, .int (x3 + 1)), (4, .int (s1 (24) (Int32.toNatClampNeg x3))), (0, .ref (ad (0))), (1, .int (a1)), (2, .int (x2))]) hx hb d_T_findWays_198 hl (k := 4) rfl (by first | rfl | decide) (by decide) rfl (fun ls hl => ?_)
          refine lv_goto (tgt := 85) hx hb d_T_findWays_201 (by decide) ?_
          have e9 : h_T_findWays_85 a1 x2 (n + 1) s1 x3 = h_T_findWays_85 a1 x2 n s1 (x3 + 1) := by rw [h_T_findWays_85]; exact (if_neg h851).trans (if_pos h852)
          refine ih s1 (x3 + 1) ⟨by first | exact hI.1 | exact Wt_up (Wt_up hI.1 (by unfold Wk; omega)) (by unfold Wk; omega), ct_S hI.1.2.2.1 hI.2 h851⟩ _ _ _ hw hS (lv_sub hl [2, 3, 4, 0] rfl) (fun H locs ls hw hS hl => hQ H locs ls (by rw [e9]; exact hw) hS hl)
        · skip
          refine lv_iload hx hb d_T_findWays_113 (lv_at hl 0 rfl) ?_
          refine lv_iload_n hx hb d_T_findWays_115 rfl (lv_at hl 2 rfl) ?_
          refine lv_icmp_eq (tgt := 130) hx hb d_T_findWays_116 (by decide) (fun h853 => ?_) (fun h853 => ?_)
          · skip
            refine lv_aload_n hx hb d_T_findWays_130 rfl (lv_at hl 1 rfl) ?_
            refine mw_get (v := .ref (ad (27))) hx hb hts in_T hown hK.1 hw (0) cT_0 rfl 27 (by decide) (hts _ tw_436) rfl d_T_findWays_131 ?_
            refine lv_iload hx hb d_T_findWays_134 (lv_at hl 0 rfl) ?_
            refine mw_iald hx hb hK.1 hw (27) 0 cT_27 rfl (fr_in hI.1 (ct_in hI.1.2.2.1 hI.2.1 h851)) d_T_findWays_136 ?_
            refine lv_aload_n hx hb d_T_findWays_137 rfl (lv_at hl 1 rfl) ?_
            refine mw_get (v := .ref (ad (26))) hx hb hts in_T hown hK.1 hw (0) cT_0 rfl 26 (by decide) (hts _ tw_435) rfl d_T_findWays_138 ?_
            refine lv_iload_n hx hb d_T_findWays_141 rfl (lv_at hl 4 rfl) ?_
            refine mw_iald hx hb hK.1 hw (26) 0 cT_26 rfl (ct_in hI.1.2.2.1 hI.2.1 h851) d_T_findWays_142 ?_
            refine lv_iadd hx hb d_T_findWays_143 ?_
            refine lv_aload_n hx hb d_T_findWays_144 rfl (lv_at hl 1 rfl) ?_
            refine mw_get (v := .ref (ad (29))) hx hb hts in_T hown hK.1 hw (0) cT_0 rfl 29 (by decide) (hts _ tw_438) rfl d_T_findWays_145 ?_
            refine lv_aload_n hx hb d_T_findWays_148 rfl (lv_at hl 1 rfl) ?_
            refine mw_get (v := .ref (ad (25))) hx hb hts in_T hown hK.1 hw (0) cT_0 rfl 25 (by decide) (hts _ tw_434) rfl d_T_findWays_149 ?_
            refine lv_iload_n hx hb d_T_findWays_152 rfl (lv_at hl 4 rfl) ?_
            refine mw_iald hx hb hK.1 hw (25) 0 cT_25 rfl (ct_in hI.1.2.2.1 hI.2.1 h851) d_T_findWays_153 ?_
            refine mw_iald hx hb hK.1 hw (29) 0 cT_29 rfl (to_in hI.1 (ct_in hI.1.2.2.1 hI.2.1 h851)) d_T_findWays_154 ?_
            refine lv_icmp_lt (tgt := 161) hx hb d_T_findWays_155 (by decide) (fun h854 => ?_) (fun h854 => ?_)
            · skip
              refine lv_aload_n hx hb d_T_findWays_161 rfl (lv_at hl 1 rfl) ?_
              refine mw_get (v := .ref (ad (29))) hx hb hts in_T hown hK.1 hw (0) cT_0 rfl 29 (by decide) (hts _ tw_438) rfl d_T_findWays_162 ?_
              refine lv_aload_n hx hb d_T_findWays_165 rfl (lv_at hl 1 rfl) ?_
              refine mw_get (v := .ref (ad (25))) hx hb hts in_T hown hK.1 hw (0) cT_0 rfl 25 (by decide) (hts _ tw_434) rfl d_T_findWays_166 ?_
              refine lv_iload_n hx hb d_T_findWays_169 rfl (lv_at hl 4 rfl) ?_
              refine mw_iald hx hb hK.1 hw (25) 0 cT_25 rfl (ct_in hI.1.2.2.1 hI.2.1 h851) d_T_findWays_170 ?_
              refine lv_aload_n hx hb d_T_findWays_171 rfl (lv_at hl 1 rfl) ?_
              refine mw_get (v := .ref (ad (27))) hx hb hts in_T hown hK.1 hw (0) cT_0 rfl 27 (by decide) (hts _ tw_436) rfl d_T_findWays_172 ?_
              refine lv_iload hx hb d_T_findWays_175 (lv_at hl 0 rfl) ?_
              refine mw_iald hx hb hK.1 hw (27) 0 cT_27 rfl (fr_in hI.1 (ct_in hI.1.2.2.1 hI.2.1 h851)) d_T_findWays_177 ?_
              refine lv_aload_n hx hb d_T_findWays_178 rfl (lv_at hl 1 rfl) ?_
              refine mw_get (v := .ref (ad (26))) hx hb hts in_T hown hK.1 hw (0) cT_0 rfl 26 (by decide) (hts _ tw_435) rfl d_T_findWays_179 ?_
              refine lv_iload_n hx hb d_T_findWays_182 rfl (lv_at hl 4 rfl) ?_
              refine mw_iald hx hb hK.1 hw (26) 0 cT_26 rfl (ct_in hI.1.2.2.1 hI.2.1 h851) d_T_findWays_183 ?_
              refine lv_iadd hx hb d_T_findWays_184 ?_
              refine mw_iast hx hb hK.1 hw hS (29) 0 cT_29 rfl (to_in hI.1 (ct_in hI.1.2.2.1 hI.2.1 h851)) d_T_findWays_185 (fun H locs hw hS => ?_)
              replace hw := mw_encT (r := upd (s1 (29)) (Int32.toNatClampNeg (s1 (25) (Int32.toNatClampNeg x3))) ((s1 (27) (Int32.toNatClampNeg (s1 (24) (Int32.toNatClampNeg x3)))) + (s1 (26) (Int32.toNatClampNeg x3)))) hw cT_29
              have hw : mwG G A ad (encT G.2 ad (up2 s1 (29) (Int32.toNatClampNeg (s1 (25) (Int32.toNatClampNeg x3))) ((s1 (27) (Int32.toNatClampNeg (s1 (24) (Int32.toNatClampNeg x3)))) + (s1 (26) (Int32.toNatClampNeg x3))))) H := hw
              refine lv_aload_n hx hb d_T_findWays_186 rfl (lv_at hl 1 rfl) ?_
              refine mw_get (v := .ref (ad (30))) hx hb hts in_T hown hK.1 hw (0) cT_0 rfl 30 (by decide) (hts _ tw_439) rfl d_T_findWays_187 ?_
              refine lv_aload_n hx hb d_T_findWays_190 rfl (lv_at hl 1 rfl) ?_
              refine mw_get (v := .ref (ad (25))) hx hb hts in_T hown hK.1 hw (0) cT_0 rfl 25 (by decide) (hts _ tw_434) rfl d_T_findWays_191 ?_
              refine lv_iload_n hx hb d_T_findWays_194 rfl (lv_at hl 4 rfl) ?_
              refine mw_iald hx hb hK.1 hw (25) 0 cT_25 rfl (ct_in hI.1.2.2.1 hI.2.1 h851) d_T_findWays_195 ?_
              refine lv_iload_n hx hb d_T_findWays_196 rfl (lv_at hl 3 rfl) ?_
              refine mw_iast hx hb hK.1 hw hS (30) 0 cT_30 rfl (by rw [up2_ne (k := 29) (k' := 25) (by decide)]; exact (to_in hI.1 (ct_in hI.1.2.2.1 hI.2.1 h851))) d_T_findWays_197 (fun H locs hw hS => ?_)
              replace hw := mw_encT (r := upd ((up2 s1 (29) (Int32.toNatClampNeg (s1 (25) (Int32.toNatClampNeg x3))) ((s1 (27) (Int32.toNatClampNeg (s1 (24) (Int32.toNatClampNeg x3)))) + (s1 (26) (Int32.toNatClampNeg x3)))) (30)) (Int32.toNatClampNeg ((up2 s1 (29) (Int32.toNatClampNeg (s1 (25) (Int32.toNatClampNeg x3))) ((s1 (27) (Int32.toNatClampNeg (s1 (24) (Int32.toNatClampNeg x3)))) + (s1 (26) (Int32.toNatClampNeg x3)))) (25) (Int32.toNatClampNeg x3))) x2) hw cT_30
              have hw : mwG G A ad (encT G.2 ad (up2 (up2 s1 (29) (Int32.toNatClampNeg (s1 (25) (Int32.toNatClampNeg x3))) ((s1 (27) (Int32.toNatClampNeg (s1 (24) (Int32.toNatClampNeg x3)))) + (s1 (26) (Int32.toNatClampNeg x3)))) (30) (Int32.toNatClampNeg ((up2 s1 (29) (Int32.toNatClampNeg (s1 (25) (Int32.toNatClampNeg x3))) ((s1 (27) (Int32.toNatClampNeg (s1 (24) (Int32.toNatClampNeg x3)))) + (s1 (26) (Int32.toNatClampNeg x3)))) (25) (Int32.toNatClampNeg x3))) x2)) H := hw
              refine lv_iinc (v := x3 + 1) (lv' := [(3, .int (x3 + 1)), (4, .int (s1 (24) (Int32.toNatClampNeg x3))), (0, .ref (ad (0))), (1, .int (a1)), (2, .int (x2))]) hx hb d_T_findWays_198 hl (k := 4) rfl (by first | rfl | decide) (by decide) rfl (fun ls hl => ?_)
              refine lv_goto (tgt := 85) hx hb d_T_findWays_201 (by decide) ?_
              have e9 : h_T_findWays_85 a1 x2 (n + 1) s1 x3 = h_T_findWays_85 a1 x2 n (up2 (up2 s1 (29) (Int32.toNatClampNeg (s1 (25) (Int32.toNatClampNeg x3))) ((s1 (27) (Int32.toNatClampNeg (s1 (24) (Int32.toNatClampNeg x3)))) + (s1 (26) (Int32.toNatClampNeg x3)))) (30) (Int32.toNatClampNeg ((up2 s1 (29) (Int32.toNatClampNeg (s1 (25) (Int32.toNatClampNeg x3))) ((s1 (27) (Int32.toNatClampNeg (s1 (24) (Int32.toNatClampNeg x3)))) + (s1 (26) (Int32.toNatClampNeg x3)))) (25) (Int32.toNatClampNeg x3))) x2) (x3 + 1) := by rw [h_T_findWays_85]; exact (if_neg h851).trans ((if_neg h852).trans ((if_pos h853).trans (if_pos h854)))
              refine ih (up2 (up2 s1 (29) (Int32.toNatClampNeg (s1 (25) (Int32.toNatClampNeg x3))) ((s1 (27) (Int32.toNatClampNeg (s1 (24) (Int32.toNatClampNeg x3)))) + (s1 (26) (Int32.toNatClampNeg x3)))) (30) (Int32.toNatClampNeg ((up2 s1 (29) (Int32.toNatClampNeg (s1 (25) (Int32.toNatClampNeg x3))) ((s1 (27) (Int32.toNatClampNeg (s1 (24) (Int32.toNatClampNeg x3)))) + (s1 (26) (Int32.toNatClampNeg x3)))) (25) (Int32.toNatClampNeg x3))) x2) (x3 + 1) ⟨by first | exact hI.1 | exact Wt_up (Wt_up hI.1 (by unfold Wk; omega)) (by unfold Wk; omega), ct_S hI.1.2.2.1 hI.2 h851⟩ _ _ _ hw hS (lv_sub hl [2, 3, 4, 0] rfl) (fun H locs ls hw hS hl => hQ H locs ls (by rw [e9]; exact hw) hS hl)
            · skip
              refine lv_goto (tgt := 198) hx hb d_T_findWays_158 (by decide) ?_
              refine lv_iinc (v := x3 + 1) (lv' := [(3, .int (x3 + 1)), (4, .int (s1 (24) (Int32.toNatClampNeg x3))), (0, .ref (ad (0))), (1, .int (a1)), (2, .int (x2))]) hx hb d_T_findWays_198 hl (k := 4) rfl (by first | rfl | decide) (by decide) rfl (fun ls hl => ?_)
              refine lv_goto (tgt := 85) hx hb d_T_findWays_201 (by decide) ?_
              have e9 : h_T_findWays_85 a1 x2 (n + 1) s1 x3 = h_T_findWays_85 a1 x2 n s1 (x3 + 1) := by rw [h_T_findWays_85]; exact (if_neg h851).trans ((if_neg h852).trans ((if_pos h853).trans (if_neg h854)))
              refine ih s1 (x3 + 1) ⟨by first | exact hI.1 | exact Wt_up (Wt_up hI.1 (by unfold Wk; omega)) (by unfold Wk; omega), ct_S hI.1.2.2.1 hI.2 h851⟩ _ _ _ hw hS (lv_sub hl [2, 3, 4, 0] rfl) (fun H locs ls hw hS hl => hQ H locs ls (by rw [e9]; exact hw) hS hl)
          · skip
            refine lv_aload_n hx hb d_T_findWays_119 rfl (lv_at hl 1 rfl) ?_
            refine mw_get (v := .ref (ad (12))) hx hb hts in_T hown hK.1 hw (0) cT_0 rfl 12 (by decide) (hts _ tw_421) rfl d_T_findWays_120 ?_
            refine lv_iload hx hb d_T_findWays_123 (lv_at hl 0 rfl) ?_
            refine mw_iald hx hb hK.1 hw (12) 0 cT_12 rfl (fr_in hI.1 (ct_in hI.1.2.2.1 hI.2.1 h851)) d_T_findWays_125 ?_
            refine lv_iconst (v := 4) hx hb d_T_findWays_126 (by decide) ?_
            refine lv_icmp_eq (tgt := 198) hx hb d_T_findWays_127 (by decide) (fun h855 => ?_) (fun h855 => ?_)
            · skip
              refine lv_iinc (v := x3 + 1) (lv' := [(3, .int (x3 + 1)), (4, .int (s1 (24) (Int32.toNatClampNeg x3))), (0, .ref (ad (0))), (1, .int (a1)), (2, .int (x2))]) hx hb d_T_findWays_198 hl (k := 4) rfl (by first | rfl | decide) (by decide) rfl (fun ls hl => ?_)
              refine lv_goto (tgt := 85) hx hb d_T_findWays_201 (by decide) ?_
              have e9 : h_T_findWays_85 a1 x2 (n + 1) s1 x3 = h_T_findWays_85 a1 x2 n s1 (x3 + 1) := by rw [h_T_findWays_85]; exact (if_neg h851).trans ((if_neg h852).trans ((if_neg h853).trans (if_pos h855)))
              refine ih s1 (x3 + 1) ⟨by first | exact hI.1 | exact Wt_up (Wt_up hI.1 (by unfold Wk; omega)) (by unfold Wk; omega), ct_S hI.1.2.2.1 hI.2 h851⟩ _ _ _ hw hS (lv_sub hl [2, 3, 4, 0] rfl) (fun H locs ls hw hS hl => hQ H locs ls (by rw [e9]; exact hw) hS hl)
            · skip
              refine lv_aload_n hx hb d_T_findWays_130 rfl (lv_at hl 1 rfl) ?_
              refine mw_get (v := .ref (ad (27))) hx hb hts in_T hown hK.1 hw (0) cT_0 rfl 27 (by decide) (hts _ tw_436) rfl d_T_findWays_131 ?_
              refine lv_iload hx hb d_T_findWays_134 (lv_at hl 0 rfl) ?_
              refine mw_iald hx hb hK.1 hw (27) 0 cT_27 rfl (fr_in hI.1 (ct_in hI.1.2.2.1 hI.2.1 h851)) d_T_findWays_136 ?_
              refine lv_aload_n hx hb d_T_findWays_137 rfl (lv_at hl 1 rfl) ?_
              refine mw_get (v := .ref (ad (26))) hx hb hts in_T hown hK.1 hw (0) cT_0 rfl 26 (by decide) (hts _ tw_435) rfl d_T_findWays_138 ?_
              refine lv_iload_n hx hb d_T_findWays_141 rfl (lv_at hl 4 rfl) ?_
              refine mw_iald hx hb hK.1 hw (26) 0 cT_26 rfl (ct_in hI.1.2.2.1 hI.2.1 h851) d_T_findWays_142 ?_
              refine lv_iadd hx hb d_T_findWays_143 ?_
              refine lv_aload_n hx hb d_T_findWays_144 rfl (lv_at hl 1 rfl) ?_
              refine mw_get (v := .ref (ad (29))) hx hb hts in_T hown hK.1 hw (0) cT_0 rfl 29 (by decide) (hts _ tw_438) rfl d_T_findWays_145 ?_
              refine lv_aload_n hx hb d_T_findWays_148 rfl (lv_at hl 1 rfl) ?_
              refine mw_get (v := .ref (ad (25))) hx hb hts in_T hown hK.1 hw (0) cT_0 rfl 25 (by decide) (hts _ tw_434) rfl d_T_findWays_149 ?_
              refine lv_iload_n hx hb d_T_findWays_152 rfl (lv_at hl 4 rfl) ?_
              refine mw_iald hx hb hK.1 hw (25) 0 cT_25 rfl (ct_in hI.1.2.2.1 hI.2.1 h851) d_T_findWays_153 ?_
              refine mw_iald hx hb hK.1 hw (29) 0 cT_29 rfl (to_in hI.1 (ct_in hI.1.2.2.1 hI.2.1 h851)) d_T_findWays_154 ?_
              refine lv_icmp_lt (tgt := 161) hx hb d_T_findWays_155 (by decide) (fun h856 => ?_) (fun h856 => ?_)
              · skip
                refine lv_aload_n hx hb d_T_findWays_161 rfl (lv_at hl 1 rfl) ?_
                refine mw_get (v := .ref (ad (29))) hx hb hts in_T hown hK.1 hw (0) cT_0 rfl 29 (by decide) (hts _ tw_438) rfl d_T_findWays_162 ?_
                refine lv_aload_n hx hb d_T_findWays_165 rfl (lv_at hl 1 rfl) ?_
                refine mw_get (v := .ref (ad (25))) hx hb hts in_T hown hK.1 hw (0) cT_0 rfl 25 (by decide) (hts _ tw_434) rfl d_T_findWays_166 ?_
                refine lv_iload_n hx hb d_T_findWays_169 rfl (lv_at hl 4 rfl) ?_
                refine mw_iald hx hb hK.1 hw (25) 0 cT_25 rfl (ct_in hI.1.2.2.1 hI.2.1 h851) d_T_findWays_170 ?_
                refine lv_aload_n hx hb d_T_findWays_171 rfl (lv_at hl 1 rfl) ?_
                refine mw_get (v := .ref (ad (27))) hx hb hts in_T hown hK.1 hw (0) cT_0 rfl 27 (by decide) (hts _ tw_436) rfl d_T_findWays_172 ?_
                refine lv_iload hx hb d_T_findWays_175 (lv_at hl 0 rfl) ?_
                refine mw_iald hx hb hK.1 hw (27) 0 cT_27 rfl (fr_in hI.1 (ct_in hI.1.2.2.1 hI.2.1 h851)) d_T_findWays_177 ?_
                refine lv_aload_n hx hb d_T_findWays_178 rfl (lv_at hl 1 rfl) ?_
                refine mw_get (v := .ref (ad (26))) hx hb hts in_T hown hK.1 hw (0) cT_0 rfl 26 (by decide) (hts _ tw_435) rfl d_T_findWays_179 ?_
                refine lv_iload_n hx hb d_T_findWays_182 rfl (lv_at hl 4 rfl) ?_
                refine mw_iald hx hb hK.1 hw (26) 0 cT_26 rfl (ct_in hI.1.2.2.1 hI.2.1 h851) d_T_findWays_183 ?_
                refine lv_iadd hx hb d_T_findWays_184 ?_
                refine mw_iast hx hb hK.1 hw hS (29) 0 cT_29 rfl (to_in hI.1 (ct_in hI.1.2.2.1 hI.2.1 h851)) d_T_findWays_185 (fun H locs hw hS => ?_)
                replace hw := mw_encT (r := upd (s1 (29)) (Int32.toNatClampNeg (s1 (25) (Int32.toNatClampNeg x3))) ((s1 (27) (Int32.toNatClampNeg (s1 (24) (Int32.toNatClampNeg x3)))) + (s1 (26) (Int32.toNatClampNeg x3)))) hw cT_29
                have hw : mwG G A ad (encT G.2 ad (up2 s1 (29) (Int32.toNatClampNeg (s1 (25) (Int32.toNatClampNeg x3))) ((s1 (27) (Int32.toNatClampNeg (s1 (24) (Int32.toNatClampNeg x3)))) + (s1 (26) (Int32.toNatClampNeg x3))))) H := hw
                refine lv_aload_n hx hb d_T_findWays_186 rfl (lv_at hl 1 rfl) ?_
                refine mw_get (v := .ref (ad (30))) hx hb hts in_T hown hK.1 hw (0) cT_0 rfl 30 (by decide) (hts _ tw_439) rfl d_T_findWays_187 ?_
                refine lv_aload_n hx hb d_T_findWays_190 rfl (lv_at hl 1 rfl) ?_
                refine mw_get (v := .ref (ad (25))) hx hb hts in_T hown hK.1 hw (0) cT_0 rfl 25 (by decide) (hts _ tw_434) rfl d_T_findWays_191 ?_
                refine lv_iload_n hx hb d_T_findWays_194 rfl (lv_at hl 4 rfl) ?_
                refine mw_iald hx hb hK.1 hw (25) 0 cT_25 rfl (ct_in hI.1.2.2.1 hI.2.1 h851) d_T_findWays_195 ?_
                refine lv_iload_n hx hb d_T_findWays_196 rfl (lv_at hl 3 rfl) ?_
                refine mw_iast hx hb hK.1 hw hS (30) 0 cT_30 rfl (by rw [up2_ne (k := 29) (k' := 25) (by decide)]; exact (to_in hI.1 (ct_in hI.1.2.2.1 hI.2.1 h851))) d_T_findWays_197 (fun H locs hw hS => ?_)
                replace hw := mw_encT (r := upd ((up2 s1 (29) (Int32.toNatClampNeg (s1 (25) (Int32.toNatClampNeg x3))) ((s1 (27) (Int32.toNatClampNeg (s1 (24) (Int32.toNatClampNeg x3)))) + (s1 (26) (Int32.toNatClampNeg x3)))) (30)) (Int32.toNatClampNeg ((up2 s1 (29) (Int32.toNatClampNeg (s1 (25) (Int32.toNatClampNeg x3))) ((s1 (27) (Int32.toNatClampNeg (s1 (24) (Int32.toNatClampNeg x3)))) + (s1 (26) (Int32.toNatClampNeg x3)))) (25) (Int32.toNatClampNeg x3))) x2) hw cT_30
                have hw : mwG G A ad (encT G.2 ad (up2 (up2 s1 (29) (Int32.toNatClampNeg (s1 (25) (Int32.toNatClampNeg x3))) ((s1 (27) (Int32.toNatClampNeg (s1 (24) (Int32.toNatClampNeg x3)))) + (s1 (26) (Int32.toNatClampNeg x3)))) (30) (Int32.toNatClampNeg ((up2 s1 (29) (Int32.toNatClampNeg (s1 (25) (Int32.toNatClampNeg x3))) ((s1 (27) (Int32.toNatClampNeg (s1 (24) (Int32.toNatClampNeg x3)))) + (s1 (26) (Int32.toNatClampNeg x3)))) (25) (Int32.toNatClampNeg x3))) x2)) H := hw
                refine lv_iinc (v := x3 + 1) (lv' := [(3, .int (x3 + 1)), (4, .int (s1 (24) (Int32.toNatClampNeg x3))), (0, .ref (ad (0))), (1, .int (a1)), (2, .int (x2))]) hx hb d_T_findWays_198 hl (k := 4) rfl (by first | rfl | decide) (by decide) rfl (fun ls hl => ?_)
                refine lv_goto (tgt := 85) hx hb d_T_findWays_201 (by decide) ?_
                have e9 : h_T_findWays_85 a1 x2 (n + 1) s1 x3 = h_T_findWays_85 a1 x2 n (up2 (up2 s1 (29) (Int32.toNatClampNeg (s1 (25) (Int32.toNatClampNeg x3))) ((s1 (27) (Int32.toNatClampNeg (s1 (24) (Int32.toNatClampNeg x3)))) + (s1 (26) (Int32.toNatClampNeg x3)))) (30) (Int32.toNatClampNeg ((up2 s1 (29) (Int32.toNatClampNeg (s1 (25) (Int32.toNatClampNeg x3))) ((s1 (27) (Int32.toNatClampNeg (s1 (24) (Int32.toNatClampNeg x3)))) + (s1 (26) (Int32.toNatClampNeg x3)))) (25) (Int32.toNatClampNeg x3))) x2) (x3 + 1) := by rw [h_T_findWays_85]; exact (if_neg h851).trans ((if_neg h852).trans ((if_neg h853).trans ((if_neg h855).trans (if_pos h856))))
                refine ih (up2 (up2 s1 (29) (Int32.toNatClampNeg (s1 (25) (Int32.toNatClampNeg x3))) ((s1 (27) (Int32.toNatClampNeg (s1 (24) (Int32.toNatClampNeg x3)))) + (s1 (26) (Int32.toNatClampNeg x3)))) (30) (Int32.toNatClampNeg ((up2 s1 (29) (Int32.toNatClampNeg (s1 (25) (Int32.toNatClampNeg x3))) ((s1 (27) (Int32.toNatClampNeg (s1 (24) (Int32.toNatClampNeg x3)))) + (s1 (26) (Int32.toNatClampNeg x3)))) (25) (Int32.toNatClampNeg x3))) x2) (x3 + 1) ⟨by first | exact hI.1 | exact Wt_up (Wt_up hI.1 (by unfold Wk; omega)) (by unfold Wk; omega), ct_S hI.1.2.2.1 hI.2 h851⟩ _ _ _ hw hS (lv_sub hl [2, 3, 4, 0] rfl) (fun H locs ls hw hS hl => hQ H locs ls (by rw [e9]; exact hw) hS hl)
              · skip
                refine lv_goto (tgt := 198) hx hb d_T_findWays_158 (by decide) ?_
                refine lv_iinc (v := x3 + 1) (lv' := [(3, .int (x3 + 1)), (4, .int (s1 (24) (Int32.toNatClampNeg x3))), (0, .ref (ad (0))), (1, .int (a1)), (2, .int (x2))]) hx hb d_T_findWays_198 hl (k := 4) rfl (by first | rfl | decide) (by decide) rfl (fun ls hl => ?_)
                refine lv_goto (tgt := 85) hx hb d_T_findWays_201 (by decide) ?_
                have e9 : h_T_findWays_85 a1 x2 (n + 1) s1 x3 = h_T_findWays_85 a1 x2 n s1 (x3 + 1) := by rw [h_T_findWays_85]; exact (if_neg h851).trans ((if_neg h852).trans ((if_neg h853).trans ((if_neg h855).trans (if_neg h856))))
                refine ih s1 (x3 + 1) ⟨by first | exact hI.1 | exact Wt_up (Wt_up hI.1 (by unfold Wk; omega)) (by unfold Wk; omega), ct_S hI.1.2.2.1 hI.2 h851⟩ _ _ _ hw hS (lv_sub hl [2, 3, 4, 0] rfl) (fun H locs ls hw hS hl => hQ H locs ls (by rw [e9]; exact hw) hS hl)
  have loop_206 : ∀ (Q : State → Prop) (x2 : Int32) (n : Nat) (s1 : S2) (x3 : Int32), Wt s1 ∧ 0 ≤ x3.toInt ∧ x3.toInt ≤ 16 ∧ 17 ≤ x3.toInt + n → ∀ (H : Heap) (locs : List Loc) (ls : Array Slot), mwG G A ad (encT G.2 ad s1) H → va_S A s.heap H locs → lv_has ls 5 [(0, .ref (ad (0))), (1, .int (a1)), (2, .int (x2)), (3, .int (x3))] → (∀ (H : Heap) (locs : List Loc) (ls : Array Slot), mwG G A ad (encT G.2 ad (h_T_findWays_206 a1 x2 n s1 x3)) H → va_S A s.heap H locs → lv_has ls 5 [(0, .ref (ad (0))), (1, .int (a1)), (2, .int (x2))] → W p l e (headSpec ws_T_findWays { frames := 0, cells := 0, slots := 0, locals := 0 }).room s m [.ref (ad (0)), .int (a1)].toArray below meth c H locs 0 0 Q (F0 m 242 ls [])) → W p l e (headSpec ws_T_findWays { frames := 0, cells := 0, slots := 0, locals := 0 }).room s m [.ref (ad (0)), .int (a1)].toArray below meth c H locs 0 0 Q (F0 m 206 ls []) := by
    intro Q x2 n
    induction n with
    | zero =>
      intro s1 x3 hI
      exact absurd hI.2 (by omega)
    | succ n ih =>
      intro s1 x3 hI H locs ls hw hS hl hQ
      refine lv_iload_n hx hb d_T_findWays_206 rfl (lv_at hl 3 rfl) ?_
      refine lv_bipush (v := 16) hx hb d_T_findWays_207 (by decide) ?_
      refine lv_icmp_ge (tgt := 242) hx hb d_T_findWays_209 (by decide) (fun h2061 => ?_) (fun h2061 => ?_)
      · skip
        have e9 : h_T_findWays_206 a1 x2 (n + 1) s1 x3 = s1 := by rw [h_T_findWays_206]; exact if_pos h2061
        exact hQ _ _ _ (by rw [e9]; exact hw) hS (lv_sub hl [0, 1, 2] rfl)
      · skip
        refine lv_aload_n hx hb d_T_findWays_212 rfl (lv_at hl 0 rfl) ?_
        refine mw_get (v := .ref (ad (27))) hx hb hts in_T hown hK.1 hw (0) cT_0 rfl 27 (by decide) (hts _ tw_436) rfl d_T_findWays_213 ?_
        refine lv_iload_n hx hb d_T_findWays_216 rfl (lv_at hl 3 rfl) ?_
        refine lv_aload_n hx hb d_T_findWays_217 rfl (lv_at hl 0 rfl) ?_
        refine mw_get (v := .ref (ad (29))) hx hb hts in_T hown hK.1 hw (0) cT_0 rfl 29 (by decide) (hts _ tw_438) rfl d_T_findWays_218 ?_
        refine lv_iload_n hx hb d_T_findWays_221 rfl (lv_at hl 3 rfl) ?_
        refine mw_iald hx hb hK.1 hw (29) 0 cT_29 rfl (dr_in hI.2.1 h2061) d_T_findWays_222 ?_
        refine mw_iast hx hb hK.1 hw hS (27) 0 cT_27 rfl (dr_in hI.2.1 h2061) d_T_findWays_223 (fun H locs hw hS => ?_)
        replace hw := mw_encT (r := upd (s1 (27)) (Int32.toNatClampNeg x3) (s1 (29) (Int32.toNatClampNeg x3))) hw cT_27
        have hw : mwG G A ad (encT G.2 ad (up2 s1 (27) (Int32.toNatClampNeg x3) (s1 (29) (Int32.toNatClampNeg x3)))) H := hw
        refine lv_aload_n hx hb d_T_findWays_224 rfl (lv_at hl 0 rfl) ?_
        refine mw_get (v := .ref (ad (28))) hx hb hts in_T hown hK.1 hw (0) cT_0 rfl 28 (by decide) (hts _ tw_437) rfl d_T_findWays_225 ?_
        refine lv_iload_n hx hb d_T_findWays_228 rfl (lv_at hl 3 rfl) ?_
        refine lv_aload_n hx hb d_T_findWays_229 rfl (lv_at hl 0 rfl) ?_
        refine mw_get (v := .ref (ad (30))) hx hb hts in_T hown hK.1 hw (0) cT_0 rfl 30 (by decide) (hts _ tw_439) rfl d_T_findWays_230 ?_
        refine lv_iload_n hx hb d_T_findWays_233 rfl (lv_at hl 3 rfl) ?_
        refine mw_iald hx hb hK.1 hw (30) 0 cT_30 rfl (dr_in hI.2.1 h2061) d_T_findWays_234 ?_
        refine mw_iast hx hb hK.1 hw hS (28) 0 cT_28 rfl (dr_in hI.2.1 h2061) d_T_findWays_235 (fun H locs hw hS => ?_)
        replace hw := mw_encT (r := upd ((up2 s1 (27) (Int32.toNatClampNeg x3) (s1 (29) (Int32.toNatClampNeg x3))) (28)) (Int32.toNatClampNeg x3) ((up2 s1 (27) (Int32.toNatClampNeg x3) (s1 (29) (Int32.toNatClampNeg x3))) (30) (Int32.toNatClampNeg x3))) hw cT_28
        have hw : mwG G A ad (encT G.2 ad (up2 (up2 s1 (27) (Int32.toNatClampNeg x3) (s1 (29) (Int32.toNatClampNeg x3))) (28) (Int32.toNatClampNeg x3) ((up2 s1 (27) (Int32.toNatClampNeg x3) (s1 (29) (Int32.toNatClampNeg x3))) (30) (Int32.toNatClampNeg x3)))) H := hw
        refine lv_iinc (v := x3 + 1) (lv' := [(3, .int (x3 + 1)), (0, .ref (ad (0))), (1, .int (a1)), (2, .int (x2))]) hx hb d_T_findWays_236 hl (k := 3) rfl (by first | rfl | decide) (by decide) rfl (fun ls hl => ?_)
        refine lv_goto (tgt := 206) hx hb d_T_findWays_239 (by decide) ?_
        have e9 : h_T_findWays_206 a1 x2 (n + 1) s1 x3 = h_T_findWays_206 a1 x2 n (up2 (up2 s1 (27) (Int32.toNatClampNeg x3) (s1 (29) (Int32.toNatClampNeg x3))) (28) (Int32.toNatClampNeg x3) ((up2 s1 (27) (Int32.toNatClampNeg x3) (s1 (29) (Int32.toNatClampNeg x3))) (30) (Int32.toNatClampNeg x3))) (x3 + 1) := by rw [h_T_findWays_206]; exact if_neg h2061
        refine ih (up2 (up2 s1 (27) (Int32.toNatClampNeg x3) (s1 (29) (Int32.toNatClampNeg x3))) (28) (Int32.toNatClampNeg x3) ((up2 s1 (27) (Int32.toNatClampNeg x3) (s1 (29) (Int32.toNatClampNeg x3))) (30) (Int32.toNatClampNeg x3))) (x3 + 1) ⟨Wt_up (Wt_up hI.1 (by unfold Wk; omega)) (by unfold Wk; omega), dr_S hI.2 h2061⟩ _ _ _ hw hS (lv_sub hl [1, 2, 3, 0] rfl) (fun H locs ls hw hS hl => hQ H locs ls (by rw [e9]; exact hw) hS hl)
  have loop_40 : ∀ (Q : State → Prop) (n : Nat) (s1 : S2) (x2 : Int32), Wt s1 ∧ 1 ≤ x2.toInt ∧ x2.toInt ≤ 5 ∧ 6 ≤ x2.toInt + n → ∀ (H : Heap) (locs : List Loc) (ls : Array Slot), mwG G A ad (encT G.2 ad s1) H → va_S A s.heap H locs → lv_has ls 5 [(0, .ref (ad (0))), (1, .int (a1)), (2, .int (x2))] → (∀ (H : Heap) (locs : List Loc) (ls : Array Slot), mwG G A ad (encT G.2 ad (h_T_findWays_40 a1 n s1 x2)) H → va_S A s.heap H locs → lv_has ls 5 [(0, .ref (ad (0))), (1, .int (a1))] → W p l e (headSpec ws_T_findWays { frames := 0, cells := 0, slots := 0, locals := 0 }).room s m [.ref (ad (0)), .int (a1)].toArray below meth c H locs 0 0 Q (F0 m 248 ls [])) → W p l e (headSpec ws_T_findWays { frames := 0, cells := 0, slots := 0, locals := 0 }).room s m [.ref (ad (0)), .int (a1)].toArray below meth c H locs 0 0 Q (F0 m 40 ls []) := by
    intro Q n
    induction n with
    | zero =>
      intro s1 x2 hI
      exact absurd hI.2 (by omega)
    | succ n ih =>
      intro s1 x2 hI H locs ls hw hS hl hQ
      refine lv_iload_n hx hb d_T_findWays_40 rfl (lv_at hl 2 rfl) ?_
      refine lv_iconst (v := 4) hx hb d_T_findWays_41 (by decide) ?_
      refine lv_icmp_gt (tgt := 248) hx hb d_T_findWays_42 (by decide) (fun h401 => ?_) (fun h401 => ?_)
      · skip
        have e9 : h_T_findWays_40 a1 (n + 1) s1 x2 = s1 := by rw [h_T_findWays_40]; exact if_pos h401
        exact hQ _ _ _ (by rw [e9]; exact hw) hS (lv_sub hl [0, 1] rfl)
      · skip
        refine lv_iconst (v := 0) hx hb d_T_findWays_45 (by decide) ?_
        refine lv_istore_n (lv' := [(3, .int (0)), (0, .ref (ad (0))), (1, .int (a1)), (2, .int (x2))]) hx hb d_T_findWays_46 rfl hl (by decide) rfl (fun ls hl => ?_)
        refine loop_47 _ x2 17 s1 0 ⟨hI.1, by decide⟩ _ _ _ hw hS (lv_sub hl [1, 2, 3, 0] rfl) (fun H locs ls hw hS hl => ?_)
        refine lv_iconst (v := 0) hx hb d_T_findWays_83 (by decide) ?_
        refine lv_istore_n (lv' := [(3, .int (0)), (0, .ref (ad (0))), (1, .int (a1)), (2, .int (x2))]) hx hb d_T_findWays_84 rfl hl (by decide) rfl (fun ls hl => ?_)
        refine loop_85 _ x2 41 (h_T_findWays_47 a1 x2 17 s1 0) 0 ⟨(Wt_h47 hI.1), by decide⟩ _ _ _ hw hS (lv_sub hl [1, 2, 3, 0] rfl) (fun H locs ls hw hS hl => ?_)
        refine lv_iconst (v := 0) hx hb d_T_findWays_204 (by decide) ?_
        refine lv_istore_n (lv' := [(3, .int (0)), (0, .ref (ad (0))), (1, .int (a1)), (2, .int (x2))]) hx hb d_T_findWays_205 rfl hl (by decide) rfl (fun ls hl => ?_)
        refine loop_206 _ x2 17 (h_T_findWays_85 a1 x2 41 (h_T_findWays_47 a1 x2 17 s1 0) 0) 0 ⟨(Wt_h85 (Wt_h47 hI.1)), by decide⟩ _ _ _ hw hS (lv_sub hl [1, 2, 3, 0] rfl) (fun H locs ls hw hS hl => ?_)
        refine lv_iinc (v := x2 + 1) (lv' := [(2, .int (x2 + 1)), (0, .ref (ad (0))), (1, .int (a1))]) hx hb d_T_findWays_242 hl (k := 2) rfl (by first | rfl | decide) (by decide) rfl (fun ls hl => ?_)
        refine lv_goto (tgt := 40) hx hb d_T_findWays_245 (by decide) ?_
        have e9 : h_T_findWays_40 a1 (n + 1) s1 x2 = h_T_findWays_40 a1 n (h_T_findWays_206 a1 x2 17 (h_T_findWays_85 a1 x2 41 (h_T_findWays_47 a1 x2 17 s1 0) 0) 0) (x2 + 1) := by rw [h_T_findWays_40]; exact if_neg h401
        refine ih (h_T_findWays_206 a1 x2 17 (h_T_findWays_85 a1 x2 41 (h_T_findWays_47 a1 x2 17 s1 0) 0) 0) (x2 + 1) ⟨(Wt_h206 (Wt_h85 (Wt_h47 hI.1))), sc_S hI.2 h401⟩ _ _ _ hw hS (lv_sub hl [1, 2, 0] rfl) (fun H locs ls hw hS hl => hQ H locs ls (by rw [e9]; exact hw) hS hl)
  have hl := lv_entry ([.ref (ad (0)), .int (a1)]) (n := 5) (Nat.le_of_ble_eq_true rfl)
  rw [lg_entry_eq]
  generalize (lg_sl ([.ref (ad (0)), .int (a1)]) ++ List.replicate (5 - (lg_sl ([.ref (ad (0)), .int (a1)])).length) Slot.unset).toArray = ls at hl ⊢
  have hl : lv_has ls 5 [(0, .ref (ad (0))), (1, .int (a1))] := hl
  refine lv_iconst (v := 0) hx hb d_T_findWays_0 (by decide) ?_
  refine lv_istore_n (lv' := [(2, .int (0)), (0, .ref (ad (0))), (1, .int (a1))]) hx hb d_T_findWays_1 rfl hl (by decide) rfl (fun ls hl => ?_)
  refine loop_2 _ 17 s0 0 ⟨hW, by decide⟩ _ _ _ hw hS (lv_sub hl [1, 2, 0] rfl) (fun H locs ls hw hS hl => ?_)
  refine lv_iconst (v := 1) hx hb d_T_findWays_38 (by decide) ?_
  refine lv_istore_n (lv' := [(2, .int (1)), (0, .ref (ad (0))), (1, .int (a1))]) hx hb d_T_findWays_39 rfl hl (by decide) rfl (fun ls hl => ?_)
  refine loop_40 _ 5 (h_T_findWays_2 a1 17 s0 0) 1 ⟨(Wt_h2 hW), by decide⟩ _ _ _ hw hS (lv_sub hl [1, 2, 0] rfl) (fun H locs ls hw hS hl => ?_)
  have e9 : f_T_findWays s0 a1 = h_T_findWays_40 a1 5 (h_T_findWays_2 a1 17 s0 0) 1 := by unfold f_T_findWays; exact rfl
  exact mw_vret hx hb hr hw hS ⟨rfl, congrArg (fun z => encT G.2 ad z) e9.symm⟩ hlocks d_T_findWays_248

def f_T_wanted (s0 : S2) (a1 : Int32) : Int32 × S2 :=
  if (f_T_offer s0 a1) = (-1) then
    (-1, s0)
  else
    if (f_T_offer s0 a1) = (s0 (22) (Int32.toNatClampNeg a1)) then
      (-1, s0)
    else
      if (s0 (22) (Int32.toNatClampNeg a1)) = (-1) then
        (f_T_offer s0 a1, up2 s0 (27) (Int32.toNatClampNeg (f_T_offer s0 a1)) 1000000)
      else
        (f_T_offer s0 a1, f_T_findWays s0 (s0 (22) (Int32.toNatClampNeg a1)))
set_option maxHeartbeats 4000000 in
set_option maxRecDepth 100000 in
theorem cc_T_wanted (l : Launch) (G : Gx) (A : Nat → Prop) (ad : Nat → Nat) (s0 : S2) (a1 : Int32) (hW : Wt s0) (hm : vp_in a1 30) : Met l y_T_wanted ws_T_wanted { frames := 3, cells := 0, slots := 0, locals := 67 } (PG G [.ref (ad (0)), .int (a1)] A ad (encT G.2 ad s0)) (EG G A (some (.int (f_T_wanted s0 a1).1)) ad (encT G.2 ad ((f_T_wanted s0 a1).2))) 0 0 A := by
  refine Met.ofW (cc := c_T_wanted) (maxL := 3) (ret := (some .int)) (by decide) rfl ?_
  intro p e s m args below meth c s₁ B hml hv
  obtain ⟨rfl, hw, hK⟩ := hv
  have hx := B.exec
  have hb := B.bytes
  have hr := B.returns
  have hts : ∀ w ∈ tbG, w.before [.ref (ad (0)), .int (a1)].toArray s = true := fun w h => atoms_spec (ws := ws_T_wanted) B.pre w (List.mem_cons_of_mem _ h)
  have hown : s.vm.findClass "RollStagesModel" = some m.cls := findClass_of_methodNamed B.named
  have hlocks := B.notSynchronized
  have hS : va_S A s.heap s.heap [] := va_S.rf
  have hw : mwG G A ad (encT G.2 ad s0) s.heap := hw
  have hl := lv_entry ([.ref (ad (0)), .int (a1)]) (n := 3) (Nat.le_of_ble_eq_true rfl)
  rw [lg_entry_eq]
  generalize (lg_sl ([.ref (ad (0)), .int (a1)]) ++ List.replicate (3 - (lg_sl ([.ref (ad (0)), .int (a1)])).length) Slot.unset).toArray = ls at hl ⊢
  have hl : lv_has ls 3 [(0, .ref (ad (0))), (1, .int (a1))] := hl
  refine lv_aload_n hx hb d_T_wanted_0 rfl (lv_at hl 0 rfl) ?_
  refine lv_iload_n hx hb d_T_wanted_1 rfl (lv_at hl 1 rfl) ?_
  refine gV (As := [.int (a1)]) (rest := []) (st1 := [.int (f_T_offer s0 a1)]) ⟨hx, hb, hml, hown, hts⟩ (cc_T_offer l G A ad  s0 a1 hW hm) cT_0 rfl tw_598 tw_595 tw_597 tw_p39 tw_4 hd_T_offer rfl rfl ⟨Nat.le_of_ble_eq_true rfl, Nat.le_of_ble_eq_true rfl⟩ hK hw hS hl.1 rfl (Nat.le_of_ble_eq_true rfl) ⟨Nat.zero_le _, Nat.zero_le _⟩ d_T_wanted_2 rfl (fun H locs hw hS => ?_)
  refine lv_istore_n (lv' := [(2, .int (f_T_offer s0 a1)), (0, .ref (ad (0))), (1, .int (a1))]) hx hb d_T_wanted_5 rfl hl (by decide) rfl (fun ls hl => ?_)
  refine lv_iload_n hx hb d_T_wanted_6 rfl (lv_at hl 0 rfl) ?_
  refine lv_iconst (v := -1) hx hb d_T_wanted_7 (by decide) ?_
  refine lv_icmp_eq (tgt := 21) hx hb d_T_wanted_8 (by decide) (fun h1 => ?_) (fun h1 => ?_)
  · skip
    refine lv_iconst (v := -1) hx hb d_T_wanted_21 (by decide) ?_
    have e9 : f_T_wanted s0 a1 = (-1, s0) := by unfold f_T_wanted; exact if_pos h1
    exact mw_iret hx hb hr rfl hw hS (congrArg (fun z => some (Value.int z.1)) e9.symm) ⟨rfl, congrArg (fun z => encT G.2 ad z.2) e9.symm⟩ hlocks d_T_wanted_22
  · skip
    refine lv_iload_n hx hb d_T_wanted_11 rfl (lv_at hl 0 rfl) ?_
    refine lv_aload_n hx hb d_T_wanted_12 rfl (lv_at hl 1 rfl) ?_
    refine mw_get (v := .ref (ad (22))) hx hb hts in_T hown hK.1 hw (0) cT_0 rfl 22 (by decide) (hts _ tw_431) rfl d_T_wanted_13 ?_
    refine lv_iload_n hx hb d_T_wanted_16 rfl (lv_at hl 2 rfl) ?_
    refine mw_iald hx hb hK.1 hw (22) 0 cT_22 rfl hm d_T_wanted_17 ?_
    refine lv_icmp_ne (tgt := 23) hx hb d_T_wanted_18 (by decide) (fun h2 => ?_) (fun h2 => ?_)
    · skip
      refine lv_aload_n hx hb d_T_wanted_23 rfl (lv_at hl 1 rfl) ?_
      refine mw_get (v := .ref (ad (22))) hx hb hts in_T hown hK.1 hw (0) cT_0 rfl 22 (by decide) (hts _ tw_431) rfl d_T_wanted_24 ?_
      refine lv_iload_n hx hb d_T_wanted_27 rfl (lv_at hl 2 rfl) ?_
      refine mw_iald hx hb hK.1 hw (22) 0 cT_22 rfl hm d_T_wanted_28 ?_
      refine lv_iconst (v := -1) hx hb d_T_wanted_29 (by decide) ?_
      refine lv_icmp_eq (tgt := 46) hx hb d_T_wanted_30 (by decide) (fun h3 => ?_) (fun h3 => ?_)
      · skip
        refine lv_aload_n hx hb d_T_wanted_46 rfl (lv_at hl 1 rfl) ?_
        refine mw_get (v := .ref (ad (27))) hx hb hts in_T hown hK.1 hw (0) cT_0 rfl 27 (by decide) (hts _ tw_436) rfl d_T_wanted_47 ?_
        refine lv_iload_n hx hb d_T_wanted_50 rfl (lv_at hl 0 rfl) ?_
        refine lv_ldc (v := 1000000) hx hb hown (hts _ tw_627) d_T_wanted_51 ?_
        refine mw_iast hx hb hK.1 hw hS (27) 0 cT_27 rfl (of_in hW hm h1) d_T_wanted_53 (fun H locs hw hS => ?_)
        replace hw := mw_encT (r := upd (s0 (27)) (Int32.toNatClampNeg (f_T_offer s0 a1)) 1000000) hw cT_27
        have hw : mwG G A ad (encT G.2 ad (up2 s0 (27) (Int32.toNatClampNeg (f_T_offer s0 a1)) 1000000)) H := hw
        refine lv_iload_n hx hb d_T_wanted_54 rfl (lv_at hl 0 rfl) ?_
        have e9 : f_T_wanted s0 a1 = (f_T_offer s0 a1, up2 s0 (27) (Int32.toNatClampNeg (f_T_offer s0 a1)) 1000000) := by unfold f_T_wanted; exact (if_neg h1).trans ((if_neg h2).trans (if_pos h3))
        exact mw_iret hx hb hr rfl hw hS (congrArg (fun z => some (Value.int z.1)) e9.symm) ⟨rfl, congrArg (fun z => encT G.2 ad z.2) e9.symm⟩ hlocks d_T_wanted_55
      · skip
        refine lv_aload_n hx hb d_T_wanted_33 rfl (lv_at hl 1 rfl) ?_
        refine lv_aload_n hx hb d_T_wanted_34 rfl (lv_at hl 1 rfl) ?_
        refine mw_get (v := .ref (ad (22))) hx hb hts in_T hown hK.1 hw (0) cT_0 rfl 22 (by decide) (hts _ tw_431) rfl d_T_wanted_35 ?_
        refine lv_iload_n hx hb d_T_wanted_38 rfl (lv_at hl 2 rfl) ?_
        refine mw_iald hx hb hK.1 hw (22) 0 cT_22 rfl hm d_T_wanted_39 ?_
        refine gV (As := [.int (s0 (22) (Int32.toNatClampNeg a1))]) (rest := []) (st1 := []) ⟨hx, hb, hml, hown, hts⟩ (cc_T_findWays l G A ad  s0 (s0 (22) (Int32.toNatClampNeg a1)) hW) cT_0 rfl tw_626 tw_623 tw_625 tw_p43 tw_4 hd_T_findWays rfl rfl ⟨Nat.le_of_ble_eq_true rfl, Nat.le_of_ble_eq_true rfl⟩ hK hw hS hl.1 rfl (Nat.le_of_ble_eq_true rfl) ⟨Nat.zero_le _, Nat.zero_le _⟩ d_T_wanted_40 rfl (fun H locs hw hS => ?_)
        refine lv_goto (tgt := 54) hx hb d_T_wanted_43 (by decide) ?_
        refine lv_iload_n hx hb d_T_wanted_54 rfl (lv_at hl 0 rfl) ?_
        have e9 : f_T_wanted s0 a1 = (f_T_offer s0 a1, f_T_findWays s0 (s0 (22) (Int32.toNatClampNeg a1))) := by unfold f_T_wanted; exact (if_neg h1).trans ((if_neg h2).trans (if_neg h3))
        exact mw_iret hx hb hr rfl hw hS (congrArg (fun z => some (Value.int z.1)) e9.symm) ⟨rfl, congrArg (fun z => encT G.2 ad z.2) e9.symm⟩ hlocks d_T_wanted_55
    · skip
      refine lv_iconst (v := -1) hx hb d_T_wanted_21 (by decide) ?_
      have e9 : f_T_wanted s0 a1 = (-1, s0) := by unfold f_T_wanted; exact (if_neg h1).trans (if_pos h2)
      exact mw_iret hx hb hr rfl hw hS (congrArg (fun z => some (Value.int z.1)) e9.symm) ⟨rfl, congrArg (fun z => encT G.2 ad z.2) e9.symm⟩ hlocks d_T_wanted_22

theorem wa_in {s : S2} {a : Int32} (h : Wt s) (hq : vp_in a 30) (hx : ¬ (f_T_wanted s a).1 = (-1)) : vp_in (f_T_wanted s a).1 16 := by
  unfold f_T_wanted at hx ⊢
  by_cases h1 : f_T_offer s a = (-1)
  · rw [if_pos h1] at hx; exact absurd rfl hx
  · rw [if_neg h1] at hx ⊢
    by_cases h2 : f_T_offer s a = s 22 (Int32.toNatClampNeg a)
    · rw [if_pos h2] at hx; exact absurd rfl hx
    · rw [if_neg h2] at hx ⊢
      split <;> exact of_in h hq h1

def f_T_cost (s0 : S2) (a1 : Int32) : Int32 × S2 :=
  if (f_T_isMachine (up2 s0 (0) 0 0) a1) = 0 then
    (-1, up2 s0 (0) 0 0)
  else
    if ((f_T_wanted (up2 s0 (0) 0 0) a1).1) = (-1) then
      (0, (f_T_wanted (up2 s0 (0) 0 0) a1).2)
    else
      if (((f_T_wanted (up2 s0 (0) 0 0) a1).2) (6) (Int32.toNatClampNeg ((f_T_wanted (up2 s0 (0) 0 0) a1).1))) ≤ (((f_T_wanted (up2 s0 (0) 0 0) a1).2) (27) (Int32.toNatClampNeg ((f_T_wanted (up2 s0 (0) 0 0) a1).1))) then
        (((f_T_wanted (up2 s0 (0) 0 0) a1).2) (6) (Int32.toNatClampNeg ((f_T_wanted (up2 s0 (0) 0 0) a1).1)), (f_T_wanted (up2 s0 (0) 0 0) a1).2)
      else
        (((f_T_wanted (up2 s0 (0) 0 0) a1).2) (27) (Int32.toNatClampNeg ((f_T_wanted (up2 s0 (0) 0 0) a1).1)), (f_T_wanted (up2 s0 (0) 0 0) a1).2)
set_option maxHeartbeats 4000000 in
set_option maxRecDepth 100000 in
theorem cc_T_cost (l : Launch) (G : Gx) (A : Nat → Prop) (ad : Nat → Nat) (s0 : S2) (a1 : Int32) (hW : Wt s0) : Met l y_T_cost ws_T_cost { frames := 4, cells := 0, slots := 0, locals := 89 } (PG G [.ref (ad (0)), .int (a1)] A ad (encT G.2 ad s0)) (EG G A (some (.int (f_T_cost s0 a1).1)) ad (encT G.2 ad ((f_T_cost s0 a1).2))) 0 0 A := by
  refine Met.ofW (cc := c_T_cost) (maxL := 3) (ret := (some .int)) (by decide) rfl ?_
  intro p e s m args below meth c s₁ B hml hv
  obtain ⟨rfl, hw, hK⟩ := hv
  have hx := B.exec
  have hb := B.bytes
  have hr := B.returns
  have hts : ∀ w ∈ tbG, w.before [.ref (ad (0)), .int (a1)].toArray s = true := fun w h => atoms_spec (ws := ws_T_cost) B.pre w (List.mem_cons_of_mem _ h)
  have hown : s.vm.findClass "RollStagesModel" = some m.cls := findClass_of_methodNamed B.named
  have hlocks := B.notSynchronized
  have hS : va_S A s.heap s.heap [] := va_S.rf
  have hw : mwG G A ad (encT G.2 ad s0) s.heap := hw
  have hl := lv_entry ([.ref (ad (0)), .int (a1)]) (n := 3) (Nat.le_of_ble_eq_true rfl)
  rw [lg_entry_eq]
  generalize (lg_sl ([.ref (ad (0)), .int (a1)]) ++ List.replicate (3 - (lg_sl ([.ref (ad (0)), .int (a1)])).length) Slot.unset).toArray = ls at hl ⊢
  have hl : lv_has ls 3 [(0, .ref (ad (0))), (1, .int (a1))] := hl
  refine lv_aload_n hx hb d_T_cost_0 rfl (lv_at hl 0 rfl) ?_
  refine lv_iconst (v := 0) hx hb d_T_cost_1 (by decide) ?_
  refine mw_put (v := .int (0)) hx hb hts in_T ty_T ty_T_ok n_T hown hK.1 hw hS (0) cT_0 rfl 0 (by decide) (hts _ tw_409) rfl rfl rfl (Nat.le_of_ble_eq_true rfl) d_T_cost_2 (fun H locs hw hS => ?_)
  replace hw := mw_encT (r := upd (s0 (0)) 0 0) hw cT_0
  have hw : mwG G A ad (encT G.2 ad (up2 s0 (0) 0 0)) H := hw
  refine lv_aload_n hx hb d_T_cost_5 rfl (lv_at hl 0 rfl) ?_
  refine lv_iload_n hx hb d_T_cost_6 rfl (lv_at hl 1 rfl) ?_
  refine gV (As := [.int (a1)]) (rest := []) (st1 := [.int (f_T_isMachine (up2 s0 (0) 0 0) a1)]) ⟨hx, hb, hml, hown, hts⟩ (cc_T_isMachine l G A ad  (up2 s0 (0) 0 0) a1) cT_0 rfl tw_579 tw_576 tw_578 tw_p38 tw_4 hd_T_isMachine rfl rfl ⟨Nat.le_of_ble_eq_true rfl, Nat.le_of_ble_eq_true rfl⟩ hK hw hS hl.1 rfl (Nat.le_of_ble_eq_true rfl) ⟨Nat.zero_le _, Nat.zero_le _⟩ d_T_cost_7 rfl (fun H locs hw hS => ?_)
  refine lv_if_ne (tgt := 15) hx hb d_T_cost_10 (by decide) (fun h1 => ?_) (fun h1 => ?_)
  · skip
    refine lv_aload_n hx hb d_T_cost_15 rfl (lv_at hl 0 rfl) ?_
    refine lv_iload_n hx hb d_T_cost_16 rfl (lv_at hl 1 rfl) ?_
    refine gV (As := [.int (a1)]) (rest := []) (st1 := [.int ((f_T_wanted (up2 s0 (0) 0 0) a1).1)]) ⟨hx, hb, hml, hown, hts⟩ (cc_T_wanted l G A ad  (up2 s0 (0) 0 0) a1 (Wt_c hW) (isMac_in (Wt_c hW) h1)) cT_0 rfl tw_622 tw_619 tw_621 tw_p42 tw_4 hd_T_wanted rfl rfl ⟨Nat.le_of_ble_eq_true rfl, Nat.le_of_ble_eq_true rfl⟩ hK hw hS hl.1 rfl (Nat.le_of_ble_eq_true rfl) ⟨Nat.zero_le _, Nat.zero_le _⟩ d_T_cost_17 rfl (fun H locs hw hS => ?_)
    refine lv_istore_n (lv' := [(2, .int ((f_T_wanted (up2 s0 (0) 0 0) a1).1)), (0, .ref (ad (0))), (1, .int (a1))]) hx hb d_T_cost_20 rfl hl (by decide) rfl (fun ls hl => ?_)
    refine lv_iload_n hx hb d_T_cost_21 rfl (lv_at hl 0 rfl) ?_
    refine lv_iconst (v := -1) hx hb d_T_cost_22 (by decide) ?_
    refine lv_icmp_ne (tgt := 30) hx hb d_T_cost_23 (by decide) (fun h2 => ?_) (fun h2 => ?_)
    · skip
      refine lv_aload_n hx hb d_T_cost_30 rfl (lv_at hl 1 rfl) ?_
      refine mw_get (v := .ref (ad (27))) hx hb hts in_T hown hK.1 hw (0) cT_0 rfl 27 (by decide) (hts _ tw_436) rfl d_T_cost_31 ?_
      refine lv_iload_n hx hb d_T_cost_34 rfl (lv_at hl 0 rfl) ?_
      refine mw_iald hx hb hK.1 hw (27) 0 cT_27 rfl (wa_in (Wt_c hW) (isMac_in (Wt_c hW) h1) h2) d_T_cost_35 ?_
      refine lv_aload_n hx hb d_T_cost_36 rfl (lv_at hl 1 rfl) ?_
      refine mw_get (v := .ref (ad (6))) hx hb hts in_T hown hK.1 hw (0) cT_0 rfl 6 (by decide) (hts _ tw_415) rfl d_T_cost_37 ?_
      refine lv_iload_n hx hb d_T_cost_40 rfl (lv_at hl 0 rfl) ?_
      refine mw_iald hx hb hK.1 hw (6) 0 cT_6 rfl (wa_in (Wt_c hW) (isMac_in (Wt_c hW) h1) h2) d_T_cost_41 ?_
      refine lv_icmp_ge (tgt := 54) hx hb d_T_cost_42 (by decide) (fun h3 => ?_) (fun h3 => ?_)
      · skip
        refine lv_aload_n hx hb d_T_cost_54 rfl (lv_at hl 1 rfl) ?_
        refine mw_get (v := .ref (ad (6))) hx hb hts in_T hown hK.1 hw (0) cT_0 rfl 6 (by decide) (hts _ tw_415) rfl d_T_cost_55 ?_
        refine lv_iload_n hx hb d_T_cost_58 rfl (lv_at hl 0 rfl) ?_
        refine mw_iald hx hb hK.1 hw (6) 0 cT_6 rfl (wa_in (Wt_c hW) (isMac_in (Wt_c hW) h1) h2) d_T_cost_59 ?_
        have e9 : f_T_cost s0 a1 = (((f_T_wanted (up2 s0 (0) 0 0) a1).2) (6) (Int32.toNatClampNeg ((f_T_wanted (up2 s0 (0) 0 0) a1).1)), (f_T_wanted (up2 s0 (0) 0 0) a1).2) := by unfold f_T_cost; exact (if_neg h1).trans ((if_neg h2).trans (if_pos h3))
        exact mw_iret hx hb hr rfl hw hS (congrArg (fun z => some (Value.int z.1)) e9.symm) ⟨rfl, congrArg (fun z => encT G.2 ad z.2) e9.symm⟩ hlocks d_T_cost_60
      · skip
        refine lv_aload_n hx hb d_T_cost_45 rfl (lv_at hl 1 rfl) ?_
        refine mw_get (v := .ref (ad (27))) hx hb hts in_T hown hK.1 hw (0) cT_0 rfl 27 (by decide) (hts _ tw_436) rfl d_T_cost_46 ?_
        refine lv_iload_n hx hb d_T_cost_49 rfl (lv_at hl 0 rfl) ?_
        refine mw_iald hx hb hK.1 hw (27) 0 cT_27 rfl (wa_in (Wt_c hW) (isMac_in (Wt_c hW) h1) h2) d_T_cost_50 ?_
        refine lv_goto (tgt := 60) hx hb d_T_cost_51 (by decide) ?_
        have e9 : f_T_cost s0 a1 = (((f_T_wanted (up2 s0 (0) 0 0) a1).2) (27) (Int32.toNatClampNeg ((f_T_wanted (up2 s0 (0) 0 0) a1).1)), (f_T_wanted (up2 s0 (0) 0 0) a1).2) := by unfold f_T_cost; exact (if_neg h1).trans ((if_neg h2).trans (if_neg h3))
        exact mw_iret hx hb hr rfl hw hS (congrArg (fun z => some (Value.int z.1)) e9.symm) ⟨rfl, congrArg (fun z => encT G.2 ad z.2) e9.symm⟩ hlocks d_T_cost_60
    · skip
      refine lv_iconst (v := 0) hx hb d_T_cost_26 (by decide) ?_
      refine lv_goto (tgt := 60) hx hb d_T_cost_27 (by decide) ?_
      have e9 : f_T_cost s0 a1 = (0, (f_T_wanted (up2 s0 (0) 0 0) a1).2) := by unfold f_T_cost; exact (if_neg h1).trans (if_pos h2)
      exact mw_iret hx hb hr rfl hw hS (congrArg (fun z => some (Value.int z.1)) e9.symm) ⟨rfl, congrArg (fun z => encT G.2 ad z.2) e9.symm⟩ hlocks d_T_cost_60
  · skip
    refine lv_iconst (v := -1) hx hb d_T_cost_13 (by decide) ?_
    have e9 : f_T_cost s0 a1 = (-1, up2 s0 (0) 0 0) := by unfold f_T_cost; exact if_pos h1
    exact mw_iret hx hb hr rfl hw hS (congrArg (fun z => some (Value.int z.1)) e9.symm) ⟨rfl, congrArg (fun z => encT G.2 ad z.2) e9.symm⟩ hlocks d_T_cost_14

def f_T_steps (s0 : S2) (a1 : Int32) : Int32 × S2 :=
  if (f_T_isMachine (up2 s0 (0) 0 0) a1) = 0 then
    (-1, up2 s0 (0) 0 0)
  else
    if ((f_T_wanted (up2 s0 (0) 0 0) a1).1) = (-1) then
      (0, (f_T_wanted (up2 s0 (0) 0 0) a1).2)
    else
      if (((f_T_wanted (up2 s0 (0) 0 0) a1).2) (6) (Int32.toNatClampNeg ((f_T_wanted (up2 s0 (0) 0 0) a1).1))) ≤ (((f_T_wanted (up2 s0 (0) 0 0) a1).2) (27) (Int32.toNatClampNeg ((f_T_wanted (up2 s0 (0) 0 0) a1).1))) then
        (0, (f_T_wanted (up2 s0 (0) 0 0) a1).2)
      else
        (((f_T_wanted (up2 s0 (0) 0 0) a1).2) (28) (Int32.toNatClampNeg ((f_T_wanted (up2 s0 (0) 0 0) a1).1)), (f_T_wanted (up2 s0 (0) 0 0) a1).2)
set_option maxHeartbeats 4000000 in
set_option maxRecDepth 100000 in
theorem cc_T_steps (l : Launch) (G : Gx) (A : Nat → Prop) (ad : Nat → Nat) (s0 : S2) (a1 : Int32) (hW : Wt s0) : Met l y_T_steps ws_T_steps { frames := 4, cells := 0, slots := 0, locals := 89 } (PG G [.ref (ad (0)), .int (a1)] A ad (encT G.2 ad s0)) (EG G A (some (.int (f_T_steps s0 a1).1)) ad (encT G.2 ad ((f_T_steps s0 a1).2))) 0 0 A := by
  refine Met.ofW (cc := c_T_steps) (maxL := 3) (ret := (some .int)) (by decide) rfl ?_
  intro p e s m args below meth c s₁ B hml hv
  obtain ⟨rfl, hw, hK⟩ := hv
  have hx := B.exec
  have hb := B.bytes
  have hr := B.returns
  have hts : ∀ w ∈ tbG, w.before [.ref (ad (0)), .int (a1)].toArray s = true := fun w h => atoms_spec (ws := ws_T_steps) B.pre w (List.mem_cons_of_mem _ h)
  have hown : s.vm.findClass "RollStagesModel" = some m.cls := findClass_of_methodNamed B.named
  have hlocks := B.notSynchronized
  have hS : va_S A s.heap s.heap [] := va_S.rf
  have hw : mwG G A ad (encT G.2 ad s0) s.heap := hw
  have hl := lv_entry ([.ref (ad (0)), .int (a1)]) (n := 3) (Nat.le_of_ble_eq_true rfl)
  rw [lg_entry_eq]
  generalize (lg_sl ([.ref (ad (0)), .int (a1)]) ++ List.replicate (3 - (lg_sl ([.ref (ad (0)), .int (a1)])).length) Slot.unset).toArray = ls at hl ⊢
  have hl : lv_has ls 3 [(0, .ref (ad (0))), (1, .int (a1))] := hl
  refine lv_aload_n hx hb d_T_steps_0 rfl (lv_at hl 0 rfl) ?_
  refine lv_iconst (v := 0) hx hb d_T_steps_1 (by decide) ?_
  refine mw_put (v := .int (0)) hx hb hts in_T ty_T ty_T_ok n_T hown hK.1 hw hS (0) cT_0 rfl 0 (by decide) (hts _ tw_409) rfl rfl rfl (Nat.le_of_ble_eq_true rfl) d_T_steps_2 (fun H locs hw hS => ?_)
  replace hw := mw_encT (r := upd (s0 (0)) 0 0) hw cT_0
  have hw : mwG G A ad (encT G.2 ad (up2 s0 (0) 0 0)) H := hw
  refine lv_aload_n hx hb d_T_steps_5 rfl (lv_at hl 0 rfl) ?_
  refine lv_iload_n hx hb d_T_steps_6 rfl (lv_at hl 1 rfl) ?_
  refine gV (As := [.int (a1)]) (rest := []) (st1 := [.int (f_T_isMachine (up2 s0 (0) 0 0) a1)]) ⟨hx, hb, hml, hown, hts⟩ (cc_T_isMachine l G A ad  (up2 s0 (0) 0 0) a1) cT_0 rfl tw_579 tw_576 tw_578 tw_p38 tw_4 hd_T_isMachine rfl rfl ⟨Nat.le_of_ble_eq_true rfl, Nat.le_of_ble_eq_true rfl⟩ hK hw hS hl.1 rfl (Nat.le_of_ble_eq_true rfl) ⟨Nat.zero_le _, Nat.zero_le _⟩ d_T_steps_7 rfl (fun H locs hw hS => ?_)
  refine lv_if_ne (tgt := 15) hx hb d_T_steps_10 (by decide) (fun h1 => ?_) (fun h1 => ?_)
  · skip
    refine lv_aload_n hx hb d_T_steps_15 rfl (lv_at hl 0 rfl) ?_
    refine lv_iload_n hx hb d_T_steps_16 rfl (lv_at hl 1 rfl) ?_
    refine gV (As := [.int (a1)]) (rest := []) (st1 := [.int ((f_T_wanted (up2 s0 (0) 0 0) a1).1)]) ⟨hx, hb, hml, hown, hts⟩ (cc_T_wanted l G A ad  (up2 s0 (0) 0 0) a1 (Wt_c hW) (isMac_in (Wt_c hW) h1)) cT_0 rfl tw_622 tw_619 tw_621 tw_p42 tw_4 hd_T_wanted rfl rfl ⟨Nat.le_of_ble_eq_true rfl, Nat.le_of_ble_eq_true rfl⟩ hK hw hS hl.1 rfl (Nat.le_of_ble_eq_true rfl) ⟨Nat.zero_le _, Nat.zero_le _⟩ d_T_steps_17 rfl (fun H locs hw hS => ?_)
    refine lv_istore_n (lv' := [(2, .int ((f_T_wanted (up2 s0 (0) 0 0) a1).1)), (0, .ref (ad (0))), (1, .int (a1))]) hx hb d_T_steps_20 rfl hl (by decide) rfl (fun ls hl => ?_)
    refine lv_iload_n hx hb d_T_steps_21 rfl (lv_at hl 0 rfl) ?_
    refine lv_iconst (v := -1) hx hb d_T_steps_22 (by decide) ?_
    refine lv_icmp_eq (tgt := 50) hx hb d_T_steps_23 (by decide) (fun h2 => ?_) (fun h2 => ?_)
    · skip
      refine lv_iconst (v := 0) hx hb d_T_steps_50 (by decide) ?_
      have e9 : f_T_steps s0 a1 = (0, (f_T_wanted (up2 s0 (0) 0 0) a1).2) := by unfold f_T_steps; exact (if_neg h1).trans (if_pos h2)
      exact mw_iret hx hb hr rfl hw hS (congrArg (fun z => some (Value.int z.1)) e9.symm) ⟨rfl, congrArg (fun z => encT G.2 ad z.2) e9.symm⟩ hlocks d_T_steps_51
    · skip
      refine lv_aload_n hx hb d_T_steps_26 rfl (lv_at hl 1 rfl) ?_
      refine mw_get (v := .ref (ad (27))) hx hb hts in_T hown hK.1 hw (0) cT_0 rfl 27 (by decide) (hts _ tw_436) rfl d_T_steps_27 ?_
      refine lv_iload_n hx hb d_T_steps_30 rfl (lv_at hl 0 rfl) ?_
      refine mw_iald hx hb hK.1 hw (27) 0 cT_27 rfl (wa_in (Wt_c hW) (isMac_in (Wt_c hW) h1) h2) d_T_steps_31 ?_
      refine lv_aload_n hx hb d_T_steps_32 rfl (lv_at hl 1 rfl) ?_
      refine mw_get (v := .ref (ad (6))) hx hb hts in_T hown hK.1 hw (0) cT_0 rfl 6 (by decide) (hts _ tw_415) rfl d_T_steps_33 ?_
      refine lv_iload_n hx hb d_T_steps_36 rfl (lv_at hl 0 rfl) ?_
      refine mw_iald hx hb hK.1 hw (6) 0 cT_6 rfl (wa_in (Wt_c hW) (isMac_in (Wt_c hW) h1) h2) d_T_steps_37 ?_
      refine lv_icmp_ge (tgt := 50) hx hb d_T_steps_38 (by decide) (fun h3 => ?_) (fun h3 => ?_)
      · skip
        refine lv_iconst (v := 0) hx hb d_T_steps_50 (by decide) ?_
        have e9 : f_T_steps s0 a1 = (0, (f_T_wanted (up2 s0 (0) 0 0) a1).2) := by unfold f_T_steps; exact (if_neg h1).trans ((if_neg h2).trans (if_pos h3))
        exact mw_iret hx hb hr rfl hw hS (congrArg (fun z => some (Value.int z.1)) e9.symm) ⟨rfl, congrArg (fun z => encT G.2 ad z.2) e9.symm⟩ hlocks d_T_steps_51
      · skip
        refine lv_aload_n hx hb d_T_steps_41 rfl (lv_at hl 1 rfl) ?_
        refine mw_get (v := .ref (ad (28))) hx hb hts in_T hown hK.1 hw (0) cT_0 rfl 28 (by decide) (hts _ tw_437) rfl d_T_steps_42 ?_
        refine lv_iload_n hx hb d_T_steps_45 rfl (lv_at hl 0 rfl) ?_
        refine mw_iald hx hb hK.1 hw (28) 0 cT_28 rfl (wa_in (Wt_c hW) (isMac_in (Wt_c hW) h1) h2) d_T_steps_46 ?_
        refine lv_goto (tgt := 51) hx hb d_T_steps_47 (by decide) ?_
        have e9 : f_T_steps s0 a1 = (((f_T_wanted (up2 s0 (0) 0 0) a1).2) (28) (Int32.toNatClampNeg ((f_T_wanted (up2 s0 (0) 0 0) a1).1)), (f_T_wanted (up2 s0 (0) 0 0) a1).2) := by unfold f_T_steps; exact (if_neg h1).trans ((if_neg h2).trans (if_neg h3))
        exact mw_iret hx hb hr rfl hw hS (congrArg (fun z => some (Value.int z.1)) e9.symm) ⟨rfl, congrArg (fun z => encT G.2 ad z.2) e9.symm⟩ hlocks d_T_steps_51
  · skip
    refine lv_iconst (v := -1) hx hb d_T_steps_13 (by decide) ?_
    have e9 : f_T_steps s0 a1 = (-1, up2 s0 (0) 0 0) := by unfold f_T_steps; exact if_pos h1
    exact mw_iret hx hb hr rfl hw hS (congrArg (fun z => some (Value.int z.1)) e9.symm) ⟨rfl, congrArg (fun z => encT G.2 ad z.2) e9.symm⟩ hlocks d_T_steps_14

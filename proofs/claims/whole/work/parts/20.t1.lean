/-! THE REFERENCE'S STATE: place 0 the object, place f the array of its field f (5 .. 30) -/
def lenT (k : Nat) : Nat := if k < 8 then 16 else if k < 10 then 80 else if k < 19 then 16 else if k = 19 then 3 else if k < 24 then 30 else if k < 27 then 40 else 16
def fsT (ad : Nat → Nat) (r : Nat → Int32) : List Value := [.int (r 0), .int (r 1), .int (r 2), .int (r 3), .int (r 4), .ref (ad 5), .ref (ad 6), .ref (ad 7), .ref (ad 8), .ref (ad 9), .ref (ad 10), .ref (ad 11), .ref (ad 12), .ref (ad 13), .ref (ad 14), .ref (ad 15), .ref (ad 16), .ref (ad 17), .ref (ad 18), .ref (ad 19), .ref (ad 20), .ref (ad 21), .ref (ad 22), .ref (ad 23), .ref (ad 24), .ref (ad 25), .ref (ad 26), .ref (ad 27), .ref (ad 28), .ref (ad 29), .ref (ad 30)]
def cellT (g : Nat → ClassId) (ad : Nat → Nat) (k : Nat) (r : Nat → Int32) : Option va_E :=
  if k = 0 then some (.inr (4, fsT ad r)) else if k = 18 then some (.inl (g 3, 16, .inl r)) else if 5 ≤ k ∧ k ≤ 30 then some (.inl (g 0, lenT k, .inl r)) else none
def encT (g : Nat → ClassId) (ad : Nat → Nat) (s : S2) : Nat → Option va_E := fun k => cellT g ad k (s k)
theorem encT_up {g : Nat → ClassId} {ad : Nat → Nat} {s : S2} {k : Nat} {r : Nat → Int32} {e : va_E} (h : cellT g ad k r = some e) : va_up (encT g ad s) k (some e) = encT g ad (va_up s k r) := by
  funext q
  by_cases hq : q = k
  · subst hq
    rw [va_up_self]
    show _ = cellT g ad q (va_up s q r q)
    rw [va_up_self, h]
  · rw [va_up_ne _ _ hq]
    show cellT g ad q (s q) = cellT g ad q (va_up s k r q)
    rw [va_up_ne _ _ hq]
theorem mw_encT {A : Nat → Prop} {D : va_G} {cl : List vw_C} {g : Nat → ClassId} {ad ad0 : Nat → Nat} {s : S2} {k : Nat} {r : Nat → Int32} {e : va_E} {H : Heap} (hw : mw A D cl ad0 (va_up (encT g ad s) k (some e)) H) (h : cellT g ad k r = some e) : mw A D cl ad0 (encT g ad (va_up s k r)) H := by
  rw [encT_up h] at hw
  exact hw
section CT
variable {g : Nat → ClassId} {ad : Nat → Nat} {r : Nat → Int32}
theorem cT_0 : cellT g ad 0 r = some (.inr (4, fsT ad r)) := rfl
theorem cT_5 : cellT g ad 5 r = some (.inl (g 0, 16, .inl r)) := rfl
theorem cT_6 : cellT g ad 6 r = some (.inl (g 0, 16, .inl r)) := rfl
theorem cT_7 : cellT g ad 7 r = some (.inl (g 0, 16, .inl r)) := rfl
theorem cT_8 : cellT g ad 8 r = some (.inl (g 0, 80, .inl r)) := rfl
theorem cT_9 : cellT g ad 9 r = some (.inl (g 0, 80, .inl r)) := rfl
theorem cT_10 : cellT g ad 10 r = some (.inl (g 0, 16, .inl r)) := rfl
theorem cT_11 : cellT g ad 11 r = some (.inl (g 0, 16, .inl r)) := rfl
theorem cT_12 : cellT g ad 12 r = some (.inl (g 0, 16, .inl r)) := rfl
theorem cT_13 : cellT g ad 13 r = some (.inl (g 0, 16, .inl r)) := rfl
theorem cT_14 : cellT g ad 14 r = some (.inl (g 0, 16, .inl r)) := rfl
theorem cT_15 : cellT g ad 15 r = some (.inl (g 0, 16, .inl r)) := rfl
theorem cT_16 : cellT g ad 16 r = some (.inl (g 0, 16, .inl r)) := rfl
theorem cT_17 : cellT g ad 17 r = some (.inl (g 0, 16, .inl r)) := rfl
theorem cT_18 : cellT g ad 18 r = some (.inl (g 3, 16, .inl r)) := rfl
theorem cT_19 : cellT g ad 19 r = some (.inl (g 0, 3, .inl r)) := rfl
theorem cT_20 : cellT g ad 20 r = some (.inl (g 0, 30, .inl r)) := rfl
theorem cT_21 : cellT g ad 21 r = some (.inl (g 0, 30, .inl r)) := rfl
theorem cT_22 : cellT g ad 22 r = some (.inl (g 0, 30, .inl r)) := rfl
theorem cT_23 : cellT g ad 23 r = some (.inl (g 0, 30, .inl r)) := rfl
theorem cT_24 : cellT g ad 24 r = some (.inl (g 0, 40, .inl r)) := rfl
theorem cT_25 : cellT g ad 25 r = some (.inl (g 0, 40, .inl r)) := rfl
theorem cT_26 : cellT g ad 26 r = some (.inl (g 0, 40, .inl r)) := rfl
theorem cT_27 : cellT g ad 27 r = some (.inl (g 0, 16, .inl r)) := rfl
theorem cT_28 : cellT g ad 28 r = some (.inl (g 0, 16, .inl r)) := rfl
theorem cT_29 : cellT g ad 29 r = some (.inl (g 0, 16, .inl r)) := rfl
theorem cT_30 : cellT g ad 30 r = some (.inl (g 0, 16, .inl r)) := rfl
end CT
/-- what the reference's numbers keep to: its indices stay in their arrays -/
def Wt (s : S2) : Prop := (0 ≤ (s 0 2).toInt ∧ (s 0 2).toInt ≤ 16) ∧ (0 ≤ (s 0 3).toInt ∧ (s 0 3).toInt ≤ 30) ∧ (0 ≤ (s 0 4).toInt ∧ (s 0 4).toInt ≤ 40) ∧
  (∀ i, i < 16 → (0 ≤ (s 5 i).toInt ∧ (s 5 i).toInt ≤ 2) ∧ (0 ≤ (s 7 i).toInt ∧ (s 7 i).toInt ≤ 5) ∧ (0 ≤ (s 13 i).toInt ∧ (s 13 i).toInt ≤ 4)) ∧
  (∀ j, j < 30 → (0 ≤ (s 20 j).toInt ∧ (s 20 j).toInt ≤ 2) ∧ (-1 ≤ (s 22 j).toInt ∧ (s 22 j).toInt ≤ 15) ∧ (-1 ≤ (s 23 j).toInt ∧ (s 23 j).toInt ≤ 15)) ∧
  ∀ k, k < 40 → (0 ≤ (s 24 k).toInt ∧ (s 24 k).toInt ≤ 15) ∧ (0 ≤ (s 25 k).toInt ∧ (s 25 k).toInt ≤ 15)
def Wk (k j : Nat) (v : Int32) : Prop := (k = 0 → j = 2 → 0 ≤ v.toInt ∧ v.toInt ≤ 16) ∧ (k = 0 → j = 3 → 0 ≤ v.toInt ∧ v.toInt ≤ 30) ∧ (k = 0 → j = 4 → 0 ≤ v.toInt ∧ v.toInt ≤ 40) ∧ (k = 5 → 0 ≤ v.toInt ∧ v.toInt ≤ 2) ∧ (k = 7 → 0 ≤ v.toInt ∧ v.toInt ≤ 5) ∧ (k = 13 → 0 ≤ v.toInt ∧ v.toInt ≤ 4) ∧ (k = 20 → 0 ≤ v.toInt ∧ v.toInt ≤ 2) ∧ (k = 22 → -1 ≤ v.toInt ∧ v.toInt ≤ 15) ∧ (k = 23 → -1 ≤ v.toInt ∧ v.toInt ≤ 15) ∧ (k = 24 → 0 ≤ v.toInt ∧ v.toInt ≤ 15) ∧ (k = 25 → 0 ≤ v.toInt ∧ v.toInt ≤ 15)
theorem up2_or (s : S2) (k j : Nat) (v : Int32) (k' j' : Nat) : (k' = k ∧ j' = j ∧ up2 s k j v k' j' = v) ∨ up2 s k j v k' j' = s k' j' := by
  rw [up2_at]
  by_cases h : k' = k ∧ j' = j
  · rw [if_pos h]; exact Or.inl ⟨h.1, h.2, rfl⟩
  · rw [if_neg h]; exact Or.inr rfl
theorem up2_by {P : Int32 → Prop} {s : S2} {k j : Nat} {v : Int32} {k' j' : Nat} (h1 : P (s k' j')) (h2 : k = k' → j = j' → P v) : P (up2 s k j v k' j') := by
  rcases up2_or s k j v k' j' with ⟨a, b, e⟩ | e
  · rw [e]; exact h2 a.symm b.symm
  · rw [e]; exact h1
theorem Wt_up {s : S2} {k j : Nat} {v : Int32} (h : Wt s) (hk : Wk k j v) : Wt (up2 s k j v) := by
  obtain ⟨h1, h2, h3, h4, h5, h6⟩ := h
  obtain ⟨k1, k2, k3, k4, k5, k6, k7, k8, k9, k10, k11⟩ := hk
  refine ⟨up2_by (P := fun x => 0 ≤ x.toInt ∧ x.toInt ≤ 16) h1 k1, up2_by (P := fun x => 0 ≤ x.toInt ∧ x.toInt ≤ 30) h2 k2, up2_by (P := fun x => 0 ≤ x.toInt ∧ x.toInt ≤ 40) h3 k3, fun i hi => ⟨?_, ?_, ?_⟩, fun i hi => ⟨?_, ?_, ?_⟩, fun i hi => ⟨?_, ?_⟩⟩
  · exact up2_by (P := fun x => 0 ≤ x.toInt ∧ x.toInt ≤ 2) (h4 i hi).1 (fun e _ => k4 e)
  · exact up2_by (P := fun x => 0 ≤ x.toInt ∧ x.toInt ≤ 5) (h4 i hi).2.1 (fun e _ => k5 e)
  · exact up2_by (P := fun x => 0 ≤ x.toInt ∧ x.toInt ≤ 4) (h4 i hi).2.2 (fun e _ => k6 e)
  · exact up2_by (P := fun x => 0 ≤ x.toInt ∧ x.toInt ≤ 2) (h5 i hi).1 (fun e _ => k7 e)
  · exact up2_by (P := fun x => -1 ≤ x.toInt ∧ x.toInt ≤ 15) (h5 i hi).2.1 (fun e _ => k8 e)
  · exact up2_by (P := fun x => -1 ≤ x.toInt ∧ x.toInt ≤ 15) (h5 i hi).2.2 (fun e _ => k9 e)
  · exact up2_by (P := fun x => 0 ≤ x.toInt ∧ x.toInt ≤ 15) (h6 i hi).1 (fun e _ => k10 e)
  · exact up2_by (P := fun x => 0 ≤ x.toInt ∧ x.toInt ≤ 15) (h6 i hi).2 (fun e _ => k11 e)
theorem Wt_c {s : S2} (h : Wt s) : Wt (up2 s 0 0 0) := Wt_up h (by unfold Wk; omega)
theorem vin {x : Int32} {n : Nat} (h : vp_in x n) : 0 ≤ x.toInt ∧ x.toInt < n ∧ x.toNatClampNeg < n := by
  rw [vp_in_iff] at h
  have := tnc h.1
  omega
theorem i_ne {x y : Int32} (h : ¬ x = y) : x.toInt ≠ y.toInt := fun q => h (Int32.toInt_inj.mp q)
theorem i_5 {a x : Int32} (ha : 0 ≤ a.toInt ∧ a.toInt < 16) (hx : 0 ≤ x.toInt ∧ x.toInt ≤ 5) : (5 * a + x).toInt = 5 * a.toInt + x.toInt := by
  rw [Int32.toInt_add, Int32.toInt_mul, show (5 : Int32).toInt = 5 from rfl, Int.bmod_def, Int.bmod_def]
  omega
theorem ix_w {s : S2} {a : Int32} (h : Wt s) (hq : vp_in a 16) : vp_in ((5 * a) + (s 13 (Int32.toNatClampNeg a))) 80 := by
  obtain ⟨q1, q2, q3⟩ := vin hq
  have h2 := (h.2.2.2.1 _ q3).2.2
  rw [vp_in_iff, i_5 ⟨q1, q2⟩ ⟨h2.1, by omega⟩]
  omega
theorem ix_s {s : S2} {a : Int32} (h : Wt s) (hq : vp_in a 16) (h5 : ¬ s 7 (Int32.toNatClampNeg a) = 5) : vp_in ((5 * a) + (s 7 (Int32.toNatClampNeg a))) 80 := by
  obtain ⟨q1, q2, q3⟩ := vin hq
  have h2 := (h.2.2.2.1 _ q3).2.1
  have h3 := i_ne h5
  rw [show (5 : Int32).toInt = 5 from rfl] at h3
  rw [vp_in_iff, i_5 ⟨q1, q2⟩ h2]
  omega
theorem i_sub1 {x : Int32} (h : -2147483648 < x.toInt) : (x - 1).toInt = x.toInt - 1 := by
  have h2 := Int32.toInt_lt x
  rw [Int32.toInt_sub, show (1 : Int32).toInt = 1 from rfl, Int.bmod_def]
  omega
theorem ix_s1 {s : S2} {a : Int32} (h : Wt s) (hq : vp_in a 16) (h5 : ¬ s 7 (Int32.toNatClampNeg a) ≤ 0) : vp_in (((5 * a) + (s 7 (Int32.toNatClampNeg a))) - 1) 80 := by
  obtain ⟨q1, q2, q3⟩ := vin hq
  have h2 := (h.2.2.2.1 _ q3).2.1
  rw [i_le, Int32.toInt_zero] at h5
  rw [vp_in_iff, i_sub1 (by rw [i_5 ⟨q1, q2⟩ h2]; omega), i_5 ⟨q1, q2⟩ h2]
  omega
theorem ch_in {s : S2} {a : Int32} (h : Wt s) (hq : vp_in a 16) : vp_in (s 5 (Int32.toNatClampNeg a)) 3 := by
  have h2 := (h.2.2.2.1 _ (vin hq).2.2).1
  rw [vp_in_iff]
  omega
theorem pin_in {s : S2} {a : Int32} (h : Wt s) (hq : vp_in a 30) (h5 : ¬ s 23 (Int32.toNatClampNeg a) = (-1)) : vp_in (s 23 (Int32.toNatClampNeg a)) 16 := by
  have h2 := (h.2.2.2.2.1 _ (vin hq).2.2).2.2
  have h3 := i_ne h5
  rw [show (-1 : Int32).toInt = -1 from rfl] at h3
  rw [vp_in_iff]
  omega
theorem has_in {s : S2} {a b : Int32} (h : Wt s) (hq : vp_in a 30) (hb : -1 ≤ b.toInt) (h5 : ¬ s 22 (Int32.toNatClampNeg a) ≤ b) : vp_in (s 22 (Int32.toNatClampNeg a)) 16 := by
  have h2 := (h.2.2.2.2.1 _ (vin hq).2.2).2.1
  rw [i_le] at h5
  rw [vp_in_iff]
  omega
theorem fr_in {s : S2} {a : Int32} (h : Wt s) (hq : vp_in a 40) : vp_in (s 24 (Int32.toNatClampNeg a)) 16 := by
  have h2 := (h.2.2.2.2.2 _ (vin hq).2.2).1
  rw [vp_in_iff]
  omega
theorem to_in {s : S2} {a : Int32} (h : Wt s) (hq : vp_in a 40) : vp_in (s 25 (Int32.toNatClampNeg a)) 16 := by
  have h2 := (h.2.2.2.2.2 _ (vin hq).2.2).2
  rw [vp_in_iff]
  omega
theorem lt_in {s : S2} {x : Int32} (h : Wt s) (h0 : 0 ≤ x.toInt) (hx : ¬ s 0 2 ≤ x) : vp_in x 16 := by
  have h2 := h.1
  rw [i_le] at hx
  rw [vp_in_iff]
  omega
theorem lt_S {s : S2} {x : Int32} {n : Nat} (h : Wt s) (hI : 0 ≤ x.toInt ∧ x.toInt ≤ 16 ∧ 17 ≤ x.toInt + ((n + 1 : Nat) : Int)) (hx : ¬ s 0 2 ≤ x) : 0 ≤ (x + 1).toInt ∧ (x + 1).toInt ≤ 16 ∧ 17 ≤ (x + 1).toInt + (n : Int) := by
  have h2 := h.1
  rw [i_le] at hx
  rw [i_up (by omega) (by omega)]
  omega
theorem r_in {s : S2} (h : Wt s) (hx : ¬ s 0 2 = 16) : vp_in (s 0 2) 16 := by
  have h2 := h.1
  have h3 := i_ne hx
  rw [show (16 : Int32).toInt = 16 from rfl] at h3
  rw [vp_in_iff]
  omega
theorem m_in {s : S2} (h : Wt s) (hx : ¬ s 0 3 = 30) : vp_in (s 0 3) 30 := by
  have h2 := h.2.1
  have h3 := i_ne hx
  rw [show (30 : Int32).toInt = 30 from rfl] at h3
  rw [vp_in_iff]
  omega

def f_T_isWithin (a1 : Int32) (a2 : Int32) (a3 : Int32) : Int32 :=
  if a1 < a2 then
    0
  else
    if a3 < a1 then
      0
    else
      1
theorem fb_T_isWithin (a1 : Int32) (a2 : Int32) (a3 : Int32) : narrow .boolean (.int (f_T_isWithin a1 a2 a3)) = .int (f_T_isWithin a1 a2 a3) := by
  unfold f_T_isWithin
  repeat' split
  all_goals first | rfl | exact narrow_b0 | exact narrow_b1
set_option maxHeartbeats 4000000 in
set_option maxRecDepth 100000 in
theorem cc_T_isWithin (l : Launch) (G : Gx) (A : Nat → Prop) (ad : Nat → Nat) (s0 : S2) (a1 : Int32) (a2 : Int32) (a3 : Int32) : Met l y_T_isWithin ws_T_isWithin { frames := 0, cells := 0, slots := 0, locals := 0 } (PG G [.int (a1), .int (a2), .int (a3)] A ad (encT G.2 ad s0)) (EG G A (some (.int (f_T_isWithin a1 a2 a3))) ad (encT G.2 ad s0)) 0 0 A := by
  refine Met.ofW (cc := c_T_isWithin) (maxL := 3) (ret := (some .boolean)) (by decide) rfl ?_
  intro p e s m args below meth c s₁ B hml hv
  obtain ⟨rfl, hw, hK⟩ := hv
  have hx := B.exec
  have hb := B.bytes
  have hr := B.returns
  have hts : ∀ w ∈ tbG, w.before [.int (a1), .int (a2), .int (a3)].toArray s = true := fun w h => atoms_spec (ws := ws_T_isWithin) B.pre w (List.mem_cons_of_mem _ h)
  have hown : s.vm.findClass "RollStagesModel" = some m.cls := findClass_of_methodNamed B.named
  have hlocks := B.notSynchronized
  have hS : va_S A s.heap s.heap [] := va_S.rf
  have hw : mwG G A ad (encT G.2 ad s0) s.heap := hw
  have hl := lv_entry ([.int (a1), .int (a2), .int (a3)]) (n := 3) (Nat.le_of_ble_eq_true rfl)
  rw [lg_entry_eq]
  generalize (lg_sl ([.int (a1), .int (a2), .int (a3)]) ++ List.replicate (3 - (lg_sl ([.int (a1), .int (a2), .int (a3)])).length) Slot.unset).toArray = ls at hl ⊢
  have hl : lv_has ls 3 [(0, .int (a1)), (1, .int (a2)), (2, .int (a3))] := hl
  refine lv_iload_n hx hb d_T_isWithin_0 rfl (lv_at hl 0 rfl) ?_
  refine lv_iload_n hx hb d_T_isWithin_1 rfl (lv_at hl 1 rfl) ?_
  refine lv_icmp_lt (tgt := 14) hx hb d_T_isWithin_2 (by decide) (fun h1 => ?_) (fun h1 => ?_)
  · skip
    refine lv_iconst (v := 0) hx hb d_T_isWithin_14 (by decide) ?_
    have e9 : f_T_isWithin a1 a2 a3 = 0 := by unfold f_T_isWithin; exact if_pos h1
    exact mw_iret hx hb hr rfl hw hS (congrArg (fun z => some (Value.int z)) e9.symm) ⟨rfl, rfl⟩ hlocks d_T_isWithin_15
  · skip
    refine lv_iload_n hx hb d_T_isWithin_5 rfl (lv_at hl 0 rfl) ?_
    refine lv_iload_n hx hb d_T_isWithin_6 rfl (lv_at hl 2 rfl) ?_
    refine lv_icmp_gt (tgt := 14) hx hb d_T_isWithin_7 (by decide) (fun h2 => ?_) (fun h2 => ?_)
    · skip
      refine lv_iconst (v := 0) hx hb d_T_isWithin_14 (by decide) ?_
      have e9 : f_T_isWithin a1 a2 a3 = 0 := by unfold f_T_isWithin; exact (if_neg h1).trans (if_pos h2)
      exact mw_iret hx hb hr rfl hw hS (congrArg (fun z => some (Value.int z)) e9.symm) ⟨rfl, rfl⟩ hlocks d_T_isWithin_15
    · skip
      refine lv_iconst (v := 1) hx hb d_T_isWithin_10 (by decide) ?_
      refine lv_goto (tgt := 15) hx hb d_T_isWithin_11 (by decide) ?_
      have e9 : f_T_isWithin a1 a2 a3 = 1 := by unfold f_T_isWithin; exact (if_neg h1).trans (if_neg h2)
      exact mw_iret hx hb hr rfl hw hS (congrArg (fun z => some (Value.int z)) e9.symm) ⟨rfl, rfl⟩ hlocks d_T_isWithin_15

def f_T_rowOf (a1 : Int32) : Int32 :=
  Int64.toInt32 (((((Int32.toInt64 (a1 + 1)) * 2654435761) &&& 4294967295) / 128) - ((((Int32.toInt64 (a1 + 1)) * 2654435761) &&& 4294967295) / 128) / 1000 * 1000)
set_option maxHeartbeats 4000000 in
set_option maxRecDepth 100000 in
theorem cc_T_rowOf (l : Launch) (G : Gx) (A : Nat → Prop) (ad : Nat → Nat) (s0 : S2) (a1 : Int32) : Met l y_T_rowOf ws_T_rowOf { frames := 0, cells := 0, slots := 0, locals := 0 } (PG G [.int (a1)] A ad (encT G.2 ad s0)) (EG G A (some (.int (f_T_rowOf a1))) ad (encT G.2 ad s0)) 0 0 A := by
  refine Met.ofW (cc := c_T_rowOf) (maxL := 1) (ret := (some .int)) (by decide) rfl ?_
  intro p e s m args below meth c s₁ B hml hv
  obtain ⟨rfl, hw, hK⟩ := hv
  have hx := B.exec
  have hb := B.bytes
  have hr := B.returns
  have hts : ∀ w ∈ tbG, w.before [.int (a1)].toArray s = true := fun w h => atoms_spec (ws := ws_T_rowOf) B.pre w (List.mem_cons_of_mem _ h)
  have hown : s.vm.findClass "RollStagesModel" = some m.cls := findClass_of_methodNamed B.named
  have hlocks := B.notSynchronized
  have hS : va_S A s.heap s.heap [] := va_S.rf
  have hw : mwG G A ad (encT G.2 ad s0) s.heap := hw
  have hl := lv_entry ([.int (a1)]) (n := 1) (Nat.le_of_ble_eq_true rfl)
  rw [lg_entry_eq]
  generalize (lg_sl ([.int (a1)]) ++ List.replicate (1 - (lg_sl ([.int (a1)])).length) Slot.unset).toArray = ls at hl ⊢
  have hl : lv_has ls 1 [(0, .int (a1))] := hl
  refine lv_iload_n hx hb d_T_rowOf_0 rfl (lv_at hl 0 rfl) ?_
  refine lv_iconst (v := 1) hx hb d_T_rowOf_1 (by decide) ?_
  refine lv_iadd hx hb d_T_rowOf_2 ?_
  refine lv_i2l (v := Int32.toInt64 (a1 + 1)) hx hb d_T_rowOf_3 rfl ?_
  refine lv_ldc2 (v := 2654435761) hx hb hown (hts _ tw_583) d_T_rowOf_4 ?_
  refine lv_lmul hx hb d_T_rowOf_7 ?_
  refine lv_ldc2 (v := 4294967295) hx hb hown (hts _ tw_584) d_T_rowOf_8 ?_
  refine lv_land hx hb d_T_rowOf_11 ?_
  refine lv_ldc2 (v := 128) hx hb hown (hts _ tw_585) d_T_rowOf_12 ?_
  refine lv_ldiv hx hb d_T_rowOf_15 (by decide) ?_
  refine lv_ldc2 (v := 1000) hx hb hown (hts _ tw_586) d_T_rowOf_16 ?_
  refine lv_lrem hx hb d_T_rowOf_19 (by decide) ?_
  refine lv_l2i (v := Int64.toInt32 (((((Int32.toInt64 (a1 + 1)) * 2654435761) &&& 4294967295) / 128) - ((((Int32.toInt64 (a1 + 1)) * 2654435761) &&& 4294967295) / 128) / 1000 * 1000)) hx hb d_T_rowOf_20 rfl ?_
  have e9 : f_T_rowOf a1 = Int64.toInt32 (((((Int32.toInt64 (a1 + 1)) * 2654435761) &&& 4294967295) / 128) - ((((Int32.toInt64 (a1 + 1)) * 2654435761) &&& 4294967295) / 128) / 1000 * 1000) := by unfold f_T_rowOf; exact rfl
  exact mw_iret hx hb hr rfl hw hS (congrArg (fun z => some (Value.int z)) e9.symm) ⟨rfl, rfl⟩ hlocks d_T_rowOf_21

def f_T_isRelease (s0 : S2) (a1 : Int32) : Int32 :=
  if a1 < 0 then
    0
  else
    if (s0 0 2) ≤ a1 then
      0
    else
      1
theorem fb_T_isRelease (s0 : S2) (a1 : Int32) : narrow .boolean (.int (f_T_isRelease s0 a1)) = .int (f_T_isRelease s0 a1) := by
  unfold f_T_isRelease
  repeat' split
  all_goals first | rfl | exact narrow_b0 | exact narrow_b1
set_option maxHeartbeats 4000000 in
set_option maxRecDepth 100000 in
theorem cc_T_isRelease (l : Launch) (G : Gx) (A : Nat → Prop) (ad : Nat → Nat) (s0 : S2) (a1 : Int32) : Met l y_T_isRelease ws_T_isRelease { frames := 0, cells := 0, slots := 0, locals := 0 } (PG G [.ref (ad (0)), .int (a1)] A ad (encT G.2 ad s0)) (EG G A (some (.int (f_T_isRelease s0 a1))) ad (encT G.2 ad s0)) 0 0 A := by
  refine Met.ofW (cc := c_T_isRelease) (maxL := 2) (ret := (some .boolean)) (by decide) rfl ?_
  intro p e s m args below meth c s₁ B hml hv
  obtain ⟨rfl, hw, hK⟩ := hv
  have hx := B.exec
  have hb := B.bytes
  have hr := B.returns
  have hts : ∀ w ∈ tbG, w.before [.ref (ad (0)), .int (a1)].toArray s = true := fun w h => atoms_spec (ws := ws_T_isRelease) B.pre w (List.mem_cons_of_mem _ h)
  have hown : s.vm.findClass "RollStagesModel" = some m.cls := findClass_of_methodNamed B.named
  have hlocks := B.notSynchronized
  have hS : va_S A s.heap s.heap [] := va_S.rf
  have hw : mwG G A ad (encT G.2 ad s0) s.heap := hw
  have hl := lv_entry ([.ref (ad (0)), .int (a1)]) (n := 2) (Nat.le_of_ble_eq_true rfl)
  rw [lg_entry_eq]
  generalize (lg_sl ([.ref (ad (0)), .int (a1)]) ++ List.replicate (2 - (lg_sl ([.ref (ad (0)), .int (a1)])).length) Slot.unset).toArray = ls at hl ⊢
  have hl : lv_has ls 2 [(0, .ref (ad (0))), (1, .int (a1))] := hl
  refine lv_iload_n hx hb d_T_isRelease_0 rfl (lv_at hl 1 rfl) ?_
  refine lv_if_lt (tgt := 16) hx hb d_T_isRelease_1 (by decide) (fun h1 => ?_) (fun h1 => ?_)
  · skip
    refine lv_iconst (v := 0) hx hb d_T_isRelease_16 (by decide) ?_
    have e9 : f_T_isRelease s0 a1 = 0 := by unfold f_T_isRelease; exact if_pos h1
    exact mw_iret hx hb hr rfl hw hS (congrArg (fun z => some (Value.int z)) e9.symm) ⟨rfl, rfl⟩ hlocks d_T_isRelease_17
  · skip
    refine lv_iload_n hx hb d_T_isRelease_4 rfl (lv_at hl 1 rfl) ?_
    refine lv_aload_n hx hb d_T_isRelease_5 rfl (lv_at hl 0 rfl) ?_
    refine mw_get (v := .int (s0 0 2)) hx hb hts in_T hown hK.1 hw (0) cT_0 rfl 2 (by decide) (hts _ tw_411) rfl d_T_isRelease_6 ?_
    refine lv_icmp_ge (tgt := 16) hx hb d_T_isRelease_9 (by decide) (fun h2 => ?_) (fun h2 => ?_)
    · skip
      refine lv_iconst (v := 0) hx hb d_T_isRelease_16 (by decide) ?_
      have e9 : f_T_isRelease s0 a1 = 0 := by unfold f_T_isRelease; exact (if_neg h1).trans (if_pos h2)
      exact mw_iret hx hb hr rfl hw hS (congrArg (fun z => some (Value.int z)) e9.symm) ⟨rfl, rfl⟩ hlocks d_T_isRelease_17
    · skip
      refine lv_iconst (v := 1) hx hb d_T_isRelease_12 (by decide) ?_
      refine lv_goto (tgt := 17) hx hb d_T_isRelease_13 (by decide) ?_
      have e9 : f_T_isRelease s0 a1 = 1 := by unfold f_T_isRelease; exact (if_neg h1).trans (if_neg h2)
      exact mw_iret hx hb hr rfl hw hS (congrArg (fun z => some (Value.int z)) e9.symm) ⟨rfl, rfl⟩ hlocks d_T_isRelease_17

def f_T_isMachine (s0 : S2) (a1 : Int32) : Int32 :=
  if a1 < 0 then
    0
  else
    if (s0 0 3) ≤ a1 then
      0
    else
      1
theorem fb_T_isMachine (s0 : S2) (a1 : Int32) : narrow .boolean (.int (f_T_isMachine s0 a1)) = .int (f_T_isMachine s0 a1) := by
  unfold f_T_isMachine
  repeat' split
  all_goals first | rfl | exact narrow_b0 | exact narrow_b1
set_option maxHeartbeats 4000000 in
set_option maxRecDepth 100000 in
theorem cc_T_isMachine (l : Launch) (G : Gx) (A : Nat → Prop) (ad : Nat → Nat) (s0 : S2) (a1 : Int32) : Met l y_T_isMachine ws_T_isMachine { frames := 0, cells := 0, slots := 0, locals := 0 } (PG G [.ref (ad (0)), .int (a1)] A ad (encT G.2 ad s0)) (EG G A (some (.int (f_T_isMachine s0 a1))) ad (encT G.2 ad s0)) 0 0 A := by
  refine Met.ofW (cc := c_T_isMachine) (maxL := 2) (ret := (some .boolean)) (by decide) rfl ?_
  intro p e s m args below meth c s₁ B hml hv
  obtain ⟨rfl, hw, hK⟩ := hv
  have hx := B.exec
  have hb := B.bytes
  have hr := B.returns
  have hts : ∀ w ∈ tbG, w.before [.ref (ad (0)), .int (a1)].toArray s = true := fun w h => atoms_spec (ws := ws_T_isMachine) B.pre w (List.mem_cons_of_mem _ h)
  have hown : s.vm.findClass "RollStagesModel" = some m.cls := findClass_of_methodNamed B.named
  have hlocks := B.notSynchronized
  have hS : va_S A s.heap s.heap [] := va_S.rf
  have hw : mwG G A ad (encT G.2 ad s0) s.heap := hw
  have hl := lv_entry ([.ref (ad (0)), .int (a1)]) (n := 2) (Nat.le_of_ble_eq_true rfl)
  rw [lg_entry_eq]
  generalize (lg_sl ([.ref (ad (0)), .int (a1)]) ++ List.replicate (2 - (lg_sl ([.ref (ad (0)), .int (a1)])).length) Slot.unset).toArray = ls at hl ⊢
  have hl : lv_has ls 2 [(0, .ref (ad (0))), (1, .int (a1))] := hl
  refine lv_iload_n hx hb d_T_isMachine_0 rfl (lv_at hl 1 rfl) ?_
  refine lv_if_lt (tgt := 16) hx hb d_T_isMachine_1 (by decide) (fun h1 => ?_) (fun h1 => ?_)
  · skip
    refine lv_iconst (v := 0) hx hb d_T_isMachine_16 (by decide) ?_
    have e9 : f_T_isMachine s0 a1 = 0 := by unfold f_T_isMachine; exact if_pos h1
    exact mw_iret hx hb hr rfl hw hS (congrArg (fun z => some (Value.int z)) e9.symm) ⟨rfl, rfl⟩ hlocks d_T_isMachine_17
  · skip
    refine lv_iload_n hx hb d_T_isMachine_4 rfl (lv_at hl 1 rfl) ?_
    refine lv_aload_n hx hb d_T_isMachine_5 rfl (lv_at hl 0 rfl) ?_
    refine mw_get (v := .int (s0 0 3)) hx hb hts in_T hown hK.1 hw (0) cT_0 rfl 3 (by decide) (hts _ tw_412) rfl d_T_isMachine_6 ?_
    refine lv_icmp_ge (tgt := 16) hx hb d_T_isMachine_9 (by decide) (fun h2 => ?_) (fun h2 => ?_)
    · skip
      refine lv_iconst (v := 0) hx hb d_T_isMachine_16 (by decide) ?_
      have e9 : f_T_isMachine s0 a1 = 0 := by unfold f_T_isMachine; exact (if_neg h1).trans (if_pos h2)
      exact mw_iret hx hb hr rfl hw hS (congrArg (fun z => some (Value.int z)) e9.symm) ⟨rfl, rfl⟩ hlocks d_T_isMachine_17
    · skip
      refine lv_iconst (v := 1) hx hb d_T_isMachine_12 (by decide) ?_
      refine lv_goto (tgt := 17) hx hb d_T_isMachine_13 (by decide) ?_
      have e9 : f_T_isMachine s0 a1 = 1 := by unfold f_T_isMachine; exact (if_neg h1).trans (if_neg h2)
      exact mw_iret hx hb hr rfl hw hS (congrArg (fun z => some (Value.int z)) e9.symm) ⟨rfl, rfl⟩ hlocks d_T_isMachine_17

theorem isW_ne {a b c : Int32} : ¬ f_T_isWithin a b c = 0 ↔ b ≤ a ∧ a ≤ c := within_ne
theorem isW_in {n : Int32} (h : ¬ f_T_isWithin n 0 2 = 0) : vp_in n 3 := within_inC (m := 2) h (by decide)
theorem isRel_ne {s : S2} {a : Int32} : ¬ f_T_isRelease s a = 0 ↔ 0 ≤ a.toInt ∧ a.toInt < (s 0 2).toInt := by
  unfold f_T_isRelease
  simp only [i_lt, i_le, Int32.toInt_zero]
  by_cases h1 : a.toInt < 0
  · simp [h1]; try omega
  · by_cases h2 : (s 0 2).toInt ≤ a.toInt
    · simp [h1, h2]; try omega
    · simp [h1, h2]; try omega
theorem isMac_ne {s : S2} {a : Int32} : ¬ f_T_isMachine s a = 0 ↔ 0 ≤ a.toInt ∧ a.toInt < (s 0 3).toInt := by
  unfold f_T_isMachine
  simp only [i_lt, i_le, Int32.toInt_zero]
  by_cases h1 : a.toInt < 0
  · simp [h1]; try omega
  · by_cases h2 : (s 0 3).toInt ≤ a.toInt
    · simp [h1, h2]; try omega
    · simp [h1, h2]; try omega
theorem isRel_in {s : S2} {a : Int32} (h : Wt s) (hx : ¬ f_T_isRelease s a = 0) : vp_in a 16 := by
  have h2 := h.1
  rw [isRel_ne] at hx
  rw [vp_in_iff]
  omega
theorem isMac_in {s : S2} {a : Int32} (h : Wt s) (hx : ¬ f_T_isMachine s a = 0) : vp_in a 30 := by
  have h2 := h.2.1
  rw [isMac_ne] at hx
  rw [vp_in_iff]
  omega

def f_T_begin (s0 : S2) (a1 : Int32) (a2 : Int32) : S2 :=
  up2 (up2 (up2 (up2 (up2 (up2 s0 (12) (Int32.toNatClampNeg a1) 1) (14) (Int32.toNatClampNeg a1) 0) (13) (Int32.toNatClampNeg a1) a2) (15) (Int32.toNatClampNeg a1) ((up2 (up2 (up2 s0 (12) (Int32.toNatClampNeg a1) 1) (14) (Int32.toNatClampNeg a1) 0) (13) (Int32.toNatClampNeg a1) a2) 0 1)) (16) (Int32.toNatClampNeg a1) 0) (17) (Int32.toNatClampNeg a1) 0
set_option maxHeartbeats 4000000 in
set_option maxRecDepth 100000 in
theorem cc_T_begin (l : Launch) (G : Gx) (A : Nat → Prop) (ad : Nat → Nat) (s0 : S2) (a1 : Int32) (a2 : Int32) (hq : vp_in a1 16) : Met l y_T_begin ws_T_begin { frames := 0, cells := 0, slots := 0, locals := 0 } (PG G [.ref (ad (0)), .int (a1), .int (a2)] A ad (encT G.2 ad s0)) (EG G A none ad (encT G.2 ad (f_T_begin s0 a1 a2))) 0 0 A := by
  refine Met.ofW (cc := c_T_begin) (maxL := 3) (ret := none) (by decide) rfl ?_
  intro p e s m args below meth c s₁ B hml hv
  obtain ⟨rfl, hw, hK⟩ := hv
  have hx := B.exec
  have hb := B.bytes
  have hr := B.returns
  have hts : ∀ w ∈ tbG, w.before [.ref (ad (0)), .int (a1), .int (a2)].toArray s = true := fun w h => atoms_spec (ws := ws_T_begin) B.pre w (List.mem_cons_of_mem _ h)
  have hown : s.vm.findClass "RollStagesModel" = some m.cls := findClass_of_methodNamed B.named
  have hlocks := B.notSynchronized
  have hS : va_S A s.heap s.heap [] := va_S.rf
  have hw : mwG G A ad (encT G.2 ad s0) s.heap := hw
  have hl := lv_entry ([.ref (ad (0)), .int (a1), .int (a2)]) (n := 3) (Nat.le_of_ble_eq_true rfl)
  rw [lg_entry_eq]
  generalize (lg_sl ([.ref (ad (0)), .int (a1), .int (a2)]) ++ List.replicate (3 - (lg_sl ([.ref (ad (0)), .int (a1), .int (a2)])).length) Slot.unset).toArray = ls at hl ⊢
  have hl : lv_has ls 3 [(0, .ref (ad (0))), (1, .int (a1)), (2, .int (a2))] := hl
  refine lv_aload_n hx hb d_T_begin_0 rfl (lv_at hl 0 rfl) ?_
  refine mw_get (v := .ref (ad (12))) hx hb hts in_T hown hK.1 hw (0) cT_0 rfl 12 (by decide) (hts _ tw_421) rfl d_T_begin_1 ?_
  refine lv_iload_n hx hb d_T_begin_4 rfl (lv_at hl 1 rfl) ?_
  refine lv_iconst (v := 1) hx hb d_T_begin_5 (by decide) ?_
  refine mw_iast hx hb hK.1 hw hS (12) 0 cT_12 rfl hq d_T_begin_6 (fun H locs hw hS => ?_)
  replace hw := mw_encT (r := upd (s0 (12)) (Int32.toNatClampNeg a1) 1) hw cT_12
  have hw : mwG G A ad (encT G.2 ad (up2 s0 (12) (Int32.toNatClampNeg a1) 1)) H := hw
  refine lv_aload_n hx hb d_T_begin_7 rfl (lv_at hl 0 rfl) ?_
  refine mw_get (v := .ref (ad (14))) hx hb hts in_T hown hK.1 hw (0) cT_0 rfl 14 (by decide) (hts _ tw_423) rfl d_T_begin_8 ?_
  refine lv_iload_n hx hb d_T_begin_11 rfl (lv_at hl 1 rfl) ?_
  refine lv_iconst (v := 0) hx hb d_T_begin_12 (by decide) ?_
  refine mw_iast hx hb hK.1 hw hS (14) 0 cT_14 rfl hq d_T_begin_13 (fun H locs hw hS => ?_)
  replace hw := mw_encT (r := upd ((up2 s0 (12) (Int32.toNatClampNeg a1) 1) (14)) (Int32.toNatClampNeg a1) 0) hw cT_14
  have hw : mwG G A ad (encT G.2 ad (up2 (up2 s0 (12) (Int32.toNatClampNeg a1) 1) (14) (Int32.toNatClampNeg a1) 0)) H := hw
  refine lv_aload_n hx hb d_T_begin_14 rfl (lv_at hl 0 rfl) ?_
  refine mw_get (v := .ref (ad (13))) hx hb hts in_T hown hK.1 hw (0) cT_0 rfl 13 (by decide) (hts _ tw_422) rfl d_T_begin_15 ?_
  refine lv_iload_n hx hb d_T_begin_18 rfl (lv_at hl 1 rfl) ?_
  refine lv_iload_n hx hb d_T_begin_19 rfl (lv_at hl 2 rfl) ?_
  refine mw_iast hx hb hK.1 hw hS (13) 0 cT_13 rfl hq d_T_begin_20 (fun H locs hw hS => ?_)
  replace hw := mw_encT (r := upd ((up2 (up2 s0 (12) (Int32.toNatClampNeg a1) 1) (14) (Int32.toNatClampNeg a1) 0) (13)) (Int32.toNatClampNeg a1) a2) hw cT_13
  have hw : mwG G A ad (encT G.2 ad (up2 (up2 (up2 s0 (12) (Int32.toNatClampNeg a1) 1) (14) (Int32.toNatClampNeg a1) 0) (13) (Int32.toNatClampNeg a1) a2)) H := hw
  refine lv_aload_n hx hb d_T_begin_21 rfl (lv_at hl 0 rfl) ?_
  refine mw_get (v := .ref (ad (15))) hx hb hts in_T hown hK.1 hw (0) cT_0 rfl 15 (by decide) (hts _ tw_424) rfl d_T_begin_22 ?_
  refine lv_iload_n hx hb d_T_begin_25 rfl (lv_at hl 1 rfl) ?_
  refine lv_aload_n hx hb d_T_begin_26 rfl (lv_at hl 0 rfl) ?_
  refine mw_get (v := .int ((up2 (up2 (up2 s0 (12) (Int32.toNatClampNeg a1) 1) (14) (Int32.toNatClampNeg a1) 0) (13) (Int32.toNatClampNeg a1) a2) 0 1)) hx hb hts in_T hown hK.1 hw (0) cT_0 rfl 1 (by decide) (hts _ tw_410) rfl d_T_begin_27 ?_
  refine mw_iast hx hb hK.1 hw hS (15) 0 cT_15 rfl hq d_T_begin_30 (fun H locs hw hS => ?_)
  replace hw := mw_encT (r := upd ((up2 (up2 (up2 s0 (12) (Int32.toNatClampNeg a1) 1) (14) (Int32.toNatClampNeg a1) 0) (13) (Int32.toNatClampNeg a1) a2) (15)) (Int32.toNatClampNeg a1) ((up2 (up2 (up2 s0 (12) (Int32.toNatClampNeg a1) 1) (14) (Int32.toNatClampNeg a1) 0) (13) (Int32.toNatClampNeg a1) a2) 0 1)) hw cT_15
  have hw : mwG G A ad (encT G.2 ad (up2 (up2 (up2 (up2 s0 (12) (Int32.toNatClampNeg a1) 1) (14) (Int32.toNatClampNeg a1) 0) (13) (Int32.toNatClampNeg a1) a2) (15) (Int32.toNatClampNeg a1) ((up2 (up2 (up2 s0 (12) (Int32.toNatClampNeg a1) 1) (14) (Int32.toNatClampNeg a1) 0) (13) (Int32.toNatClampNeg a1) a2) 0 1))) H := hw
  refine lv_aload_n hx hb d_T_begin_31 rfl (lv_at hl 0 rfl) ?_
  refine mw_get (v := .ref (ad (16))) hx hb hts in_T hown hK.1 hw (0) cT_0 rfl 16 (by decide) (hts _ tw_425) rfl d_T_begin_32 ?_
  refine lv_iload_n hx hb d_T_begin_35 rfl (lv_at hl 1 rfl) ?_
  refine lv_iconst (v := 0) hx hb d_T_begin_36 (by decide) ?_
  refine mw_iast hx hb hK.1 hw hS (16) 0 cT_16 rfl hq d_T_begin_37 (fun H locs hw hS => ?_)
  replace hw := mw_encT (r := upd ((up2 (up2 (up2 (up2 s0 (12) (Int32.toNatClampNeg a1) 1) (14) (Int32.toNatClampNeg a1) 0) (13) (Int32.toNatClampNeg a1) a2) (15) (Int32.toNatClampNeg a1) ((up2 (up2 (up2 s0 (12) (Int32.toNatClampNeg a1) 1) (14) (Int32.toNatClampNeg a1) 0) (13) (Int32.toNatClampNeg a1) a2) 0 1)) (16)) (Int32.toNatClampNeg a1) 0) hw cT_16
  have hw : mwG G A ad (encT G.2 ad (up2 (up2 (up2 (up2 (up2 s0 (12) (Int32.toNatClampNeg a1) 1) (14) (Int32.toNatClampNeg a1) 0) (13) (Int32.toNatClampNeg a1) a2) (15) (Int32.toNatClampNeg a1) ((up2 (up2 (up2 s0 (12) (Int32.toNatClampNeg a1) 1) (14) (Int32.toNatClampNeg a1) 0) (13) (Int32.toNatClampNeg a1) a2) 0 1)) (16) (Int32.toNatClampNeg a1) 0)) H := hw
  refine lv_aload_n hx hb d_T_begin_38 rfl (lv_at hl 0 rfl) ?_
  refine mw_get (v := .ref (ad (17))) hx hb hts in_T hown hK.1 hw (0) cT_0 rfl 17 (by decide) (hts _ tw_426) rfl d_T_begin_39 ?_
  refine lv_iload_n hx hb d_T_begin_42 rfl (lv_at hl 1 rfl) ?_
  refine lv_iconst (v := 0) hx hb d_T_begin_43 (by decide) ?_
  refine mw_iast hx hb hK.1 hw hS (17) 0 cT_17 rfl hq d_T_begin_44 (fun H locs hw hS => ?_)
  replace hw := mw_encT (r := upd ((up2 (up2 (up2 (up2 (up2 s0 (12) (Int32.toNatClampNeg a1) 1) (14) (Int32.toNatClampNeg a1) 0) (13) (Int32.toNatClampNeg a1) a2) (15) (Int32.toNatClampNeg a1) ((up2 (up2 (up2 s0 (12) (Int32.toNatClampNeg a1) 1) (14) (Int32.toNatClampNeg a1) 0) (13) (Int32.toNatClampNeg a1) a2) 0 1)) (16) (Int32.toNatClampNeg a1) 0) (17)) (Int32.toNatClampNeg a1) 0) hw cT_17
  have hw : mwG G A ad (encT G.2 ad (up2 (up2 (up2 (up2 (up2 (up2 s0 (12) (Int32.toNatClampNeg a1) 1) (14) (Int32.toNatClampNeg a1) 0) (13) (Int32.toNatClampNeg a1) a2) (15) (Int32.toNatClampNeg a1) ((up2 (up2 (up2 s0 (12) (Int32.toNatClampNeg a1) 1) (14) (Int32.toNatClampNeg a1) 0) (13) (Int32.toNatClampNeg a1) a2) 0 1)) (16) (Int32.toNatClampNeg a1) 0) (17) (Int32.toNatClampNeg a1) 0)) H := hw
  have e9 : f_T_begin s0 a1 a2 = up2 (up2 (up2 (up2 (up2 (up2 s0 (12) (Int32.toNatClampNeg a1) 1) (14) (Int32.toNatClampNeg a1) 0) (13) (Int32.toNatClampNeg a1) a2) (15) (Int32.toNatClampNeg a1) ((up2 (up2 (up2 s0 (12) (Int32.toNatClampNeg a1) 1) (14) (Int32.toNatClampNeg a1) 0) (13) (Int32.toNatClampNeg a1) a2) 0 1)) (16) (Int32.toNatClampNeg a1) 0) (17) (Int32.toNatClampNeg a1) 0 := by unfold f_T_begin; exact rfl
  exact mw_vret hx hb hr hw hS ⟨rfl, congrArg (fun z => encT G.2 ad z) e9.symm⟩ hlocks d_T_begin_45

def f_T_halt (s0 : S2) (a1 : Int32) (a2 : Int32) : S2 :=
  up2 (up2 s0 (12) (Int32.toNatClampNeg a1) 2) (14) (Int32.toNatClampNeg a1) a2
set_option maxHeartbeats 4000000 in
set_option maxRecDepth 100000 in
theorem cc_T_halt (l : Launch) (G : Gx) (A : Nat → Prop) (ad : Nat → Nat) (s0 : S2) (a1 : Int32) (a2 : Int32) (hq : vp_in a1 16) : Met l y_T_halt ws_T_halt { frames := 0, cells := 0, slots := 0, locals := 0 } (PG G [.ref (ad (0)), .int (a1), .int (a2)] A ad (encT G.2 ad s0)) (EG G A none ad (encT G.2 ad (f_T_halt s0 a1 a2))) 0 0 A := by
  refine Met.ofW (cc := c_T_halt) (maxL := 3) (ret := none) (by decide) rfl ?_
  intro p e s m args below meth c s₁ B hml hv
  obtain ⟨rfl, hw, hK⟩ := hv
  have hx := B.exec
  have hb := B.bytes
  have hr := B.returns
  have hts : ∀ w ∈ tbG, w.before [.ref (ad (0)), .int (a1), .int (a2)].toArray s = true := fun w h => atoms_spec (ws := ws_T_halt) B.pre w (List.mem_cons_of_mem _ h)
  have hown : s.vm.findClass "RollStagesModel" = some m.cls := findClass_of_methodNamed B.named
  have hlocks := B.notSynchronized
  have hS : va_S A s.heap s.heap [] := va_S.rf
  have hw : mwG G A ad (encT G.2 ad s0) s.heap := hw
  have hl := lv_entry ([.ref (ad (0)), .int (a1), .int (a2)]) (n := 3) (Nat.le_of_ble_eq_true rfl)
  rw [lg_entry_eq]
  generalize (lg_sl ([.ref (ad (0)), .int (a1), .int (a2)]) ++ List.replicate (3 - (lg_sl ([.ref (ad (0)), .int (a1), .int (a2)])).length) Slot.unset).toArray = ls at hl ⊢
  have hl : lv_has ls 3 [(0, .ref (ad (0))), (1, .int (a1)), (2, .int (a2))] := hl
  refine lv_aload_n hx hb d_T_halt_0 rfl (lv_at hl 0 rfl) ?_
  refine mw_get (v := .ref (ad (12))) hx hb hts in_T hown hK.1 hw (0) cT_0 rfl 12 (by decide) (hts _ tw_421) rfl d_T_halt_1 ?_
  refine lv_iload_n hx hb d_T_halt_4 rfl (lv_at hl 1 rfl) ?_
  refine lv_iconst (v := 2) hx hb d_T_halt_5 (by decide) ?_
  refine mw_iast hx hb hK.1 hw hS (12) 0 cT_12 rfl hq d_T_halt_6 (fun H locs hw hS => ?_)
  replace hw := mw_encT (r := upd (s0 (12)) (Int32.toNatClampNeg a1) 2) hw cT_12
  have hw : mwG G A ad (encT G.2 ad (up2 s0 (12) (Int32.toNatClampNeg a1) 2)) H := hw
  refine lv_aload_n hx hb d_T_halt_7 rfl (lv_at hl 0 rfl) ?_
  refine mw_get (v := .ref (ad (14))) hx hb hts in_T hown hK.1 hw (0) cT_0 rfl 14 (by decide) (hts _ tw_423) rfl d_T_halt_8 ?_
  refine lv_iload_n hx hb d_T_halt_11 rfl (lv_at hl 1 rfl) ?_
  refine lv_iload_n hx hb d_T_halt_12 rfl (lv_at hl 2 rfl) ?_
  refine mw_iast hx hb hK.1 hw hS (14) 0 cT_14 rfl hq d_T_halt_13 (fun H locs hw hS => ?_)
  replace hw := mw_encT (r := upd ((up2 s0 (12) (Int32.toNatClampNeg a1) 2) (14)) (Int32.toNatClampNeg a1) a2) hw cT_14
  have hw : mwG G A ad (encT G.2 ad (up2 (up2 s0 (12) (Int32.toNatClampNeg a1) 2) (14) (Int32.toNatClampNeg a1) a2)) H := hw
  have e9 : f_T_halt s0 a1 a2 = up2 (up2 s0 (12) (Int32.toNatClampNeg a1) 2) (14) (Int32.toNatClampNeg a1) a2 := by unfold f_T_halt; exact rfl
  exact mw_vret hx hb hr hw hS ⟨rfl, congrArg (fun z => encT G.2 ad z) e9.symm⟩ hlocks d_T_halt_14

def f_T_pass (s0 : S2) (a1 : Int32) : S2 :=
  if (s0 (12) (Int32.toNatClampNeg a1)) = 1 then
    if (s0 (9) (Int32.toNatClampNeg ((5 * a1) + (s0 (13) (Int32.toNatClampNeg a1))))) ≤ ((s0 0 1) - (s0 (15) (Int32.toNatClampNeg a1))) then
      if (s0 (16) (Int32.toNatClampNeg a1)) = 0 then
        f_T_halt s0 a1 1
      else
        if (lg_cmp ((Int32.toInt64 (s0 (17) (Int32.toNatClampNeg a1))) * (Int32.toInt64 (s0 (11) (Int32.toNatClampNeg a1)))) ((Int32.toInt64 (s0 (10) (Int32.toNatClampNeg a1))) * (Int32.toInt64 (s0 (16) (Int32.toNatClampNeg a1))))) ≤ 0 then
          if (s0 (7) (Int32.toNatClampNeg a1)) ≤ ((s0 (13) (Int32.toNatClampNeg a1)) + 1) then
            up2 s0 (12) (Int32.toNatClampNeg a1) 3
          else
            f_T_begin s0 a1 ((s0 (13) (Int32.toNatClampNeg a1)) + 1)
        else
          f_T_halt s0 a1 2
    else
      s0
  else
    s0
set_option maxHeartbeats 4000000 in
set_option maxRecDepth 100000 in
theorem cc_T_pass (l : Launch) (G : Gx) (A : Nat → Prop) (ad : Nat → Nat) (s0 : S2) (a1 : Int32) (hW : Wt s0) (hq : vp_in a1 16) : Met l y_T_pass ws_T_pass { frames := 1, cells := 0, slots := 0, locals := 22 } (PG G [.ref (ad (0)), .int (a1)] A ad (encT G.2 ad s0)) (EG G A none ad (encT G.2 ad (f_T_pass s0 a1))) 0 0 A := by
  refine Met.ofW (cc := c_T_pass) (maxL := 2) (ret := none) (by decide) rfl ?_
  intro p e s m args below meth c s₁ B hml hv
  obtain ⟨rfl, hw, hK⟩ := hv
  have hx := B.exec
  have hb := B.bytes
  have hr := B.returns
  have hts : ∀ w ∈ tbG, w.before [.ref (ad (0)), .int (a1)].toArray s = true := fun w h => atoms_spec (ws := ws_T_pass) B.pre w (List.mem_cons_of_mem _ h)
  have hown : s.vm.findClass "RollStagesModel" = some m.cls := findClass_of_methodNamed B.named
  have hlocks := B.notSynchronized
  have hS : va_S A s.heap s.heap [] := va_S.rf
  have hw : mwG G A ad (encT G.2 ad s0) s.heap := hw
  have hl := lv_entry ([.ref (ad (0)), .int (a1)]) (n := 2) (Nat.le_of_ble_eq_true rfl)
  rw [lg_entry_eq]
  generalize (lg_sl ([.ref (ad (0)), .int (a1)]) ++ List.replicate (2 - (lg_sl ([.ref (ad (0)), .int (a1)])).length) Slot.unset).toArray = ls at hl ⊢
  have hl : lv_has ls 2 [(0, .ref (ad (0))), (1, .int (a1))] := hl
  refine lv_aload_n hx hb d_T_pass_0 rfl (lv_at hl 0 rfl) ?_
  refine mw_get (v := .ref (ad (12))) hx hb hts in_T hown hK.1 hw (0) cT_0 rfl 12 (by decide) (hts _ tw_421) rfl d_T_pass_1 ?_
  refine lv_iload_n hx hb d_T_pass_4 rfl (lv_at hl 1 rfl) ?_
  refine mw_iald hx hb hK.1 hw (12) 0 cT_12 rfl hq d_T_pass_5 ?_
  refine lv_iconst (v := 1) hx hb d_T_pass_6 (by decide) ?_
  refine lv_icmp_ne (tgt := 39) hx hb d_T_pass_7 (by decide) (fun h1 => ?_) (fun h1 => ?_)
  · skip
    have e9 : f_T_pass s0 a1 = s0 := by unfold f_T_pass; exact if_neg h1
    exact mw_vret hx hb hr hw hS ⟨rfl, congrArg (fun z => encT G.2 ad z) e9.symm⟩ hlocks d_T_pass_39
  · skip
    refine lv_aload_n hx hb d_T_pass_10 rfl (lv_at hl 0 rfl) ?_
    refine mw_get (v := .int (s0 0 1)) hx hb hts in_T hown hK.1 hw (0) cT_0 rfl 1 (by decide) (hts _ tw_410) rfl d_T_pass_11 ?_
    refine lv_aload_n hx hb d_T_pass_14 rfl (lv_at hl 0 rfl) ?_
    refine mw_get (v := .ref (ad (15))) hx hb hts in_T hown hK.1 hw (0) cT_0 rfl 15 (by decide) (hts _ tw_424) rfl d_T_pass_15 ?_
    refine lv_iload_n hx hb d_T_pass_18 rfl (lv_at hl 1 rfl) ?_
    refine mw_iald hx hb hK.1 hw (15) 0 cT_15 rfl hq d_T_pass_19 ?_
    refine lv_isub hx hb d_T_pass_20 ?_
    refine lv_aload_n hx hb d_T_pass_21 rfl (lv_at hl 0 rfl) ?_
    refine mw_get (v := .ref (ad (9))) hx hb hts in_T hown hK.1 hw (0) cT_0 rfl 9 (by decide) (hts _ tw_418) rfl d_T_pass_22 ?_
    refine lv_iconst (v := 5) hx hb d_T_pass_25 (by decide) ?_
    refine lv_iload_n hx hb d_T_pass_26 rfl (lv_at hl 1 rfl) ?_
    refine lv_imul hx hb d_T_pass_27 ?_
    refine lv_aload_n hx hb d_T_pass_28 rfl (lv_at hl 0 rfl) ?_
    refine mw_get (v := .ref (ad (13))) hx hb hts in_T hown hK.1 hw (0) cT_0 rfl 13 (by decide) (hts _ tw_422) rfl d_T_pass_29 ?_
    refine lv_iload_n hx hb d_T_pass_32 rfl (lv_at hl 1 rfl) ?_
    refine mw_iald hx hb hK.1 hw (13) 0 cT_13 rfl hq d_T_pass_33 ?_
    refine lv_iadd hx hb d_T_pass_34 ?_
    refine mw_iald hx hb hK.1 hw (9) 0 cT_9 rfl (ix_w hW hq) d_T_pass_35 ?_
    refine lv_icmp_ge (tgt := 40) hx hb d_T_pass_36 (by decide) (fun h2 => ?_) (fun h2 => ?_)
    · skip
      refine lv_aload_n hx hb d_T_pass_40 rfl (lv_at hl 0 rfl) ?_
      refine mw_get (v := .ref (ad (16))) hx hb hts in_T hown hK.1 hw (0) cT_0 rfl 16 (by decide) (hts _ tw_425) rfl d_T_pass_41 ?_
      refine lv_iload_n hx hb d_T_pass_44 rfl (lv_at hl 1 rfl) ?_
      refine mw_iald hx hb hK.1 hw (16) 0 cT_16 rfl hq d_T_pass_45 ?_
      refine lv_if_ne (tgt := 58) hx hb d_T_pass_46 (by decide) (fun h3 => ?_) (fun h3 => ?_)
      · skip
        refine lv_aload_n hx hb d_T_pass_58 rfl (lv_at hl 0 rfl) ?_
        refine mw_get (v := .ref (ad (17))) hx hb hts in_T hown hK.1 hw (0) cT_0 rfl 17 (by decide) (hts _ tw_426) rfl d_T_pass_59 ?_
        refine lv_iload_n hx hb d_T_pass_62 rfl (lv_at hl 1 rfl) ?_
        refine mw_iald hx hb hK.1 hw (17) 0 cT_17 rfl hq d_T_pass_63 ?_
        refine lv_i2l (v := Int32.toInt64 (s0 (17) (Int32.toNatClampNeg a1))) hx hb d_T_pass_64 rfl ?_
        refine lv_aload_n hx hb d_T_pass_65 rfl (lv_at hl 0 rfl) ?_
        refine mw_get (v := .ref (ad (11))) hx hb hts in_T hown hK.1 hw (0) cT_0 rfl 11 (by decide) (hts _ tw_420) rfl d_T_pass_66 ?_
        refine lv_iload_n hx hb d_T_pass_69 rfl (lv_at hl 1 rfl) ?_
        refine mw_iald hx hb hK.1 hw (11) 0 cT_11 rfl hq d_T_pass_70 ?_
        refine lv_i2l (v := Int32.toInt64 (s0 (11) (Int32.toNatClampNeg a1))) hx hb d_T_pass_71 rfl ?_
        refine lv_lmul hx hb d_T_pass_72 ?_
        refine lv_aload_n hx hb d_T_pass_73 rfl (lv_at hl 0 rfl) ?_
        refine mw_get (v := .ref (ad (10))) hx hb hts in_T hown hK.1 hw (0) cT_0 rfl 10 (by decide) (hts _ tw_419) rfl d_T_pass_74 ?_
        refine lv_iload_n hx hb d_T_pass_77 rfl (lv_at hl 1 rfl) ?_
        refine mw_iald hx hb hK.1 hw (10) 0 cT_10 rfl hq d_T_pass_78 ?_
        refine lv_i2l (v := Int32.toInt64 (s0 (10) (Int32.toNatClampNeg a1))) hx hb d_T_pass_79 rfl ?_
        refine lv_aload_n hx hb d_T_pass_80 rfl (lv_at hl 0 rfl) ?_
        refine mw_get (v := .ref (ad (16))) hx hb hts in_T hown hK.1 hw (0) cT_0 rfl 16 (by decide) (hts _ tw_425) rfl d_T_pass_81 ?_
        refine lv_iload_n hx hb d_T_pass_84 rfl (lv_at hl 1 rfl) ?_
        refine mw_iald hx hb hK.1 hw (16) 0 cT_16 rfl hq d_T_pass_85 ?_
        refine lv_i2l (v := Int32.toInt64 (s0 (16) (Int32.toNatClampNeg a1))) hx hb d_T_pass_86 rfl ?_
        refine lv_lmul hx hb d_T_pass_87 ?_
        refine W.lcmp hx hb d_T_pass_88 ?_
        refine lv_if_le (tgt := 101) hx hb d_T_pass_89 (by decide) (fun h4 => ?_) (fun h4 => ?_)
        · skip
          refine lv_aload_n hx hb d_T_pass_101 rfl (lv_at hl 0 rfl) ?_
          refine mw_get (v := .ref (ad (13))) hx hb hts in_T hown hK.1 hw (0) cT_0 rfl 13 (by decide) (hts _ tw_422) rfl d_T_pass_102 ?_
          refine lv_iload_n hx hb d_T_pass_105 rfl (lv_at hl 1 rfl) ?_
          refine mw_iald hx hb hK.1 hw (13) 0 cT_13 rfl hq d_T_pass_106 ?_
          refine lv_iconst (v := 1) hx hb d_T_pass_107 (by decide) ?_
          refine lv_iadd hx hb d_T_pass_108 ?_
          refine lv_aload_n hx hb d_T_pass_109 rfl (lv_at hl 0 rfl) ?_
          refine mw_get (v := .ref (ad (7))) hx hb hts in_T hown hK.1 hw (0) cT_0 rfl 7 (by decide) (hts _ tw_416) rfl d_T_pass_110 ?_
          refine lv_iload_n hx hb d_T_pass_113 rfl (lv_at hl 1 rfl) ?_
          refine mw_iald hx hb hK.1 hw (7) 0 cT_7 rfl hq d_T_pass_114 ?_
          refine lv_icmp_ge (tgt := 134) hx hb d_T_pass_115 (by decide) (fun h5 => ?_) (fun h5 => ?_)
          · skip
            refine lv_aload_n hx hb d_T_pass_134 rfl (lv_at hl 0 rfl) ?_
            refine mw_get (v := .ref (ad (12))) hx hb hts in_T hown hK.1 hw (0) cT_0 rfl 12 (by decide) (hts _ tw_421) rfl d_T_pass_135 ?_
            refine lv_iload_n hx hb d_T_pass_138 rfl (lv_at hl 1 rfl) ?_
            refine lv_iconst (v := 3) hx hb d_T_pass_139 (by decide) ?_
            refine mw_iast hx hb hK.1 hw hS (12) 0 cT_12 rfl hq d_T_pass_140 (fun H locs hw hS => ?_)
            replace hw := mw_encT (r := upd (s0 (12)) (Int32.toNatClampNeg a1) 3) hw cT_12
            have hw : mwG G A ad (encT G.2 ad (up2 s0 (12) (Int32.toNatClampNeg a1) 3)) H := hw
            have e9 : f_T_pass s0 a1 = up2 s0 (12) (Int32.toNatClampNeg a1) 3 := by unfold f_T_pass; exact (if_pos h1).trans ((if_pos h2).trans ((if_neg h3).trans ((if_pos h4).trans (if_pos h5))))
            exact mw_vret hx hb hr hw hS ⟨rfl, congrArg (fun z => encT G.2 ad z) e9.symm⟩ hlocks d_T_pass_141
          · skip
            refine lv_aload_n hx hb d_T_pass_118 rfl (lv_at hl 0 rfl) ?_
            refine lv_iload_n hx hb d_T_pass_119 rfl (lv_at hl 1 rfl) ?_
            refine lv_aload_n hx hb d_T_pass_120 rfl (lv_at hl 0 rfl) ?_
            refine mw_get (v := .ref (ad (13))) hx hb hts in_T hown hK.1 hw (0) cT_0 rfl 13 (by decide) (hts _ tw_422) rfl d_T_pass_121 ?_
            refine lv_iload_n hx hb d_T_pass_124 rfl (lv_at hl 1 rfl) ?_
            refine mw_iald hx hb hK.1 hw (13) 0 cT_13 rfl hq d_T_pass_125 ?_
            refine lv_iconst (v := 1) hx hb d_T_pass_126 (by decide) ?_
            refine lv_iadd hx hb d_T_pass_127 ?_
            refine gV (As := [.int (a1), .int ((s0 (13) (Int32.toNatClampNeg a1)) + 1)]) (rest := []) (st1 := []) ⟨hx, hb, hml, hown, hts⟩ (cc_T_begin l G A ad  s0 a1 ((s0 (13) (Int32.toNatClampNeg a1)) + 1) hq) cT_0 rfl tw_531 tw_528 tw_530 tw_p34 tw_4 hd_T_begin rfl rfl ⟨Nat.le_of_ble_eq_true rfl, Nat.le_of_ble_eq_true rfl⟩ hK hw hS hl.1 rfl (Nat.le_of_ble_eq_true rfl) ⟨Nat.zero_le _, Nat.zero_le _⟩ d_T_pass_128 rfl (fun H locs hw hS => ?_)
            refine lv_goto (tgt := 141) hx hb d_T_pass_131 (by decide) ?_
            have e9 : f_T_pass s0 a1 = f_T_begin s0 a1 ((s0 (13) (Int32.toNatClampNeg a1)) + 1) := by unfold f_T_pass; exact (if_pos h1).trans ((if_pos h2).trans ((if_neg h3).trans ((if_pos h4).trans (if_neg h5))))
            exact mw_vret hx hb hr hw hS ⟨rfl, congrArg (fun z => encT G.2 ad z) e9.symm⟩ hlocks d_T_pass_141
        · skip
          refine lv_aload_n hx hb d_T_pass_92 rfl (lv_at hl 0 rfl) ?_
          refine lv_iload_n hx hb d_T_pass_93 rfl (lv_at hl 1 rfl) ?_
          refine lv_iconst (v := 2) hx hb d_T_pass_94 (by decide) ?_
          refine gV (As := [.int (a1), .int (2)]) (rest := []) (st1 := []) ⟨hx, hb, hml, hown, hts⟩ (cc_T_halt l G A ad  s0 a1 2 hq) cT_0 rfl tw_543 tw_540 tw_542 tw_p35 tw_4 hd_T_halt rfl rfl ⟨Nat.le_of_ble_eq_true rfl, Nat.le_of_ble_eq_true rfl⟩ hK hw hS hl.1 rfl (Nat.le_of_ble_eq_true rfl) ⟨Nat.zero_le _, Nat.zero_le _⟩ d_T_pass_95 rfl (fun H locs hw hS => ?_)
          refine lv_goto (tgt := 141) hx hb d_T_pass_98 (by decide) ?_
          have e9 : f_T_pass s0 a1 = f_T_halt s0 a1 2 := by unfold f_T_pass; exact (if_pos h1).trans ((if_pos h2).trans ((if_neg h3).trans (if_neg h4)))
          exact mw_vret hx hb hr hw hS ⟨rfl, congrArg (fun z => encT G.2 ad z) e9.symm⟩ hlocks d_T_pass_141
      · skip
        refine lv_aload_n hx hb d_T_pass_49 rfl (lv_at hl 0 rfl) ?_
        refine lv_iload_n hx hb d_T_pass_50 rfl (lv_at hl 1 rfl) ?_
        refine lv_iconst (v := 1) hx hb d_T_pass_51 (by decide) ?_
        refine gV (As := [.int (a1), .int (1)]) (rest := []) (st1 := []) ⟨hx, hb, hml, hown, hts⟩ (cc_T_halt l G A ad  s0 a1 1 hq) cT_0 rfl tw_543 tw_540 tw_542 tw_p35 tw_4 hd_T_halt rfl rfl ⟨Nat.le_of_ble_eq_true rfl, Nat.le_of_ble_eq_true rfl⟩ hK hw hS hl.1 rfl (Nat.le_of_ble_eq_true rfl) ⟨Nat.zero_le _, Nat.zero_le _⟩ d_T_pass_52 rfl (fun H locs hw hS => ?_)
        refine lv_goto (tgt := 141) hx hb d_T_pass_55 (by decide) ?_
        have e9 : f_T_pass s0 a1 = f_T_halt s0 a1 1 := by unfold f_T_pass; exact (if_pos h1).trans ((if_pos h2).trans (if_pos h3))
        exact mw_vret hx hb hr hw hS ⟨rfl, congrArg (fun z => encT G.2 ad z) e9.symm⟩ hlocks d_T_pass_141
    · skip
      have e9 : f_T_pass s0 a1 = s0 := by unfold f_T_pass; exact (if_pos h1).trans (if_neg h2)
      exact mw_vret hx hb hr hw hS ⟨rfl, congrArg (fun z => encT G.2 ad z) e9.symm⟩ hlocks d_T_pass_39

def f_T_shareOf (s0 : S2) (a1 : Int32) : Int32 :=
  if (s0 (12) (Int32.toNatClampNeg a1)) = 0 then
    0
  else
    if (s0 (12) (Int32.toNatClampNeg a1)) = 4 then
      0
    else
      if (s0 (12) (Int32.toNatClampNeg a1)) = 3 then
        1000
      else
        s0 (8) (Int32.toNatClampNeg ((5 * a1) + (s0 (13) (Int32.toNatClampNeg a1))))
set_option maxHeartbeats 4000000 in
set_option maxRecDepth 100000 in
theorem cc_T_shareOf (l : Launch) (G : Gx) (A : Nat → Prop) (ad : Nat → Nat) (s0 : S2) (a1 : Int32) (hW : Wt s0) (hq : vp_in a1 16) : Met l y_T_shareOf ws_T_shareOf { frames := 0, cells := 0, slots := 0, locals := 0 } (PG G [.ref (ad (0)), .int (a1)] A ad (encT G.2 ad s0)) (EG G A (some (.int (f_T_shareOf s0 a1))) ad (encT G.2 ad s0)) 0 0 A := by
  refine Met.ofW (cc := c_T_shareOf) (maxL := 2) (ret := (some .int)) (by decide) rfl ?_
  intro p e s m args below meth c s₁ B hml hv
  obtain ⟨rfl, hw, hK⟩ := hv
  have hx := B.exec
  have hb := B.bytes
  have hr := B.returns
  have hts : ∀ w ∈ tbG, w.before [.ref (ad (0)), .int (a1)].toArray s = true := fun w h => atoms_spec (ws := ws_T_shareOf) B.pre w (List.mem_cons_of_mem _ h)
  have hown : s.vm.findClass "RollStagesModel" = some m.cls := findClass_of_methodNamed B.named
  have hlocks := B.notSynchronized
  have hS : va_S A s.heap s.heap [] := va_S.rf
  have hw : mwG G A ad (encT G.2 ad s0) s.heap := hw
  have hl := lv_entry ([.ref (ad (0)), .int (a1)]) (n := 2) (Nat.le_of_ble_eq_true rfl)
  rw [lg_entry_eq]
  generalize (lg_sl ([.ref (ad (0)), .int (a1)]) ++ List.replicate (2 - (lg_sl ([.ref (ad (0)), .int (a1)])).length) Slot.unset).toArray = ls at hl ⊢
  have hl : lv_has ls 2 [(0, .ref (ad (0))), (1, .int (a1))] := hl
  refine lv_aload_n hx hb d_T_shareOf_0 rfl (lv_at hl 0 rfl) ?_
  refine mw_get (v := .ref (ad (12))) hx hb hts in_T hown hK.1 hw (0) cT_0 rfl 12 (by decide) (hts _ tw_421) rfl d_T_shareOf_1 ?_
  refine lv_iload_n hx hb d_T_shareOf_4 rfl (lv_at hl 1 rfl) ?_
  refine mw_iald hx hb hK.1 hw (12) 0 cT_12 rfl hq d_T_shareOf_5 ?_
  refine lv_if_eq (tgt := 19) hx hb d_T_shareOf_6 (by decide) (fun h1 => ?_) (fun h1 => ?_)
  · skip
    refine lv_iconst (v := 0) hx hb d_T_shareOf_19 (by decide) ?_
    refine lv_goto (tgt := 54) hx hb d_T_shareOf_20 (by decide) ?_
    have e9 : f_T_shareOf s0 a1 = 0 := by unfold f_T_shareOf; exact if_pos h1
    exact mw_iret hx hb hr rfl hw hS (congrArg (fun z => some (Value.int z)) e9.symm) ⟨rfl, rfl⟩ hlocks d_T_shareOf_54
  · skip
    refine lv_aload_n hx hb d_T_shareOf_9 rfl (lv_at hl 0 rfl) ?_
    refine mw_get (v := .ref (ad (12))) hx hb hts in_T hown hK.1 hw (0) cT_0 rfl 12 (by decide) (hts _ tw_421) rfl d_T_shareOf_10 ?_
    refine lv_iload_n hx hb d_T_shareOf_13 rfl (lv_at hl 1 rfl) ?_
    refine mw_iald hx hb hK.1 hw (12) 0 cT_12 rfl hq d_T_shareOf_14 ?_
    refine lv_iconst (v := 4) hx hb d_T_shareOf_15 (by decide) ?_
    refine lv_icmp_ne (tgt := 23) hx hb d_T_shareOf_16 (by decide) (fun h2 => ?_) (fun h2 => ?_)
    · skip
      refine lv_aload_n hx hb d_T_shareOf_23 rfl (lv_at hl 0 rfl) ?_
      refine mw_get (v := .ref (ad (12))) hx hb hts in_T hown hK.1 hw (0) cT_0 rfl 12 (by decide) (hts _ tw_421) rfl d_T_shareOf_24 ?_
      refine lv_iload_n hx hb d_T_shareOf_27 rfl (lv_at hl 1 rfl) ?_
      refine mw_iald hx hb hK.1 hw (12) 0 cT_12 rfl hq d_T_shareOf_28 ?_
      refine lv_iconst (v := 3) hx hb d_T_shareOf_29 (by decide) ?_
      refine lv_icmp_ne (tgt := 39) hx hb d_T_shareOf_30 (by decide) (fun h3 => ?_) (fun h3 => ?_)
      · skip
        refine lv_aload_n hx hb d_T_shareOf_39 rfl (lv_at hl 0 rfl) ?_
        refine mw_get (v := .ref (ad (8))) hx hb hts in_T hown hK.1 hw (0) cT_0 rfl 8 (by decide) (hts _ tw_417) rfl d_T_shareOf_40 ?_
        refine lv_iconst (v := 5) hx hb d_T_shareOf_43 (by decide) ?_
        refine lv_iload_n hx hb d_T_shareOf_44 rfl (lv_at hl 1 rfl) ?_
        refine lv_imul hx hb d_T_shareOf_45 ?_
        refine lv_aload_n hx hb d_T_shareOf_46 rfl (lv_at hl 0 rfl) ?_
        refine mw_get (v := .ref (ad (13))) hx hb hts in_T hown hK.1 hw (0) cT_0 rfl 13 (by decide) (hts _ tw_422) rfl d_T_shareOf_47 ?_
        refine lv_iload_n hx hb d_T_shareOf_50 rfl (lv_at hl 1 rfl) ?_
        refine mw_iald hx hb hK.1 hw (13) 0 cT_13 rfl hq d_T_shareOf_51 ?_
        refine lv_iadd hx hb d_T_shareOf_52 ?_
        refine mw_iald hx hb hK.1 hw (8) 0 cT_8 rfl (ix_w hW hq) d_T_shareOf_53 ?_
        have e9 : f_T_shareOf s0 a1 = s0 (8) (Int32.toNatClampNeg ((5 * a1) + (s0 (13) (Int32.toNatClampNeg a1)))) := by unfold f_T_shareOf; exact (if_neg h1).trans ((if_neg h2).trans (if_neg h3))
        exact mw_iret hx hb hr rfl hw hS (congrArg (fun z => some (Value.int z)) e9.symm) ⟨rfl, rfl⟩ hlocks d_T_shareOf_54
      · skip
        refine lv_sipush (v := 1000) hx hb d_T_shareOf_33 (by decide) ?_
        refine lv_goto (tgt := 54) hx hb d_T_shareOf_36 (by decide) ?_
        have e9 : f_T_shareOf s0 a1 = 1000 := by unfold f_T_shareOf; exact (if_neg h1).trans ((if_neg h2).trans (if_pos h3))
        exact mw_iret hx hb hr rfl hw hS (congrArg (fun z => some (Value.int z)) e9.symm) ⟨rfl, rfl⟩ hlocks d_T_shareOf_54
    · skip
      refine lv_iconst (v := 0) hx hb d_T_shareOf_19 (by decide) ?_
      refine lv_goto (tgt := 54) hx hb d_T_shareOf_20 (by decide) ?_
      have e9 : f_T_shareOf s0 a1 = 0 := by unfold f_T_shareOf; exact (if_neg h1).trans (if_pos h2)
      exact mw_iret hx hb hr rfl hw hS (congrArg (fun z => some (Value.int z)) e9.symm) ⟨rfl, rfl⟩ hlocks d_T_shareOf_54

def f_T_isBounded (s0 : S2) (a1 : Int32) (a2 : Int32) : Int32 :=
  if (s0 (19) (Int32.toNatClampNeg a1)) = (-1) then
    0
  else
    if a2 ≤ (s0 (19) (Int32.toNatClampNeg a1)) then
      0
    else
      1
theorem fb_T_isBounded (s0 : S2) (a1 : Int32) (a2 : Int32) : narrow .boolean (.int (f_T_isBounded s0 a1 a2)) = .int (f_T_isBounded s0 a1 a2) := by
  unfold f_T_isBounded
  repeat' split
  all_goals first | rfl | exact narrow_b0 | exact narrow_b1
set_option maxHeartbeats 4000000 in
set_option maxRecDepth 100000 in
theorem cc_T_isBounded (l : Launch) (G : Gx) (A : Nat → Prop) (ad : Nat → Nat) (s0 : S2) (a1 : Int32) (a2 : Int32) (hq : vp_in a1 3) : Met l y_T_isBounded ws_T_isBounded { frames := 0, cells := 0, slots := 0, locals := 0 } (PG G [.ref (ad (0)), .int (a1), .int (a2)] A ad (encT G.2 ad s0)) (EG G A (some (.int (f_T_isBounded s0 a1 a2))) ad (encT G.2 ad s0)) 0 0 A := by
  refine Met.ofW (cc := c_T_isBounded) (maxL := 3) (ret := (some .boolean)) (by decide) rfl ?_
  intro p e s m args below meth c s₁ B hml hv
  obtain ⟨rfl, hw, hK⟩ := hv
  have hx := B.exec
  have hb := B.bytes
  have hr := B.returns
  have hts : ∀ w ∈ tbG, w.before [.ref (ad (0)), .int (a1), .int (a2)].toArray s = true := fun w h => atoms_spec (ws := ws_T_isBounded) B.pre w (List.mem_cons_of_mem _ h)
  have hown : s.vm.findClass "RollStagesModel" = some m.cls := findClass_of_methodNamed B.named
  have hlocks := B.notSynchronized
  have hS : va_S A s.heap s.heap [] := va_S.rf
  have hw : mwG G A ad (encT G.2 ad s0) s.heap := hw
  have hl := lv_entry ([.ref (ad (0)), .int (a1), .int (a2)]) (n := 3) (Nat.le_of_ble_eq_true rfl)
  rw [lg_entry_eq]
  generalize (lg_sl ([.ref (ad (0)), .int (a1), .int (a2)]) ++ List.replicate (3 - (lg_sl ([.ref (ad (0)), .int (a1), .int (a2)])).length) Slot.unset).toArray = ls at hl ⊢
  have hl : lv_has ls 3 [(0, .ref (ad (0))), (1, .int (a1)), (2, .int (a2))] := hl
  refine lv_aload_n hx hb d_T_isBounded_0 rfl (lv_at hl 0 rfl) ?_
  refine mw_get (v := .ref (ad (19))) hx hb hts in_T hown hK.1 hw (0) cT_0 rfl 19 (by decide) (hts _ tw_428) rfl d_T_isBounded_1 ?_
  refine lv_iload_n hx hb d_T_isBounded_4 rfl (lv_at hl 1 rfl) ?_
  refine mw_iald hx hb hK.1 hw (19) 0 cT_19 rfl hq d_T_isBounded_5 ?_
  refine lv_iconst (v := -1) hx hb d_T_isBounded_6 (by decide) ?_
  refine lv_icmp_eq (tgt := 24) hx hb d_T_isBounded_7 (by decide) (fun h1 => ?_) (fun h1 => ?_)
  · skip
    refine lv_iconst (v := 0) hx hb d_T_isBounded_24 (by decide) ?_
    have e9 : f_T_isBounded s0 a1 a2 = 0 := by unfold f_T_isBounded; exact if_pos h1
    exact mw_iret hx hb hr rfl hw hS (congrArg (fun z => some (Value.int z)) e9.symm) ⟨rfl, rfl⟩ hlocks d_T_isBounded_25
  · skip
    refine lv_iload_n hx hb d_T_isBounded_10 rfl (lv_at hl 2 rfl) ?_
    refine lv_aload_n hx hb d_T_isBounded_11 rfl (lv_at hl 0 rfl) ?_
    refine mw_get (v := .ref (ad (19))) hx hb hts in_T hown hK.1 hw (0) cT_0 rfl 19 (by decide) (hts _ tw_428) rfl d_T_isBounded_12 ?_
    refine lv_iload_n hx hb d_T_isBounded_15 rfl (lv_at hl 1 rfl) ?_
    refine mw_iald hx hb hK.1 hw (19) 0 cT_19 rfl hq d_T_isBounded_16 ?_
    refine lv_icmp_le (tgt := 24) hx hb d_T_isBounded_17 (by decide) (fun h2 => ?_) (fun h2 => ?_)
    · skip
      refine lv_iconst (v := 0) hx hb d_T_isBounded_24 (by decide) ?_
      have e9 : f_T_isBounded s0 a1 a2 = 0 := by unfold f_T_isBounded; exact (if_neg h1).trans (if_pos h2)
      exact mw_iret hx hb hr rfl hw hS (congrArg (fun z => some (Value.int z)) e9.symm) ⟨rfl, rfl⟩ hlocks d_T_isBounded_25
    · skip
      refine lv_iconst (v := 1) hx hb d_T_isBounded_20 (by decide) ?_
      refine lv_goto (tgt := 25) hx hb d_T_isBounded_21 (by decide) ?_
      have e9 : f_T_isBounded s0 a1 a2 = 1 := by unfold f_T_isBounded; exact (if_neg h1).trans (if_neg h2)
      exact mw_iret hx hb hr rfl hw hS (congrArg (fun z => some (Value.int z)) e9.symm) ⟨rfl, rfl⟩ hlocks d_T_isBounded_25

def f_T_mayGet (s0 : S2) (a1 : Int32) (a2 : Int32) : Int32 :=
  if (s0 (5) (Int32.toNatClampNeg a2)) = (s0 (20) (Int32.toNatClampNeg a1)) then
    if (f_T_isBounded s0 (s0 (5) (Int32.toNatClampNeg a2)) a2) = 0 then
      if (s0 (18) (Int32.toNatClampNeg a2)) = 0 then
        if (f_T_shareOf s0 a2) ≤ (f_T_rowOf a1) then
          0
        else
          if (s0 (12) (Int32.toNatClampNeg a2)) = 3 then
            1
          else
            if (s0 (13) (Int32.toNatClampNeg a2)) < (s0 (21) (Int32.toNatClampNeg a1)) then
              0
            else
              1
      else
        if (s0 (12) (Int32.toNatClampNeg a2)) = 1 then
          1
        else
          if (s0 (12) (Int32.toNatClampNeg a2)) = 3 then
            1
          else
            if (s0 (12) (Int32.toNatClampNeg a2)) = 2 then
              if (s0 (14) (Int32.toNatClampNeg a2)) = 3 then
                1
              else
                if (f_T_shareOf s0 a2) ≤ (f_T_rowOf a1) then
                  0
                else
                  if (s0 (13) (Int32.toNatClampNeg a2)) < (s0 (21) (Int32.toNatClampNeg a1)) then
                    0
                  else
                    1
            else
              if (f_T_shareOf s0 a2) ≤ (f_T_rowOf a1) then
                0
              else
                if (s0 (13) (Int32.toNatClampNeg a2)) < (s0 (21) (Int32.toNatClampNeg a1)) then
                  0
                else
                  1
    else
      0
  else
    0
theorem fb_T_mayGet (s0 : S2) (a1 : Int32) (a2 : Int32) : narrow .boolean (.int (f_T_mayGet s0 a1 a2)) = .int (f_T_mayGet s0 a1 a2) := by
  unfold f_T_mayGet
  repeat' split
  all_goals first | rfl | exact narrow_b0 | exact narrow_b1
set_option maxHeartbeats 4000000 in
set_option maxRecDepth 100000 in
theorem cc_T_mayGet (l : Launch) (G : Gx) (A : Nat → Prop) (ad : Nat → Nat) (s0 : S2) (a1 : Int32) (a2 : Int32) (hW : Wt s0) (hm : vp_in a1 30) (hq : vp_in a2 16) : Met l y_T_mayGet ws_T_mayGet { frames := 1, cells := 0, slots := 0, locals := 22 } (PG G [.ref (ad (0)), .int (a1), .int (a2)] A ad (encT G.2 ad s0)) (EG G A (some (.int (f_T_mayGet s0 a1 a2))) ad (encT G.2 ad s0)) 0 0 A := by
  refine Met.ofW (cc := c_T_mayGet) (maxL := 3) (ret := (some .boolean)) (by decide) rfl ?_
  intro p e s m args below meth c s₁ B hml hv
  obtain ⟨rfl, hw, hK⟩ := hv
  have hx := B.exec
  have hb := B.bytes
  have hr := B.returns
  have hts : ∀ w ∈ tbG, w.before [.ref (ad (0)), .int (a1), .int (a2)].toArray s = true := fun w h => atoms_spec (ws := ws_T_mayGet) B.pre w (List.mem_cons_of_mem _ h)
  have hown : s.vm.findClass "RollStagesModel" = some m.cls := findClass_of_methodNamed B.named
  have hlocks := B.notSynchronized
  have hS : va_S A s.heap s.heap [] := va_S.rf
  have hw : mwG G A ad (encT G.2 ad s0) s.heap := hw
  have hl := lv_entry ([.ref (ad (0)), .int (a1), .int (a2)]) (n := 3) (Nat.le_of_ble_eq_true rfl)
  rw [lg_entry_eq]
  generalize (lg_sl ([.ref (ad (0)), .int (a1), .int (a2)]) ++ List.replicate (3 - (lg_sl ([.ref (ad (0)), .int (a1), .int (a2)])).length) Slot.unset).toArray = ls at hl ⊢
  have hl : lv_has ls 3 [(0, .ref (ad (0))), (1, .int (a1)), (2, .int (a2))] := hl
  refine lv_aload_n hx hb d_T_mayGet_0 rfl (lv_at hl 0 rfl) ?_
  refine mw_get (v := .ref (ad (5))) hx hb hts in_T hown hK.1 hw (0) cT_0 rfl 5 (by decide) (hts _ tw_414) rfl d_T_mayGet_1 ?_
  refine lv_iload_n hx hb d_T_mayGet_4 rfl (lv_at hl 2 rfl) ?_
  refine mw_iald hx hb hK.1 hw (5) 0 cT_5 rfl hq d_T_mayGet_5 ?_
  refine lv_aload_n hx hb d_T_mayGet_6 rfl (lv_at hl 0 rfl) ?_
  refine mw_get (v := .ref (ad (20))) hx hb hts in_T hown hK.1 hw (0) cT_0 rfl 20 (by decide) (hts _ tw_429) rfl d_T_mayGet_7 ?_
  refine lv_iload_n hx hb d_T_mayGet_10 rfl (lv_at hl 1 rfl) ?_
  refine mw_iald hx hb hK.1 hw (20) 0 cT_20 rfl hm d_T_mayGet_11 ?_
  refine lv_icmp_ne (tgt := 29) hx hb d_T_mayGet_12 (by decide) (fun h1 => ?_) (fun h1 => ?_)
  · skip
    refine lv_iconst (v := 0) hx hb d_T_mayGet_29 (by decide) ?_
    have e9 : f_T_mayGet s0 a1 a2 = 0 := by unfold f_T_mayGet; exact if_neg h1
    exact mw_iret hx hb hr rfl hw hS (congrArg (fun z => some (Value.int z)) e9.symm) ⟨rfl, rfl⟩ hlocks d_T_mayGet_30
  · skip
    refine lv_aload_n hx hb d_T_mayGet_15 rfl (lv_at hl 0 rfl) ?_
    refine lv_aload_n hx hb d_T_mayGet_16 rfl (lv_at hl 0 rfl) ?_
    refine mw_get (v := .ref (ad (5))) hx hb hts in_T hown hK.1 hw (0) cT_0 rfl 5 (by decide) (hts _ tw_414) rfl d_T_mayGet_17 ?_
    refine lv_iload_n hx hb d_T_mayGet_20 rfl (lv_at hl 2 rfl) ?_
    refine mw_iald hx hb hK.1 hw (5) 0 cT_5 rfl hq d_T_mayGet_21 ?_
    refine lv_iload_n hx hb d_T_mayGet_22 rfl (lv_at hl 2 rfl) ?_
    refine gV (As := [.int (s0 (5) (Int32.toNatClampNeg a2)), .int (a2)]) (rest := []) (st1 := [.int (f_T_isBounded s0 (s0 (5) (Int32.toNatClampNeg a2)) a2)]) ⟨hx, hb, hml, hown, hts⟩ (cc_T_isBounded l G A ad  s0 (s0 (5) (Int32.toNatClampNeg a2)) a2 (ch_in hW hq)) cT_0 rfl tw_606 tw_603 tw_605 tw_p41 tw_4 hd_T_isBounded rfl rfl ⟨Nat.le_of_ble_eq_true rfl, Nat.le_of_ble_eq_true rfl⟩ hK hw hS hl.1 rfl (Nat.le_of_ble_eq_true rfl) ⟨Nat.zero_le _, Nat.zero_le _⟩ d_T_mayGet_23 rfl (fun H locs hw hS => ?_)
    refine lv_if_eq (tgt := 31) hx hb d_T_mayGet_26 (by decide) (fun h2 => ?_) (fun h2 => ?_)
    · skip
      refine lv_aload_n hx hb d_T_mayGet_31 rfl (lv_at hl 0 rfl) ?_
      refine mw_get (v := .ref (ad (18))) hx hb hts in_T hown hK.1 hw (0) cT_0 rfl 18 (by decide) (hts _ tw_427) rfl d_T_mayGet_32 ?_
      refine lv_iload_n hx hb d_T_mayGet_35 rfl (lv_at hl 2 rfl) ?_
      refine mw_zald hx hb hK.1 hw (18) 3 cT_18 rfl hq d_T_mayGet_36 ?_
      refine lv_if_eq (tgt := 82) hx hb d_T_mayGet_37 (by decide) (fun h3 => ?_) (fun h3 => ?_)
      · skip
        refine lv_iload_n hx hb d_T_mayGet_82 rfl (lv_at hl 1 rfl) ?_
        refine gS (As := [.int (a1)]) (rest := []) (st1 := [.int (f_T_rowOf a1)]) ⟨hx, hb, hml, hown, hts⟩ (cc_T_rowOf l G A ad  s0 a1) tw_582 tw_580 tw_581 tw_4 hd_T_rowOf rfl rfl ⟨Nat.le_of_ble_eq_true rfl, Nat.le_of_ble_eq_true rfl⟩ hK hw hS hl.1 rfl (Nat.le_of_ble_eq_true rfl) ⟨Nat.zero_le _, Nat.zero_le _⟩ d_T_mayGet_83 rfl (fun H locs hw hS => ?_)
        refine lv_aload_n hx hb d_T_mayGet_86 rfl (lv_at hl 0 rfl) ?_
        refine lv_iload_n hx hb d_T_mayGet_87 rfl (lv_at hl 2 rfl) ?_
        refine gV (As := [.int (a2)]) (rest := [.int (f_T_rowOf a1)]) (st1 := [.int (f_T_shareOf s0 a2), .int (f_T_rowOf a1)]) ⟨hx, hb, hml, hown, hts⟩ (cc_T_shareOf l G A ad  s0 a2 hW hq) cT_0 rfl tw_563 tw_560 tw_562 tw_p37 tw_4 hd_T_shareOf rfl rfl ⟨Nat.le_of_ble_eq_true rfl, Nat.le_of_ble_eq_true rfl⟩ hK hw hS hl.1 rfl (Nat.le_of_ble_eq_true rfl) ⟨Nat.zero_le _, Nat.zero_le _⟩ d_T_mayGet_88 rfl (fun H locs hw hS => ?_)
        refine lv_icmp_ge (tgt := 123) hx hb d_T_mayGet_91 (by decide) (fun h4 => ?_) (fun h4 => ?_)
        · skip
          refine lv_iconst (v := 0) hx hb d_T_mayGet_123 (by decide) ?_
          have e9 : f_T_mayGet s0 a1 a2 = 0 := by unfold f_T_mayGet; exact (if_pos h1).trans ((if_pos h2).trans ((if_pos h3).trans (if_pos h4)))
          exact mw_iret hx hb hr rfl hw hS (congrArg (fun z => some (Value.int z)) e9.symm) ⟨rfl, rfl⟩ hlocks d_T_mayGet_124
        · skip
          refine lv_aload_n hx hb d_T_mayGet_94 rfl (lv_at hl 0 rfl) ?_
          refine mw_get (v := .ref (ad (12))) hx hb hts in_T hown hK.1 hw (0) cT_0 rfl 12 (by decide) (hts _ tw_421) rfl d_T_mayGet_95 ?_
          refine lv_iload_n hx hb d_T_mayGet_98 rfl (lv_at hl 2 rfl) ?_
          refine mw_iald hx hb hK.1 hw (12) 0 cT_12 rfl hq d_T_mayGet_99 ?_
          refine lv_iconst (v := 3) hx hb d_T_mayGet_100 (by decide) ?_
          refine lv_icmp_eq (tgt := 119) hx hb d_T_mayGet_101 (by decide) (fun h5 => ?_) (fun h5 => ?_)
          · skip
            refine lv_iconst (v := 1) hx hb d_T_mayGet_119 (by decide) ?_
            refine lv_goto (tgt := 124) hx hb d_T_mayGet_120 (by decide) ?_
            have e9 : f_T_mayGet s0 a1 a2 = 1 := by unfold f_T_mayGet; exact (if_pos h1).trans ((if_pos h2).trans ((if_pos h3).trans ((if_neg h4).trans (if_pos h5))))
            exact mw_iret hx hb hr rfl hw hS (congrArg (fun z => some (Value.int z)) e9.symm) ⟨rfl, rfl⟩ hlocks d_T_mayGet_124
          · skip
            refine lv_aload_n hx hb d_T_mayGet_104 rfl (lv_at hl 0 rfl) ?_
            refine mw_get (v := .ref (ad (13))) hx hb hts in_T hown hK.1 hw (0) cT_0 rfl 13 (by decide) (hts _ tw_422) rfl d_T_mayGet_105 ?_
            refine lv_iload_n hx hb d_T_mayGet_108 rfl (lv_at hl 2 rfl) ?_
            refine mw_iald hx hb hK.1 hw (13) 0 cT_13 rfl hq d_T_mayGet_109 ?_
            refine lv_aload_n hx hb d_T_mayGet_110 rfl (lv_at hl 0 rfl) ?_
            refine mw_get (v := .ref (ad (21))) hx hb hts in_T hown hK.1 hw (0) cT_0 rfl 21 (by decide) (hts _ tw_430) rfl d_T_mayGet_111 ?_
            refine lv_iload_n hx hb d_T_mayGet_114 rfl (lv_at hl 1 rfl) ?_
            refine mw_iald hx hb hK.1 hw (21) 0 cT_21 rfl hm d_T_mayGet_115 ?_
            refine lv_icmp_lt (tgt := 123) hx hb d_T_mayGet_116 (by decide) (fun h6 => ?_) (fun h6 => ?_)
            · skip
              refine lv_iconst (v := 0) hx hb d_T_mayGet_123 (by decide) ?_
              have e9 : f_T_mayGet s0 a1 a2 = 0 := by unfold f_T_mayGet; exact (if_pos h1).trans ((if_pos h2).trans ((if_pos h3).trans ((if_neg h4).trans ((if_neg h5).trans (if_pos h6)))))
              exact mw_iret hx hb hr rfl hw hS (congrArg (fun z => some (Value.int z)) e9.symm) ⟨rfl, rfl⟩ hlocks d_T_mayGet_124
            · skip
              refine lv_iconst (v := 1) hx hb d_T_mayGet_119 (by decide) ?_
              refine lv_goto (tgt := 124) hx hb d_T_mayGet_120 (by decide) ?_
              have e9 : f_T_mayGet s0 a1 a2 = 1 := by unfold f_T_mayGet; exact (if_pos h1).trans ((if_pos h2).trans ((if_pos h3).trans ((if_neg h4).trans ((if_neg h5).trans (if_neg h6)))))
              exact mw_iret hx hb hr rfl hw hS (congrArg (fun z => some (Value.int z)) e9.symm) ⟨rfl, rfl⟩ hlocks d_T_mayGet_124
      · skip
        refine lv_aload_n hx hb d_T_mayGet_40 rfl (lv_at hl 0 rfl) ?_
        refine mw_get (v := .ref (ad (12))) hx hb hts in_T hown hK.1 hw (0) cT_0 rfl 12 (by decide) (hts _ tw_421) rfl d_T_mayGet_41 ?_
        refine lv_iload_n hx hb d_T_mayGet_44 rfl (lv_at hl 2 rfl) ?_
        refine mw_iald hx hb hK.1 hw (12) 0 cT_12 rfl hq d_T_mayGet_45 ?_
        refine lv_iconst (v := 1) hx hb d_T_mayGet_46 (by decide) ?_
        refine lv_icmp_eq (tgt := 80) hx hb d_T_mayGet_47 (by decide) (fun h7 => ?_) (fun h7 => ?_)
        · skip
          refine lv_iconst (v := 1) hx hb d_T_mayGet_80 (by decide) ?_
          have e9 : f_T_mayGet s0 a1 a2 = 1 := by unfold f_T_mayGet; exact (if_pos h1).trans ((if_pos h2).trans ((if_neg h3).trans (if_pos h7)))
          exact mw_iret hx hb hr rfl hw hS (congrArg (fun z => some (Value.int z)) e9.symm) ⟨rfl, rfl⟩ hlocks d_T_mayGet_81
        · skip
          refine lv_aload_n hx hb d_T_mayGet_50 rfl (lv_at hl 0 rfl) ?_
          refine mw_get (v := .ref (ad (12))) hx hb hts in_T hown hK.1 hw (0) cT_0 rfl 12 (by decide) (hts _ tw_421) rfl d_T_mayGet_51 ?_
          refine lv_iload_n hx hb d_T_mayGet_54 rfl (lv_at hl 2 rfl) ?_
          refine mw_iald hx hb hK.1 hw (12) 0 cT_12 rfl hq d_T_mayGet_55 ?_
          refine lv_iconst (v := 3) hx hb d_T_mayGet_56 (by decide) ?_
          refine lv_icmp_eq (tgt := 80) hx hb d_T_mayGet_57 (by decide) (fun h8 => ?_) (fun h8 => ?_)
          · skip
            refine lv_iconst (v := 1) hx hb d_T_mayGet_80 (by decide) ?_
            have e9 : f_T_mayGet s0 a1 a2 = 1 := by unfold f_T_mayGet; exact (if_pos h1).trans ((if_pos h2).trans ((if_neg h3).trans ((if_neg h7).trans (if_pos h8))))
            exact mw_iret hx hb hr rfl hw hS (congrArg (fun z => some (Value.int z)) e9.symm) ⟨rfl, rfl⟩ hlocks d_T_mayGet_81
          · skip
            refine lv_aload_n hx hb d_T_mayGet_60 rfl (lv_at hl 0 rfl) ?_
            refine mw_get (v := .ref (ad (12))) hx hb hts in_T hown hK.1 hw (0) cT_0 rfl 12 (by decide) (hts _ tw_421) rfl d_T_mayGet_61 ?_
            refine lv_iload_n hx hb d_T_mayGet_64 rfl (lv_at hl 2 rfl) ?_
            refine mw_iald hx hb hK.1 hw (12) 0 cT_12 rfl hq d_T_mayGet_65 ?_
            refine lv_iconst (v := 2) hx hb d_T_mayGet_66 (by decide) ?_
            refine lv_icmp_ne (tgt := 82) hx hb d_T_mayGet_67 (by decide) (fun h9 => ?_) (fun h9 => ?_)
            · skip
              refine lv_iload_n hx hb d_T_mayGet_82 rfl (lv_at hl 1 rfl) ?_
              refine gS (As := [.int (a1)]) (rest := []) (st1 := [.int (f_T_rowOf a1)]) ⟨hx, hb, hml, hown, hts⟩ (cc_T_rowOf l G A ad  s0 a1) tw_582 tw_580 tw_581 tw_4 hd_T_rowOf rfl rfl ⟨Nat.le_of_ble_eq_true rfl, Nat.le_of_ble_eq_true rfl⟩ hK hw hS hl.1 rfl (Nat.le_of_ble_eq_true rfl) ⟨Nat.zero_le _, Nat.zero_le _⟩ d_T_mayGet_83 rfl (fun H locs hw hS => ?_)
              refine lv_aload_n hx hb d_T_mayGet_86 rfl (lv_at hl 0 rfl) ?_
              refine lv_iload_n hx hb d_T_mayGet_87 rfl (lv_at hl 2 rfl) ?_
              refine gV (As := [.int (a2)]) (rest := [.int (f_T_rowOf a1)]) (st1 := [.int (f_T_shareOf s0 a2), .int (f_T_rowOf a1)]) ⟨hx, hb, hml, hown, hts⟩ (cc_T_shareOf l G A ad  s0 a2 hW hq) cT_0 rfl tw_563 tw_560 tw_562 tw_p37 tw_4 hd_T_shareOf rfl rfl ⟨Nat.le_of_ble_eq_true rfl, Nat.le_of_ble_eq_true rfl⟩ hK hw hS hl.1 rfl (Nat.le_of_ble_eq_true rfl) ⟨Nat.zero_le _, Nat.zero_le _⟩ d_T_mayGet_88 rfl (fun H locs hw hS => ?_)
              refine lv_icmp_ge (tgt := 123) hx hb d_T_mayGet_91 (by decide) (fun h10 => ?_) (fun h10 => ?_)
              · skip
                refine lv_iconst (v := 0) hx hb d_T_mayGet_123 (by decide) ?_
                have e9 : f_T_mayGet s0 a1 a2 = 0 := by unfold f_T_mayGet; exact (if_pos h1).trans ((if_pos h2).trans ((if_neg h3).trans ((if_neg h7).trans ((if_neg h8).trans ((if_neg h9).trans (if_pos h10))))))
                exact mw_iret hx hb hr rfl hw hS (congrArg (fun z => some (Value.int z)) e9.symm) ⟨rfl, rfl⟩ hlocks d_T_mayGet_124
              · skip
                refine lv_aload_n hx hb d_T_mayGet_94 rfl (lv_at hl 0 rfl) ?_
                refine mw_get (v := .ref (ad (12))) hx hb hts in_T hown hK.1 hw (0) cT_0 rfl 12 (by decide) (hts _ tw_421) rfl d_T_mayGet_95 ?_
                refine lv_iload_n hx hb d_T_mayGet_98 rfl (lv_at hl 2 rfl) ?_
                refine mw_iald hx hb hK.1 hw (12) 0 cT_12 rfl hq d_T_mayGet_99 ?_
                refine lv_iconst (v := 3) hx hb d_T_mayGet_100 (by decide) ?_
                refine lv_icmp_eq (tgt := 119) hx hb d_T_mayGet_101 (by decide) (fun h11 => ?_) (fun h11 => ?_)
                · exact absurd h11 h8
                · skip
                  refine lv_aload_n hx hb d_T_mayGet_104 rfl (lv_at hl 0 rfl) ?_
                  refine mw_get (v := .ref (ad (13))) hx hb hts in_T hown hK.1 hw (0) cT_0 rfl 13 (by decide) (hts _ tw_422) rfl d_T_mayGet_105 ?_
                  refine lv_iload_n hx hb d_T_mayGet_108 rfl (lv_at hl 2 rfl) ?_
                  refine mw_iald hx hb hK.1 hw (13) 0 cT_13 rfl hq d_T_mayGet_109 ?_
                  refine lv_aload_n hx hb d_T_mayGet_110 rfl (lv_at hl 0 rfl) ?_
                  refine mw_get (v := .ref (ad (21))) hx hb hts in_T hown hK.1 hw (0) cT_0 rfl 21 (by decide) (hts _ tw_430) rfl d_T_mayGet_111 ?_
                  refine lv_iload_n hx hb d_T_mayGet_114 rfl (lv_at hl 1 rfl) ?_
                  refine mw_iald hx hb hK.1 hw (21) 0 cT_21 rfl hm d_T_mayGet_115 ?_
                  refine lv_icmp_lt (tgt := 123) hx hb d_T_mayGet_116 (by decide) (fun h12 => ?_) (fun h12 => ?_)
                  · skip
                    refine lv_iconst (v := 0) hx hb d_T_mayGet_123 (by decide) ?_
                    have e9 : f_T_mayGet s0 a1 a2 = 0 := by unfold f_T_mayGet; exact (if_pos h1).trans ((if_pos h2).trans ((if_neg h3).trans ((if_neg h7).trans ((if_neg h8).trans ((if_neg h9).trans ((if_neg h10).trans (if_pos h12)))))))
                    exact mw_iret hx hb hr rfl hw hS (congrArg (fun z => some (Value.int z)) e9.symm) ⟨rfl, rfl⟩ hlocks d_T_mayGet_124
                  · skip
                    refine lv_iconst (v := 1) hx hb d_T_mayGet_119 (by decide) ?_
                    refine lv_goto (tgt := 124) hx hb d_T_mayGet_120 (by decide) ?_
                    have e9 : f_T_mayGet s0 a1 a2 = 1 := by unfold f_T_mayGet; exact (if_pos h1).trans ((if_pos h2).trans ((if_neg h3).trans ((if_neg h7).trans ((if_neg h8).trans ((if_neg h9).trans ((if_neg h10).trans (if_neg h12)))))))
                    exact mw_iret hx hb hr rfl hw hS (congrArg (fun z => some (Value.int z)) e9.symm) ⟨rfl, rfl⟩ hlocks d_T_mayGet_124
            · skip
              refine lv_aload_n hx hb d_T_mayGet_70 rfl (lv_at hl 0 rfl) ?_
              refine mw_get (v := .ref (ad (14))) hx hb hts in_T hown hK.1 hw (0) cT_0 rfl 14 (by decide) (hts _ tw_423) rfl d_T_mayGet_71 ?_
              refine lv_iload_n hx hb d_T_mayGet_74 rfl (lv_at hl 2 rfl) ?_
              refine mw_iald hx hb hK.1 hw (14) 0 cT_14 rfl hq d_T_mayGet_75 ?_
              refine lv_iconst (v := 3) hx hb d_T_mayGet_76 (by decide) ?_
              refine lv_icmp_ne (tgt := 82) hx hb d_T_mayGet_77 (by decide) (fun h13 => ?_) (fun h13 => ?_)
              · skip
                refine lv_iload_n hx hb d_T_mayGet_82 rfl (lv_at hl 1 rfl) ?_
                refine gS (As := [.int (a1)]) (rest := []) (st1 := [.int (f_T_rowOf a1)]) ⟨hx, hb, hml, hown, hts⟩ (cc_T_rowOf l G A ad  s0 a1) tw_582 tw_580 tw_581 tw_4 hd_T_rowOf rfl rfl ⟨Nat.le_of_ble_eq_true rfl, Nat.le_of_ble_eq_true rfl⟩ hK hw hS hl.1 rfl (Nat.le_of_ble_eq_true rfl) ⟨Nat.zero_le _, Nat.zero_le _⟩ d_T_mayGet_83 rfl (fun H locs hw hS => ?_)
                refine lv_aload_n hx hb d_T_mayGet_86 rfl (lv_at hl 0 rfl) ?_
                refine lv_iload_n hx hb d_T_mayGet_87 rfl (lv_at hl 2 rfl) ?_
                refine gV (As := [.int (a2)]) (rest := [.int (f_T_rowOf a1)]) (st1 := [.int (f_T_shareOf s0 a2), .int (f_T_rowOf a1)]) ⟨hx, hb, hml, hown, hts⟩ (cc_T_shareOf l G A ad  s0 a2 hW hq) cT_0 rfl tw_563 tw_560 tw_562 tw_p37 tw_4 hd_T_shareOf rfl rfl ⟨Nat.le_of_ble_eq_true rfl, Nat.le_of_ble_eq_true rfl⟩ hK hw hS hl.1 rfl (Nat.le_of_ble_eq_true rfl) ⟨Nat.zero_le _, Nat.zero_le _⟩ d_T_mayGet_88 rfl (fun H locs hw hS => ?_)
                refine lv_icmp_ge (tgt := 123) hx hb d_T_mayGet_91 (by decide) (fun h14 => ?_) (fun h14 => ?_)
                · skip
                  refine lv_iconst (v := 0) hx hb d_T_mayGet_123 (by decide) ?_
                  have e9 : f_T_mayGet s0 a1 a2 = 0 := by unfold f_T_mayGet; exact (if_pos h1).trans ((if_pos h2).trans ((if_neg h3).trans ((if_neg h7).trans ((if_neg h8).trans ((if_pos h9).trans ((if_neg h13).trans (if_pos h14)))))))
                  exact mw_iret hx hb hr rfl hw hS (congrArg (fun z => some (Value.int z)) e9.symm) ⟨rfl, rfl⟩ hlocks d_T_mayGet_124
                · skip
                  refine lv_aload_n hx hb d_T_mayGet_94 rfl (lv_at hl 0 rfl) ?_
                  refine mw_get (v := .ref (ad (12))) hx hb hts in_T hown hK.1 hw (0) cT_0 rfl 12 (by decide) (hts _ tw_421) rfl d_T_mayGet_95 ?_
                  refine lv_iload_n hx hb d_T_mayGet_98 rfl (lv_at hl 2 rfl) ?_
                  refine mw_iald hx hb hK.1 hw (12) 0 cT_12 rfl hq d_T_mayGet_99 ?_
                  refine lv_iconst (v := 3) hx hb d_T_mayGet_100 (by decide) ?_
                  refine lv_icmp_eq (tgt := 119) hx hb d_T_mayGet_101 (by decide) (fun h15 => ?_) (fun h15 => ?_)
                  · exact absurd h15 h8
                  · skip
                    refine lv_aload_n hx hb d_T_mayGet_104 rfl (lv_at hl 0 rfl) ?_
                    refine mw_get (v := .ref (ad (13))) hx hb hts in_T hown hK.1 hw (0) cT_0 rfl 13 (by decide) (hts _ tw_422) rfl d_T_mayGet_105 ?_
                    refine lv_iload_n hx hb d_T_mayGet_108 rfl (lv_at hl 2 rfl) ?_
                    refine mw_iald hx hb hK.1 hw (13) 0 cT_13 rfl hq d_T_mayGet_109 ?_
                    refine lv_aload_n hx hb d_T_mayGet_110 rfl (lv_at hl 0 rfl) ?_
                    refine mw_get (v := .ref (ad (21))) hx hb hts in_T hown hK.1 hw (0) cT_0 rfl 21 (by decide) (hts _ tw_430) rfl d_T_mayGet_111 ?_
                    refine lv_iload_n hx hb d_T_mayGet_114 rfl (lv_at hl 1 rfl) ?_
                    refine mw_iald hx hb hK.1 hw (21) 0 cT_21 rfl hm d_T_mayGet_115 ?_
                    refine lv_icmp_lt (tgt := 123) hx hb d_T_mayGet_116 (by decide) (fun h16 => ?_) (fun h16 => ?_)
                    · skip
                      refine lv_iconst (v := 0) hx hb d_T_mayGet_123 (by decide) ?_
                      have e9 : f_T_mayGet s0 a1 a2 = 0 := by unfold f_T_mayGet; exact (if_pos h1).trans ((if_pos h2).trans ((if_neg h3).trans ((if_neg h7).trans ((if_neg h8).trans ((if_pos h9).trans ((if_neg h13).trans ((if_neg h14).trans (if_pos h16))))))))
                      exact mw_iret hx hb hr rfl hw hS (congrArg (fun z => some (Value.int z)) e9.symm) ⟨rfl, rfl⟩ hlocks d_T_mayGet_124
                    · skip
                      refine lv_iconst (v := 1) hx hb d_T_mayGet_119 (by decide) ?_
                      refine lv_goto (tgt := 124) hx hb d_T_mayGet_120 (by decide) ?_
                      have e9 : f_T_mayGet s0 a1 a2 = 1 := by unfold f_T_mayGet; exact (if_pos h1).trans ((if_pos h2).trans ((if_neg h3).trans ((if_neg h7).trans ((if_neg h8).trans ((if_pos h9).trans ((if_neg h13).trans ((if_neg h14).trans (if_neg h16))))))))
                      exact mw_iret hx hb hr rfl hw hS (congrArg (fun z => some (Value.int z)) e9.symm) ⟨rfl, rfl⟩ hlocks d_T_mayGet_124
              · skip
                refine lv_iconst (v := 1) hx hb d_T_mayGet_80 (by decide) ?_
                have e9 : f_T_mayGet s0 a1 a2 = 1 := by unfold f_T_mayGet; exact (if_pos h1).trans ((if_pos h2).trans ((if_neg h3).trans ((if_neg h7).trans ((if_neg h8).trans ((if_pos h9).trans (if_pos h13))))))
                exact mw_iret hx hb hr rfl hw hS (congrArg (fun z => some (Value.int z)) e9.symm) ⟨rfl, rfl⟩ hlocks d_T_mayGet_81
    · skip
      refine lv_iconst (v := 0) hx hb d_T_mayGet_29 (by decide) ?_
      have e9 : f_T_mayGet s0 a1 a2 = 0 := by unfold f_T_mayGet; exact (if_pos h1).trans (if_neg h2)
      exact mw_iret hx hb hr rfl hw hS (congrArg (fun z => some (Value.int z)) e9.symm) ⟨rfl, rfl⟩ hlocks d_T_mayGet_30

def h_T_offer_36 (s1 : S2) (a1 : Int32) : Nat → Int32 → Int32 → Int32
  | 0, x2, _ => x2
  | n + 1, x2, x3 =>
    if (s1 0 2) ≤ x3 then
      x2
    else
      if (f_T_mayGet s1 a1 x3) = 0 then
        h_T_offer_36 s1 a1 n x2 (x3 + 1)
      else
        h_T_offer_36 s1 a1 n x3 (x3 + 1)
def f_T_offer (s0 : S2) (a1 : Int32) : Int32 :=
  if (s0 (23) (Int32.toNatClampNeg a1)) = (-1) then
    if (s0 (22) (Int32.toNatClampNeg a1)) ≤ (h_T_offer_36 s0 a1 17 (-1) 0) then
      h_T_offer_36 s0 a1 17 (-1) 0
    else
      if (s0 (5) (Int32.toNatClampNeg (s0 (22) (Int32.toNatClampNeg a1)))) = (s0 (20) (Int32.toNatClampNeg a1)) then
        if (s0 (12) (Int32.toNatClampNeg (s0 (22) (Int32.toNatClampNeg a1)))) = 4 then
          h_T_offer_36 s0 a1 17 (-1) 0
        else
          if (f_T_isBounded s0 (s0 (5) (Int32.toNatClampNeg (s0 (22) (Int32.toNatClampNeg a1)))) (s0 (22) (Int32.toNatClampNeg a1))) = 0 then
            s0 (22) (Int32.toNatClampNeg a1)
          else
            h_T_offer_36 s0 a1 17 (-1) 0
      else
        h_T_offer_36 s0 a1 17 (-1) 0
  else
    if (s0 (12) (Int32.toNatClampNeg (s0 (23) (Int32.toNatClampNeg a1)))) = 4 then
      if (s0 (22) (Int32.toNatClampNeg a1)) ≤ (h_T_offer_36 s0 a1 17 (-1) 0) then
        h_T_offer_36 s0 a1 17 (-1) 0
      else
        if (s0 (5) (Int32.toNatClampNeg (s0 (22) (Int32.toNatClampNeg a1)))) = (s0 (20) (Int32.toNatClampNeg a1)) then
          if (s0 (12) (Int32.toNatClampNeg (s0 (22) (Int32.toNatClampNeg a1)))) = 4 then
            h_T_offer_36 s0 a1 17 (-1) 0
          else
            if (f_T_isBounded s0 (s0 (5) (Int32.toNatClampNeg (s0 (22) (Int32.toNatClampNeg a1)))) (s0 (22) (Int32.toNatClampNeg a1))) = 0 then
              s0 (22) (Int32.toNatClampNeg a1)
            else
              h_T_offer_36 s0 a1 17 (-1) 0
        else
          h_T_offer_36 s0 a1 17 (-1) 0
    else
      s0 (23) (Int32.toNatClampNeg a1)
theorem of_rg (s1 : S2) (a1 : Int32) (hW : Wt s1) : ∀ (n : Nat) (x2 x3 : Int32), (-1 ≤ x2.toInt ∧ x2.toInt ≤ 15) → 0 ≤ x3.toInt → -1 ≤ (h_T_offer_36 s1 a1 n x2 x3).toInt ∧ (h_T_offer_36 s1 a1 n x2 x3).toInt ≤ 15 := by
  have hr := hW.1
  intro n
  induction n with
  | zero => intro x2 x3 h1 h2; exact h1
  | succ n ih =>
    intro x2 x3 h1 h2
    rw [h_T_offer_36]
    by_cases h3 : s1 0 2 ≤ x3
    · rw [if_pos h3]; exact h1
    · rw [if_neg h3]
      rw [i_le] at h3
      have h4 := i_up (x := x3) (by omega) (by omega)
      split
      · exact ih _ _ h1 (by omega)
      · exact ih _ _ (by omega) (by omega)

set_option maxHeartbeats 4000000 in
set_option maxRecDepth 100000 in
theorem cc_T_offer (l : Launch) (G : Gx) (A : Nat → Prop) (ad : Nat → Nat) (s0 : S2) (a1 : Int32) (hW : Wt s0) (hm : vp_in a1 30) : Met l y_T_offer ws_T_offer { frames := 2, cells := 0, slots := 0, locals := 44 } (PG G [.ref (ad (0)), .int (a1)] A ad (encT G.2 ad s0)) (EG G A (some (.int (f_T_offer s0 a1))) ad (encT G.2 ad s0)) 0 0 A := by
  refine Met.ofW (cc := c_T_offer) (maxL := 4) (ret := (some .int)) (by decide) rfl ?_
  intro p e s m args below meth c s₁ B hml hv
  obtain ⟨rfl, hw, hK⟩ := hv
  have hx := B.exec
  have hb := B.bytes
  have hr := B.returns
  have hts : ∀ w ∈ tbG, w.before [.ref (ad (0)), .int (a1)].toArray s = true := fun w h => atoms_spec (ws := ws_T_offer) B.pre w (List.mem_cons_of_mem _ h)
  have hown : s.vm.findClass "RollStagesModel" = some m.cls := findClass_of_methodNamed B.named
  have hlocks := B.notSynchronized
  have hS : va_S A s.heap s.heap [] := va_S.rf
  have hw : mwG G A ad (encT G.2 ad s0) s.heap := hw
  have loop_36 : ∀ (Q : State → Prop) (s1 : S2) (n : Nat) (x2 : Int32) (x3 : Int32), Wt s1 ∧ 0 ≤ x3.toInt ∧ x3.toInt ≤ 16 ∧ 17 ≤ x3.toInt + n → ∀ (H : Heap) (locs : List Loc) (ls : Array Slot), mwG G A ad (encT G.2 ad s1) H → va_S A s.heap H locs → lv_has ls 4 [(0, .ref (ad (0))), (1, .int (a1)), (2, .int (x2)), (3, .int (x3))] → (∀ (H : Heap) (locs : List Loc) (ls : Array Slot), mwG G A ad (encT G.2 ad s1) H → va_S A s.heap H locs → lv_has ls 4 [(0, .ref (ad (0))), (1, .int (a1)), (2, .int (h_T_offer_36 s1 a1 n x2 x3))] → W p l e (headSpec ws_T_offer { frames := 2, cells := 0, slots := 0, locals := 44 }).room s m [.ref (ad (0)), .int (a1)].toArray below meth c H locs 0 0 Q (F0 m 65 ls [])) → W p l e (headSpec ws_T_offer { frames := 2, cells := 0, slots := 0, locals := 44 }).room s m [.ref (ad (0)), .int (a1)].toArray below meth c H locs 0 0 Q (F0 m 36 ls []) := by
    intro Q s1 n
    induction n with
    | zero =>
      intro x2 x3 hI
      exact absurd hI.2 (by omega)
    | succ n ih =>
      intro x2 x3 hI H locs ls hw hS hl hQ
      refine lv_iload_n hx hb d_T_offer_36 rfl (lv_at hl 3 rfl) ?_
      refine lv_aload_n hx hb d_T_offer_37 rfl (lv_at hl 0 rfl) ?_
      refine mw_get (v := .int (s1 0 2)) hx hb hts in_T hown hK.1 hw (0) cT_0 rfl 2 (by decide) (hts _ tw_411) rfl d_T_offer_38 ?_
      refine lv_icmp_ge (tgt := 65) hx hb d_T_offer_41 (by decide) (fun h361 => ?_) (fun h361 => ?_)
      · skip
        have e9 : h_T_offer_36 s1 a1 (n + 1) x2 x3 = x2 := by rw [h_T_offer_36]; exact if_pos h361
        exact hQ _ _ _ hw hS (by rw [e9]; exact lv_sub hl [0, 1, 2] rfl)
      · skip
        refine lv_aload_n hx hb d_T_offer_44 rfl (lv_at hl 0 rfl) ?_
        refine lv_iload_n hx hb d_T_offer_45 rfl (lv_at hl 1 rfl) ?_
        refine lv_iload_n hx hb d_T_offer_46 rfl (lv_at hl 3 rfl) ?_
        refine gV (As := [.int (a1), .int (x3)]) (rest := []) (st1 := [.int (f_T_mayGet s1 a1 x3)]) ⟨hx, hb, hml, hown, hts⟩ (cc_T_mayGet l G A ad  s1 a1 x3 hI.1 hm (lt_in hI.1 hI.2.1 h361)) cT_0 rfl tw_602 tw_599 tw_601 tw_p40 tw_4 hd_T_mayGet rfl rfl ⟨Nat.le_of_ble_eq_true rfl, Nat.le_of_ble_eq_true rfl⟩ hK hw hS hl.1 rfl (Nat.le_of_ble_eq_true rfl) ⟨Nat.zero_le _, Nat.zero_le _⟩ d_T_offer_47 rfl (fun H locs hw hS => ?_)
        refine lv_if_eq (tgt := 57) hx hb d_T_offer_50 (by decide) (fun h362 => ?_) (fun h362 => ?_)
        · skip
          refine lv_iload_n hx hb d_T_offer_57 rfl (lv_at hl 2 rfl) ?_
          refine lv_istore_n (lv' := [(2, .int (x2)), (0, .ref (ad (0))), (1, .int (a1)), (3, .int (x3))]) hx hb d_T_offer_58 rfl hl (by decide) rfl (fun ls hl => ?_)
          refine lv_iinc (v := x3 + 1) (lv' := [(3, .int (x3 + 1)), (2, .int (x2)), (0, .ref (ad (0))), (1, .int (a1))]) hx hb d_T_offer_59 hl (k := 3) rfl (by first | rfl | decide) (by decide) rfl (fun ls hl => ?_)
          refine lv_goto (tgt := 36) hx hb d_T_offer_62 (by decide) ?_
          have e9 : h_T_offer_36 s1 a1 (n + 1) x2 x3 = h_T_offer_36 s1 a1 n x2 (x3 + 1) := by rw [h_T_offer_36]; exact (if_neg h361).trans (if_pos h362)
          refine ih x2 (x3 + 1) ⟨hI.1, lt_S hI.1 hI.2 h361⟩ _ _ _ hw hS (lv_sub hl [2, 3, 1, 0] rfl) (fun H locs ls hw hS hl => hQ H locs ls hw hS (by rw [e9]; exact hl))
        · skip
          refine lv_iload_n hx hb d_T_offer_53 rfl (lv_at hl 3 rfl) ?_
          refine lv_goto (tgt := 58) hx hb d_T_offer_54 (by decide) ?_
          refine lv_istore_n (lv' := [(2, .int (x3)), (0, .ref (ad (0))), (1, .int (a1)), (3, .int (x3))]) hx hb d_T_offer_58 rfl hl (by decide) rfl (fun ls hl => ?_)
          refine lv_iinc (v := x3 + 1) (lv' := [(3, .int (x3 + 1)), (2, .int (x3)), (0, .ref (ad (0))), (1, .int (a1))]) hx hb d_T_offer_59 hl (k := 3) rfl (by first | rfl | decide) (by decide) rfl (fun ls hl => ?_)
          refine lv_goto (tgt := 36) hx hb d_T_offer_62 (by decide) ?_
          have e9 : h_T_offer_36 s1 a1 (n + 1) x2 x3 = h_T_offer_36 s1 a1 n x3 (x3 + 1) := by rw [h_T_offer_36]; exact (if_neg h361).trans (if_neg h362)
          refine ih x3 (x3 + 1) ⟨hI.1, lt_S hI.1 hI.2 h361⟩ _ _ _ hw hS (lv_sub hl [2, 3, 1, 0] rfl) (fun H locs ls hw hS hl => hQ H locs ls hw hS (by rw [e9]; exact hl))
  have hl := lv_entry ([.ref (ad (0)), .int (a1)]) (n := 4) (Nat.le_of_ble_eq_true rfl)
  rw [lg_entry_eq]
  generalize (lg_sl ([.ref (ad (0)), .int (a1)]) ++ List.replicate (4 - (lg_sl ([.ref (ad (0)), .int (a1)])).length) Slot.unset).toArray = ls at hl ⊢
  have hl : lv_has ls 4 [(0, .ref (ad (0))), (1, .int (a1))] := hl
  refine lv_aload_n hx hb d_T_offer_0 rfl (lv_at hl 0 rfl) ?_
  refine mw_get (v := .ref (ad (23))) hx hb hts in_T hown hK.1 hw (0) cT_0 rfl 23 (by decide) (hts _ tw_432) rfl d_T_offer_1 ?_
  refine lv_iload_n hx hb d_T_offer_4 rfl (lv_at hl 1 rfl) ?_
  refine mw_iald hx hb hK.1 hw (23) 0 cT_23 rfl hm d_T_offer_5 ?_
  refine lv_iconst (v := -1) hx hb d_T_offer_6 (by decide) ?_
  refine lv_icmp_eq (tgt := 32) hx hb d_T_offer_7 (by decide) (fun h1 => ?_) (fun h1 => ?_)
  · skip
    refine lv_iconst (v := -1) hx hb d_T_offer_32 (by decide) ?_
    refine lv_istore_n (lv' := [(2, .int (-1)), (0, .ref (ad (0))), (1, .int (a1))]) hx hb d_T_offer_33 rfl hl (by decide) rfl (fun ls hl => ?_)
    refine lv_iconst (v := 0) hx hb d_T_offer_34 (by decide) ?_
    refine lv_istore_n (lv' := [(3, .int (0)), (2, .int (-1)), (0, .ref (ad (0))), (1, .int (a1))]) hx hb d_T_offer_35 rfl hl (by decide) rfl (fun ls hl => ?_)
    refine loop_36 _ s0 17 (-1) 0 ⟨hW, by decide⟩ _ _ _ hw hS (lv_sub hl [2, 3, 1, 0] rfl) (fun H locs ls hw hS hl => ?_)
    refine lv_aload_n hx hb d_T_offer_65 rfl (lv_at hl 0 rfl) ?_
    refine mw_get (v := .ref (ad (22))) hx hb hts in_T hown hK.1 hw (0) cT_0 rfl 22 (by decide) (hts _ tw_431) rfl d_T_offer_66 ?_
    refine lv_iload_n hx hb d_T_offer_69 rfl (lv_at hl 1 rfl) ?_
    refine mw_iald hx hb hK.1 hw (22) 0 cT_22 rfl hm d_T_offer_70 ?_
    refine lv_istore_n (lv' := [(3, .int (s0 (22) (Int32.toNatClampNeg a1))), (0, .ref (ad (0))), (1, .int (a1)), (2, .int (h_T_offer_36 s0 a1 17 (-1) 0))]) hx hb d_T_offer_71 rfl hl (by decide) rfl (fun ls hl => ?_)
    refine lv_iload_n hx hb d_T_offer_72 rfl (lv_at hl 0 rfl) ?_
    refine lv_iload_n hx hb d_T_offer_73 rfl (lv_at hl 3 rfl) ?_
    refine lv_icmp_le (tgt := 120) hx hb d_T_offer_74 (by decide) (fun h2 => ?_) (fun h2 => ?_)
    · skip
      refine lv_iload_n hx hb d_T_offer_120 rfl (lv_at hl 3 rfl) ?_
      have e9 : f_T_offer s0 a1 = h_T_offer_36 s0 a1 17 (-1) 0 := by unfold f_T_offer; exact (if_pos h1).trans (if_pos h2)
      exact mw_iret hx hb hr rfl hw hS (congrArg (fun z => some (Value.int z)) e9.symm) ⟨rfl, rfl⟩ hlocks d_T_offer_121
    · skip
      refine lv_aload_n hx hb d_T_offer_77 rfl (lv_at hl 1 rfl) ?_
      refine mw_get (v := .ref (ad (5))) hx hb hts in_T hown hK.1 hw (0) cT_0 rfl 5 (by decide) (hts _ tw_414) rfl d_T_offer_78 ?_
      refine lv_iload_n hx hb d_T_offer_81 rfl (lv_at hl 0 rfl) ?_
      refine mw_iald hx hb hK.1 hw (5) 0 cT_5 rfl (has_in hW hm (of_rg s0 a1 hW 17 (-1) 0 (by decide) (by decide)).1 h2) d_T_offer_82 ?_
      refine lv_aload_n hx hb d_T_offer_83 rfl (lv_at hl 1 rfl) ?_
      refine mw_get (v := .ref (ad (20))) hx hb hts in_T hown hK.1 hw (0) cT_0 rfl 20 (by decide) (hts _ tw_429) rfl d_T_offer_84 ?_
      refine lv_iload_n hx hb d_T_offer_87 rfl (lv_at hl 2 rfl) ?_
      refine mw_iald hx hb hK.1 hw (20) 0 cT_20 rfl hm d_T_offer_88 ?_
      refine lv_icmp_ne (tgt := 120) hx hb d_T_offer_89 (by decide) (fun h3 => ?_) (fun h3 => ?_)
      · skip
        refine lv_iload_n hx hb d_T_offer_120 rfl (lv_at hl 3 rfl) ?_
        have e9 : f_T_offer s0 a1 = h_T_offer_36 s0 a1 17 (-1) 0 := by unfold f_T_offer; exact (if_pos h1).trans ((if_neg h2).trans (if_neg h3))
        exact mw_iret hx hb hr rfl hw hS (congrArg (fun z => some (Value.int z)) e9.symm) ⟨rfl, rfl⟩ hlocks d_T_offer_121
      · skip
        refine lv_aload_n hx hb d_T_offer_92 rfl (lv_at hl 1 rfl) ?_
        refine mw_get (v := .ref (ad (12))) hx hb hts in_T hown hK.1 hw (0) cT_0 rfl 12 (by decide) (hts _ tw_421) rfl d_T_offer_93 ?_
        refine lv_iload_n hx hb d_T_offer_96 rfl (lv_at hl 0 rfl) ?_
        refine mw_iald hx hb hK.1 hw (12) 0 cT_12 rfl (has_in hW hm (of_rg s0 a1 hW 17 (-1) 0 (by decide) (by decide)).1 h2) d_T_offer_97 ?_
        refine lv_iconst (v := 4) hx hb d_T_offer_98 (by decide) ?_
        refine lv_icmp_eq (tgt := 120) hx hb d_T_offer_99 (by decide) (fun h4 => ?_) (fun h4 => ?_)
        · skip
          refine lv_iload_n hx hb d_T_offer_120 rfl (lv_at hl 3 rfl) ?_
          have e9 : f_T_offer s0 a1 = h_T_offer_36 s0 a1 17 (-1) 0 := by unfold f_T_offer; exact (if_pos h1).trans ((if_neg h2).trans ((if_pos h3).trans (if_pos h4)))
          exact mw_iret hx hb hr rfl hw hS (congrArg (fun z => some (Value.int z)) e9.symm) ⟨rfl, rfl⟩ hlocks d_T_offer_121
        · skip
          refine lv_aload_n hx hb d_T_offer_102 rfl (lv_at hl 1 rfl) ?_
          refine lv_aload_n hx hb d_T_offer_103 rfl (lv_at hl 1 rfl) ?_
          refine mw_get (v := .ref (ad (5))) hx hb hts in_T hown hK.1 hw (0) cT_0 rfl 5 (by decide) (hts _ tw_414) rfl d_T_offer_104 ?_
          refine lv_iload_n hx hb d_T_offer_107 rfl (lv_at hl 0 rfl) ?_
          refine mw_iald hx hb hK.1 hw (5) 0 cT_5 rfl (has_in hW hm (of_rg s0 a1 hW 17 (-1) 0 (by decide) (by decide)).1 h2) d_T_offer_108 ?_
          refine lv_iload_n hx hb d_T_offer_109 rfl (lv_at hl 0 rfl) ?_
          refine gV (As := [.int (s0 (5) (Int32.toNatClampNeg (s0 (22) (Int32.toNatClampNeg a1)))), .int (s0 (22) (Int32.toNatClampNeg a1))]) (rest := []) (st1 := [.int (f_T_isBounded s0 (s0 (5) (Int32.toNatClampNeg (s0 (22) (Int32.toNatClampNeg a1)))) (s0 (22) (Int32.toNatClampNeg a1)))]) ⟨hx, hb, hml, hown, hts⟩ (cc_T_isBounded l G A ad  s0 (s0 (5) (Int32.toNatClampNeg (s0 (22) (Int32.toNatClampNeg a1)))) (s0 (22) (Int32.toNatClampNeg a1)) (ch_in hW (has_in hW hm (of_rg s0 a1 hW 17 (-1) 0 (by decide) (by decide)).1 h2))) cT_0 rfl tw_606 tw_603 tw_605 tw_p41 tw_4 hd_T_isBounded rfl rfl ⟨Nat.le_of_ble_eq_true rfl, Nat.le_of_ble_eq_true rfl⟩ hK hw hS hl.1 rfl (Nat.le_of_ble_eq_true rfl) ⟨Nat.zero_le _, Nat.zero_le _⟩ d_T_offer_110 rfl (fun H locs hw hS => ?_)
          refine lv_if_ne (tgt := 120) hx hb d_T_offer_113 (by decide) (fun h5 => ?_) (fun h5 => ?_)
          · skip
            refine lv_iload_n hx hb d_T_offer_120 rfl (lv_at hl 3 rfl) ?_
            have e9 : f_T_offer s0 a1 = h_T_offer_36 s0 a1 17 (-1) 0 := by unfold f_T_offer; exact (if_pos h1).trans ((if_neg h2).trans ((if_pos h3).trans ((if_neg h4).trans (if_neg h5))))
            exact mw_iret hx hb hr rfl hw hS (congrArg (fun z => some (Value.int z)) e9.symm) ⟨rfl, rfl⟩ hlocks d_T_offer_121
          · skip
            refine lv_iload_n hx hb d_T_offer_116 rfl (lv_at hl 0 rfl) ?_
            refine lv_goto (tgt := 121) hx hb d_T_offer_117 (by decide) ?_
            have e9 : f_T_offer s0 a1 = s0 (22) (Int32.toNatClampNeg a1) := by unfold f_T_offer; exact (if_pos h1).trans ((if_neg h2).trans ((if_pos h3).trans ((if_neg h4).trans (if_pos h5))))
            exact mw_iret hx hb hr rfl hw hS (congrArg (fun z => some (Value.int z)) e9.symm) ⟨rfl, rfl⟩ hlocks d_T_offer_121
  · skip
    refine lv_aload_n hx hb d_T_offer_10 rfl (lv_at hl 0 rfl) ?_
    refine mw_get (v := .ref (ad (12))) hx hb hts in_T hown hK.1 hw (0) cT_0 rfl 12 (by decide) (hts _ tw_421) rfl d_T_offer_11 ?_
    refine lv_aload_n hx hb d_T_offer_14 rfl (lv_at hl 0 rfl) ?_
    refine mw_get (v := .ref (ad (23))) hx hb hts in_T hown hK.1 hw (0) cT_0 rfl 23 (by decide) (hts _ tw_432) rfl d_T_offer_15 ?_
    refine lv_iload_n hx hb d_T_offer_18 rfl (lv_at hl 1 rfl) ?_
    refine mw_iald hx hb hK.1 hw (23) 0 cT_23 rfl hm d_T_offer_19 ?_
    refine mw_iald hx hb hK.1 hw (12) 0 cT_12 rfl (pin_in hW hm h1) d_T_offer_20 ?_
    refine lv_iconst (v := 4) hx hb d_T_offer_21 (by decide) ?_
    refine lv_icmp_eq (tgt := 32) hx hb d_T_offer_22 (by decide) (fun h6 => ?_) (fun h6 => ?_)
    · skip
      refine lv_iconst (v := -1) hx hb d_T_offer_32 (by decide) ?_
      refine lv_istore_n (lv' := [(2, .int (-1)), (0, .ref (ad (0))), (1, .int (a1))]) hx hb d_T_offer_33 rfl hl (by decide) rfl (fun ls hl => ?_)
      refine lv_iconst (v := 0) hx hb d_T_offer_34 (by decide) ?_
      refine lv_istore_n (lv' := [(3, .int (0)), (2, .int (-1)), (0, .ref (ad (0))), (1, .int (a1))]) hx hb d_T_offer_35 rfl hl (by decide) rfl (fun ls hl => ?_)
      refine loop_36 _ s0 17 (-1) 0 ⟨hW, by decide⟩ _ _ _ hw hS (lv_sub hl [2, 3, 1, 0] rfl) (fun H locs ls hw hS hl => ?_)
      refine lv_aload_n hx hb d_T_offer_65 rfl (lv_at hl 0 rfl) ?_
      refine mw_get (v := .ref (ad (22))) hx hb hts in_T hown hK.1 hw (0) cT_0 rfl 22 (by decide) (hts _ tw_431) rfl d_T_offer_66 ?_
      refine lv_iload_n hx hb d_T_offer_69 rfl (lv_at hl 1 rfl) ?_
      refine mw_iald hx hb hK.1 hw (22) 0 cT_22 rfl hm d_T_offer_70 ?_
      refine lv_istore_n (lv' := [(3, .int (s0 (22) (Int32.toNatClampNeg a1))), (0, .ref (ad (0))), (1, .int (a1)), (2, .int (h_T_offer_36 s0 a1 17 (-1) 0))]) hx hb d_T_offer_71 rfl hl (by decide) rfl (fun ls hl => ?_)
      refine lv_iload_n hx hb d_T_offer_72 rfl (lv_at hl 0 rfl) ?_
      refine lv_iload_n hx hb d_T_offer_73 rfl (lv_at hl 3 rfl) ?_
      refine lv_icmp_le (tgt := 120) hx hb d_T_offer_74 (by decide) (fun h7 => ?_) (fun h7 => ?_)
      · skip
        refine lv_iload_n hx hb d_T_offer_120 rfl (lv_at hl 3 rfl) ?_
        have e9 : f_T_offer s0 a1 = h_T_offer_36 s0 a1 17 (-1) 0 := by unfold f_T_offer; exact (if_neg h1).trans ((if_pos h6).trans (if_pos h7))
        exact mw_iret hx hb hr rfl hw hS (congrArg (fun z => some (Value.int z)) e9.symm) ⟨rfl, rfl⟩ hlocks d_T_offer_121
      · skip
        refine lv_aload_n hx hb d_T_offer_77 rfl (lv_at hl 1 rfl) ?_
        refine mw_get (v := .ref (ad (5))) hx hb hts in_T hown hK.1 hw (0) cT_0 rfl 5 (by decide) (hts _ tw_414) rfl d_T_offer_78 ?_
        refine lv_iload_n hx hb d_T_offer_81 rfl (lv_at hl 0 rfl) ?_
        refine mw_iald hx hb hK.1 hw (5) 0 cT_5 rfl (has_in hW hm (of_rg s0 a1 hW 17 (-1) 0 (by decide) (by decide)).1 h7) d_T_offer_82 ?_
        refine lv_aload_n hx hb d_T_offer_83 rfl (lv_at hl 1 rfl) ?_
        refine mw_get (v := .ref (ad (20))) hx hb hts in_T hown hK.1 hw (0) cT_0 rfl 20 (by decide) (hts _ tw_429) rfl d_T_offer_84 ?_
        refine lv_iload_n hx hb d_T_offer_87 rfl (lv_at hl 2 rfl) ?_
        refine mw_iald hx hb hK.1 hw (20) 0 cT_20 rfl hm d_T_offer_88 ?_
        refine lv_icmp_ne (tgt := 120) hx hb d_T_offer_89 (by decide) (fun h8 => ?_) (fun h8 => ?_)
        · skip
          refine lv_iload_n hx hb d_T_offer_120 rfl (lv_at hl 3 rfl) ?_
          have e9 : f_T_offer s0 a1 = h_T_offer_36 s0 a1 17 (-1) 0 := by unfold f_T_offer; exact (if_neg h1).trans ((if_pos h6).trans ((if_neg h7).trans (if_neg h8)))
          exact mw_iret hx hb hr rfl hw hS (congrArg (fun z => some (Value.int z)) e9.symm) ⟨rfl, rfl⟩ hlocks d_T_offer_121
        · skip
          refine lv_aload_n hx hb d_T_offer_92 rfl (lv_at hl 1 rfl) ?_
          refine mw_get (v := .ref (ad (12))) hx hb hts in_T hown hK.1 hw (0) cT_0 rfl 12 (by decide) (hts _ tw_421) rfl d_T_offer_93 ?_
          refine lv_iload_n hx hb d_T_offer_96 rfl (lv_at hl 0 rfl) ?_
          refine mw_iald hx hb hK.1 hw (12) 0 cT_12 rfl (has_in hW hm (of_rg s0 a1 hW 17 (-1) 0 (by decide) (by decide)).1 h7) d_T_offer_97 ?_
          refine lv_iconst (v := 4) hx hb d_T_offer_98 (by decide) ?_
          refine lv_icmp_eq (tgt := 120) hx hb d_T_offer_99 (by decide) (fun h9 => ?_) (fun h9 => ?_)
          · skip
            refine lv_iload_n hx hb d_T_offer_120 rfl (lv_at hl 3 rfl) ?_
            have e9 : f_T_offer s0 a1 = h_T_offer_36 s0 a1 17 (-1) 0 := by unfold f_T_offer; exact (if_neg h1).trans ((if_pos h6).trans ((if_neg h7).trans ((if_pos h8).trans (if_pos h9))))
            exact mw_iret hx hb hr rfl hw hS (congrArg (fun z => some (Value.int z)) e9.symm) ⟨rfl, rfl⟩ hlocks d_T_offer_121
          · skip
            refine lv_aload_n hx hb d_T_offer_102 rfl (lv_at hl 1 rfl) ?_
            refine lv_aload_n hx hb d_T_offer_103 rfl (lv_at hl 1 rfl) ?_
            refine mw_get (v := .ref (ad (5))) hx hb hts in_T hown hK.1 hw (0) cT_0 rfl 5 (by decide) (hts _ tw_414) rfl d_T_offer_104 ?_
            refine lv_iload_n hx hb d_T_offer_107 rfl (lv_at hl 0 rfl) ?_
            refine mw_iald hx hb hK.1 hw (5) 0 cT_5 rfl (has_in hW hm (of_rg s0 a1 hW 17 (-1) 0 (by decide) (by decide)).1 h7) d_T_offer_108 ?_
            refine lv_iload_n hx hb d_T_offer_109 rfl (lv_at hl 0 rfl) ?_
            refine gV (As := [.int (s0 (5) (Int32.toNatClampNeg (s0 (22) (Int32.toNatClampNeg a1)))), .int (s0 (22) (Int32.toNatClampNeg a1))]) (rest := []) (st1 := [.int (f_T_isBounded s0 (s0 (5) (Int32.toNatClampNeg (s0 (22) (Int32.toNatClampNeg a1)))) (s0 (22) (Int32.toNatClampNeg a1)))]) ⟨hx, hb, hml, hown, hts⟩ (cc_T_isBounded l G A ad  s0 (s0 (5) (Int32.toNatClampNeg (s0 (22) (Int32.toNatClampNeg a1)))) (s0 (22) (Int32.toNatClampNeg a1)) (ch_in hW (has_in hW hm (of_rg s0 a1 hW 17 (-1) 0 (by decide) (by decide)).1 h7))) cT_0 rfl tw_606 tw_603 tw_605 tw_p41 tw_4 hd_T_isBounded rfl rfl ⟨Nat.le_of_ble_eq_true rfl, Nat.le_of_ble_eq_true rfl⟩ hK hw hS hl.1 rfl (Nat.le_of_ble_eq_true rfl) ⟨Nat.zero_le _, Nat.zero_le _⟩ d_T_offer_110 rfl (fun H locs hw hS => ?_)
            refine lv_if_ne (tgt := 120) hx hb d_T_offer_113 (by decide) (fun h10 => ?_) (fun h10 => ?_)
            · skip
              refine lv_iload_n hx hb d_T_offer_120 rfl (lv_at hl 3 rfl) ?_
              have e9 : f_T_offer s0 a1 = h_T_offer_36 s0 a1 17 (-1) 0 := by unfold f_T_offer; exact (if_neg h1).trans ((if_pos h6).trans ((if_neg h7).trans ((if_pos h8).trans ((if_neg h9).trans (if_neg h10)))))
              exact mw_iret hx hb hr rfl hw hS (congrArg (fun z => some (Value.int z)) e9.symm) ⟨rfl, rfl⟩ hlocks d_T_offer_121
            · skip
              refine lv_iload_n hx hb d_T_offer_116 rfl (lv_at hl 0 rfl) ?_
              refine lv_goto (tgt := 121) hx hb d_T_offer_117 (by decide) ?_
              have e9 : f_T_offer s0 a1 = s0 (22) (Int32.toNatClampNeg a1) := by unfold f_T_offer; exact (if_neg h1).trans ((if_pos h6).trans ((if_neg h7).trans ((if_pos h8).trans ((if_neg h9).trans (if_pos h10)))))
              exact mw_iret hx hb hr rfl hw hS (congrArg (fun z => some (Value.int z)) e9.symm) ⟨rfl, rfl⟩ hlocks d_T_offer_121
    · skip
      refine lv_aload_n hx hb d_T_offer_25 rfl (lv_at hl 0 rfl) ?_
      refine mw_get (v := .ref (ad (23))) hx hb hts in_T hown hK.1 hw (0) cT_0 rfl 23 (by decide) (hts _ tw_432) rfl d_T_offer_26 ?_
      refine lv_iload_n hx hb d_T_offer_29 rfl (lv_at hl 1 rfl) ?_
      refine mw_iald hx hb hK.1 hw (23) 0 cT_23 rfl hm d_T_offer_30 ?_
      have e9 : f_T_offer s0 a1 = s0 (23) (Int32.toNatClampNeg a1) := by unfold f_T_offer; exact (if_neg h1).trans (if_neg h6)
      exact mw_iret hx hb hr rfl hw hS (congrArg (fun z => some (Value.int z)) e9.symm) ⟨rfl, rfl⟩ hlocks d_T_offer_31

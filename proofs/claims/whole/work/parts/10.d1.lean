theorem i_up {x : Int32} (h0 : -1 ≤ x.toInt) (h : x.toInt < 2147483647) : (x + 1).toInt = x.toInt + 1 := by
  rw [Int32.toInt_add, show (1 : Int32).toInt = 1 from rfl, Int.bmod_def]
  omega
theorem i_dn {x : Int32} (h0 : 0 ≤ x.toInt) : (x + (-1)).toInt = x.toInt - 1 := by
  have h1 := Int32.toInt_lt x
  rw [Int32.toInt_add, show (-1 : Int32).toInt = -1 from rfl, Int.bmod_def]
  omega
theorem i_le {a b : Int32} : a ≤ b ↔ a.toInt ≤ b.toInt := Int32.le_iff_toInt_le
theorem i_lt {a b : Int32} : a < b ↔ a.toInt < b.toInt := Int32.lt_iff_toInt_lt
theorem lp_up {x : Int32} {n : Nat} (hI : 0 ≤ x.toInt ∧ x.toInt ≤ 5 ∧ 6 ≤ x.toInt + ((n + 1 : Nat) : Int)) (h : ¬ 5 ≤ x) : 0 ≤ (x + 1).toInt ∧ (x + 1).toInt ≤ 5 ∧ 6 ≤ (x + 1).toInt + (n : Int) := by
  rw [i_le, show (5 : Int32).toInt = 5 from rfl] at h
  rw [i_up (by omega) (by omega)]
  omega
theorem sc_S {x : Int32} {n : Nat} (hI : 1 ≤ x.toInt ∧ x.toInt ≤ 5 ∧ 6 ≤ x.toInt + ((n + 1 : Nat) : Int)) (h : ¬ 4 < x) : 1 ≤ (x + 1).toInt ∧ (x + 1).toInt ≤ 5 ∧ 6 ≤ (x + 1).toInt + (n : Int) := by
  rw [i_lt, show (4 : Int32).toInt = 4 from rfl] at h
  rw [i_up (by omega) (by omega)]
  omega
theorem dr_S {x : Int32} {n : Nat} (hI : 0 ≤ x.toInt ∧ x.toInt ≤ 16 ∧ 17 ≤ x.toInt + ((n + 1 : Nat) : Int)) (h : ¬ 16 ≤ x) : 0 ≤ (x + 1).toInt ∧ (x + 1).toInt ≤ 16 ∧ 17 ≤ (x + 1).toInt + (n : Int) := by
  rw [i_le, show (16 : Int32).toInt = 16 from rfl] at h
  rw [i_up (by omega) (by omega)]
  omega
theorem dr_in {x : Int32} (h0 : 0 ≤ x.toInt) (h : ¬ 16 ≤ x) : vp_in x 16 := by
  rw [i_le, show (16 : Int32).toInt = 16 from rfl] at h
  rw [vp_in_iff]
  omega
theorem ct_S {x y : Int32} {n : Nat} (hc : 0 ≤ y.toInt ∧ y.toInt ≤ 40) (hI : 0 ≤ x.toInt ∧ x.toInt ≤ 40 ∧ 41 ≤ x.toInt + ((n + 1 : Nat) : Int)) (h : ¬ y ≤ x) : 0 ≤ (x + 1).toInt ∧ (x + 1).toInt ≤ 40 ∧ 41 ≤ (x + 1).toInt + (n : Int) := by
  rw [i_le] at h
  rw [i_up (by omega) (by omega)]
  omega
theorem ct_in {x y : Int32} (hc : 0 ≤ y.toInt ∧ y.toInt ≤ 40) (h0 : 0 ≤ x.toInt) (h : ¬ y ≤ x) : vp_in x 40 := by
  rw [i_le] at h
  rw [vp_in_iff]
  omega
theorem fl_0 {nA : Nat} (hA : nA < 2 ^ 31) : nI nA = nI nA ∧ 0 ≤ (0 : Int32).toInt ∧ (0 : Int32).toInt ≤ (nA : Int) ∧ (nA : Int) + 1 ≤ (0 : Int32).toInt + ((nA + 1 : Nat) : Int) := by
  rw [Int32.toInt_zero]
  exact ⟨rfl, by omega⟩
theorem fl_S {x y : Int32} {nA n : Nat} (hA : nA < 2 ^ 31) (hI : y = nI nA ∧ 0 ≤ x.toInt ∧ x.toInt ≤ (nA : Int) ∧ (nA : Int) + 1 ≤ x.toInt + ((n + 1 : Nat) : Int)) (h : ¬ y ≤ x) : y = nI nA ∧ 0 ≤ (x + 1).toInt ∧ (x + 1).toInt ≤ (nA : Int) ∧ (nA : Int) + 1 ≤ (x + 1).toInt + (n : Int) := by
  rw [i_le, hI.1, nI_toInt hA] at h
  rw [i_up (by omega) (by omega)]
  exact ⟨hI.1, by omega⟩
theorem fl_in {x y : Int32} {nA : Nat} {P : Prop} (hA : nA < 2 ^ 31) (hI : y = nI nA ∧ 0 ≤ x.toInt ∧ P) (h : ¬ y ≤ x) : vp_in x nA := by
  rw [i_le, hI.1, nI_toInt hA] at h
  rw [vp_in_iff]
  omega
theorem nft_0 {c : Int32} {nr : Nat} (h : c = nI nr) (hn : nr ≤ 16) : -1 ≤ (c - 1).toInt ∧ (c - 1).toInt + 2 ≤ ((17 : Nat) : Int) := by
  rw [h, nI_m1 (by omega)]
  omega
theorem nft_S {x : Int32} {n : Nat} (hI : -1 ≤ x.toInt ∧ x.toInt + 2 ≤ ((n + 1 : Nat) : Int)) (h : ¬ x < 0) : -1 ≤ (x + (-1)).toInt ∧ (x + (-1)).toInt + 2 ≤ (n : Int) := by
  rw [i_lt, Int32.toInt_zero] at h
  rw [i_dn (by omega)]
  omega
theorem tk_S {x c : Int32} {nr n : Nat} (hn : nr ≤ 16) (hI : c = nI nr ∧ 0 ≤ x.toInt ∧ x.toInt ≤ (nr : Int) ∧ 17 ≤ x.toInt + ((n + 1 : Nat) : Int)) (h : ¬ c ≤ x) : 0 ≤ (x + 1).toInt ∧ (x + 1).toInt ≤ (nr : Int) ∧ 17 ≤ (x + 1).toInt + (n : Int) := by
  rw [i_le, hI.1, nI_toInt (by omega)] at h
  rw [i_up (by omega) (by omega)]
  omega
theorem chan_in {n : Int32} (h : ¬ f_C_isChannel n = 0) : vp_in n 3 := within_inC (m := 2) h (by decide)
abbrev rOk (nr : Nat) (n : Int32) : Prop := 0 ≤ n ∧ n.toNatClampNeg < nr
def rVal (ad : Nat → Nat) (nr : Nat) (n : Int32) : Value := if rOk nr n then .ref (ad (10 + 3 * Int32.toNatClampNeg n)) else .null
def mVal (ad : Nat → Nat) (nm : Nat) (n : Int32) : Value := if rOk nm n then .ref (ad (58 + Int32.toNatClampNeg n)) else .null
theorem rVal_p {ad : Nat → Nat} {nr : Nat} {n : Int32} (h : rOk nr n) : rVal ad nr n = .ref (ad (10 + 3 * Int32.toNatClampNeg n)) := if_pos h
theorem rVal_n {ad : Nat → Nat} {nr : Nat} {n : Int32} (h : ¬ rOk nr n) : rVal ad nr n = .null := if_neg h
theorem mVal_p {ad : Nat → Nat} {nr : Nat} {n : Int32} (h : rOk nr n) : mVal ad nr n = .ref (ad (58 + Int32.toNatClampNeg n)) := if_pos h
theorem mVal_n {ad : Nat → Nat} {nr : Nat} {n : Int32} (h : ¬ rOk nr n) : mVal ad nr n = .null := if_neg h
theorem rfRel_p {ad : Nat → Nat} {nr i : Nat} (h : i < nr) : va_rf (rfRel ad nr i) = .ref (ad (10 + 3 * i)) := by simp [rfRel, va_rf, h]
theorem rfRel_n {ad : Nat → Nat} {nr i : Nat} (h : ¬ i < nr) : va_rf (rfRel ad nr i) = .null := by simp [rfRel, va_rf, h]
theorem tnc {n : Int32} (h : 0 ≤ n.toInt) : ((n.toNatClampNeg : Nat) : Int) = n.toInt := by
  show ((n.toInt.toNat : Nat) : Int) = n.toInt
  omega
theorem rVal_in {ad : Nat → Nat} {nr : Nat} {n : Int32} (h : ¬ f_C_within n 0 15 = 0) : va_rf (rfRel ad nr (Int32.toNatClampNeg n)) = rVal ad nr n := by
  rw [within_ne] at h
  by_cases hq : n.toNatClampNeg < nr
  · rw [rfRel_p hq, rVal_p ⟨h.1, hq⟩]
  · rw [rfRel_n hq, rVal_n (fun z => hq z.2)]
theorem mVal_in {ad : Nat → Nat} {nm : Nat} {n : Int32} (h : ¬ f_C_within n 0 29 = 0) : va_rf (rfMac ad nm (Int32.toNatClampNeg n)) = mVal ad nm n := by
  rw [within_ne] at h
  by_cases hq : n.toNatClampNeg < nm
  · rw [mVal_p ⟨h.1, hq⟩]; simp [rfMac, va_rf, hq]
  · rw [mVal_n (fun z => hq z.2)]; simp [rfMac, va_rf, hq]
theorem rVal_out {ad : Nat → Nat} {nr : Nat} {n : Int32} (h : f_C_within n 0 15 = 0) (hn : nr ≤ 16) : Value.null = rVal ad nr n := by
  rw [within_e, i_le, i_le, Int32.toInt_zero, show (15 : Int32).toInt = 15 from rfl] at h
  refine (rVal_n (fun z => h ?_)).symm
  have z1 := z.1
  have z2 := z.2
  rw [i_le, Int32.toInt_zero] at z1
  have z3 := tnc z1
  omega
theorem mVal_out {ad : Nat → Nat} {nm : Nat} {n : Int32} (h : f_C_within n 0 29 = 0) (hn : nm ≤ 30) : Value.null = mVal ad nm n := by
  rw [within_e, i_le, i_le, Int32.toInt_zero, show (29 : Int32).toInt = 29 from rfl] at h
  refine (mVal_n (fun z => h ?_)).symm
  have z1 := z.1
  have z2 := z.2
  rw [i_le, Int32.toInt_zero] at z1
  have z3 := tnc z1
  omega

def g_A_fill (k nA : Nat) (a1 : Int32) : Nat → S2 → Int32 → Int32 → S2
  | 0, s1, _, _ => s1
  | n + 1, s1, x2, x3 =>
    if x3 ≤ x2 then
      s1
    else
      g_A_fill k nA a1 n (up2 s1 (k) (Int32.toNatClampNeg x2) a1) (x2 + 1) x3
def f_A_fill (s0 : S2) (k nA : Nat) (a1 : Int32) : S2 :=
  g_A_fill k nA a1 (nA + 1) s0 0 (nI nA)
set_option maxHeartbeats 4000000 in
set_option maxRecDepth 100000 in
theorem cc_A_fill (l : Launch) (G : Gx) (A : Nat → Prop) (ad : Nat → Nat) (nr nm : Nat) (hnr : nr ≤ 16) (hnm : nm ≤ 30) (s0 : S2) (k nA : Nat) (hk : ∀ r, cellC G.2 ad nr nm k r = some (.inl (G.2 0, nA, .inl r))) (a1 : Int32) (hA : nA < 2 ^ 31) : Met l y_A_fill ws_A_fill { frames := 0, cells := 0, slots := 0, locals := 0 } (PG G [.ref (ad (k)), .int (a1)] A ad (encC G.2 ad nr nm s0)) (EG G A none ad (encC G.2 ad nr nm (f_A_fill s0 k nA a1))) 0 0 A := by
  refine Met.ofW (cc := c_A_fill) (maxL := 4) (ret := none) (by decide) rfl ?_
  intro p e s m args below meth c s₁ B hml hv
  obtain ⟨rfl, hw, hK⟩ := hv
  have hx := B.exec
  have hb := B.bytes
  have hr := B.returns
  have hts : ∀ w ∈ tbG, w.before [.ref (ad (k)), .int (a1)].toArray s = true := fun w h => atoms_spec (ws := ws_A_fill) B.pre w (List.mem_cons_of_mem _ h)
  have hown : s.vm.findClass "java/util/Arrays" = some m.cls := findClass_of_methodNamed B.named
  have hlocks := B.notSynchronized
  have hS : va_S A s.heap s.heap [] := va_S.rf
  have hw : mwG G A ad (encC G.2 ad nr nm s0) s.heap := hw
  have loop : ∀ (n : Nat) (s1 : S2) (x2 : Int32) (x3 : Int32), x3 = nI nA ∧ 0 ≤ x2.toInt ∧ x2.toInt ≤ nA ∧ nA + 1 ≤ x2.toInt + n → ∀ (H : Heap) (locs : List Loc) (ls : Array Slot), mwG G A ad (encC G.2 ad nr nm s1) H → va_S A s.heap H locs → lv_has ls 4 [(0, .ref (ad (k))), (1, .int (a1)), (2, .int (x2)), (3, .int (x3))] → W p l e (headSpec ws_A_fill { frames := 0, cells := 0, slots := 0, locals := 0 }).room s m [.ref (ad (k)), .int (a1)].toArray below meth c H locs 0 0 (MQ below (EG G A none ad (encC G.2 ad nr nm (g_A_fill k nA a1 n s1 x2 x3))) [.ref (ad (k)), .int (a1)].toArray s 0 0 A) (F0 m 5 ls []) := by
    intro n
    induction n with
    | zero =>
      intro s1 x2 x3 hI
      exact absurd hI (by omega)
    | succ n ih =>
      intro s1 x2 x3 hI H locs ls hw hS hl
      refine lv_iload_n hx hb d_A_fill_5 rfl (lv_at hl 2 rfl) ?_
      refine lv_iload_n hx hb d_A_fill_6 rfl (lv_at hl 3 rfl) ?_
      refine lv_icmp_ge (tgt := 20) hx hb d_A_fill_7 (by decide) (fun h501 => ?_) (fun h501 => ?_)
      · skip
        have e9 : g_A_fill k nA a1 (n + 1) s1 x2 x3 = s1 := by rw [g_A_fill]; exact if_pos h501
        exact mw_vret hx hb hr hw hS ⟨rfl, congrArg (fun z => encC G.2 ad nr nm z) e9.symm⟩ hlocks d_A_fill_20
      · skip
        refine lv_aload_n hx hb d_A_fill_10 rfl (lv_at hl 0 rfl) ?_
        refine lv_iload_n hx hb d_A_fill_11 rfl (lv_at hl 2 rfl) ?_
        refine lv_iload_n hx hb d_A_fill_12 rfl (lv_at hl 1 rfl) ?_
        refine mw_iast hx hb hK.1 hw hS (k) 0 (hk _) rfl (fl_in hA hI h501) d_A_fill_13 (fun H locs hw hS => ?_)
        replace hw := mw_encC (r := upd (s1 (k)) (Int32.toNatClampNeg x2) a1) hw (hk _)
        have hw : mwG G A ad (encC G.2 ad nr nm (up2 s1 (k) (Int32.toNatClampNeg x2) a1)) H := hw
        refine lv_iinc (v := x2 + 1) (lv' := [(2, .int (x2 + 1)), (0, .ref (ad (k))), (1, .int (a1)), (3, .int (x3))]) hx hb d_A_fill_14 hl (k := 2) rfl (by first | rfl | decide) (by decide) rfl (fun ls hl => ?_)
        refine lv_goto (tgt := 5) hx hb d_A_fill_17 (by decide) ?_
        have e9 : g_A_fill k nA a1 (n + 1) s1 x2 x3 = g_A_fill k nA a1 n (up2 s1 (k) (Int32.toNatClampNeg x2) a1) (x2 + 1) x3 := by rw [g_A_fill]; exact if_neg h501
        rw [e9]
        exact ih (up2 s1 (k) (Int32.toNatClampNeg x2) a1) (x2 + 1) x3 (fl_S hA hI h501) _ _ _ hw hS (lv_sub hl [1, 2, 0, 3] rfl)
  have hl := lv_entry ([.ref (ad (k)), .int (a1)]) (n := 4) (Nat.le_of_ble_eq_true rfl)
  rw [lg_entry_eq]
  generalize (lg_sl ([.ref (ad (k)), .int (a1)]) ++ List.replicate (4 - (lg_sl ([.ref (ad (k)), .int (a1)])).length) Slot.unset).toArray = ls at hl ⊢
  have hl : lv_has ls 4 [(0, .ref (ad (k))), (1, .int (a1))] := hl
  refine lv_iconst (v := 0) hx hb d_A_fill_0 (by decide) ?_
  refine lv_istore_n (lv' := [(2, .int (0)), (0, .ref (ad (k))), (1, .int (a1))]) hx hb d_A_fill_1 rfl hl (by decide) rfl (fun ls hl => ?_)
  refine lv_aload_n hx hb d_A_fill_2 rfl (lv_at hl 1 rfl) ?_
  refine mw_alen (v := nI nA) hx hb hK.1 hw (k) 0 (hk _) rfl (by first | rfl | decide) d_A_fill_3 ?_
  refine lv_istore_n (lv' := [(3, .int (nI nA)), (2, .int (0)), (0, .ref (ad (k))), (1, .int (a1))]) hx hb d_A_fill_4 rfl hl (by decide) rfl (fun ls hl => ?_)
  have e9 : f_A_fill s0 k nA a1 = g_A_fill k nA a1 (nA + 1) s0 0 (nI nA) := rfl
  rw [e9]
  exact loop (nA + 1) s0 0 (nI nA) (fl_0 hA) _ _ _ hw hS (lv_sub hl [2, 3, 1, 0] rfl)

def f_D_sizeAt (s0 : S2) (k nA : Nat) (a1 : Int32) : Int32 :=
  if (f_C_within a1 0 ((nI nA) - 1)) = 0 then
    2147483647
  else
    s0 (k) (Int32.toNatClampNeg a1)
set_option maxHeartbeats 4000000 in
set_option maxRecDepth 100000 in
theorem cc_D_sizeAt (l : Launch) (G : Gx) (A : Nat → Prop) (ad : Nat → Nat) (nr nm : Nat) (hnr : nr ≤ 16) (hnm : nm ≤ 30) (s0 : S2) (k nA : Nat) (hk : ∀ r, cellC G.2 ad nr nm k r = some (.inl (G.2 0, nA, .inl r))) (a1 : Int32) (hA : nA < 2 ^ 31) : Met l y_D_sizeAt ws_D_sizeAt { frames := 1, cells := 0, slots := 0, locals := 22 } (PG G [.ref (ad (k)), .int (a1)] A ad (encC G.2 ad nr nm s0)) (EG G A (some (.int (f_D_sizeAt s0 k nA a1))) ad (encC G.2 ad nr nm s0)) 0 0 A := by
  refine Met.ofW (cc := c_D_sizeAt) (maxL := 2) (ret := (some .int)) (by decide) rfl ?_
  intro p e s m args below meth c s₁ B hml hv
  obtain ⟨rfl, hw, hK⟩ := hv
  have hx := B.exec
  have hb := B.bytes
  have hr := B.returns
  have hts : ∀ w ∈ tbG, w.before [.ref (ad (k)), .int (a1)].toArray s = true := fun w h => atoms_spec (ws := ws_D_sizeAt) B.pre w (List.mem_cons_of_mem _ h)
  have hown : s.vm.findClass "RollStages$Deltas" = some m.cls := findClass_of_methodNamed B.named
  have hlocks := B.notSynchronized
  have hS : va_S A s.heap s.heap [] := va_S.rf
  have hw : mwG G A ad (encC G.2 ad nr nm s0) s.heap := hw
  have hl := lv_entry ([.ref (ad (k)), .int (a1)]) (n := 2) (Nat.le_of_ble_eq_true rfl)
  rw [lg_entry_eq]
  generalize (lg_sl ([.ref (ad (k)), .int (a1)]) ++ List.replicate (2 - (lg_sl ([.ref (ad (k)), .int (a1)])).length) Slot.unset).toArray = ls at hl ⊢
  have hl : lv_has ls 2 [(0, .ref (ad (k))), (1, .int (a1))] := hl
  refine lv_iload_n hx hb d_D_sizeAt_0 rfl (lv_at hl 1 rfl) ?_
  refine lv_iconst (v := 0) hx hb d_D_sizeAt_1 (by decide) ?_
  refine lv_aload_n hx hb d_D_sizeAt_2 rfl (lv_at hl 0 rfl) ?_
  refine mw_alen (v := nI nA) hx hb hK.1 hw (k) 0 (hk _) rfl (by first | rfl | decide) d_D_sizeAt_3 ?_
  refine lv_iconst (v := 1) hx hb d_D_sizeAt_4 (by decide) ?_
  refine lv_isub hx hb d_D_sizeAt_5 ?_
  refine gSN (As := [.int (a1), .int (0), .int ((nI nA) - 1)]) (rest := []) (st1 := [.int (f_C_within a1 0 ((nI nA) - 1))]) ⟨hx, hb, hml, hown, hts⟩ (cc_C_within l G A ad nr nm hnr hnm s0 a1 0 ((nI nA) - 1)) tw_89 nw_18 tw_88 tw_1 hd_C_within rfl rfl ⟨Nat.le_of_ble_eq_true rfl, Nat.le_of_ble_eq_true rfl⟩ hK hw hS hl.1 rfl (Nat.le_of_ble_eq_true rfl) ⟨Nat.zero_le _, Nat.zero_le _⟩ d_D_sizeAt_6 rfl (fun H locs hw hS => ?_)
  refine lv_if_eq (tgt := 18) hx hb d_D_sizeAt_9 (by decide) (fun h1 => ?_) (fun h1 => ?_)
  · skip
    refine lv_ldc (v := 2147483647) hx hb hown (hts _ tw_371) d_D_sizeAt_18 ?_
    have e9 : f_D_sizeAt s0 k nA a1 = 2147483647 := by unfold f_D_sizeAt; exact if_pos h1
    exact mw_iret hx hb hr rfl hw hS (congrArg (fun z => some (Value.int z)) e9.symm) ⟨rfl, rfl⟩ hlocks d_D_sizeAt_20
  · skip
    refine lv_aload_n hx hb d_D_sizeAt_12 rfl (lv_at hl 0 rfl) ?_
    refine lv_iload_n hx hb d_D_sizeAt_13 rfl (lv_at hl 1 rfl) ?_
    refine mw_iald hx hb hK.1 hw (k) 0 (hk _) rfl (within_inN h1 hA) d_D_sizeAt_14 ?_
    refine lv_goto (tgt := 20) hx hb d_D_sizeAt_15 (by decide) ?_
    have e9 : f_D_sizeAt s0 k nA a1 = s0 (k) (Int32.toNatClampNeg a1) := by unfold f_D_sizeAt; exact if_neg h1
    exact mw_iret hx hb hr rfl hw hS (congrArg (fun z => some (Value.int z)) e9.symm) ⟨rfl, rfl⟩ hlocks d_D_sizeAt_20

def f_D_lower (s0 : S2) (k nA : Nat) (a1 : Int32) (a2 : Int32) : S2 :=
  if (f_C_within a1 0 ((nI nA) - 1)) = 0 then
    s0
  else
    if (s0 (k) (Int32.toNatClampNeg a1)) ≤ a2 then
      s0
    else
      up2 s0 (k) (Int32.toNatClampNeg a1) a2
set_option maxHeartbeats 4000000 in
set_option maxRecDepth 100000 in
theorem cc_D_lower (l : Launch) (G : Gx) (A : Nat → Prop) (ad : Nat → Nat) (nr nm : Nat) (hnr : nr ≤ 16) (hnm : nm ≤ 30) (s0 : S2) (k nA : Nat) (hk : ∀ r, cellC G.2 ad nr nm k r = some (.inl (G.2 0, nA, .inl r))) (a1 : Int32) (a2 : Int32) (hA : nA < 2 ^ 31) : Met l y_D_lower ws_D_lower { frames := 1, cells := 0, slots := 0, locals := 22 } (PG G [.ref (ad (k)), .int (a1), .int (a2)] A ad (encC G.2 ad nr nm s0)) (EG G A none ad (encC G.2 ad nr nm (f_D_lower s0 k nA a1 a2))) 0 0 A := by
  refine Met.ofW (cc := c_D_lower) (maxL := 3) (ret := none) (by decide) rfl ?_
  intro p e s m args below meth c s₁ B hml hv
  obtain ⟨rfl, hw, hK⟩ := hv
  have hx := B.exec
  have hb := B.bytes
  have hr := B.returns
  have hts : ∀ w ∈ tbG, w.before [.ref (ad (k)), .int (a1), .int (a2)].toArray s = true := fun w h => atoms_spec (ws := ws_D_lower) B.pre w (List.mem_cons_of_mem _ h)
  have hown : s.vm.findClass "RollStages$Deltas" = some m.cls := findClass_of_methodNamed B.named
  have hlocks := B.notSynchronized
  have hS : va_S A s.heap s.heap [] := va_S.rf
  have hw : mwG G A ad (encC G.2 ad nr nm s0) s.heap := hw
  have hl := lv_entry ([.ref (ad (k)), .int (a1), .int (a2)]) (n := 3) (Nat.le_of_ble_eq_true rfl)
  rw [lg_entry_eq]
  generalize (lg_sl ([.ref (ad (k)), .int (a1), .int (a2)]) ++ List.replicate (3 - (lg_sl ([.ref (ad (k)), .int (a1), .int (a2)])).length) Slot.unset).toArray = ls at hl ⊢
  have hl : lv_has ls 3 [(0, .ref (ad (k))), (1, .int (a1)), (2, .int (a2))] := hl
  refine lv_iload_n hx hb d_D_lower_0 rfl (lv_at hl 1 rfl) ?_
  refine lv_iconst (v := 0) hx hb d_D_lower_1 (by decide) ?_
  refine lv_aload_n hx hb d_D_lower_2 rfl (lv_at hl 0 rfl) ?_
  refine mw_alen (v := nI nA) hx hb hK.1 hw (k) 0 (hk _) rfl (by first | rfl | decide) d_D_lower_3 ?_
  refine lv_iconst (v := 1) hx hb d_D_lower_4 (by decide) ?_
  refine lv_isub hx hb d_D_lower_5 ?_
  refine gSN (As := [.int (a1), .int (0), .int ((nI nA) - 1)]) (rest := []) (st1 := [.int (f_C_within a1 0 ((nI nA) - 1))]) ⟨hx, hb, hml, hown, hts⟩ (cc_C_within l G A ad nr nm hnr hnm s0 a1 0 ((nI nA) - 1)) tw_89 nw_18 tw_88 tw_1 hd_C_within rfl rfl ⟨Nat.le_of_ble_eq_true rfl, Nat.le_of_ble_eq_true rfl⟩ hK hw hS hl.1 rfl (Nat.le_of_ble_eq_true rfl) ⟨Nat.zero_le _, Nat.zero_le _⟩ d_D_lower_6 rfl (fun H locs hw hS => ?_)
  refine lv_if_eq (tgt := 23) hx hb d_D_lower_9 (by decide) (fun h1 => ?_) (fun h1 => ?_)
  · skip
    have e9 : f_D_lower s0 k nA a1 a2 = s0 := by unfold f_D_lower; exact if_pos h1
    exact mw_vret hx hb hr hw hS ⟨rfl, congrArg (fun z => encC G.2 ad nr nm z) e9.symm⟩ hlocks d_D_lower_23
  · skip
    refine lv_iload_n hx hb d_D_lower_12 rfl (lv_at hl 2 rfl) ?_
    refine lv_aload_n hx hb d_D_lower_13 rfl (lv_at hl 0 rfl) ?_
    refine lv_iload_n hx hb d_D_lower_14 rfl (lv_at hl 1 rfl) ?_
    refine mw_iald hx hb hK.1 hw (k) 0 (hk _) rfl (within_inN h1 hA) d_D_lower_15 ?_
    refine lv_icmp_ge (tgt := 23) hx hb d_D_lower_16 (by decide) (fun h2 => ?_) (fun h2 => ?_)
    · skip
      have e9 : f_D_lower s0 k nA a1 a2 = s0 := by unfold f_D_lower; exact (if_neg h1).trans (if_pos h2)
      exact mw_vret hx hb hr hw hS ⟨rfl, congrArg (fun z => encC G.2 ad nr nm z) e9.symm⟩ hlocks d_D_lower_23
    · skip
      refine lv_aload_n hx hb d_D_lower_19 rfl (lv_at hl 0 rfl) ?_
      refine lv_iload_n hx hb d_D_lower_20 rfl (lv_at hl 1 rfl) ?_
      refine lv_iload_n hx hb d_D_lower_21 rfl (lv_at hl 2 rfl) ?_
      refine mw_iast hx hb hK.1 hw hS (k) 0 (hk _) rfl (within_inN h1 hA) d_D_lower_22 (fun H locs hw hS => ?_)
      replace hw := mw_encC (r := upd (s0 (k)) (Int32.toNatClampNeg a1) a2) hw (hk _)
      have hw : mwG G A ad (encC G.2 ad nr nm (up2 s0 (k) (Int32.toNatClampNeg a1) a2)) H := hw
      have e9 : f_D_lower s0 k nA a1 a2 = up2 s0 (k) (Int32.toNatClampNeg a1) a2 := by unfold f_D_lower; exact (if_neg h1).trans (if_neg h2)
      exact mw_vret hx hb hr hw hS ⟨rfl, congrArg (fun z => encC G.2 ad nr nm z) e9.symm⟩ hlocks d_D_lower_23

def f_D_setWay (s0 : S2) (a1 : Int32) (a2 : Int32) : S2 :=
  up2 (up2 s0 (4) 6 a1) (4) 7 a2
set_option maxHeartbeats 4000000 in
set_option maxRecDepth 100000 in
theorem cc_D_setWay (l : Launch) (G : Gx) (A : Nat → Prop) (ad : Nat → Nat) (nr nm : Nat) (hnr : nr ≤ 16) (hnm : nm ≤ 30) (s0 : S2) (a1 : Int32) (a2 : Int32) : Met l y_D_setWay ws_D_setWay { frames := 0, cells := 0, slots := 0, locals := 0 } (PG G [.ref (ad (4)), .int (a1), .int (a2)] A ad (encC G.2 ad nr nm s0)) (EG G A none ad (encC G.2 ad nr nm (f_D_setWay s0 a1 a2))) 0 0 A := by
  refine Met.ofW (cc := c_D_setWay) (maxL := 3) (ret := none) (by decide) rfl ?_
  intro p e s m args below meth c s₁ B hml hv
  obtain ⟨rfl, hw, hK⟩ := hv
  have hx := B.exec
  have hb := B.bytes
  have hr := B.returns
  have hts : ∀ w ∈ tbG, w.before [.ref (ad (4)), .int (a1), .int (a2)].toArray s = true := fun w h => atoms_spec (ws := ws_D_setWay) B.pre w (List.mem_cons_of_mem _ h)
  have hown : s.vm.findClass "RollStages$Deltas" = some m.cls := findClass_of_methodNamed B.named
  have hlocks := B.notSynchronized
  have hS : va_S A s.heap s.heap [] := va_S.rf
  have hw : mwG G A ad (encC G.2 ad nr nm s0) s.heap := hw
  have hl := lv_entry ([.ref (ad (4)), .int (a1), .int (a2)]) (n := 3) (Nat.le_of_ble_eq_true rfl)
  rw [lg_entry_eq]
  generalize (lg_sl ([.ref (ad (4)), .int (a1), .int (a2)]) ++ List.replicate (3 - (lg_sl ([.ref (ad (4)), .int (a1), .int (a2)])).length) Slot.unset).toArray = ls at hl ⊢
  have hl : lv_has ls 3 [(0, .ref (ad (4))), (1, .int (a1)), (2, .int (a2))] := hl
  refine lv_aload_n hx hb d_D_setWay_0 rfl (lv_at hl 0 rfl) ?_
  refine lv_iload_n hx hb d_D_setWay_1 rfl (lv_at hl 1 rfl) ?_
  refine mw_put (v := .int (a1)) hx hb hts in_D ty_D ty_D_ok n_D hown hK.1 hw hS (4) cC_4 rfl 6 (by decide) (hts _ tw_33) rfl rfl rfl (Nat.le_of_ble_eq_true rfl) d_D_setWay_2 (fun H locs hw hS => ?_)
  replace hw := mw_encC (r := upd (s0 (4)) 6 a1) hw cC_4
  have hw : mwG G A ad (encC G.2 ad nr nm (up2 s0 (4) 6 a1)) H := hw
  refine lv_aload_n hx hb d_D_setWay_5 rfl (lv_at hl 0 rfl) ?_
  refine lv_iload_n hx hb d_D_setWay_6 rfl (lv_at hl 2 rfl) ?_
  refine mw_put (v := .int (a2)) hx hb hts in_D ty_D ty_D_ok n_D hown hK.1 hw hS (4) cC_4 rfl 7 (by decide) (hts _ tw_35) rfl rfl rfl (Nat.le_of_ble_eq_true rfl) d_D_setWay_7 (fun H locs hw hS => ?_)
  replace hw := mw_encC (r := upd ((up2 s0 (4) 6 a1) (4)) 7 a2) hw cC_4
  have hw : mwG G A ad (encC G.2 ad nr nm (up2 (up2 s0 (4) 6 a1) (4) 7 a2)) H := hw
  have e9 : f_D_setWay s0 a1 a2 = up2 (up2 s0 (4) 6 a1) (4) 7 a2 := by unfold f_D_setWay; exact rfl
  exact mw_vret hx hb hr hw hS ⟨rfl, congrArg (fun z => encC G.2 ad nr nm z) e9.symm⟩ hlocks d_D_setWay_10

theorem fillg_fr (k nA : Nat) (a1 : Int32) : ∀ (n : Nat) (s : S2) (x2 x3 : Int32) (q : Nat), q ≠ k → g_A_fill k nA a1 n s x2 x3 q = s q := by
  intro n
  induction n with
  | zero => intro s x2 x3 q h; rfl
  | succ n ih =>
    intro s x2 x3 q h
    rw [g_A_fill]
    split
    · rfl
    · rw [ih _ _ _ _ h, up2_ne h]
theorem fill_fr (s : S2) (k nA : Nat) (a1 : Int32) {q : Nat} (h : q ≠ k) : f_A_fill s k nA a1 q = s q := fillg_fr k nA a1 _ s _ _ q h
theorem lower_fr {s : S2} {k nA : Nat} {a1 a2 : Int32} {q : Nat} (h : q ≠ k) : f_D_lower s k nA a1 a2 q = s q := by
  unfold f_D_lower
  repeat' split
  all_goals first | rfl | exact up2_ne h
theorem setWay_3 (s : S2) (a1 a2 : Int32) : f_D_setWay s a1 a2 4 3 = s 4 3 := by
  unfold f_D_setWay
  rw [up2_at, if_neg (by decide), up2_at, if_neg (by decide)]

def g_D_placeOf (s0 : S2) (a1 : Int32) (a2 : Int32) : Nat → Int32 → Int32
  | 0, _ => 0
  | n + 1, x3 =>
    if (s0 4 3) ≤ x3 then
      s0 4 3
    else
      if (s0 (5) (Int32.toNatClampNeg x3)) = a1 then
        if (s0 (6) (Int32.toNatClampNeg x3)) = a2 then
          x3
        else
          g_D_placeOf s0 a1 a2 n (x3 + 1)
      else
        g_D_placeOf s0 a1 a2 n (x3 + 1)
def f_D_placeOf (s0 : S2) (a1 : Int32) (a2 : Int32) : Int32 :=
  g_D_placeOf s0 a1 a2 41 0
set_option maxHeartbeats 4000000 in
set_option maxRecDepth 100000 in
theorem cc_D_placeOf (l : Launch) (G : Gx) (A : Nat → Prop) (ad : Nat → Nat) (nr nm : Nat) (hnr : nr ≤ 16) (hnm : nm ≤ 30) (s0 : S2) (a1 : Int32) (a2 : Int32) (hct : 0 ≤ (s0 4 3).toInt ∧ (s0 4 3).toInt ≤ 40) : Met l y_D_placeOf ws_D_placeOf { frames := 0, cells := 0, slots := 0, locals := 0 } (PG G [.ref (ad (4)), .int (a1), .int (a2)] A ad (encC G.2 ad nr nm s0)) (EG G A (some (.int (f_D_placeOf s0 a1 a2))) ad (encC G.2 ad nr nm s0)) 0 0 A := by
  refine Met.ofW (cc := c_D_placeOf) (maxL := 4) (ret := (some .int)) (by decide) rfl ?_
  intro p e s m args below meth c s₁ B hml hv
  obtain ⟨rfl, hw, hK⟩ := hv
  have hx := B.exec
  have hb := B.bytes
  have hr := B.returns
  have hts : ∀ w ∈ tbG, w.before [.ref (ad (4)), .int (a1), .int (a2)].toArray s = true := fun w h => atoms_spec (ws := ws_D_placeOf) B.pre w (List.mem_cons_of_mem _ h)
  have hown : s.vm.findClass "RollStages$Deltas" = some m.cls := findClass_of_methodNamed B.named
  have hlocks := B.notSynchronized
  have hS : va_S A s.heap s.heap [] := va_S.rf
  have hw : mwG G A ad (encC G.2 ad nr nm s0) s.heap := hw
  have loop : ∀ (n : Nat) (x3 : Int32), 0 ≤ x3.toInt ∧ x3.toInt ≤ 40 ∧ 41 ≤ x3.toInt + n → ∀ (H : Heap) (locs : List Loc) (ls : Array Slot), mwG G A ad (encC G.2 ad nr nm s0) H → va_S A s.heap H locs → lv_has ls 4 [(0, .ref (ad (4))), (1, .int (a1)), (2, .int (a2)), (3, .int (x3))] → W p l e (headSpec ws_D_placeOf { frames := 0, cells := 0, slots := 0, locals := 0 }).room s m [.ref (ad (4)), .int (a1), .int (a2)].toArray below meth c H locs 0 0 (MQ below (EG G A (some (.int (g_D_placeOf s0 a1 a2 n x3))) ad (encC G.2 ad nr nm s0)) [.ref (ad (4)), .int (a1), .int (a2)].toArray s 0 0 A) (F0 m 2 ls []) := by
    intro n
    induction n with
    | zero =>
      intro x3 hI
      exact absurd hI (by omega)
    | succ n ih =>
      intro x3 hI H locs ls hw hS hl
      refine lv_iload_n hx hb d_D_placeOf_2 rfl (lv_at hl 3 rfl) ?_
      refine lv_aload_n hx hb d_D_placeOf_3 rfl (lv_at hl 0 rfl) ?_
      refine mw_get (v := .int (s0 4 3)) hx hb hts in_D hown hK.1 hw (4) cC_4 rfl 3 (by decide) (hts _ tw_30) rfl d_D_placeOf_4 ?_
      refine lv_icmp_ge (tgt := 38) hx hb d_D_placeOf_7 (by decide) (fun h501 => ?_) (fun h501 => ?_)
      · skip
        refine lv_aload_n hx hb d_D_placeOf_38 rfl (lv_at hl 0 rfl) ?_
        refine mw_get (v := .int (s0 4 3)) hx hb hts in_D hown hK.1 hw (4) cC_4 rfl 3 (by decide) (hts _ tw_30) rfl d_D_placeOf_39 ?_
        have e9 : g_D_placeOf s0 a1 a2 (n + 1) x3 = s0 4 3 := by rw [g_D_placeOf]; exact if_pos h501
        exact mw_iret hx hb hr rfl hw hS (congrArg (fun z => some (Value.int z)) e9.symm) ⟨rfl, rfl⟩ hlocks d_D_placeOf_42
      · skip
        refine lv_aload_n hx hb d_D_placeOf_10 rfl (lv_at hl 0 rfl) ?_
        refine mw_get (v := .ref (ad (5))) hx hb hts in_D hown hK.1 hw (4) cC_4 rfl 0 (by decide) (hts _ tw_27) rfl d_D_placeOf_11 ?_
        refine lv_iload_n hx hb d_D_placeOf_14 rfl (lv_at hl 3 rfl) ?_
        refine mw_iald hx hb hK.1 hw (5) 0 cC_5 rfl (ct_in hct hI.1 h501) d_D_placeOf_15 ?_
        refine lv_iload_n hx hb d_D_placeOf_16 rfl (lv_at hl 1 rfl) ?_
        refine lv_icmp_ne (tgt := 32) hx hb d_D_placeOf_17 (by decide) (fun h502 => ?_) (fun h502 => ?_)
        · skip
          refine lv_iinc (v := x3 + 1) (lv' := [(3, .int (x3 + 1)), (0, .ref (ad (4))), (1, .int (a1)), (2, .int (a2))]) hx hb d_D_placeOf_32 hl (k := 3) rfl (by first | rfl | decide) (by decide) rfl (fun ls hl => ?_)
          refine lv_goto (tgt := 2) hx hb d_D_placeOf_35 (by decide) ?_
          have e9 : g_D_placeOf s0 a1 a2 (n + 1) x3 = g_D_placeOf s0 a1 a2 n (x3 + 1) := by rw [g_D_placeOf]; exact (if_neg h501).trans (if_neg h502)
          rw [e9]
          exact ih (x3 + 1) (ct_S hct hI h501) _ _ _ hw hS (lv_sub hl [1, 2, 3, 0] rfl)
        · skip
          refine lv_aload_n hx hb d_D_placeOf_20 rfl (lv_at hl 0 rfl) ?_
          refine mw_get (v := .ref (ad (6))) hx hb hts in_D hown hK.1 hw (4) cC_4 rfl 1 (by decide) (hts _ tw_28) rfl d_D_placeOf_21 ?_
          refine lv_iload_n hx hb d_D_placeOf_24 rfl (lv_at hl 3 rfl) ?_
          refine mw_iald hx hb hK.1 hw (6) 0 cC_6 rfl (ct_in hct hI.1 h501) d_D_placeOf_25 ?_
          refine lv_iload_n hx hb d_D_placeOf_26 rfl (lv_at hl 2 rfl) ?_
          refine lv_icmp_ne (tgt := 32) hx hb d_D_placeOf_27 (by decide) (fun h503 => ?_) (fun h503 => ?_)
          · skip
            refine lv_iinc (v := x3 + 1) (lv' := [(3, .int (x3 + 1)), (0, .ref (ad (4))), (1, .int (a1)), (2, .int (a2))]) hx hb d_D_placeOf_32 hl (k := 3) rfl (by first | rfl | decide) (by decide) rfl (fun ls hl => ?_)
            refine lv_goto (tgt := 2) hx hb d_D_placeOf_35 (by decide) ?_
            have e9 : g_D_placeOf s0 a1 a2 (n + 1) x3 = g_D_placeOf s0 a1 a2 n (x3 + 1) := by rw [g_D_placeOf]; exact (if_neg h501).trans ((if_pos h502).trans (if_neg h503))
            rw [e9]
            exact ih (x3 + 1) (ct_S hct hI h501) _ _ _ hw hS (lv_sub hl [1, 2, 3, 0] rfl)
          · skip
            refine lv_iload_n hx hb d_D_placeOf_30 rfl (lv_at hl 3 rfl) ?_
            have e9 : g_D_placeOf s0 a1 a2 (n + 1) x3 = x3 := by rw [g_D_placeOf]; exact (if_neg h501).trans ((if_pos h502).trans (if_pos h503))
            exact mw_iret hx hb hr rfl hw hS (congrArg (fun z => some (Value.int z)) e9.symm) ⟨rfl, rfl⟩ hlocks d_D_placeOf_31
  have hl := lv_entry ([.ref (ad (4)), .int (a1), .int (a2)]) (n := 4) (Nat.le_of_ble_eq_true rfl)
  rw [lg_entry_eq]
  generalize (lg_sl ([.ref (ad (4)), .int (a1), .int (a2)]) ++ List.replicate (4 - (lg_sl ([.ref (ad (4)), .int (a1), .int (a2)])).length) Slot.unset).toArray = ls at hl ⊢
  have hl : lv_has ls 4 [(0, .ref (ad (4))), (1, .int (a1)), (2, .int (a2))] := hl
  refine lv_iconst (v := 0) hx hb d_D_placeOf_0 (by decide) ?_
  refine lv_istore_n (lv' := [(3, .int (0)), (0, .ref (ad (4))), (1, .int (a1)), (2, .int (a2))]) hx hb d_D_placeOf_1 rfl hl (by decide) rfl (fun ls hl => ?_)
  have e9 : f_D_placeOf s0 a1 a2 = g_D_placeOf s0 a1 a2 41 0 := rfl
  rw [e9]
  exact loop 41 0 (by decide) _ _ _ hw hS (lv_sub hl [1, 2, 3, 0] rfl)

def f_D_put (s0 : S2) (a1 : Int32) (a2 : Int32) (a3 : Int32) : Int32 × S2 :=
  if (f_C_within (f_D_placeOf s0 a1 a2) 0 39) = 0 then
    (0, s0)
  else
    (1, up2 (up2 (up2 (up2 s0 (5) (Int32.toNatClampNeg (f_D_placeOf s0 a1 a2)) a1) (6) (Int32.toNatClampNeg (f_D_placeOf s0 a1 a2)) a2) (7) (Int32.toNatClampNeg (f_D_placeOf s0 a1 a2)) a3) (4) 3 (if ((up2 (up2 (up2 s0 (5) (Int32.toNatClampNeg (f_D_placeOf s0 a1 a2)) a1) (6) (Int32.toNatClampNeg (f_D_placeOf s0 a1 a2)) a2) (7) (Int32.toNatClampNeg (f_D_placeOf s0 a1 a2)) a3) 4 3) < ((f_D_placeOf s0 a1 a2) + 1) then (f_D_placeOf s0 a1 a2) + 1 else (up2 (up2 (up2 s0 (5) (Int32.toNatClampNeg (f_D_placeOf s0 a1 a2)) a1) (6) (Int32.toNatClampNeg (f_D_placeOf s0 a1 a2)) a2) (7) (Int32.toNatClampNeg (f_D_placeOf s0 a1 a2)) a3) 4 3))
theorem fb_D_put (s0 : S2) (a1 : Int32) (a2 : Int32) (a3 : Int32) : narrow .boolean (.int ((f_D_put s0 a1 a2 a3).1)) = .int ((f_D_put s0 a1 a2 a3).1) := by
  unfold f_D_put
  repeat' split
  all_goals first | rfl | exact narrow_b0 | exact narrow_b1
set_option maxHeartbeats 4000000 in
set_option maxRecDepth 100000 in
theorem cc_D_put (l : Launch) (G : Gx) (A : Nat → Prop) (ad : Nat → Nat) (nr nm : Nat) (hnr : nr ≤ 16) (hnm : nm ≤ 30) (s0 : S2) (a1 : Int32) (a2 : Int32) (a3 : Int32) (hct : 0 ≤ (s0 4 3).toInt ∧ (s0 4 3).toInt ≤ 40) : Met l y_D_put ws_D_put { frames := 1, cells := 0, slots := 0, locals := 23 } (PG G [.ref (ad (4)), .int (a1), .int (a2), .int (a3)] A ad (encC G.2 ad nr nm s0)) (EG G A (some (.int (f_D_put s0 a1 a2 a3).1)) ad (encC G.2 ad nr nm ((f_D_put s0 a1 a2 a3).2))) 0 0 A := by
  refine Met.ofW (cc := c_D_put) (maxL := 5) (ret := (some .boolean)) (by decide) rfl ?_
  intro p e s m args below meth c s₁ B hml hv
  obtain ⟨rfl, hw, hK⟩ := hv
  have hx := B.exec
  have hb := B.bytes
  have hr := B.returns
  have hts : ∀ w ∈ tbG, w.before [.ref (ad (4)), .int (a1), .int (a2), .int (a3)].toArray s = true := fun w h => atoms_spec (ws := ws_D_put) B.pre w (List.mem_cons_of_mem _ h)
  have hown : s.vm.findClass "RollStages$Deltas" = some m.cls := findClass_of_methodNamed B.named
  have hlocks := B.notSynchronized
  have hS : va_S A s.heap s.heap [] := va_S.rf
  have hw : mwG G A ad (encC G.2 ad nr nm s0) s.heap := hw
  have hl := lv_entry ([.ref (ad (4)), .int (a1), .int (a2), .int (a3)]) (n := 5) (Nat.le_of_ble_eq_true rfl)
  rw [lg_entry_eq]
  generalize (lg_sl ([.ref (ad (4)), .int (a1), .int (a2), .int (a3)]) ++ List.replicate (5 - (lg_sl ([.ref (ad (4)), .int (a1), .int (a2), .int (a3)])).length) Slot.unset).toArray = ls at hl ⊢
  have hl : lv_has ls 5 [(0, .ref (ad (4))), (1, .int (a1)), (2, .int (a2)), (3, .int (a3))] := hl
  refine lv_aload_n hx hb d_D_put_0 rfl (lv_at hl 0 rfl) ?_
  refine lv_iload_n hx hb d_D_put_1 rfl (lv_at hl 1 rfl) ?_
  refine lv_iload_n hx hb d_D_put_2 rfl (lv_at hl 2 rfl) ?_
  refine gV (As := [.int (a1), .int (a2)]) (rest := []) (st1 := [.int (f_D_placeOf s0 a1 a2)]) ⟨hx, hb, hml, hown, hts⟩ (cc_D_placeOf l G A ad nr nm hnr hnm s0 a1 a2 hct) cC_4 rfl tw_352 tw_349 tw_351 tw_p27 tw_2 hd_D_placeOf rfl rfl ⟨Nat.le_of_ble_eq_true rfl, Nat.le_of_ble_eq_true rfl⟩ hK hw hS hl.1 rfl (Nat.le_of_ble_eq_true rfl) ⟨Nat.zero_le _, Nat.zero_le _⟩ d_D_put_3 rfl (fun H locs hw hS => ?_)
  refine lv_istore (lv' := [(4, .int (f_D_placeOf s0 a1 a2)), (0, .ref (ad (4))), (1, .int (a1)), (2, .int (a2)), (3, .int (a3))]) hx hb d_D_put_6 hl (by decide) rfl (fun ls hl => ?_)
  refine lv_iload hx hb d_D_put_8 (lv_at hl 0 rfl) ?_
  refine lv_iconst (v := 0) hx hb d_D_put_10 (by decide) ?_
  refine lv_bipush (v := 39) hx hb d_D_put_11 (by decide) ?_
  refine gSN (As := [.int (f_D_placeOf s0 a1 a2), .int (0), .int (39)]) (rest := []) (st1 := [.int (f_C_within (f_D_placeOf s0 a1 a2) 0 39)]) ⟨hx, hb, hml, hown, hts⟩ (cc_C_within l G A ad nr nm hnr hnm s0 (f_D_placeOf s0 a1 a2) 0 39) tw_89 nw_18 tw_88 tw_1 hd_C_within rfl rfl ⟨Nat.le_of_ble_eq_true rfl, Nat.le_of_ble_eq_true rfl⟩ hK hw hS hl.1 rfl (Nat.le_of_ble_eq_true rfl) ⟨Nat.zero_le _, Nat.zero_le _⟩ d_D_put_13 rfl (fun H locs hw hS => ?_)
  refine lv_if_ne (tgt := 21) hx hb d_D_put_16 (by decide) (fun h1 => ?_) (fun h1 => ?_)
  · skip
    refine lv_aload_n hx hb d_D_put_21 rfl (lv_at hl 1 rfl) ?_
    refine mw_get (v := .ref (ad (5))) hx hb hts in_D hown hK.1 hw (4) cC_4 rfl 0 (by decide) (hts _ tw_27) rfl d_D_put_22 ?_
    refine lv_iload hx hb d_D_put_25 (lv_at hl 0 rfl) ?_
    refine lv_iload_n hx hb d_D_put_27 rfl (lv_at hl 2 rfl) ?_
    refine mw_iast hx hb hK.1 hw hS (5) 0 cC_5 rfl (within_inC h1 (by decide)) d_D_put_28 (fun H locs hw hS => ?_)
    replace hw := mw_encC (r := upd (s0 (5)) (Int32.toNatClampNeg (f_D_placeOf s0 a1 a2)) a1) hw cC_5
    have hw : mwG G A ad (encC G.2 ad nr nm (up2 s0 (5) (Int32.toNatClampNeg (f_D_placeOf s0 a1 a2)) a1)) H := hw
    refine lv_aload_n hx hb d_D_put_29 rfl (lv_at hl 1 rfl) ?_
    refine mw_get (v := .ref (ad (6))) hx hb hts in_D hown hK.1 hw (4) cC_4 rfl 1 (by decide) (hts _ tw_28) rfl d_D_put_30 ?_
    refine lv_iload hx hb d_D_put_33 (lv_at hl 0 rfl) ?_
    refine lv_iload_n hx hb d_D_put_35 rfl (lv_at hl 3 rfl) ?_
    refine mw_iast hx hb hK.1 hw hS (6) 0 cC_6 rfl (within_inC h1 (by decide)) d_D_put_36 (fun H locs hw hS => ?_)
    replace hw := mw_encC (r := upd ((up2 s0 (5) (Int32.toNatClampNeg (f_D_placeOf s0 a1 a2)) a1) (6)) (Int32.toNatClampNeg (f_D_placeOf s0 a1 a2)) a2) hw cC_6
    have hw : mwG G A ad (encC G.2 ad nr nm (up2 (up2 s0 (5) (Int32.toNatClampNeg (f_D_placeOf s0 a1 a2)) a1) (6) (Int32.toNatClampNeg (f_D_placeOf s0 a1 a2)) a2)) H := hw
    refine lv_aload_n hx hb d_D_put_37 rfl (lv_at hl 1 rfl) ?_
    refine mw_get (v := .ref (ad (7))) hx hb hts in_D hown hK.1 hw (4) cC_4 rfl 2 (by decide) (hts _ tw_29) rfl d_D_put_38 ?_
    refine lv_iload hx hb d_D_put_41 (lv_at hl 0 rfl) ?_
    refine lv_iload_n hx hb d_D_put_43 rfl (lv_at hl 4 rfl) ?_
    refine mw_iast hx hb hK.1 hw hS (7) 0 cC_7 rfl (within_inC h1 (by decide)) d_D_put_44 (fun H locs hw hS => ?_)
    replace hw := mw_encC (r := upd ((up2 (up2 s0 (5) (Int32.toNatClampNeg (f_D_placeOf s0 a1 a2)) a1) (6) (Int32.toNatClampNeg (f_D_placeOf s0 a1 a2)) a2) (7)) (Int32.toNatClampNeg (f_D_placeOf s0 a1 a2)) a3) hw cC_7
    have hw : mwG G A ad (encC G.2 ad nr nm (up2 (up2 (up2 s0 (5) (Int32.toNatClampNeg (f_D_placeOf s0 a1 a2)) a1) (6) (Int32.toNatClampNeg (f_D_placeOf s0 a1 a2)) a2) (7) (Int32.toNatClampNeg (f_D_placeOf s0 a1 a2)) a3)) H := hw
    refine lv_aload_n hx hb d_D_put_45 rfl (lv_at hl 1 rfl) ?_
    refine lv_aload_n hx hb d_D_put_46 rfl (lv_at hl 1 rfl) ?_
    refine mw_get (v := .int ((up2 (up2 (up2 s0 (5) (Int32.toNatClampNeg (f_D_placeOf s0 a1 a2)) a1) (6) (Int32.toNatClampNeg (f_D_placeOf s0 a1 a2)) a2) (7) (Int32.toNatClampNeg (f_D_placeOf s0 a1 a2)) a3) 4 3)) hx hb hts in_D hown hK.1 hw (4) cC_4 rfl 3 (by decide) (hts _ tw_30) rfl d_D_put_47 ?_
    refine lv_iload hx hb d_D_put_50 (lv_at hl 0 rfl) ?_
    refine lv_iconst (v := 1) hx hb d_D_put_52 (by decide) ?_
    refine lv_iadd hx hb d_D_put_53 ?_
    refine va_mmax hx hb (hml.trans hl.1.symm) hown (hts _ tw_354) (hts _ tw_222) (hts _ tw_6) (hts _ tw_223) (Nat.le_of_ble_eq_true rfl) (Nat.le_of_ble_eq_true rfl) (Nat.le_of_ble_eq_true rfl) (Nat.le_of_ble_eq_true rfl) d_D_put_54 ?_
    refine mw_put (v := .int (if ((up2 (up2 (up2 s0 (5) (Int32.toNatClampNeg (f_D_placeOf s0 a1 a2)) a1) (6) (Int32.toNatClampNeg (f_D_placeOf s0 a1 a2)) a2) (7) (Int32.toNatClampNeg (f_D_placeOf s0 a1 a2)) a3) 4 3) < ((f_D_placeOf s0 a1 a2) + 1) then (f_D_placeOf s0 a1 a2) + 1 else (up2 (up2 (up2 s0 (5) (Int32.toNatClampNeg (f_D_placeOf s0 a1 a2)) a1) (6) (Int32.toNatClampNeg (f_D_placeOf s0 a1 a2)) a2) (7) (Int32.toNatClampNeg (f_D_placeOf s0 a1 a2)) a3) 4 3)) hx hb hts in_D ty_D ty_D_ok n_D hown hK.1 hw hS (4) cC_4 rfl 3 (by decide) (hts _ tw_30) rfl rfl rfl (Nat.le_of_ble_eq_true rfl) d_D_put_57 (fun H locs hw hS => ?_)
    replace hw := mw_encC (r := upd ((up2 (up2 (up2 s0 (5) (Int32.toNatClampNeg (f_D_placeOf s0 a1 a2)) a1) (6) (Int32.toNatClampNeg (f_D_placeOf s0 a1 a2)) a2) (7) (Int32.toNatClampNeg (f_D_placeOf s0 a1 a2)) a3) (4)) 3 (if ((up2 (up2 (up2 s0 (5) (Int32.toNatClampNeg (f_D_placeOf s0 a1 a2)) a1) (6) (Int32.toNatClampNeg (f_D_placeOf s0 a1 a2)) a2) (7) (Int32.toNatClampNeg (f_D_placeOf s0 a1 a2)) a3) 4 3) < ((f_D_placeOf s0 a1 a2) + 1) then (f_D_placeOf s0 a1 a2) + 1 else (up2 (up2 (up2 s0 (5) (Int32.toNatClampNeg (f_D_placeOf s0 a1 a2)) a1) (6) (Int32.toNatClampNeg (f_D_placeOf s0 a1 a2)) a2) (7) (Int32.toNatClampNeg (f_D_placeOf s0 a1 a2)) a3) 4 3)) hw cC_4
    have hw : mwG G A ad (encC G.2 ad nr nm (up2 (up2 (up2 (up2 s0 (5) (Int32.toNatClampNeg (f_D_placeOf s0 a1 a2)) a1) (6) (Int32.toNatClampNeg (f_D_placeOf s0 a1 a2)) a2) (7) (Int32.toNatClampNeg (f_D_placeOf s0 a1 a2)) a3) (4) 3 (if ((up2 (up2 (up2 s0 (5) (Int32.toNatClampNeg (f_D_placeOf s0 a1 a2)) a1) (6) (Int32.toNatClampNeg (f_D_placeOf s0 a1 a2)) a2) (7) (Int32.toNatClampNeg (f_D_placeOf s0 a1 a2)) a3) 4 3) < ((f_D_placeOf s0 a1 a2) + 1) then (f_D_placeOf s0 a1 a2) + 1 else (up2 (up2 (up2 s0 (5) (Int32.toNatClampNeg (f_D_placeOf s0 a1 a2)) a1) (6) (Int32.toNatClampNeg (f_D_placeOf s0 a1 a2)) a2) (7) (Int32.toNatClampNeg (f_D_placeOf s0 a1 a2)) a3) 4 3))) H := hw
    refine lv_iconst (v := 1) hx hb d_D_put_60 (by decide) ?_
    have e9 : f_D_put s0 a1 a2 a3 = (1, up2 (up2 (up2 (up2 s0 (5) (Int32.toNatClampNeg (f_D_placeOf s0 a1 a2)) a1) (6) (Int32.toNatClampNeg (f_D_placeOf s0 a1 a2)) a2) (7) (Int32.toNatClampNeg (f_D_placeOf s0 a1 a2)) a3) (4) 3 (if ((up2 (up2 (up2 s0 (5) (Int32.toNatClampNeg (f_D_placeOf s0 a1 a2)) a1) (6) (Int32.toNatClampNeg (f_D_placeOf s0 a1 a2)) a2) (7) (Int32.toNatClampNeg (f_D_placeOf s0 a1 a2)) a3) 4 3) < ((f_D_placeOf s0 a1 a2) + 1) then (f_D_placeOf s0 a1 a2) + 1 else (up2 (up2 (up2 s0 (5) (Int32.toNatClampNeg (f_D_placeOf s0 a1 a2)) a1) (6) (Int32.toNatClampNeg (f_D_placeOf s0 a1 a2)) a2) (7) (Int32.toNatClampNeg (f_D_placeOf s0 a1 a2)) a3) 4 3)) := by unfold f_D_put; exact if_neg h1
    exact mw_iret hx hb hr rfl hw hS (congrArg (fun z => some (Value.int z.1)) e9.symm) ⟨rfl, congrArg (fun z => encC G.2 ad nr nm z.2) e9.symm⟩ hlocks d_D_put_61
  · skip
    refine lv_iconst (v := 0) hx hb d_D_put_19 (by decide) ?_
    have e9 : f_D_put s0 a1 a2 a3 = (0, s0) := by unfold f_D_put; exact if_pos h1
    exact mw_iret hx hb hr rfl hw hS (congrArg (fun z => some (Value.int z.1)) e9.symm) ⟨rfl, congrArg (fun z => encC G.2 ad nr nm z.2) e9.symm⟩ hlocks d_D_put_20

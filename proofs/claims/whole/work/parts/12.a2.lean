def s00 : S2 := fun _ _ => 0
def adC (a0 a1 a2 a3 a4 a5 a6 a7 a8 a9 : Nat) : Nat → Nat := fun k => [a0, a1, a2, a3, a4, a5, a6, a7, a8, a9].getD k 0
theorem encC_none {g : Nat → ClassId} {ad : Nat → Nat} {s : S2} {k : Nat} (h : 10 ≤ k) : encC g ad 0 0 s k = none := by
  show cellC g ad 0 0 k (s k) = none
  unfold cellC
  rw [if_neg (by omega), if_neg (by omega), if_neg (by omega), if_neg (by omega), if_neg (by omega), if_neg (by omega), if_neg (by omega)]
  by_cases h1 : k < 58
  · rw [if_pos h1, if_neg (by omega)]
  · rw [if_neg h1, if_neg (by omega)]

set_option maxHeartbeats 4000000 in
set_option maxRecDepth 100000 in
theorem ca_C_init (l : Launch) (G : Gx) (h0 sz : Nat) : Met l y_C_init ws_C_init { frames := 2, cells := 9, slots := 209, locals := 60 } (va_Pc [.ref h0] (fun U => U.heap.size = sz ∧ va_P G.1 vcl [(h0, .inr (0, [.null, .null, .null, .null, .int 0, .int 0, .int 0]))] U.heap ∧ va_D (fun _ => True) [(h0, .inr (0, [.null, .null, .null, .null, .int 0, .int 0, .int 0]))] ∧ KK G U)) (mE (va_A [(h0, .inr (0, [.null, .null, .null, .null, .int 0, .int 0, .int 0]))] sz) G.1 vcl none (fun ad1 E1 => ad1 0 = h0 ∧ E1 = encC G.2 ad1 0 0 (f_A_fill s00 3 3 (-1)))) 9 209 (va_A [(h0, .inr (0, [.null, .null, .null, .null, .int 0, .int 0, .int 0]))] sz) := by
  refine Met.ofW (cc := c_C_init) (maxL := 1) (ret := none) (by decide) rfl ?_
  intro p e s m args below meth c s₁ B hml hv
  obtain ⟨rfl, hsz, hP, hD0, hK⟩ := hv
  have hx := B.exec
  have hb := B.bytes
  have hr := B.returns
  have hts : ∀ w ∈ tbG, w.before [.ref h0].toArray s = true := fun w h => atoms_spec (ws := ws_C_init) B.pre w (List.mem_cons_of_mem _ h)
  have hown : s.vm.findClass "RollStages" = some m.cls := findClass_of_methodNamed B.named
  have hlocks := B.notSynchronized
  have hin : meth.name = "<init>" := (name_of_methodNamed B.named B.method).1
  subst hsz
  have hD := hD0.self (sz := s.heap.size)
  generalize hAe : va_A [(h0, .inr (0, [.null, .null, .null, .null, .int 0, .int 0, .int 0]))] s.heap.size = A at hD ⊢
  have hA : ∀ q : Nat, s.heap.size ≤ q → A q := fun q h => by rw [← hAe]; exact Or.inr h
  have hS : va_S A s.heap s.heap [] := va_S.rf
  have hP : va_P G.1 vcl [(h0, .inr (0, [.null, .null, .null, .null, .int 0, .int 0, .int 0]))] s.heap := hP
  have hl := lv_entry ([.ref h0]) (n := 1) (Nat.le_of_ble_eq_true rfl)
  rw [lg_entry_eq]
  generalize (lg_sl ([.ref h0]) ++ List.replicate (1 - (lg_sl ([.ref h0])).length) Slot.unset).toArray = ls at hl ⊢
  have hl : lv_has ls 1 [(0, .ref h0)] := hl
  refine lv_aload_n hx hb d_C_init_0 rfl (lv_at hl 0 rfl) ?_
  refine W.objInit hx hb hown (hts _ tw_14) (hts _ tw_15) (hts _ tw_16) rfl (by rw [hml]; exact hl.1) rfl d_C_init_1 (Nat.le_of_ble_eq_true rfl) (Nat.le_of_ble_eq_true rfl) ?_
  refine W.eq (g2 := F0 m 4 ls []) rfl ?_
  refine lv_aload_n hx hb d_C_init_4 rfl (lv_at hl 0 rfl) ?_
  refine lv_bipush (v := 16) hx hb d_C_init_5 (by decide) ?_
  refine la_newq (k := 1) (N' := 16) hx hb hown (hts _ tw_17) hK.2.2.2.1 hK hP hD hS hA rfl (by decide) (by decide) (by decide) (Nat.le_of_ble_eq_true rfl) (Nat.le_of_ble_eq_true rfl) d_C_init_7 (fun q7 H hP hD hS => ?_)
  have hP : va_P G.1 vcl [(h0, .inr (0, [.null, .null, .null, .null, .int 0, .int 0, .int 0])), (q7, .inl (G.2 1, 16, .inr (.inr (.inr (.inr (fun _ => none))))))] H := hP
  have hD : va_D A [(h0, .inr (0, [.null, .null, .null, .null, .int 0, .int 0, .int 0])), (q7, .inl (G.2 1, 16, .inr (.inr (.inr (.inr (fun _ => none))))))] := hD
  refine va_putF (D := G.1) (ci := 0) (v := .ref q7) (ty := .array (.object "RollStages$Release")) (C := R_C) (T := F_C) (N := 7) hx hb hts in_C ty_C ty_C_ok n_C hown hK.1 hP hD hS 0 rfl rfl 0 (by decide) (hts _ tw_58) (fun _ h9 => h9) rfl hin rfl (by decide +kernel) rfl rfl (Nat.le_of_ble_eq_true rfl) d_C_init_10 (fun H locs hP hD hS => ?_)
  have hP : va_P G.1 vcl [(h0, .inr (0, [.ref q7, .null, .null, .null, .int 0, .int 0, .int 0])), (q7, .inl (G.2 1, 16, .inr (.inr (.inr (.inr (fun _ => none))))))] H := hP
  have hD : va_D A [(h0, .inr (0, [.ref q7, .null, .null, .null, .int 0, .int 0, .int 0])), (q7, .inl (G.2 1, 16, .inr (.inr (.inr (.inr (fun _ => none))))))] := hD
  refine lv_aload_n hx hb d_C_init_13 rfl (lv_at hl 0 rfl) ?_
  refine lv_bipush (v := 30) hx hb d_C_init_14 (by decide) ?_
  refine la_newq (k := 2) (N' := 30) hx hb hown (hts _ tw_19) hK.2.2.2.2 hK hP hD hS hA rfl (by decide) (by decide) (by decide) (Nat.le_of_ble_eq_true rfl) (Nat.le_of_ble_eq_true rfl) d_C_init_16 (fun q16 H hP hD hS => ?_)
  have hP : va_P G.1 vcl [(h0, .inr (0, [.ref q7, .null, .null, .null, .int 0, .int 0, .int 0])), (q7, .inl (G.2 1, 16, .inr (.inr (.inr (.inr (fun _ => none)))))), (q16, .inl (G.2 2, 30, .inr (.inr (.inr (.inr (fun _ => none))))))] H := hP
  have hD : va_D A [(h0, .inr (0, [.ref q7, .null, .null, .null, .int 0, .int 0, .int 0])), (q7, .inl (G.2 1, 16, .inr (.inr (.inr (.inr (fun _ => none)))))), (q16, .inl (G.2 2, 30, .inr (.inr (.inr (.inr (fun _ => none))))))] := hD
  refine va_putF (D := G.1) (ci := 0) (v := .ref q16) (ty := .array (.object "RollStages$Machine")) (C := R_C) (T := F_C) (N := 7) hx hb hts in_C ty_C ty_C_ok n_C hown hK.1 hP hD hS 0 rfl rfl 1 (by decide) (hts _ tw_59) (fun _ h9 => h9) rfl hin rfl (by decide +kernel) rfl rfl (Nat.le_of_ble_eq_true rfl) d_C_init_19 (fun H locs hP hD hS => ?_)
  have hP : va_P G.1 vcl [(h0, .inr (0, [.ref q7, .ref q16, .null, .null, .int 0, .int 0, .int 0])), (q7, .inl (G.2 1, 16, .inr (.inr (.inr (.inr (fun _ => none)))))), (q16, .inl (G.2 2, 30, .inr (.inr (.inr (.inr (fun _ => none))))))] H := hP
  have hD : va_D A [(h0, .inr (0, [.ref q7, .ref q16, .null, .null, .int 0, .int 0, .int 0])), (q7, .inl (G.2 1, 16, .inr (.inr (.inr (.inr (fun _ => none)))))), (q16, .inl (G.2 2, 30, .inr (.inr (.inr (.inr (fun _ => none))))))] := hD
  refine lv_aload_n hx hb d_C_init_22 rfl (lv_at hl 0 rfl) ?_
  refine lv_iconst (v := 3) hx hb d_C_init_23 (by decide) ?_
  refine la_newi (N' := 3) hx hb (hts _ tw_54) hK hP hD hS hA (by decide) (by decide) (by decide) (Nat.le_of_ble_eq_true rfl) (Nat.le_of_ble_eq_true rfl) d_C_init_24 (fun q24 H hP hD hS => ?_)
  have hP : va_P G.1 vcl [(h0, .inr (0, [.ref q7, .ref q16, .null, .null, .int 0, .int 0, .int 0])), (q7, .inl (G.2 1, 16, .inr (.inr (.inr (.inr (fun _ => none)))))), (q16, .inl (G.2 2, 30, .inr (.inr (.inr (.inr (fun _ => none)))))), (q24, .inl (G.2 0, 3, .inl (fun _ => 0)))] H := hP
  have hD : va_D A [(h0, .inr (0, [.ref q7, .ref q16, .null, .null, .int 0, .int 0, .int 0])), (q7, .inl (G.2 1, 16, .inr (.inr (.inr (.inr (fun _ => none)))))), (q16, .inl (G.2 2, 30, .inr (.inr (.inr (.inr (fun _ => none)))))), (q24, .inl (G.2 0, 3, .inl (fun _ => 0)))] := hD
  refine va_putF (D := G.1) (ci := 0) (v := .ref q24) (ty := .array .int) (C := R_C) (T := F_C) (N := 7) hx hb hts in_C ty_C ty_C_ok n_C hown hK.1 hP hD hS 0 rfl rfl 2 (by decide) (hts _ tw_60) (fun _ h9 => h9) rfl hin rfl (by decide +kernel) rfl rfl (Nat.le_of_ble_eq_true rfl) d_C_init_26 (fun H locs hP hD hS => ?_)
  have hP : va_P G.1 vcl [(h0, .inr (0, [.ref q7, .ref q16, .ref q24, .null, .int 0, .int 0, .int 0])), (q7, .inl (G.2 1, 16, .inr (.inr (.inr (.inr (fun _ => none)))))), (q16, .inl (G.2 2, 30, .inr (.inr (.inr (.inr (fun _ => none)))))), (q24, .inl (G.2 0, 3, .inl (fun _ => 0)))] H := hP
  have hD : va_D A [(h0, .inr (0, [.ref q7, .ref q16, .ref q24, .null, .int 0, .int 0, .int 0])), (q7, .inl (G.2 1, 16, .inr (.inr (.inr (.inr (fun _ => none)))))), (q16, .inl (G.2 2, 30, .inr (.inr (.inr (.inr (fun _ => none)))))), (q24, .inl (G.2 0, 3, .inl (fun _ => 0)))] := hD
  refine lv_aload_n hx hb d_C_init_29 rfl (lv_at hl 0 rfl) ?_
  refine va_new (ci := 3) (fs := [.null, .null, .null, .int 0, .null, .null, .int 0, .int 0]) (C := R_D) (T := F_D) (N := 8) hx hb hts in_D ty_D ty_D_ok hown (hts _ tw_21) (hts _ tw_22) (hts _ tw_2) hK.1 hP hD hS hA rfl (by decide +kernel) (Nat.le_of_ble_eq_true rfl) (Nat.le_of_ble_eq_true rfl) d_C_init_30 (fun q30 H hP hD hS => ?_)
  have hP : va_P G.1 vcl [(h0, .inr (0, [.ref q7, .ref q16, .ref q24, .null, .int 0, .int 0, .int 0])), (q7, .inl (G.2 1, 16, .inr (.inr (.inr (.inr (fun _ => none)))))), (q16, .inl (G.2 2, 30, .inr (.inr (.inr (.inr (fun _ => none)))))), (q24, .inl (G.2 0, 3, .inl (fun _ => 0))), (q30, .inr (3, [.null, .null, .null, .int 0, .null, .null, .int 0, .int 0]))] H := hP
  have hD : va_D A [(h0, .inr (0, [.ref q7, .ref q16, .ref q24, .null, .int 0, .int 0, .int 0])), (q7, .inl (G.2 1, 16, .inr (.inr (.inr (.inr (fun _ => none)))))), (q16, .inl (G.2 2, 30, .inr (.inr (.inr (.inr (fun _ => none)))))), (q24, .inl (G.2 0, 3, .inl (fun _ => 0))), (q30, .inr (3, [.null, .null, .null, .int 0, .null, .null, .int 0, .int 0]))] := hD
  refine lv_dup hx hb d_C_init_33 rfl ?_
  have hPc := hP.sub (ws' := [(q30, .inr (3, [.null, .null, .null, .int 0, .null, .null, .int 0, .int 0]))]) [4] rfl
  have hDc := hD.sub (ws' := [(q30, .inr (3, [.null, .null, .null, .int 0, .null, .null, .int 0, .int 0]))]) [4] (by decide) rfl
  have hFc := va_free (wc := [(q30, .inr (3, [.null, .null, .null, .int 0, .null, .null, .int 0, .int 0]))]) hD hS hA [4] rfl
  refine va_callv (va_runIN (As := []) (rest := [.ref q30, .ref h0]) ⟨hx, hb, hml, hown, hts⟩ (ca_D_init l G q30 H.size) ⟨va_cnB 0 hts (tb_in tw_25) rfl rfl rfl (hK.2.2.1 _ nw_0) (hts _ tw_2) hd_D_init ⟨Nat.le_of_ble_eq_true rfl, Nat.le_of_ble_eq_true rfl⟩, rfl, hts _ tw_24⟩ ⟨fun a U g mk q => ⟨q.1, q.2.1, q.2.2.1, q.2.2.2.1, KK.blind U g mk a q.2.2.2.2⟩, fun U hU hW => ⟨rfl, by rw [hU], by rw [hU]; exact hPc, hDc.weaken (fun _ _ _ _ => trivial), hK.warm hW⟩⟩ rfl rfl hl.1 rfl (lv_room (Nat.le_of_ble_eq_true rfl)) d_C_init_34 ⟨Nat.le_of_ble_eq_true rfl, Nat.le_of_ble_eq_true rfl⟩) hS (fun q _ h => hFc q h) hFc (fun u t H1 locs ht hvm hu hB hz1 hk1 hS => ?_)
  obtain ⟨d7, d15, d23, d31, d39, hP1, hD1⟩ := hB
  rw [ht] at hP1
  obtain ⟨hP, hD⟩ := va_join (wr := [(h0, .inr (0, [.ref q7, .ref q16, .ref q24, .null, .int 0, .int 0, .int 0])), (q7, .inl (G.2 1, 16, .inr (.inr (.inr (.inr (fun _ => none)))))), (q16, .inl (G.2 2, 30, .inr (.inr (.inr (.inr (fun _ => none)))))), (q24, .inl (G.2 0, 3, .inl (fun _ => 0)))]) (w1 := [(q30, .inr (3, [.ref d7, .ref d15, .ref d23, .int 0, .ref d31, .ref d39, .int 0, .int 0])), (d7, .inl (G.2 0, 40, .inl (fun _ => 0))), (d15, .inl (G.2 0, 40, .inl (fun _ => 0))), (d23, .inl (G.2 0, 40, .inl (fun _ => 0))), (d31, .inl (G.2 0, 16, .inl (fun _ => 0))), (d39, .inl (G.2 0, 16, .inl (fun _ => 0)))]) hP hD [4] [0, 1, 2, 3] rfl rfl (by decide) (by decide) hk1 hFc hP1 hD1
  generalize H1 = H at hP hS ⊢
  have hP : va_P G.1 vcl [(h0, .inr (0, [.ref q7, .ref q16, .ref q24, .null, .int 0, .int 0, .int 0])), (q7, .inl (G.2 1, 16, .inr (.inr (.inr (.inr (fun _ => none)))))), (q16, .inl (G.2 2, 30, .inr (.inr (.inr (.inr (fun _ => none)))))), (q24, .inl (G.2 0, 3, .inl (fun _ => 0))), (q30, .inr (3, [.ref d7, .ref d15, .ref d23, .int 0, .ref d31, .ref d39, .int 0, .int 0])), (d7, .inl (G.2 0, 40, .inl (fun _ => 0))), (d15, .inl (G.2 0, 40, .inl (fun _ => 0))), (d23, .inl (G.2 0, 40, .inl (fun _ => 0))), (d31, .inl (G.2 0, 16, .inl (fun _ => 0))), (d39, .inl (G.2 0, 16, .inl (fun _ => 0)))] H := hP
  have hD : va_D A [(h0, .inr (0, [.ref q7, .ref q16, .ref q24, .null, .int 0, .int 0, .int 0])), (q7, .inl (G.2 1, 16, .inr (.inr (.inr (.inr (fun _ => none)))))), (q16, .inl (G.2 2, 30, .inr (.inr (.inr (.inr (fun _ => none)))))), (q24, .inl (G.2 0, 3, .inl (fun _ => 0))), (q30, .inr (3, [.ref d7, .ref d15, .ref d23, .int 0, .ref d31, .ref d39, .int 0, .int 0])), (d7, .inl (G.2 0, 40, .inl (fun _ => 0))), (d15, .inl (G.2 0, 40, .inl (fun _ => 0))), (d23, .inl (G.2 0, 40, .inl (fun _ => 0))), (d31, .inl (G.2 0, 16, .inl (fun _ => 0))), (d39, .inl (G.2 0, 16, .inl (fun _ => 0)))] := hD
  refine va_putF (D := G.1) (ci := 0) (v := .ref q30) (ty := .object "RollStages$Deltas") (C := R_C) (T := F_C) (N := 7) hx hb hts in_C ty_C ty_C_ok n_C hown hK.1 hP hD hS 0 rfl rfl 3 (by decide) (hts _ tw_61) (fun _ h9 => h9) rfl hin rfl (by decide +kernel) rfl rfl (Nat.le_of_ble_eq_true rfl) d_C_init_37 (fun H locs hP hD hS => ?_)
  have hP : va_P G.1 vcl [(h0, .inr (0, [.ref q7, .ref q16, .ref q24, .ref q30, .int 0, .int 0, .int 0])), (q7, .inl (G.2 1, 16, .inr (.inr (.inr (.inr (fun _ => none)))))), (q16, .inl (G.2 2, 30, .inr (.inr (.inr (.inr (fun _ => none)))))), (q24, .inl (G.2 0, 3, .inl (fun _ => 0))), (q30, .inr (3, [.ref d7, .ref d15, .ref d23, .int 0, .ref d31, .ref d39, .int 0, .int 0])), (d7, .inl (G.2 0, 40, .inl (fun _ => 0))), (d15, .inl (G.2 0, 40, .inl (fun _ => 0))), (d23, .inl (G.2 0, 40, .inl (fun _ => 0))), (d31, .inl (G.2 0, 16, .inl (fun _ => 0))), (d39, .inl (G.2 0, 16, .inl (fun _ => 0)))] H := hP
  have hD : va_D A [(h0, .inr (0, [.ref q7, .ref q16, .ref q24, .ref q30, .int 0, .int 0, .int 0])), (q7, .inl (G.2 1, 16, .inr (.inr (.inr (.inr (fun _ => none)))))), (q16, .inl (G.2 2, 30, .inr (.inr (.inr (.inr (fun _ => none)))))), (q24, .inl (G.2 0, 3, .inl (fun _ => 0))), (q30, .inr (3, [.ref d7, .ref d15, .ref d23, .int 0, .ref d31, .ref d39, .int 0, .int 0])), (d7, .inl (G.2 0, 40, .inl (fun _ => 0))), (d15, .inl (G.2 0, 40, .inl (fun _ => 0))), (d23, .inl (G.2 0, 40, .inl (fun _ => 0))), (d31, .inl (G.2 0, 16, .inl (fun _ => 0))), (d39, .inl (G.2 0, 16, .inl (fun _ => 0)))] := hD
  have hw : mwG G A (adC h0 q7 q16 q24 q30 d7 d15 d23 d31 d39) (encC G.2 (adC h0 q7 q16 q24 q30 d7 d15 d23 d31 d39) 0 0 s00) H := by
    refine mw_list hP hD (fun q hq => hA q (Nat.le_trans hS.1 hq)) id (fun k e h => ?_) (fun j k e f _ _ h => h)
    match k, h with
    | 0, h => cases h; rfl
    | 1, h => cases h; rfl
    | 2, h => cases h; rfl
    | 3, h => cases h; rfl
    | 4, h => cases h; rfl
    | 5, h => cases h; rfl
    | 6, h => cases h; rfl
    | 7, h => cases h; rfl
    | 8, h => cases h; rfl
    | 9, h => cases h; rfl
    | k + 10, h => rw [encC_none (by omega)] at h; cases h
  have hl : lv_has ls 1 [(0, .ref ((adC h0 q7 q16 q24 q30 d7 d15 d23 d31 d39) 0))] := hl
  generalize hade : (adC h0 q7 q16 q24 q30 d7 d15 d23 d31 d39) = ad at hw hl
  have h00 : ad 0 = h0 := by rw [← hade]; rfl
  refine lv_aload_n hx hb d_C_init_40 rfl (lv_at hl 0 rfl) ?_
  refine mw_get (v := .ref (ad (3))) hx hb hts in_C hown hK.1 hw (0) cC_0 rfl 2 (by decide) (hts _ tw_60) rfl d_C_init_41 ?_
  refine lv_iconst (v := -1) hx hb d_C_init_44 (by decide) ?_
  refine gS (As := [.ref (ad (3)), .int (-1)]) (rest := []) (st1 := []) ⟨hx, hb, hml, hown, hts⟩ (cc_A_fill l G A ad 0 0 (by decide) (by decide) s00 3 3 (fun _ => cC_3) (-1) (by decide)) tw_57 tw_55 tw_56 tw_3 hd_A_fill rfl rfl ⟨Nat.le_of_ble_eq_true rfl, Nat.le_of_ble_eq_true rfl⟩ hK hw hS hl.1 rfl (Nat.le_of_ble_eq_true rfl) ⟨Nat.le_of_ble_eq_true rfl, Nat.le_of_ble_eq_true rfl⟩ d_C_init_45 rfl (fun H locs hw hS => ?_)
  exact mw_vret hx hb hr hw hS ⟨h00, rfl⟩ hlocks d_C_init_48

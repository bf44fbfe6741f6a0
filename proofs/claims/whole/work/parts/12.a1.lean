theorem gx_ty {G : Gx} {s : State} {cA cB : ClassId} {ty : FieldType} {k : Nat} (hK : va_K G.1 vcl (gTys G) s) (h : va_K G.1 vcl (gTys G ++ [(cA, ty)]) s) (hk : (gTys G)[k]? = some (cB, ty)) : cA = cB := by
  have h1 := (h.2 4 _ (show (gTys G ++ [(cA, ty)])[4]? = some (cA, ty) from rfl)).2
  have h2 := (hK.2 k _ hk).2
  cases ty with
  | object C =>
    obtain ⟨_, _, -, -, -, g1⟩ := h1
    obtain ⟨_, _, -, -, -, g2⟩ := h2
    exact Option.some.inj (g1.symm.trans g2)
  | _ => exact Option.some.inj (Eq.trans (Eq.symm h1) h2)
section LA
variable {p : Program} {l : Launch} {e : Env} {R : Room} {s : State} {m : MethodId} {args : Array Value} {below : List Frame} {meth : Method} {c : Code} {H : Heap} {locs : List Loc} {cells slots : Nat} {Q : State → Prop}
variable {cc : ByteArray} {pc : Nat} {ls : Array Slot} {rest : List Value} {G : Gx} {A : Nat → Prop} {ws : va_W} {H0 : Heap}
theorem la_newi (hexec : p.tables.exec = Jvm.exec) (hb : c.code = cc) (harr : (Cond.arrayClass .int).before args s = true) (hK : KK G s) (hP : va_P G.1 vcl ws H) (hD : va_D A ws) (hS : va_S A H0 H locs) (hA : ∀ q, H0.size ≤ q → A q) {n : Int32} {N' : Nat} (hn : ¬ n < 0) (hN : n.toNatClampNeg = N') (hbytes : N' * 4 ≤ 536870912) (hcells : cells + 1 ≤ R.cells) (hslots : slots + N' ≤ R.slots) (hdg : decode cc pc = .ok (.newarray .int, 2))
    (kk : ∀ (q : Nat) (H1 : Heap), va_P G.1 vcl (ws ++ [(q, .inl (G.2 0, N', .inl (fun _ => 0)))]) H1 → va_D A (ws ++ [(q, .inl (G.2 0, N', .inl (fun _ => 0)))]) → va_S A H0 H1 locs → W p l e R s m args below meth c H1 locs (cells + 1) (slots + N') Q (F0 m (pc + 2) ls (.ref q :: rest))) : W p l e R s m args below meth c H locs cells slots Q (F0 m pc ls (.int n :: rest)) := by
  refine va_newa (atype := .int) (ty := .int) (a0 := (N', .inl (fun _ => 0))) hexec hb harr rfl hK.1 hP hD hS hA (fun _ => rfl) hn hN hbytes hcells hslots hdg (fun q cA H1 hK1 hP1 hD1 hS1 => ?_)
  have ec : cA = G.2 0 := gx_ty (k := 0) hK.1 hK1 rfl
  subst ec
  exact kk q H1 hP1 hD1 hS1
theorem la_newz (hexec : p.tables.exec = Jvm.exec) (hb : c.code = cc) (harr : (Cond.arrayClass .boolean).before args s = true) (hK : KK G s) (hP : va_P G.1 vcl ws H) (hD : va_D A ws) (hS : va_S A H0 H locs) (hA : ∀ q, H0.size ≤ q → A q) {n : Int32} {N' : Nat} (hn : ¬ n < 0) (hN : n.toNatClampNeg = N') (hbytes : N' * 1 ≤ 536870912) (hcells : cells + 1 ≤ R.cells) (hslots : slots + N' ≤ R.slots) (hdg : decode cc pc = .ok (.newarray .boolean, 2))
    (kk : ∀ (q : Nat) (H1 : Heap), va_P G.1 vcl (ws ++ [(q, .inl (G.2 3, N', .inl (fun _ => 0)))]) H1 → va_D A (ws ++ [(q, .inl (G.2 3, N', .inl (fun _ => 0)))]) → va_S A H0 H1 locs → W p l e R s m args below meth c H1 locs (cells + 1) (slots + N') Q (F0 m (pc + 2) ls (.ref q :: rest))) : W p l e R s m args below meth c H locs cells slots Q (F0 m pc ls (.int n :: rest)) := by
  refine va_newa (atype := .boolean) (ty := .boolean) (a0 := (N', .inl (fun _ => 0))) hexec hb harr rfl hK.1 hP hD hS hA (fun _ => rfl) hn hN hbytes hcells hslots hdg (fun q cA H1 hK1 hP1 hD1 hS1 => ?_)
  have ec : cA = G.2 3 := gx_ty (k := 3) hK.1 hK1 rfl
  subst ec
  exact kk q H1 hP1 hD1 hS1
theorem la_newq {k : Nat} {C : String} (hexec : p.tables.exec = Jvm.exec) (hb : c.code = cc) {own : String} {index : Nat} (hown : s.vm.findClass own = some m.cls) (hclink : (Cond.classLink own index C).before args s = true) (hover : va_AO C s) (hK : KK G s) (hP : va_P G.1 vcl ws H) (hD : va_D A ws) (hS : va_S A H0 H locs) (hA : ∀ q, H0.size ≤ q → A q) {cB : ClassId} (hk : (gTys G)[k]? = some (cB, .object C)) {n : Int32} {N' : Nat} (hn : ¬ n < 0) (hN : n.toNatClampNeg = N') (hbytes : N' * 4 ≤ 536870912) (hcells : cells + 1 ≤ R.cells) (hslots : slots + N' ≤ R.slots) (hdg : decode cc pc = .ok (.anewarray index, 3))
    (kk : ∀ (q : Nat) (H1 : Heap), va_P G.1 vcl (ws ++ [(q, .inl (cB, N', .inr (.inr (.inr (.inr (fun _ => none))))))]) H1 → va_D A (ws ++ [(q, .inl (cB, N', .inr (.inr (.inr (.inr (fun _ => none))))))]) → va_S A H0 H1 locs → W p l e R s m args below meth c H1 locs (cells + 1) (slots + N') Q (F0 m (pc + 3) ls (.ref q :: rest))) : W p l e R s m args below meth c H locs cells slots Q (F0 m pc ls (.int n :: rest)) := by
  refine va_newq hexec hb hown hclink hover hK.1 hP hD hS hA hn hN hbytes hcells hslots hdg (fun q cA H1 hK1 hP1 hD1 hS1 => ?_)
  have ec : cA = cB := gx_ty (k := k) hK.1 hK1 hk
  subst ec
  exact kk q H1 hP1 hD1 hS1
end LA
/-- a list of cells as a world by places -/
theorem mw_list {A : Nat → Prop} {D : va_G} {cl : List vw_C} {ws : va_W} {H : Heap} {ad : Nat → Nat} {E : Nat → Option va_E} (hP : va_P D cl ws H) (hD : va_D A ws) (hA : ∀ q : Nat, H.size ≤ q → A q) (pos : Nat → Nat) (hE : ∀ k e, E k = some e → ws[pos k]? = some (ad k, e)) (hi : ∀ j k e f, E j = some e → E k = some f → pos j = pos k → j = k) : mw A D cl ad E H := by
  refine ⟨fun k e he => ⟨hP _ _ (hE k e he), hD.2 _ _ (hE k e he)⟩, fun j k e f hj hk h => ?_, hA⟩
  exact hi j k e f hj hk (hD.1 _ _ _ _ (hE j e hj) (hE k f hk) h)
theorem b_fits {x : Int32} (h : x = 0 ∨ x = 1) : narrow .boolean (.int x) = .int x ∧ fits .boolean (.int x) = true := by
  rcases h with rfl | rfl
  · exact ⟨narrow_b0, by decide⟩
  · exact ⟨narrow_b1, by decide⟩

set_option maxHeartbeats 4000000 in
set_option maxRecDepth 100000 in
theorem ca_R_init (l : Launch) (G : Gx) (h0 sz : Nat) (a1 : Int32) (a2 : Int32) (a3 : Int32) (hb2 : a2 = 0 ∨ a2 = 1) : Met l y_R_init ws_R_init { frames := 1, cells := 2, slots := 10, locals := 20 } (va_Pc [.ref h0, .int a1, .int a2, .int a3] (fun U => U.heap.size = sz ∧ va_P G.1 vcl [(h0, .inr (1, [.int 0, .int 0, .int 0, .null, .null, .int 0, .int 0, .int 0, .int 0, .int 0, .int 0, .int 0, .int 0, .int 0]))] U.heap ∧ va_D (fun _ => True) [(h0, .inr (1, [.int 0, .int 0, .int 0, .null, .null, .int 0, .int 0, .int 0, .int 0, .int 0, .int 0, .int 0, .int 0, .int 0]))] ∧ KK G U)) (va_Qv (fun _ : Unit => True) (fun _ t => ∃ (q6 : Nat) (q13 : Nat), va_P G.1 vcl [(h0, .inr (1, [.int a1, .int a2, .int a3, .ref q6, .ref q13, .int 0, .int (1), .int (1), .int (0), .int (0), .int 0, .int 0, .int 0, .int 0])), (q6, .inl (G.2 0, 5, .inl (fun _ => 0))), (q13, .inl (G.2 0, 5, .inl (fun _ => 0)))] t.heap ∧ va_D (va_A [(h0, .inr (1, [.int 0, .int 0, .int 0, .null, .null, .int 0, .int 0, .int 0, .int 0, .int 0, .int 0, .int 0, .int 0, .int 0]))] sz) [(h0, .inr (1, [.int a1, .int a2, .int a3, .ref q6, .ref q13, .int 0, .int (1), .int (1), .int (0), .int (0), .int 0, .int 0, .int 0, .int 0])), (q6, .inl (G.2 0, 5, .inl (fun _ => 0))), (q13, .inl (G.2 0, 5, .inl (fun _ => 0)))]) (va_A [(h0, .inr (1, [.int 0, .int 0, .int 0, .null, .null, .int 0, .int 0, .int 0, .int 0, .int 0, .int 0, .int 0, .int 0, .int 0]))] sz)) 2 10 (va_A [(h0, .inr (1, [.int 0, .int 0, .int 0, .null, .null, .int 0, .int 0, .int 0, .int 0, .int 0, .int 0, .int 0, .int 0, .int 0]))] sz) := by
  refine Met.ofW (cc := c_R_init) (maxL := 4) (ret := none) (by decide) rfl ?_
  intro p e s m args below meth c s₁ B hml hv
  obtain ⟨rfl, hsz, hP, hD0, hK⟩ := hv
  have hx := B.exec
  have hb := B.bytes
  have hr := B.returns
  have hts : ∀ w ∈ tbG, w.before [.ref h0, .int a1, .int a2, .int a3].toArray s = true := fun w h => atoms_spec (ws := ws_R_init) B.pre w (List.mem_cons_of_mem _ h)
  have hown : s.vm.findClass "RollStages$Release" = some m.cls := findClass_of_methodNamed B.named
  have hlocks := B.notSynchronized
  have hin : meth.name = "<init>" := (name_of_methodNamed B.named B.method).1
  subst hsz
  have hD := hD0.self (sz := s.heap.size)
  generalize hAe : va_A [(h0, .inr (1, [.int 0, .int 0, .int 0, .null, .null, .int 0, .int 0, .int 0, .int 0, .int 0, .int 0, .int 0, .int 0, .int 0]))] s.heap.size = A at hD ⊢
  have hA : ∀ q : Nat, s.heap.size ≤ q → A q := fun q h => by rw [← hAe]; exact Or.inr h
  have hS : va_S A s.heap s.heap [] := va_S.rf
  have hP : va_P G.1 vcl [(h0, .inr (1, [.int 0, .int 0, .int 0, .null, .null, .int 0, .int 0, .int 0, .int 0, .int 0, .int 0, .int 0, .int 0, .int 0]))] s.heap := hP
  have hl := lv_entry ([.ref h0, .int a1, .int a2, .int a3]) (n := 4) (Nat.le_of_ble_eq_true rfl)
  rw [lg_entry_eq]
  generalize (lg_sl ([.ref h0, .int a1, .int a2, .int a3]) ++ List.replicate (4 - (lg_sl ([.ref h0, .int a1, .int a2, .int a3])).length) Slot.unset).toArray = ls at hl ⊢
  have hl : lv_has ls 4 [(0, .ref h0), (1, .int a1), (2, .int a2), (3, .int a3)] := hl
  refine lv_aload_n hx hb d_R_init_0 rfl (lv_at hl 0 rfl) ?_
  refine W.objInit hx hb hown (hts _ tw_95) (hts _ tw_15) (hts _ tw_16) rfl (by rw [hml]; exact hl.1) rfl d_R_init_1 (Nat.le_of_ble_eq_true rfl) (Nat.le_of_ble_eq_true rfl) ?_
  refine W.eq (g2 := F0 m 4 ls []) rfl ?_
  refine lv_aload_n hx hb d_R_init_4 rfl (lv_at hl 0 rfl) ?_
  refine lv_iconst (v := 5) hx hb d_R_init_5 (by decide) ?_
  refine la_newi (N' := 5) hx hb (hts _ tw_54) hK hP hD hS hA (by decide) (by decide) (by decide) (Nat.le_of_ble_eq_true rfl) (Nat.le_of_ble_eq_true rfl) d_R_init_6 (fun q6 H hP hD hS => ?_)
  have hP : va_P G.1 vcl [(h0, .inr (1, [.int 0, .int 0, .int 0, .null, .null, .int 0, .int 0, .int 0, .int 0, .int 0, .int 0, .int 0, .int 0, .int 0])), (q6, .inl (G.2 0, 5, .inl (fun _ => 0)))] H := hP
  have hD : va_D A [(h0, .inr (1, [.int 0, .int 0, .int 0, .null, .null, .int 0, .int 0, .int 0, .int 0, .int 0, .int 0, .int 0, .int 0, .int 0])), (q6, .inl (G.2 0, 5, .inl (fun _ => 0)))] := hD
  refine va_putF (D := G.1) (ci := 1) (v := .ref q6) (ty := .array .int) (C := R_R) (T := F_R) (N := 14) hx hb hts in_R ty_R ty_R_ok n_R hown hK.1 hP hD hS 0 rfl rfl 3 (by decide) (hts _ tw_101) (fun _ h9 => h9) rfl hin rfl (by decide +kernel) rfl rfl (Nat.le_of_ble_eq_true rfl) d_R_init_8 (fun H locs hP hD hS => ?_)
  have hP : va_P G.1 vcl [(h0, .inr (1, [.int 0, .int 0, .int 0, .ref q6, .null, .int 0, .int 0, .int 0, .int 0, .int 0, .int 0, .int 0, .int 0, .int 0])), (q6, .inl (G.2 0, 5, .inl (fun _ => 0)))] H := hP
  have hD : va_D A [(h0, .inr (1, [.int 0, .int 0, .int 0, .ref q6, .null, .int 0, .int 0, .int 0, .int 0, .int 0, .int 0, .int 0, .int 0, .int 0])), (q6, .inl (G.2 0, 5, .inl (fun _ => 0)))] := hD
  refine lv_aload_n hx hb d_R_init_11 rfl (lv_at hl 0 rfl) ?_
  refine lv_iconst (v := 5) hx hb d_R_init_12 (by decide) ?_
  refine la_newi (N' := 5) hx hb (hts _ tw_54) hK hP hD hS hA (by decide) (by decide) (by decide) (Nat.le_of_ble_eq_true rfl) (Nat.le_of_ble_eq_true rfl) d_R_init_13 (fun q13 H hP hD hS => ?_)
  have hP : va_P G.1 vcl [(h0, .inr (1, [.int 0, .int 0, .int 0, .ref q6, .null, .int 0, .int 0, .int 0, .int 0, .int 0, .int 0, .int 0, .int 0, .int 0])), (q6, .inl (G.2 0, 5, .inl (fun _ => 0))), (q13, .inl (G.2 0, 5, .inl (fun _ => 0)))] H := hP
  have hD : va_D A [(h0, .inr (1, [.int 0, .int 0, .int 0, .ref q6, .null, .int 0, .int 0, .int 0, .int 0, .int 0, .int 0, .int 0, .int 0, .int 0])), (q6, .inl (G.2 0, 5, .inl (fun _ => 0))), (q13, .inl (G.2 0, 5, .inl (fun _ => 0)))] := hD
  refine va_putF (D := G.1) (ci := 1) (v := .ref q13) (ty := .array .int) (C := R_R) (T := F_R) (N := 14) hx hb hts in_R ty_R ty_R_ok n_R hown hK.1 hP hD hS 0 rfl rfl 4 (by decide) (hts _ tw_102) (fun _ h9 => h9) rfl hin rfl (by decide +kernel) rfl rfl (Nat.le_of_ble_eq_true rfl) d_R_init_15 (fun H locs hP hD hS => ?_)
  have hP : va_P G.1 vcl [(h0, .inr (1, [.int 0, .int 0, .int 0, .ref q6, .ref q13, .int 0, .int 0, .int 0, .int 0, .int 0, .int 0, .int 0, .int 0, .int 0])), (q6, .inl (G.2 0, 5, .inl (fun _ => 0))), (q13, .inl (G.2 0, 5, .inl (fun _ => 0)))] H := hP
  have hD : va_D A [(h0, .inr (1, [.int 0, .int 0, .int 0, .ref q6, .ref q13, .int 0, .int 0, .int 0, .int 0, .int 0, .int 0, .int 0, .int 0, .int 0])), (q6, .inl (G.2 0, 5, .inl (fun _ => 0))), (q13, .inl (G.2 0, 5, .inl (fun _ => 0)))] := hD
  refine lv_aload_n hx hb d_R_init_18 rfl (lv_at hl 0 rfl) ?_
  refine lv_iconst (v := 1) hx hb d_R_init_19 (by decide) ?_
  refine va_put (D := G.1) (ci := 1) (v := .int (1)) (ty := .int) (C := R_R) (T := F_R) (N := 14) hx hb hts in_R ty_R ty_R_ok n_R hown hK.1 hP hD hS 0 rfl rfl 6 (by decide) (hts _ tw_104) (fun _ h9 => h9) rfl (by decide +kernel) rfl rfl (Nat.le_of_ble_eq_true rfl) d_R_init_20 (fun H locs hP hD hS => ?_)
  have hP : va_P G.1 vcl [(h0, .inr (1, [.int 0, .int 0, .int 0, .ref q6, .ref q13, .int 0, .int (1), .int 0, .int 0, .int 0, .int 0, .int 0, .int 0, .int 0])), (q6, .inl (G.2 0, 5, .inl (fun _ => 0))), (q13, .inl (G.2 0, 5, .inl (fun _ => 0)))] H := hP
  have hD : va_D A [(h0, .inr (1, [.int 0, .int 0, .int 0, .ref q6, .ref q13, .int 0, .int (1), .int 0, .int 0, .int 0, .int 0, .int 0, .int 0, .int 0])), (q6, .inl (G.2 0, 5, .inl (fun _ => 0))), (q13, .inl (G.2 0, 5, .inl (fun _ => 0)))] := hD
  refine lv_aload_n hx hb d_R_init_23 rfl (lv_at hl 0 rfl) ?_
  refine lv_iconst (v := 1) hx hb d_R_init_24 (by decide) ?_
  refine va_put (D := G.1) (ci := 1) (v := .int (1)) (ty := .int) (C := R_R) (T := F_R) (N := 14) hx hb hts in_R ty_R ty_R_ok n_R hown hK.1 hP hD hS 0 rfl rfl 7 (by decide) (hts _ tw_105) (fun _ h9 => h9) rfl (by decide +kernel) rfl rfl (Nat.le_of_ble_eq_true rfl) d_R_init_25 (fun H locs hP hD hS => ?_)
  have hP : va_P G.1 vcl [(h0, .inr (1, [.int 0, .int 0, .int 0, .ref q6, .ref q13, .int 0, .int (1), .int (1), .int 0, .int 0, .int 0, .int 0, .int 0, .int 0])), (q6, .inl (G.2 0, 5, .inl (fun _ => 0))), (q13, .inl (G.2 0, 5, .inl (fun _ => 0)))] H := hP
  have hD : va_D A [(h0, .inr (1, [.int 0, .int 0, .int 0, .ref q6, .ref q13, .int 0, .int (1), .int (1), .int 0, .int 0, .int 0, .int 0, .int 0, .int 0])), (q6, .inl (G.2 0, 5, .inl (fun _ => 0))), (q13, .inl (G.2 0, 5, .inl (fun _ => 0)))] := hD
  refine lv_aload_n hx hb d_R_init_28 rfl (lv_at hl 0 rfl) ?_
  refine lv_iconst (v := 0) hx hb d_R_init_29 (by decide) ?_
  refine va_put (D := G.1) (ci := 1) (v := .int (0)) (ty := .int) (C := R_R) (T := F_R) (N := 14) hx hb hts in_R ty_R ty_R_ok n_R hown hK.1 hP hD hS 0 rfl rfl 8 (by decide) (hts _ tw_106) (fun _ h9 => h9) rfl (by decide +kernel) rfl rfl (Nat.le_of_ble_eq_true rfl) d_R_init_30 (fun H locs hP hD hS => ?_)
  have hP : va_P G.1 vcl [(h0, .inr (1, [.int 0, .int 0, .int 0, .ref q6, .ref q13, .int 0, .int (1), .int (1), .int (0), .int 0, .int 0, .int 0, .int 0, .int 0])), (q6, .inl (G.2 0, 5, .inl (fun _ => 0))), (q13, .inl (G.2 0, 5, .inl (fun _ => 0)))] H := hP
  have hD : va_D A [(h0, .inr (1, [.int 0, .int 0, .int 0, .ref q6, .ref q13, .int 0, .int (1), .int (1), .int (0), .int 0, .int 0, .int 0, .int 0, .int 0])), (q6, .inl (G.2 0, 5, .inl (fun _ => 0))), (q13, .inl (G.2 0, 5, .inl (fun _ => 0)))] := hD
  refine lv_aload_n hx hb d_R_init_33 rfl (lv_at hl 0 rfl) ?_
  refine lv_iconst (v := 0) hx hb d_R_init_34 (by decide) ?_
  refine va_put (D := G.1) (ci := 1) (v := .int (0)) (ty := .int) (C := R_R) (T := F_R) (N := 14) hx hb hts in_R ty_R ty_R_ok n_R hown hK.1 hP hD hS 0 rfl rfl 9 (by decide) (hts _ tw_109) (fun _ h9 => h9) rfl (by decide +kernel) rfl rfl (Nat.le_of_ble_eq_true rfl) d_R_init_35 (fun H locs hP hD hS => ?_)
  have hP : va_P G.1 vcl [(h0, .inr (1, [.int 0, .int 0, .int 0, .ref q6, .ref q13, .int 0, .int (1), .int (1), .int (0), .int (0), .int 0, .int 0, .int 0, .int 0])), (q6, .inl (G.2 0, 5, .inl (fun _ => 0))), (q13, .inl (G.2 0, 5, .inl (fun _ => 0)))] H := hP
  have hD : va_D A [(h0, .inr (1, [.int 0, .int 0, .int 0, .ref q6, .ref q13, .int 0, .int (1), .int (1), .int (0), .int (0), .int 0, .int 0, .int 0, .int 0])), (q6, .inl (G.2 0, 5, .inl (fun _ => 0))), (q13, .inl (G.2 0, 5, .inl (fun _ => 0)))] := hD
  refine lv_aload_n hx hb d_R_init_38 rfl (lv_at hl 0 rfl) ?_
  refine lv_iload_n hx hb d_R_init_39 rfl (lv_at hl 1 rfl) ?_
  refine va_putF (D := G.1) (ci := 1) (v := .int a1) (ty := .int) (C := R_R) (T := F_R) (N := 14) hx hb hts in_R ty_R ty_R_ok n_R hown hK.1 hP hD hS 0 rfl rfl 0 (by decide) (hts _ tw_96) (fun _ h9 => h9) rfl hin rfl (by decide +kernel) rfl rfl (Nat.le_of_ble_eq_true rfl) d_R_init_40 (fun H locs hP hD hS => ?_)
  have hP : va_P G.1 vcl [(h0, .inr (1, [.int a1, .int 0, .int 0, .ref q6, .ref q13, .int 0, .int (1), .int (1), .int (0), .int (0), .int 0, .int 0, .int 0, .int 0])), (q6, .inl (G.2 0, 5, .inl (fun _ => 0))), (q13, .inl (G.2 0, 5, .inl (fun _ => 0)))] H := hP
  have hD : va_D A [(h0, .inr (1, [.int a1, .int 0, .int 0, .ref q6, .ref q13, .int 0, .int (1), .int (1), .int (0), .int (0), .int 0, .int 0, .int 0, .int 0])), (q6, .inl (G.2 0, 5, .inl (fun _ => 0))), (q13, .inl (G.2 0, 5, .inl (fun _ => 0)))] := hD
  refine lv_aload_n hx hb d_R_init_43 rfl (lv_at hl 0 rfl) ?_
  refine lv_iload_n hx hb d_R_init_44 rfl (lv_at hl 2 rfl) ?_
  refine va_putF (D := G.1) (ci := 1) (v := .int a2) (ty := .boolean) (C := R_R) (T := F_R) (N := 14) hx hb hts in_R ty_R ty_R_ok n_R hown hK.1 hP hD hS 0 rfl rfl 1 (by decide) (hts _ tw_98) (fun _ h9 => h9) rfl hin rfl (by decide +kernel) (b_fits hb2).1 (b_fits hb2).2 (Nat.le_of_ble_eq_true rfl) d_R_init_45 (fun H locs hP hD hS => ?_)
  have hP : va_P G.1 vcl [(h0, .inr (1, [.int a1, .int a2, .int 0, .ref q6, .ref q13, .int 0, .int (1), .int (1), .int (0), .int (0), .int 0, .int 0, .int 0, .int 0])), (q6, .inl (G.2 0, 5, .inl (fun _ => 0))), (q13, .inl (G.2 0, 5, .inl (fun _ => 0)))] H := hP
  have hD : va_D A [(h0, .inr (1, [.int a1, .int a2, .int 0, .ref q6, .ref q13, .int 0, .int (1), .int (1), .int (0), .int (0), .int 0, .int 0, .int 0, .int 0])), (q6, .inl (G.2 0, 5, .inl (fun _ => 0))), (q13, .inl (G.2 0, 5, .inl (fun _ => 0)))] := hD
  refine lv_aload_n hx hb d_R_init_48 rfl (lv_at hl 0 rfl) ?_
  refine lv_iload_n hx hb d_R_init_49 rfl (lv_at hl 3 rfl) ?_
  refine va_putF (D := G.1) (ci := 1) (v := .int a3) (ty := .int) (C := R_R) (T := F_R) (N := 14) hx hb hts in_R ty_R ty_R_ok n_R hown hK.1 hP hD hS 0 rfl rfl 2 (by decide) (hts _ tw_99) (fun _ h9 => h9) rfl hin rfl (by decide +kernel) rfl rfl (Nat.le_of_ble_eq_true rfl) d_R_init_50 (fun H locs hP hD hS => ?_)
  have hP : va_P G.1 vcl [(h0, .inr (1, [.int a1, .int a2, .int a3, .ref q6, .ref q13, .int 0, .int (1), .int (1), .int (0), .int (0), .int 0, .int 0, .int 0, .int 0])), (q6, .inl (G.2 0, 5, .inl (fun _ => 0))), (q13, .inl (G.2 0, 5, .inl (fun _ => 0)))] H := hP
  have hD : va_D A [(h0, .inr (1, [.int a1, .int a2, .int a3, .ref q6, .ref q13, .int 0, .int (1), .int (1), .int (0), .int (0), .int 0, .int 0, .int 0, .int 0])), (q6, .inl (G.2 0, 5, .inl (fun _ => 0))), (q13, .inl (G.2 0, 5, .inl (fun _ => 0)))] := hD
  exact W.vret hx hb hr (fun t ht hW => ⟨⟨(), rfl, trivial, q6, q13, by rw [ht]; exact hP, hD⟩, hS.F ht⟩) hS.2.2 d_R_init_53

set_option maxHeartbeats 4000000 in
set_option maxRecDepth 100000 in
theorem ca_M_init (l : Launch) (G : Gx) (h0 sz : Nat) (a1 : Int32) (a2 : Int32) (a3 : Int32) : Met l y_M_init ws_M_init { frames := 1, cells := 0, slots := 0, locals := 20 } (va_Pc [.ref h0, .int a1, .int a2, .int a3] (fun U => U.heap.size = sz ∧ va_P G.1 vcl [(h0, .inr (2, [.int 0, .int 0, .int 0, .int 0, .int 0]))] U.heap ∧ va_D (fun _ => True) [(h0, .inr (2, [.int 0, .int 0, .int 0, .int 0, .int 0]))] ∧ KK G U)) (va_Qv (fun _ : Unit => True) (fun _ t => va_P G.1 vcl [(h0, .inr (2, [.int a1, .int a2, .int a3, .int (-1), .int (-1)]))] t.heap ∧ va_D (va_A [(h0, .inr (2, [.int 0, .int 0, .int 0, .int 0, .int 0]))] sz) [(h0, .inr (2, [.int a1, .int a2, .int a3, .int (-1), .int (-1)]))]) (va_A [(h0, .inr (2, [.int 0, .int 0, .int 0, .int 0, .int 0]))] sz)) 0 0 (va_A [(h0, .inr (2, [.int 0, .int 0, .int 0, .int 0, .int 0]))] sz) := by
  refine Met.ofW (cc := c_M_init) (maxL := 4) (ret := none) (by decide) rfl ?_
  intro p e s m args below meth c s₁ B hml hv
  obtain ⟨rfl, hsz, hP, hD0, hK⟩ := hv
  have hx := B.exec
  have hb := B.bytes
  have hr := B.returns
  have hts : ∀ w ∈ tbG, w.before [.ref h0, .int a1, .int a2, .int a3].toArray s = true := fun w h => atoms_spec (ws := ws_M_init) B.pre w (List.mem_cons_of_mem _ h)
  have hown : s.vm.findClass "RollStages$Machine" = some m.cls := findClass_of_methodNamed B.named
  have hlocks := B.notSynchronized
  have hin : meth.name = "<init>" := (name_of_methodNamed B.named B.method).1
  subst hsz
  have hD := hD0.self (sz := s.heap.size)
  generalize hAe : va_A [(h0, .inr (2, [.int 0, .int 0, .int 0, .int 0, .int 0]))] s.heap.size = A at hD ⊢
  have hA : ∀ q : Nat, s.heap.size ≤ q → A q := fun q h => by rw [← hAe]; exact Or.inr h
  have hS : va_S A s.heap s.heap [] := va_S.rf
  have hP : va_P G.1 vcl [(h0, .inr (2, [.int 0, .int 0, .int 0, .int 0, .int 0]))] s.heap := hP
  have hl := lv_entry ([.ref h0, .int a1, .int a2, .int a3]) (n := 4) (Nat.le_of_ble_eq_true rfl)
  rw [lg_entry_eq]
  generalize (lg_sl ([.ref h0, .int a1, .int a2, .int a3]) ++ List.replicate (4 - (lg_sl ([.ref h0, .int a1, .int a2, .int a3])).length) Slot.unset).toArray = ls at hl ⊢
  have hl : lv_has ls 4 [(0, .ref h0), (1, .int a1), (2, .int a2), (3, .int a3)] := hl
  refine lv_aload_n hx hb d_M_init_0 rfl (lv_at hl 0 rfl) ?_
  refine W.objInit hx hb hown (hts _ tw_271) (hts _ tw_15) (hts _ tw_16) rfl (by rw [hml]; exact hl.1) rfl d_M_init_1 (Nat.le_of_ble_eq_true rfl) (Nat.le_of_ble_eq_true rfl) ?_
  refine W.eq (g2 := F0 m 4 ls []) rfl ?_
  refine lv_aload_n hx hb d_M_init_4 rfl (lv_at hl 0 rfl) ?_
  refine lv_iconst (v := -1) hx hb d_M_init_5 (by decide) ?_
  refine va_put (D := G.1) (ci := 2) (v := .int (-1)) (ty := .int) (C := R_M) (T := F_M) (N := 5) hx hb hts in_M ty_M ty_M_ok n_M hown hK.1 hP hD hS 0 rfl rfl 3 (by decide) (hts _ tw_278) (fun _ h9 => h9) rfl (by decide +kernel) rfl rfl (Nat.le_of_ble_eq_true rfl) d_M_init_6 (fun H locs hP hD hS => ?_)
  have hP : va_P G.1 vcl [(h0, .inr (2, [.int 0, .int 0, .int 0, .int (-1), .int 0]))] H := hP
  have hD : va_D A [(h0, .inr (2, [.int 0, .int 0, .int 0, .int (-1), .int 0]))] := hD
  refine lv_aload_n hx hb d_M_init_9 rfl (lv_at hl 0 rfl) ?_
  refine lv_iconst (v := -1) hx hb d_M_init_10 (by decide) ?_
  refine va_put (D := G.1) (ci := 2) (v := .int (-1)) (ty := .int) (C := R_M) (T := F_M) (N := 5) hx hb hts in_M ty_M ty_M_ok n_M hown hK.1 hP hD hS 0 rfl rfl 4 (by decide) (hts _ tw_280) (fun _ h9 => h9) rfl (by decide +kernel) rfl rfl (Nat.le_of_ble_eq_true rfl) d_M_init_11 (fun H locs hP hD hS => ?_)
  have hP : va_P G.1 vcl [(h0, .inr (2, [.int 0, .int 0, .int 0, .int (-1), .int (-1)]))] H := hP
  have hD : va_D A [(h0, .inr (2, [.int 0, .int 0, .int 0, .int (-1), .int (-1)]))] := hD
  refine lv_aload_n hx hb d_M_init_14 rfl (lv_at hl 0 rfl) ?_
  refine lv_iload_n hx hb d_M_init_15 rfl (lv_at hl 1 rfl) ?_
  refine va_putF (D := G.1) (ci := 2) (v := .int a1) (ty := .int) (C := R_M) (T := F_M) (N := 5) hx hb hts in_M ty_M ty_M_ok n_M hown hK.1 hP hD hS 0 rfl rfl 0 (by decide) (hts _ tw_272) (fun _ h9 => h9) rfl hin rfl (by decide +kernel) rfl rfl (Nat.le_of_ble_eq_true rfl) d_M_init_16 (fun H locs hP hD hS => ?_)
  have hP : va_P G.1 vcl [(h0, .inr (2, [.int a1, .int 0, .int 0, .int (-1), .int (-1)]))] H := hP
  have hD : va_D A [(h0, .inr (2, [.int a1, .int 0, .int 0, .int (-1), .int (-1)]))] := hD
  refine lv_aload_n hx hb d_M_init_19 rfl (lv_at hl 0 rfl) ?_
  refine lv_iload_n hx hb d_M_init_20 rfl (lv_at hl 2 rfl) ?_
  refine va_putF (D := G.1) (ci := 2) (v := .int a2) (ty := .int) (C := R_M) (T := F_M) (N := 5) hx hb hts in_M ty_M ty_M_ok n_M hown hK.1 hP hD hS 0 rfl rfl 1 (by decide) (hts _ tw_274) (fun _ h9 => h9) rfl hin rfl (by decide +kernel) rfl rfl (Nat.le_of_ble_eq_true rfl) d_M_init_21 (fun H locs hP hD hS => ?_)
  have hP : va_P G.1 vcl [(h0, .inr (2, [.int a1, .int a2, .int 0, .int (-1), .int (-1)]))] H := hP
  have hD : va_D A [(h0, .inr (2, [.int a1, .int a2, .int 0, .int (-1), .int (-1)]))] := hD
  refine lv_aload_n hx hb d_M_init_24 rfl (lv_at hl 0 rfl) ?_
  refine lv_iload_n hx hb d_M_init_25 rfl (lv_at hl 3 rfl) ?_
  refine va_putF (D := G.1) (ci := 2) (v := .int a3) (ty := .int) (C := R_M) (T := F_M) (N := 5) hx hb hts in_M ty_M ty_M_ok n_M hown hK.1 hP hD hS 0 rfl rfl 2 (by decide) (hts _ tw_276) (fun _ h9 => h9) rfl hin rfl (by decide +kernel) rfl rfl (Nat.le_of_ble_eq_true rfl) d_M_init_26 (fun H locs hP hD hS => ?_)
  have hP : va_P G.1 vcl [(h0, .inr (2, [.int a1, .int a2, .int a3, .int (-1), .int (-1)]))] H := hP
  have hD : va_D A [(h0, .inr (2, [.int a1, .int a2, .int a3, .int (-1), .int (-1)]))] := hD
  exact W.vret hx hb hr (fun t ht hW => ⟨⟨(), rfl, trivial, by rw [ht]; exact hP, hD⟩, hS.F ht⟩) hS.2.2 d_M_init_29

set_option maxHeartbeats 4000000 in
set_option maxRecDepth 100000 in
theorem ca_D_init (l : Launch) (G : Gx) (h0 sz : Nat) : Met l y_D_init ws_D_init { frames := 1, cells := 5, slots := 152, locals := 20 } (va_Pc [.ref h0] (fun U => U.heap.size = sz ∧ va_P G.1 vcl [(h0, .inr (3, [.null, .null, .null, .int 0, .null, .null, .int 0, .int 0]))] U.heap ∧ va_D (fun _ => True) [(h0, .inr (3, [.null, .null, .null, .int 0, .null, .null, .int 0, .int 0]))] ∧ KK G U)) (va_Qv (fun _ : Unit => True) (fun _ t => ∃ (q7 : Nat) (q15 : Nat) (q23 : Nat) (q31 : Nat) (q39 : Nat), va_P G.1 vcl [(h0, .inr (3, [.ref q7, .ref q15, .ref q23, .int 0, .ref q31, .ref q39, .int 0, .int 0])), (q7, .inl (G.2 0, 40, .inl (fun _ => 0))), (q15, .inl (G.2 0, 40, .inl (fun _ => 0))), (q23, .inl (G.2 0, 40, .inl (fun _ => 0))), (q31, .inl (G.2 0, 16, .inl (fun _ => 0))), (q39, .inl (G.2 0, 16, .inl (fun _ => 0)))] t.heap ∧ va_D (va_A [(h0, .inr (3, [.null, .null, .null, .int 0, .null, .null, .int 0, .int 0]))] sz) [(h0, .inr (3, [.ref q7, .ref q15, .ref q23, .int 0, .ref q31, .ref q39, .int 0, .int 0])), (q7, .inl (G.2 0, 40, .inl (fun _ => 0))), (q15, .inl (G.2 0, 40, .inl (fun _ => 0))), (q23, .inl (G.2 0, 40, .inl (fun _ => 0))), (q31, .inl (G.2 0, 16, .inl (fun _ => 0))), (q39, .inl (G.2 0, 16, .inl (fun _ => 0)))]) (va_A [(h0, .inr (3, [.null, .null, .null, .int 0, .null, .null, .int 0, .int 0]))] sz)) 5 152 (va_A [(h0, .inr (3, [.null, .null, .null, .int 0, .null, .null, .int 0, .int 0]))] sz) := by
  refine Met.ofW (cc := c_D_init) (maxL := 1) (ret := none) (by decide) rfl ?_
  intro p e s m args below meth c s₁ B hml hv
  obtain ⟨rfl, hsz, hP, hD0, hK⟩ := hv
  have hx := B.exec
  have hb := B.bytes
  have hr := B.returns
  have hts : ∀ w ∈ tbG, w.before [.ref h0].toArray s = true := fun w h => atoms_spec (ws := ws_D_init) B.pre w (List.mem_cons_of_mem _ h)
  have hown : s.vm.findClass "RollStages$Deltas" = some m.cls := findClass_of_methodNamed B.named
  have hlocks := B.notSynchronized
  have hin : meth.name = "<init>" := (name_of_methodNamed B.named B.method).1
  subst hsz
  have hD := hD0.self (sz := s.heap.size)
  generalize hAe : va_A [(h0, .inr (3, [.null, .null, .null, .int 0, .null, .null, .int 0, .int 0]))] s.heap.size = A at hD ⊢
  have hA : ∀ q : Nat, s.heap.size ≤ q → A q := fun q h => by rw [← hAe]; exact Or.inr h
  have hS : va_S A s.heap s.heap [] := va_S.rf
  have hP : va_P G.1 vcl [(h0, .inr (3, [.null, .null, .null, .int 0, .null, .null, .int 0, .int 0]))] s.heap := hP
  have hl := lv_entry ([.ref h0]) (n := 1) (Nat.le_of_ble_eq_true rfl)
  rw [lg_entry_eq]
  generalize (lg_sl ([.ref h0]) ++ List.replicate (1 - (lg_sl ([.ref h0])).length) Slot.unset).toArray = ls at hl ⊢
  have hl : lv_has ls 1 [(0, .ref h0)] := hl
  refine lv_aload_n hx hb d_D_init_0 rfl (lv_at hl 0 rfl) ?_
  refine W.objInit hx hb hown (hts _ tw_26) (hts _ tw_15) (hts _ tw_16) rfl (by rw [hml]; exact hl.1) rfl d_D_init_1 (Nat.le_of_ble_eq_true rfl) (Nat.le_of_ble_eq_true rfl) ?_
  refine W.eq (g2 := F0 m 4 ls []) rfl ?_
  refine lv_aload_n hx hb d_D_init_4 rfl (lv_at hl 0 rfl) ?_
  refine lv_bipush (v := 40) hx hb d_D_init_5 (by decide) ?_
  refine la_newi (N' := 40) hx hb (hts _ tw_54) hK hP hD hS hA (by decide) (by decide) (by decide) (Nat.le_of_ble_eq_true rfl) (Nat.le_of_ble_eq_true rfl) d_D_init_7 (fun q7 H hP hD hS => ?_)
  have hP : va_P G.1 vcl [(h0, .inr (3, [.null, .null, .null, .int 0, .null, .null, .int 0, .int 0])), (q7, .inl (G.2 0, 40, .inl (fun _ => 0)))] H := hP
  have hD : va_D A [(h0, .inr (3, [.null, .null, .null, .int 0, .null, .null, .int 0, .int 0])), (q7, .inl (G.2 0, 40, .inl (fun _ => 0)))] := hD
  refine va_putF (D := G.1) (ci := 3) (v := .ref q7) (ty := .array .int) (C := R_D) (T := F_D) (N := 8) hx hb hts in_D ty_D ty_D_ok n_D hown hK.1 hP hD hS 0 rfl rfl 0 (by decide) (hts _ tw_27) (fun _ h9 => h9) rfl hin rfl (by decide +kernel) rfl rfl (Nat.le_of_ble_eq_true rfl) d_D_init_9 (fun H locs hP hD hS => ?_)
  have hP : va_P G.1 vcl [(h0, .inr (3, [.ref q7, .null, .null, .int 0, .null, .null, .int 0, .int 0])), (q7, .inl (G.2 0, 40, .inl (fun _ => 0)))] H := hP
  have hD : va_D A [(h0, .inr (3, [.ref q7, .null, .null, .int 0, .null, .null, .int 0, .int 0])), (q7, .inl (G.2 0, 40, .inl (fun _ => 0)))] := hD
  refine lv_aload_n hx hb d_D_init_12 rfl (lv_at hl 0 rfl) ?_
  refine lv_bipush (v := 40) hx hb d_D_init_13 (by decide) ?_
  refine la_newi (N' := 40) hx hb (hts _ tw_54) hK hP hD hS hA (by decide) (by decide) (by decide) (Nat.le_of_ble_eq_true rfl) (Nat.le_of_ble_eq_true rfl) d_D_init_15 (fun q15 H hP hD hS => ?_)
  have hP : va_P G.1 vcl [(h0, .inr (3, [.ref q7, .null, .null, .int 0, .null, .null, .int 0, .int 0])), (q7, .inl (G.2 0, 40, .inl (fun _ => 0))), (q15, .inl (G.2 0, 40, .inl (fun _ => 0)))] H := hP
  have hD : va_D A [(h0, .inr (3, [.ref q7, .null, .null, .int 0, .null, .null, .int 0, .int 0])), (q7, .inl (G.2 0, 40, .inl (fun _ => 0))), (q15, .inl (G.2 0, 40, .inl (fun _ => 0)))] := hD
  refine va_putF (D := G.1) (ci := 3) (v := .ref q15) (ty := .array .int) (C := R_D) (T := F_D) (N := 8) hx hb hts in_D ty_D ty_D_ok n_D hown hK.1 hP hD hS 0 rfl rfl 1 (by decide) (hts _ tw_28) (fun _ h9 => h9) rfl hin rfl (by decide +kernel) rfl rfl (Nat.le_of_ble_eq_true rfl) d_D_init_17 (fun H locs hP hD hS => ?_)
  have hP : va_P G.1 vcl [(h0, .inr (3, [.ref q7, .ref q15, .null, .int 0, .null, .null, .int 0, .int 0])), (q7, .inl (G.2 0, 40, .inl (fun _ => 0))), (q15, .inl (G.2 0, 40, .inl (fun _ => 0)))] H := hP
  have hD : va_D A [(h0, .inr (3, [.ref q7, .ref q15, .null, .int 0, .null, .null, .int 0, .int 0])), (q7, .inl (G.2 0, 40, .inl (fun _ => 0))), (q15, .inl (G.2 0, 40, .inl (fun _ => 0)))] := hD
  refine lv_aload_n hx hb d_D_init_20 rfl (lv_at hl 0 rfl) ?_
  refine lv_bipush (v := 40) hx hb d_D_init_21 (by decide) ?_
  refine la_newi (N' := 40) hx hb (hts _ tw_54) hK hP hD hS hA (by decide) (by decide) (by decide) (Nat.le_of_ble_eq_true rfl) (Nat.le_of_ble_eq_true rfl) d_D_init_23 (fun q23 H hP hD hS => ?_)
  have hP : va_P G.1 vcl [(h0, .inr (3, [.ref q7, .ref q15, .null, .int 0, .null, .null, .int 0, .int 0])), (q7, .inl (G.2 0, 40, .inl (fun _ => 0))), (q15, .inl (G.2 0, 40, .inl (fun _ => 0))), (q23, .inl (G.2 0, 40, .inl (fun _ => 0)))] H := hP
  have hD : va_D A [(h0, .inr (3, [.ref q7, .ref q15, .null, .int 0, .null, .null, .int 0, .int 0])), (q7, .inl (G.2 0, 40, .inl (fun _ => 0))), (q15, .inl (G.2 0, 40, .inl (fun _ => 0))), (q23, .inl (G.2 0, 40, .inl (fun _ => 0)))] := hD
  refine va_putF (D := G.1) (ci := 3) (v := .ref q23) (ty := .array .int) (C := R_D) (T := F_D) (N := 8) hx hb hts in_D ty_D ty_D_ok n_D hown hK.1 hP hD hS 0 rfl rfl 2 (by decide) (hts _ tw_29) (fun _ h9 => h9) rfl hin rfl (by decide +kernel) rfl rfl (Nat.le_of_ble_eq_true rfl) d_D_init_25 (fun H locs hP hD hS => ?_)
  have hP : va_P G.1 vcl [(h0, .inr (3, [.ref q7, .ref q15, .ref q23, .int 0, .null, .null, .int 0, .int 0])), (q7, .inl (G.2 0, 40, .inl (fun _ => 0))), (q15, .inl (G.2 0, 40, .inl (fun _ => 0))), (q23, .inl (G.2 0, 40, .inl (fun _ => 0)))] H := hP
  have hD : va_D A [(h0, .inr (3, [.ref q7, .ref q15, .ref q23, .int 0, .null, .null, .int 0, .int 0])), (q7, .inl (G.2 0, 40, .inl (fun _ => 0))), (q15, .inl (G.2 0, 40, .inl (fun _ => 0))), (q23, .inl (G.2 0, 40, .inl (fun _ => 0)))] := hD
  refine lv_aload_n hx hb d_D_init_28 rfl (lv_at hl 0 rfl) ?_
  refine lv_bipush (v := 16) hx hb d_D_init_29 (by decide) ?_
  refine la_newi (N' := 16) hx hb (hts _ tw_54) hK hP hD hS hA (by decide) (by decide) (by decide) (Nat.le_of_ble_eq_true rfl) (Nat.le_of_ble_eq_true rfl) d_D_init_31 (fun q31 H hP hD hS => ?_)
  have hP : va_P G.1 vcl [(h0, .inr (3, [.ref q7, .ref q15, .ref q23, .int 0, .null, .null, .int 0, .int 0])), (q7, .inl (G.2 0, 40, .inl (fun _ => 0))), (q15, .inl (G.2 0, 40, .inl (fun _ => 0))), (q23, .inl (G.2 0, 40, .inl (fun _ => 0))), (q31, .inl (G.2 0, 16, .inl (fun _ => 0)))] H := hP
  have hD : va_D A [(h0, .inr (3, [.ref q7, .ref q15, .ref q23, .int 0, .null, .null, .int 0, .int 0])), (q7, .inl (G.2 0, 40, .inl (fun _ => 0))), (q15, .inl (G.2 0, 40, .inl (fun _ => 0))), (q23, .inl (G.2 0, 40, .inl (fun _ => 0))), (q31, .inl (G.2 0, 16, .inl (fun _ => 0)))] := hD
  refine va_putF (D := G.1) (ci := 3) (v := .ref q31) (ty := .array .int) (C := R_D) (T := F_D) (N := 8) hx hb hts in_D ty_D ty_D_ok n_D hown hK.1 hP hD hS 0 rfl rfl 4 (by decide) (hts _ tw_31) (fun _ h9 => h9) rfl hin rfl (by decide +kernel) rfl rfl (Nat.le_of_ble_eq_true rfl) d_D_init_33 (fun H locs hP hD hS => ?_)
  have hP : va_P G.1 vcl [(h0, .inr (3, [.ref q7, .ref q15, .ref q23, .int 0, .ref q31, .null, .int 0, .int 0])), (q7, .inl (G.2 0, 40, .inl (fun _ => 0))), (q15, .inl (G.2 0, 40, .inl (fun _ => 0))), (q23, .inl (G.2 0, 40, .inl (fun _ => 0))), (q31, .inl (G.2 0, 16, .inl (fun _ => 0)))] H := hP
  have hD : va_D A [(h0, .inr (3, [.ref q7, .ref q15, .ref q23, .int 0, .ref q31, .null, .int 0, .int 0])), (q7, .inl (G.2 0, 40, .inl (fun _ => 0))), (q15, .inl (G.2 0, 40, .inl (fun _ => 0))), (q23, .inl (G.2 0, 40, .inl (fun _ => 0))), (q31, .inl (G.2 0, 16, .inl (fun _ => 0)))] := hD
  refine lv_aload_n hx hb d_D_init_36 rfl (lv_at hl 0 rfl) ?_
  refine lv_bipush (v := 16) hx hb d_D_init_37 (by decide) ?_
  refine la_newi (N' := 16) hx hb (hts _ tw_54) hK hP hD hS hA (by decide) (by decide) (by decide) (Nat.le_of_ble_eq_true rfl) (Nat.le_of_ble_eq_true rfl) d_D_init_39 (fun q39 H hP hD hS => ?_)
  have hP : va_P G.1 vcl [(h0, .inr (3, [.ref q7, .ref q15, .ref q23, .int 0, .ref q31, .null, .int 0, .int 0])), (q7, .inl (G.2 0, 40, .inl (fun _ => 0))), (q15, .inl (G.2 0, 40, .inl (fun _ => 0))), (q23, .inl (G.2 0, 40, .inl (fun _ => 0))), (q31, .inl (G.2 0, 16, .inl (fun _ => 0))), (q39, .inl (G.2 0, 16, .inl (fun _ => 0)))] H := hP
  have hD : va_D A [(h0, .inr (3, [.ref q7, .ref q15, .ref q23, .int 0, .ref q31, .null, .int 0, .int 0])), (q7, .inl (G.2 0, 40, .inl (fun _ => 0))), (q15, .inl (G.2 0, 40, .inl (fun _ => 0))), (q23, .inl (G.2 0, 40, .inl (fun _ => 0))), (q31, .inl (G.2 0, 16, .inl (fun _ => 0))), (q39, .inl (G.2 0, 16, .inl (fun _ => 0)))] := hD
  refine va_putF (D := G.1) (ci := 3) (v := .ref q39) (ty := .array .int) (C := R_D) (T := F_D) (N := 8) hx hb hts in_D ty_D ty_D_ok n_D hown hK.1 hP hD hS 0 rfl rfl 5 (by decide) (hts _ tw_32) (fun _ h9 => h9) rfl hin rfl (by decide +kernel) rfl rfl (Nat.le_of_ble_eq_true rfl) d_D_init_41 (fun H locs hP hD hS => ?_)
  have hP : va_P G.1 vcl [(h0, .inr (3, [.ref q7, .ref q15, .ref q23, .int 0, .ref q31, .ref q39, .int 0, .int 0])), (q7, .inl (G.2 0, 40, .inl (fun _ => 0))), (q15, .inl (G.2 0, 40, .inl (fun _ => 0))), (q23, .inl (G.2 0, 40, .inl (fun _ => 0))), (q31, .inl (G.2 0, 16, .inl (fun _ => 0))), (q39, .inl (G.2 0, 16, .inl (fun _ => 0)))] H := hP
  have hD : va_D A [(h0, .inr (3, [.ref q7, .ref q15, .ref q23, .int 0, .ref q31, .ref q39, .int 0, .int 0])), (q7, .inl (G.2 0, 40, .inl (fun _ => 0))), (q15, .inl (G.2 0, 40, .inl (fun _ => 0))), (q23, .inl (G.2 0, 40, .inl (fun _ => 0))), (q31, .inl (G.2 0, 16, .inl (fun _ => 0))), (q39, .inl (G.2 0, 16, .inl (fun _ => 0)))] := hD
  exact W.vret hx hb hr (fun t ht hW => ⟨⟨(), rfl, trivial, q7, q15, q23, q31, q39, by rw [ht]; exact hP, hD⟩, hS.F ht⟩) hS.2.2 d_D_init_44

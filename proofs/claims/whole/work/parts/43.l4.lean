/-! THE CLAIM OUT OF ONE WALK OF THE LAW'S BODY. Your part is whole_start (and what it stands on); all else here is the same for every law, but numbers. -/
def R_law : String := "RollStagesLaw"
def lw_P (b : Addr) (xs : List Int32) (args : Array Value) (s : State) : Prop := args = #[.ref b] ∧ s.IntsAt b xs ∧ xs.length ≤ 2048 ∧ (Jvm.Cond.and given_1 narrow_1).before args s = true
def lw_Q (_ : Array Value) (s : State) (o : Outcome) (t : State) : Prop := o = .returned (some (.int 1)) ∧ Framed s o t [] 600000 7302250
def lw_Z (below : List Frame) (a : Array Value) (s : State) : State → Prop := fun t => ∃ o, t.status = .running ∧ Ended t below o ∧ lw_Q a s o t
/-- the law's own end, with 1 on the stack, nothing written that was there before, its room as the claim has it -/
theorem lw_ret {p : Program} {l : Launch} {e : Env} {s : State} {m : MethodId} {below : List Frame} {meth : Method} {c : Code} {b : Nat} (hx : p.tables.exec = Jvm.exec) (hb : c.code = code) (hr : meth.sig.returnType = ret) (hlocks : meth.locks = false) {pc : Nat} {H : Heap} {ls : Array Slot} (hdg : decode code pc = .ok (.ireturn, 1)) : W p l e room_1 s m #[Value.ref b] below meth c H [] 600000 7302250 (lw_Z below #[Value.ref b] s) (F0 m pc ls [.int 1]) := by
  intro T hT X
  obtain ⟨fs, hret, hrun, hended, hW, hframe⟩ := X.leave (v := some (.int 1)) (hlocks := hlocks) (fun h => by rw [hr] at h; cases h)
  have hmeth' : T.vm.method? m = some meth := X.method'
  refine ⟨T.setFrames fs, ?_, .returned (some (.int 1)), hrun, hended, rfl, ⟨_, rfl⟩, hW, hframe⟩
  jvm_step X.here [X.here.top, hx, hb, hdg, hmeth', hr, ret, narrow_b1]
  (try refine ⟨rfl, ?_⟩); (try refine ⟨rfl, ?_⟩)
  first | (intro acts; rw [hret _ acts rfl rfl rfl]) | rw [hret _ _ rfl rfl rfl]
  exact Steps.refl _
/-- what holds at the law's entry: the machine, the code, the tables' words (any of lw_tbl by 'hts w (by decide +kernel)'), the script of L ints xs at the cell b, what the Statement gives of the start (any of its parts by flat_of_before) -/
def lw_At (p : Program) (s : State) (m : MethodId) (meth : Method) (c : Code) (b L : Nat) (xs : Nat → Int32) : Prop :=
  p.tables.exec = Jvm.exec ∧ c.code = code ∧ meth.sig.returnType = ret ∧ c.maxLocals = 4 ∧ s.vm.findClass R_law = some m.cls ∧ (∀ w ∈ lw_tbl, w.before #[Value.ref b] s = true) ∧ va_X b L xs s s.heap ∧ b < s.heap.size ∧ meth.locks = false ∧ (Jvm.Cond.and given_1 narrow_1).before #[Value.ref b] s = true
set_option maxHeartbeats 4000000 in
set_option maxRecDepth 100000 in
theorem whole_start {p : Program} {e : Env} {s : State} {m : MethodId} {below : List Frame} {meth : Method} {c : Code} (l : Launch) {b L : Nat} {xs : Nat → Int32} (hL : L ≤ 2048) (C0 : lw_At p s m meth c b L xs) : W p l e room_1 s m #[Value.ref b] below meth c s.heap [] 0 0 (lw_Z below #[Value.ref b] s) (entryFrame m ([Value.ref b] : List Value).toArray 4) := by
  obtain ⟨hx, hb, hr, hml, hown, h0, hX, hbl, hlocks, hgv⟩ := C0
  have hts : ∀ w ∈ tbG, w.before #[Value.ref b] s = true := fun w h => h0 w (tbG_sub w h)
  obtain ⟨G, hK⟩ := KK_start h0
  have hl := lv_entry ([Value.ref b]) (n := 4) (Nat.le_of_ble_eq_true rfl)
  rw [lg_entry_eq]
  generalize (lg_sl ([Value.ref b]) ++ List.replicate (4 - (lg_sl ([Value.ref b])).length) Slot.unset).toArray = ls at hl ⊢
  have hl : lv_has ls 4 [(0, .ref b)] := hl
  have hbA : ¬ (s.heap.size ≤ b) := by omega
  have hS : va_S (fun q => s.heap.size ≤ q) s.heap s.heap [] := va_S.rf
  have hw : mwG G (fun q => s.heap.size ≤ q) (fun _ => 0) (fun _ => none) s.heap := ⟨(fun _ _ h => by cases h), (fun _ _ _ _ h => by cases h), fun _ h => h⟩
  have F : LF p room_1 s m #[Value.ref b] c G (fun q => s.heap.size ≤ q) s.heap b L xs := ⟨hx, hb, hml, hown, hts, hK, hX, hbl, hbA, Nat.le_of_ble_eq_true rfl, Nat.le_of_ble_eq_true rfl⟩
  generalize hAe : (fun q : Nat => s.heap.size ≤ q) = A at hS hw F
  have hAo : ∀ q, A q → s.heap.size ≤ q := fun q h => by rw [← hAe] at h; exact h
  refine mw_new (ci := 0) (fs := [.null, .null, .null, .null, .int 0, .int 0, .int 0]) (C := R_C) (T := F_C) (N := 7) hx hb hts in_C ty_C ty_C_ok hown (hts _ tw_9) (hts _ tw_10) (hts _ tw_1) hK.1 hw hS 0 rfl rfl (by decide +kernel) (Nat.le_of_ble_eq_true rfl) (Nat.le_of_ble_eq_true rfl) d_L_law_0 (fun ad1 H hj hw hS => ?_)
  refine lv_dup hx hb d_L_law_3 rfl ?_
  have hPc : va_P G.1 vcl [(ad1 0, .inr (0, [.null, .null, .null, .null, .int 0, .int 0, .int 0]))] H := hw.P (va_up_self _ _ _)
  have hFc := mw_free1 hw (va_up_self _ _ _)
  refine mw_callA (va_runI (As := []) (rest := [.ref (ad1 0)]) ⟨hx, hb, hml, hown, hts⟩ (ca_C_init l G (ad1 0) H.size) ⟨callB_of 0 hts (tb_in tw_13) rfl rfl rfl (hts _ tw_1) (hts _ tw_11) hd_C_init ⟨Nat.le_of_ble_eq_true rfl, Nat.le_of_ble_eq_true rfl⟩, rfl, hts _ tw_12⟩ ⟨fun a U g mk q => ⟨q.1, q.2.1, q.2.2.1, q.2.2.2.1, KK.blind U g mk a q.2.2.2.2⟩, fun U hU hW => ⟨rfl, by rw [hU], by rw [hU]; exact hPc, va_D1, hK.warm hW⟩⟩ rfl rfl hl.1 rfl (lv_room (Nat.le_of_ble_eq_true rfl)) d_L_law_4 ⟨Nat.le_of_ble_eq_true rfl, Nat.le_of_ble_eq_true rfl⟩) hS (fun q h => hFc q h) (fun ad2 E1 H1 locs hX2 hw2 hz hk hS => ?_)
  obtain ⟨e20, rfl⟩ := hX2
  have hw : mwG G A ad2 (encC G.2 ad2 0 0 (f_A_fill s00 3 3 (-1))) H1 := hw2.A (fun k e he => hFc _ (hw2.1 k e he).2) (fun q hq => hw.2.2 q (Nat.le_trans hz hq))
  clear hw2 hz hk hPc hFc hj
  generalize ad1 0 = x0 at e20 ⊢
  generalize H1 = H at hw hS ⊢
  refine W.eq (g2 := F0 m (4 + 3) ls [.ref x0]) rfl ?_
  refine lv_astore_n (lv' := [(1, .ref x0), (0, .ref b)]) hx hb d_L_law_7 rfl hl (by decide) rfl (fun ls hl => ?_)
  refine mw_new (ci := 4) (fs := [.int 0, .int 0, .int 0, .int 0, .int 0, .null, .null, .null, .null, .null, .null, .null, .null, .null, .null, .null, .null, .null, .null, .null, .null, .null, .null, .null, .null, .null, .null, .null, .null, .null, .null]) (C := R_T) (T := F_T) (N := 31) hx hb hts in_T ty_T ty_T_ok hown (hts _ tw_403) (hts _ tw_404) (hts _ tw_4) hK.1 hw hS 1000 (encC_none (by omega)) rfl (by decide +kernel) (Nat.le_of_ble_eq_true rfl) (Nat.le_of_ble_eq_true rfl) d_L_law_8 (fun ad3 H hj hw hS => ?_)
  refine lv_dup hx hb d_L_law_11 rfl ?_
  have hPc : va_P G.1 vcl [(ad3 1000, .inr (4, [.int 0, .int 0, .int 0, .int 0, .int 0, .null, .null, .null, .null, .null, .null, .null, .null, .null, .null, .null, .null, .null, .null, .null, .null, .null, .null, .null, .null, .null, .null, .null, .null, .null, .null]))] H := hw.P (va_up_self _ _ _)
  have hFc := mw_free1 hw (va_up_self _ _ _)
  refine mw_callA (va_runI (As := []) (rest := [.ref (ad3 1000)]) ⟨hx, hb, hml, hown, hts⟩ (ca_T_init l G (ad3 1000) H.size) ⟨callB_of 0 hts (tb_in tw_407) rfl rfl rfl (hts _ tw_4) (hts _ tw_405) hd_T_init ⟨Nat.le_of_ble_eq_true rfl, Nat.le_of_ble_eq_true rfl⟩, rfl, hts _ tw_406⟩ ⟨fun a U g mk q => ⟨q.1, q.2.1, q.2.2.1, q.2.2.2.1, KK.blind U g mk a q.2.2.2.2⟩, fun U hU hW => ⟨rfl, by rw [hU], by rw [hU]; exact hPc, va_D1, hK.warm hW⟩⟩ rfl rfl hl.1 rfl (lv_room (Nat.le_of_ble_eq_true rfl)) d_L_law_12 ⟨Nat.le_of_ble_eq_true rfl, Nat.le_of_ble_eq_true rfl⟩) hS (fun q h => hFc q h) (fun adT E1 H1 locs hX2 hw2 hz hk hS => ?_)
  obtain ⟨eT0, rfl⟩ := hX2
  have hw := two_start hj hw hz hk hw2
  clear hw2 hz hk hPc hFc hj
  generalize ad3 1000 = y0 at eT0 ⊢
  generalize H1 = H at hw hS ⊢
  refine W.eq (g2 := F0 m (12 + 3) ls [.ref y0]) rfl ?_
  refine lv_astore_n (lv' := [(2, .ref y0), (1, .ref x0), (0, .ref b)]) hx hb d_L_law_15 rfl hl (by decide) rfl (fun ls hl => ?_)
  refine lv_iconst (v := 0) hx hb d_L_law_16 (by decide) ?_
  refine lv_istore_n (lv' := [(3, .int 0), (2, .ref y0), (1, .ref x0), (0, .ref b)]) hx hb d_L_law_17 rfl hl (by decide) rfl (fun ls hl => ?_)
  refine W.widen (k := 100 + 3 * 0) (n := 2000 + 24 * 0) (Nat.le_of_ble_eq_true rfl) (Nat.le_of_ble_eq_true rfl) ?_
  refine law_loop (c0 := 100) (d0 := 2000) F hL eT0 (Nat.le_of_ble_eq_true rfl) (Nat.le_of_ble_eq_true rfl) (fun H locs ls hS => ?_) 513 0 (by omega) (by omega) H locs ls ad2 0 0 _ _ e20 hw (sim_0 rfl) hS hl
  refine lv_iconst (v := 1) hx hb d_L_law_786 (by decide) ?_
  refine va_forget (fun q hq => hAo _ (hS.2.2 q hq)) ?_
  refine W.widen (k := 600000) (n := 7302250) (Nat.le_of_ble_eq_true rfl) (Nat.le_of_ble_eq_true rfl) ?_
  exact lw_ret hx hb hr hlocks d_L_law_787

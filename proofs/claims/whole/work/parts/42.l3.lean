theorem nsF_in : ∀ q ∈ nsF, Cond.fieldLinkNest q.1 q.2.1 q.2.2.1 q.2.2.2.1 q.2.2.2.2.1 q.2.2.2.2.2 ∈ lw_tbl := (List.forall_mem_cons.mpr ⟨tb_1 (i := 34) (by decide +kernel), (List.forall_mem_cons.mpr ⟨tb_1 (i := 36) (by decide +kernel), (List.forall_mem_cons.mpr ⟨tb_1 (i := 97) (by decide +kernel), (List.forall_mem_cons.mpr ⟨tb_1 (i := 100) (by decide +kernel), (List.forall_mem_cons.mpr ⟨tb_1 (i := 107) (by decide +kernel), (List.forall_mem_cons.mpr ⟨tb_1 (i := 108) (by decide +kernel), (List.forall_mem_cons.mpr ⟨tb_1 (i := 110) (by decide +kernel), (List.forall_mem_cons.mpr ⟨tb_2 (i := 33) (by decide +kernel), (List.forall_mem_cons.mpr ⟨tb_2 (i := 35) (by decide +kernel), (List.forall_mem_cons.mpr ⟨tb_2 (i := 37) (by decide +kernel), (List.forall_mem_cons.mpr ⟨tb_2 (i := 39) (by decide +kernel), (List.forall_mem_cons.mpr ⟨tb_2 (i := 41) (by decide +kernel), (fun _ h => absurd h List.not_mem_nil)⟩)⟩)⟩)⟩)⟩)⟩)⟩)⟩)⟩)⟩)⟩)⟩)
theorem nsM_in : ∀ q ∈ nsM, Cond.methodLinkNest q.1 q.2.1 q.2.2.1 q.2.2.2 ∈ lw_tbl := (List.forall_mem_cons.mpr ⟨tb_1 (i := 23) (by decide +kernel), (List.forall_mem_cons.mpr ⟨tb_1 (i := 92) (by decide +kernel), (List.forall_mem_cons.mpr ⟨tb_1 (i := 152) (by decide +kernel), (List.forall_mem_cons.mpr ⟨tb_1 (i := 156) (by decide +kernel), (List.forall_mem_cons.mpr ⟨tb_1 (i := 161) (by decide +kernel), (List.forall_mem_cons.mpr ⟨tb_1 (i := 169) (by decide +kernel), (List.forall_mem_cons.mpr ⟨tb_1 (i := 181) (by decide +kernel), (List.forall_mem_cons.mpr ⟨tb_1 (i := 189) (by decide +kernel), (List.forall_mem_cons.mpr ⟨tb_1 (i := 197) (by decide +kernel), (List.forall_mem_cons.mpr ⟨tb_1 (i := 205) (by decide +kernel), (List.forall_mem_cons.mpr ⟨tb_1 (i := 213) (by decide +kernel), (List.forall_mem_cons.mpr ⟨tb_2 (i := 0) (by decide +kernel), (List.forall_mem_cons.mpr ⟨tb_2 (i := 8) (by decide +kernel), (List.forall_mem_cons.mpr ⟨tb_2 (i := 12) (by decide +kernel), (List.forall_mem_cons.mpr ⟨tb_2 (i := 28) (by decide +kernel), (List.forall_mem_cons.mpr ⟨tb_2 (i := 85) (by decide +kernel), (List.forall_mem_cons.mpr ⟨tb_2 (i := 89) (by decide +kernel), (List.forall_mem_cons.mpr ⟨tb_2 (i := 105) (by decide +kernel), (List.forall_mem_cons.mpr ⟨tb_2 (i := 113) (by decide +kernel), (List.forall_mem_cons.mpr ⟨tb_2 (i := 123) (by decide +kernel), (List.forall_mem_cons.mpr ⟨tb_2 (i := 127) (by decide +kernel), (fun _ h => absurd h List.not_mem_nil)⟩)⟩)⟩)⟩)⟩)⟩)⟩)⟩)⟩)⟩)⟩)⟩)⟩)⟩)⟩)⟩)⟩)⟩)⟩)⟩)⟩)
/-- what stays, out of the tables -/
theorem KK_start {s : State} {args : Array Value} (h0 : ∀ w ∈ lw_tbl, w.before args s = true) : ∃ G : Gx, KK G s := by
  have hts : ∀ w ∈ tbG, w.before args s = true := fun w h => h0 w (tbG_sub w h)
  obtain ⟨c0, i0, k0⟩ := u_known (C := R_C) (T := F_C) (N := 7) (n := 7) hts in_C (hts _ tw_10)
  obtain ⟨c1, i1, k1⟩ := u_known (C := R_R) (T := F_R) (N := 14) (n := 14) hts in_R (hts _ tw_91)
  obtain ⟨c2, i2, k2⟩ := u_known (C := R_M) (T := F_M) (N := 5) (n := 5) hts in_M (hts _ tw_261)
  obtain ⟨c3, i3, k3⟩ := u_known (C := R_D) (T := F_D) (N := 8) (n := 8) hts in_D (hts _ tw_22)
  obtain ⟨c4, i4, k4⟩ := u_known (C := R_T) (T := F_T) (N := 31) (n := 31) hts in_T (hts _ tw_404)
  obtain ⟨cI, kI, pI, a1, a2, a3⟩ := Cond.arrayClass_spec (hts _ tw_54)
  obtain ⟨cZ, kZ, pZ, z1, z2, z3⟩ := Cond.arrayClass_spec (hts _ tw_503)
  have oR := h0 _ (tb_1 (w := .arrayOver (.object "RollStages$Release")) (i := 18) (by decide +kernel))
  have oM := h0 _ (tb_1 (w := .arrayOver (.object "RollStages$Machine")) (i := 20) (by decide +kernel))
  obtain ⟨pR, cR, kR, b1, -, b2, b3, b4⟩ := Cond.arrayOver_spec oR
  obtain ⟨pM, cM, kM, d1, -, d2, d3, d4⟩ := Cond.arrayOver_spec oM
  refine ⟨((fun c => if c = 0 then c0 else if c = 1 then c1 else if c = 2 then c2 else if c = 3 then c3 else c4, fun c => if c = 0 then i0 else if c = 1 then i1 else if c = 2 then i2 else if c = 3 then i3 else i4), fun k => if k = 0 then cI else if k = 1 then cR else if k = 2 then cM else cZ), ⟨?_, ?_⟩, ?_, ?_, ?_, ?_⟩
  · intro c q hq
    match c, hq with
    | 0, hq => cases hq; exact k0
    | 1, hq => cases hq; exact k1
    | 2, hq => cases hq; exact k2
    | 3, hq => cases hq; exact k3
    | 4, hq => cases hq; exact k4
    | c + 5, hq => cases hq
  · intro k q hq
    match k, hq with
    | 0, hq => cases hq; exact ⟨fun n z => ⟨fun k h => (by cases h), kI, a2, pI, a3⟩, a1⟩
    | 1, hq => cases hq; exact ⟨fun n z => ⟨fun k h => (by cases h), kR, b2, pR, b3⟩, kR, pR, b2, b3, b1, b4⟩
    | 2, hq => cases hq; exact ⟨fun n z => ⟨fun k h => (by cases h), kM, d2, pM, d3⟩, kM, pM, d2, d3, d1, d4⟩
    | 3, hq => cases hq; exact ⟨fun n z => ⟨fun k h => (by cases h), kZ, z2, pZ, z3⟩, z1⟩
    | k + 4, hq => cases hq
  · intro q hq
    exact va_Nw.of rfl (h0 _ (nsF_in q hq))
  · intro q hq
    exact va_Nw.of rfl (h0 _ (nsM_in q hq))
  · exact va_AO.of oR
  · exact va_AO.of oM
/-- both worlds at the beginning -/
theorem two_start {G : Gx} {A : Nat → Prop} {ad ad3 adT : Nat → Nat} {sc t : S2} {H H1 : Heap} {eb : va_E} (hj : ∀ j, j ≠ 1000 → ad3 j = ad j) (hw : mwG G A ad3 (va_up (encC G.2 ad 0 0 sc) 1000 (some eb)) H) (hz : H.size ≤ H1.size) (hk : ∀ q : Nat, q < H.size → ¬ va_A [(ad3 1000, eb)] H.size q → H1[q]? = H[q]?) (hT : mwG G (va_A [(ad3 1000, eb)] H.size) adT (encT G.2 adT t) H1) : two G A ad 0 0 sc adT t H1 := by
  have none1 : encC G.2 ad 0 0 sc 1000 = none := encC_none (by omega)
  have ne : ∀ k e, encC G.2 ad 0 0 sc k = some e → k ≠ 1000 := by
    intro k e he z
    rw [z, none1] at he
    cases he
  have st : ∀ k e, encC G.2 ad 0 0 sc k = some e → va_up (encC G.2 ad 0 0 sc) 1000 (some eb) k = some e ∧ ad3 k = ad k := fun k e he => ⟨by rw [va_up_ne _ _ (ne k e he)]; exact he, hj k (ne k e he)⟩
  have out : ∀ k e, encC G.2 ad 0 0 sc k = some e → ad k < H.size ∧ ¬ va_A [(ad3 1000, eb)] H.size (ad k) := by
    intro k e he
    obtain ⟨h1, h2⟩ := st k e he
    have hl := hw.lt h1
    rw [h2] at hl
    refine ⟨hl, fun q => ?_⟩
    rcases q with ⟨i, f, q⟩ | q
    · cases i with
      | zero =>
        have z := (Prod.mk.inj (Option.some.inj q)).1
        exact ne k e he (hw.2.1 k 1000 e eb h1 (va_up_self _ _ _) (by rw [h2]; exact z.symm))
      | succ i => simp at q
    · omega
  refine ⟨⟨fun k e he => ?_, fun i j f g hi hj' hij => ?_, fun q hq => hw.2.2 q (Nat.le_trans hz hq)⟩, ?_, fun j e he z => ?_⟩
  · obtain ⟨h1, h2⟩ := st k e he
    have h3 := hw.1 k e h1
    rw [h2] at h3
    exact ⟨h3.1.kept (hk _ (out k e he).1 (out k e he).2), h3.2⟩
  · obtain ⟨h1, h2⟩ := st i f hi
    obtain ⟨h3, h4⟩ := st j g hj'
    exact hw.2.1 i j f g h1 h3 (by rw [h2, h4]; exact hij)
  · exact hT.A (fun k e he => mw_free1 hw (va_up_self _ _ _) _ (hT.1 k e he).2) (fun q hq => hw.2.2 q (Nat.le_trans hz hq))
  · obtain ⟨k, hk2, hk3⟩ := z
    obtain ⟨f, hf⟩ := encT_is (g := G.2) (ad := adT) (t := t) hk2
    have := (hT.1 k f hf).2
    rw [hk3] at this
    exact (out j e he).2 this
theorem i4 {L k : Nat} (hL : L ≤ 2048) (hk : k ≤ 600) : (nI L - 4 < nI (4 * k)) ↔ L < 4 * k + 4 := by
  have e : (4 : Int32).toInt = 4 := by decide
  rw [i_lt, i_sub (by rw [nI_toInt (by omega)]; omega) (by rw [e]; omega), nI_toInt (by omega), nI_toInt (by omega), e]
  omega
theorem in_k {L k d : Nat} (hL : L ≤ 2048) (hd : d ≤ 3) (h : 4 * k + 4 ≤ L) : vp_in (nI (4 * k) + nI d) L := by
  rw [nI_add]
  exact vp_in_nI (by omega) (by omega)

set_option maxHeartbeats 4000000 in
set_option maxRecDepth 100000 in
/-- the law's loop -/
theorem law_loop {p : Program} {l : Launch} {e : Env} {R : Room} {s : State} {m : MethodId} {args : Array Value} {below : List Frame} {meth : Method} {c : Code} {Q : State → Prop} {G : Gx} {A : Nat → Prop} {H0 : Heap} {b L x0 y0 c0 d0 : Nat} {xs : Nat → Int32} {adT : Nat → Nat} (F : LF p R s m args c G A H0 b L xs) (hL : L ≤ 2048) (hT : adT 0 = y0) (hc : c0 + 3 * 514 ≤ R.cells) (hd : d0 + 24 * 514 ≤ R.slots)
    (kk : ∀ (H : Heap) (locs : List Loc) (ls : Array Slot), va_S A H0 H locs → W p l e R s m args below meth c H locs (c0 + 3 * 514) (d0 + 24 * 514) Q (F0 m 786 ls [])) :
    ∀ (n k : Nat), k ≤ 512 → L < 4 * k + 4 + 4 * n → ∀ (H : Heap) (locs : List Loc) (ls : Array Slot) (ad : Nat → Nat) (nr nm : Nat) (s0 t0 : S2), ad 0 = x0 → two G A ad nr nm s0 adT t0 H → Sim k nr nm s0 t0 → va_S A H0 H locs → lv_has ls 4 [(3, .int (nI (4 * k))), (2, .ref y0), (1, .ref x0), (0, .ref b)] → W p l e R s m args below meth c H locs (c0 + 3 * k) (d0 + 24 * k) Q (F0 m 18 ls []) := by
  intro n
  induction n with
  | zero =>
    intro k hk hn H locs ls ad nr nm s0 t0 h0 hw hM hS hl
    refine lv_iload_n F.hx F.hb d_L_law_18 rfl (lv_at hl 0 rfl) ?_
    refine lv_aload_n F.hx F.hb d_L_law_19 rfl (lv_at hl 3 rfl) ?_
    refine va_slen F.hx F.hb F.hX F.hbl F.hbA hS d_L_law_20 ?_
    refine lv_iconst (v := 4) F.hx F.hb d_L_law_21 (by decide) ?_
    refine lv_isub F.hx F.hb d_L_law_22 ?_
    refine lv_icmp_gt (tgt := 786) F.hx F.hb d_L_law_23 (by decide) (fun _ => ?_) (fun h => absurd ((i4 hL (by omega)).mpr (by omega)) h)
    exact W.widen (by omega) (by omega) (kk H locs ls hS)
  | succ n ih =>
    intro k hk hn H locs ls ad nr nm s0 t0 h0 hw hM hS hl
    refine lv_iload_n F.hx F.hb d_L_law_18 rfl (lv_at hl 0 rfl) ?_
    refine lv_aload_n F.hx F.hb d_L_law_19 rfl (lv_at hl 3 rfl) ?_
    refine va_slen F.hx F.hb F.hX F.hbl F.hbA hS d_L_law_20 ?_
    refine lv_iconst (v := 4) F.hx F.hb d_L_law_21 (by decide) ?_
    refine lv_isub F.hx F.hb d_L_law_22 ?_
    refine lv_icmp_gt (tgt := 786) F.hx F.hb d_L_law_23 (by decide) (fun _ => ?_) (fun hh => ?_)
    · exact W.widen (by omega) (by omega) (kk H locs ls hS)
    have hk4 : 4 * k + 4 ≤ L := Nat.le_of_not_lt fun z => hh ((i4 hL (by omega)).mpr z)
    have g0 : vp_in (nI (4 * k)) L := vp_in_nI (by omega) (by omega)
    have g1 : vp_in (nI (4 * k) + 1) L := in_k (d := 1) hL (by omega) hk4
    have g2 : vp_in (nI (4 * k) + 2) L := in_k (d := 2) hL (by omega) hk4
    have g3 : vp_in (nI (4 * k) + 3) L := in_k (d := 3) hL (by omega) hk4
    have nxt : ∀ (ad1 : Nat → Nat) (nr1 nm1 : Nat) (s1 t1 : S2) (H1 : Heap) (locs1 : List Loc), ad1 0 = x0 → two G A ad1 nr1 nm1 s1 adT t1 H1 → Sim (k + 1) nr1 nm1 s1 t1 → va_S A H0 H1 locs1 → W p l e R s m args below meth c H1 locs1 (c0 + 3 * k + 3) (d0 + 24 * k + 24) Q (F0 m 780 ls []) := by
      intro ad1 nr1 nm1 s1 t1 H1 locs1 h01 hw1 hM1 hS1
      refine lv_iinc (v := nI (4 * (k + 1))) (lv' := [(3, .int (nI (4 * (k + 1)))), (2, .ref y0), (1, .ref x0), (0, .ref b)]) F.hx F.hb d_L_law_780 hl (k := 0) rfl ?_ (by decide) rfl (fun ls hl => ?_)
      · show nI (4 * k) + nI 4 = nI (4 * (k + 1))
        rw [nI_add, Nat.mul_succ]
      refine lv_goto (tgt := 18) F.hx F.hb d_L_law_783 (by decide) ?_
      exact ih (k + 1) (by omega) (by omega) H1 locs1 ls ad1 nr1 nm1 s1 t1 h01 hw1 hM1 hS1 hl
    refine lv_aload_n F.hx F.hb d_L_law_26 rfl (lv_at hl 3 rfl) ?_
    refine lv_iload_n F.hx F.hb d_L_law_27 rfl (lv_at hl 0 rfl) ?_
    refine va_sld F.hx F.hb F.hX F.hbl F.hbA hS g0 d_L_law_28 ?_
    refine lv_bipush (v := 31) F.hx F.hb d_L_law_29 (by decide) ?_
    refine lv_iand F.hx F.hb d_L_law_31 ?_
    generalize (xs (Int32.toNatClampNeg (nI (4 * k)))) &&& 31 = v
    by_cases e0 : v = 0
    · refine lv_tableIn (tgt := 128) F.hx F.hb d_L_law_32 (by rw [e0]; decide) (by rw [e0]; decide) (by rw [e0]; rfl) (by decide) ?_
      exact law_case0 F hl g1 g2 g3 hw h0 hT hM (by omega) hS (by omega) (by omega) nxt
    by_cases e1 : v = 1
    · refine lv_tableIn (tgt := 187) F.hx F.hb d_L_law_32 (by rw [e1]; decide) (by rw [e1]; decide) (by rw [e1]; rfl) (by decide) ?_
      exact law_case1 F hl g1 g2 g3 hw h0 hT hM (by omega) hS (by omega) (by omega) nxt
    by_cases e2 : v = 2
    · refine lv_tableIn (tgt := 230) F.hx F.hb d_L_law_32 (by rw [e2]; decide) (by rw [e2]; decide) (by rw [e2]; rfl) (by decide) ?_
      exact law_case2 F hl g1 g2 g3 hw h0 hT hM (by omega) hS (by omega) (by omega) nxt
    by_cases e3 : v = 3
    · refine lv_tableIn (tgt := 273) F.hx F.hb d_L_law_32 (by rw [e3]; decide) (by rw [e3]; decide) (by rw [e3]; rfl) (by decide) ?_
      exact law_case3 F hl g1 g2 g3 hw h0 hT hM (by omega) hS (by omega) (by omega) nxt
    by_cases e4 : v = 4
    · refine lv_tableIn (tgt := 296) F.hx F.hb d_L_law_32 (by rw [e4]; decide) (by rw [e4]; decide) (by rw [e4]; rfl) (by decide) ?_
      exact law_case4 F hl g1 g2 g3 hw h0 hT hM (by omega) hS (by omega) (by omega) nxt
    by_cases e5 : v = 5
    · refine lv_tableIn (tgt := 339) F.hx F.hb d_L_law_32 (by rw [e5]; decide) (by rw [e5]; decide) (by rw [e5]; rfl) (by decide) ?_
      exact law_case5 F hl g1 g2 g3 hw h0 hT hM (by omega) hS (by omega) (by omega) nxt
    by_cases e6 : v = 6
    · refine lv_tableIn (tgt := 388) F.hx F.hb d_L_law_32 (by rw [e6]; decide) (by rw [e6]; decide) (by rw [e6]; rfl) (by decide) ?_
      exact law_case6 F hl g1 g2 g3 hw h0 hT hM (by omega) hS (by omega) (by omega) nxt
    by_cases e7 : v = 7
    · refine lv_tableIn (tgt := 411) F.hx F.hb d_L_law_32 (by rw [e7]; decide) (by rw [e7]; decide) (by rw [e7]; rfl) (by decide) ?_
      exact law_case7 F hl g1 g2 g3 hw h0 hT hM (by omega) hS (by omega) (by omega) nxt
    by_cases e8 : v = 8
    · refine lv_tableIn (tgt := 434) F.hx F.hb d_L_law_32 (by rw [e8]; decide) (by rw [e8]; decide) (by rw [e8]; rfl) (by decide) ?_
      exact law_case8 F hl g1 g2 g3 hw h0 hT hM (by omega) hS (by omega) (by omega) nxt
    by_cases e9 : v = 9
    · refine lv_tableIn (tgt := 467) F.hx F.hb d_L_law_32 (by rw [e9]; decide) (by rw [e9]; decide) (by rw [e9]; rfl) (by decide) ?_
      exact law_case9 F hl g1 g2 g3 hw h0 hT hM (by omega) hS (by omega) (by omega) nxt
    by_cases e10 : v = 10
    · refine lv_tableIn (tgt := 500) F.hx F.hb d_L_law_32 (by rw [e10]; decide) (by rw [e10]; decide) (by rw [e10]; rfl) (by decide) ?_
      exact law_case10 F hl g1 g2 g3 hw h0 hT hM (by omega) hS (by omega) (by omega) nxt
    by_cases e11 : v = 11
    · refine lv_tableIn (tgt := 533) F.hx F.hb d_L_law_32 (by rw [e11]; decide) (by rw [e11]; decide) (by rw [e11]; rfl) (by decide) ?_
      exact law_case11 F hl g1 g2 g3 hw h0 hT hM (by omega) hS (by omega) (by omega) nxt
    by_cases e12 : v = 12
    · refine lv_tableIn (tgt := 556) F.hx F.hb d_L_law_32 (by rw [e12]; decide) (by rw [e12]; decide) (by rw [e12]; rfl) (by decide) ?_
      exact law_case12 F hl g1 g2 g3 hw h0 hT hM (by omega) hS (by omega) (by omega) nxt
    by_cases e13 : v = 13
    · refine lv_tableIn (tgt := 589) F.hx F.hb d_L_law_32 (by rw [e13]; decide) (by rw [e13]; decide) (by rw [e13]; rfl) (by decide) ?_
      exact law_case13 F hl g1 g2 g3 hw h0 hT hM (by omega) hS (by omega) (by omega) nxt
    by_cases e14 : v = 14
    · refine lv_tableIn (tgt := 612) F.hx F.hb d_L_law_32 (by rw [e14]; decide) (by rw [e14]; decide) (by rw [e14]; rfl) (by decide) ?_
      exact law_case14 F hl g1 g2 g3 hw h0 hT hM (by omega) hS (by omega) (by omega) nxt
    by_cases e15 : v = 15
    · refine lv_tableIn (tgt := 645) F.hx F.hb d_L_law_32 (by rw [e15]; decide) (by rw [e15]; decide) (by rw [e15]; rfl) (by decide) ?_
      exact law_case15 F hl g1 g2 g3 hw h0 hT hM (by omega) hS (by omega) (by omega) nxt
    by_cases e16 : v = 16
    · refine lv_tableIn (tgt := 688) F.hx F.hb d_L_law_32 (by rw [e16]; decide) (by rw [e16]; decide) (by rw [e16]; rfl) (by decide) ?_
      exact law_case16 F hl g1 g2 g3 hw h0 hT hM (by omega) hS (by omega) (by omega) nxt
    by_cases e17 : v = 17
    · refine lv_tableIn (tgt := 711) F.hx F.hb d_L_law_32 (by rw [e17]; decide) (by rw [e17]; decide) (by rw [e17]; rfl) (by decide) ?_
      exact law_case17 F hl g1 g2 g3 hw h0 hT hM (by omega) hS (by omega) (by omega) nxt
    by_cases e18 : v = 18
    · refine lv_tableIn (tgt := 734) F.hx F.hb d_L_law_32 (by rw [e18]; decide) (by rw [e18]; decide) (by rw [e18]; rfl) (by decide) ?_
      exact law_case18 F hl g1 g2 g3 hw h0 hT hM (by omega) hS (by omega) (by omega) nxt
    by_cases e19 : v = 19
    · refine lv_tableIn (tgt := 757) F.hx F.hb d_L_law_32 (by rw [e19]; decide) (by rw [e19]; decide) (by rw [e19]; rfl) (by decide) ?_
      exact law_case19 F hl g1 g2 g3 hw h0 hT hM (by omega) hS (by omega) (by omega) nxt
    refine lv_tableOut (tgt := 780) F.hx F.hb d_L_law_32 (by have q0 := lv_neT (a := 0) e0 (by decide); have q1 := lv_neT (a := 1) e1 (by decide); have q2 := lv_neT (a := 2) e2 (by decide); have q3 := lv_neT (a := 3) e3 (by decide); have q4 := lv_neT (a := 4) e4 (by decide); have q5 := lv_neT (a := 5) e5 (by decide); have q6 := lv_neT (a := 6) e6 (by decide); have q7 := lv_neT (a := 7) e7 (by decide); have q8 := lv_neT (a := 8) e8 (by decide); have q9 := lv_neT (a := 9) e9 (by decide); have q10 := lv_neT (a := 10) e10 (by decide); have q11 := lv_neT (a := 11) e11 (by decide); have q12 := lv_neT (a := 12) e12 (by decide); have q13 := lv_neT (a := 13) e13 (by decide); have q14 := lv_neT (a := 14) e14 (by decide); have q15 := lv_neT (a := 15) e15 (by decide); have q16 := lv_neT (a := 16) e16 (by decide); have q17 := lv_neT (a := 17) e17 (by decide); have q18 := lv_neT (a := 18) e18 (by decide); have q19 := lv_neT (a := 19) e19 (by decide); omega) (by decide) ?_
    exact W.widen (by omega) (by omega) (nxt ad nr nm s0 t0 H locs h0 hw (hM.mono (by omega)) hS)

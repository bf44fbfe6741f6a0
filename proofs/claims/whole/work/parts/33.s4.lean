/-! calls that leave the releases alone -/
theorem Sim.oth {c nr nm : Nat} {s t s' t' : S2} (h : Sim c nr nm s t) (S0 : ∀ x, s' 0 x = s 0 x) (T0 : ∀ x, 1 ≤ x → x ≤ 3 → t' 0 x = t 0 x)
    (Sr : ∀ k, 10 ≤ k → k < 58 → s' k = s k) (Tr : ∀ f, 5 ≤ f → f ≤ 18 → t' f = t f)
    (mac : ∀ j, j < nm → MacSim nr s' t' j) (mw : ∀ j, j < 30 → MacW t' j) (bd : ∀ k, k < 3 → s' 3 k = t' 19 k) (dc : s' 4 3 = t' 0 4) (dcb : 0 ≤ (t' 0 4).toInt ∧ (t' 0 4).toInt ≤ 40) (dl : ∀ k, k < 40 → DelSim s' t' k) : Sim c nr nm s' t' := by
  have hn := h.hnr
  refine ⟨h.hnr, h.hnm, ?_, ?_, ?_, ?_, ?_, ?_, ?_, ?_, mac, mw, bd, dc, dcb, dl⟩
  · rw [S0]; exact h.c4
  · rw [S0]; exact h.c5
  · rw [T0 2 (by omega) (by omega)]; exact h.t2
  · rw [T0 3 (by omega) (by omega)]; exact h.t3
  · rw [S0, T0 1 (by omega) (by omega)]; exact h.ck
  · rw [T0 1 (by omega) (by omega)]; exact h.ckb
  · intro i hi
    refine ((h.rel i hi).cS (s' := s') ?_).cT ?_ ?_ ?_ ?_
    · intro k k1 k2
      exact Sr k (by omega) (by omega)
    · intro f f1 f2 _ _
      rw [Tr f f1 f2]
    · intro k hk; rw [Tr 8 (by omega) (by omega)]
    · intro k hk; rw [Tr 9 (by omega) (by omega)]
    · rw [T0 1 (by omega) (by omega)]; exact Int.le_refl _
  · intro i hi hi2
    have w := h.nw i hi hi2
    refine ⟨?_, ?_, ?_, ?_, ?_, ?_, ?_, ?_, ?_, ?_⟩
    · rw [Tr 5 (by omega) (by omega)]; exact w.n5
    · rw [Tr 7 (by omega) (by omega)]; exact w.n7
    · rw [Tr 12 (by omega) (by omega)]; exact w.n12
    · rw [Tr 13 (by omega) (by omega)]; exact w.n13
    · rw [Tr 14 (by omega) (by omega)]; exact w.n14
    · rw [Tr 15 (by omega) (by omega)]; exact w.n15
    · rw [Tr 16 (by omega) (by omega)]; exact w.n16
    · rw [Tr 17 (by omega) (by omega)]; exact w.n17
    · intro k hk; rw [Tr 8 (by omega) (by omega)]; exact w.sh k hk
    · intro k hk; rw [Tr 9 (by omega) (by omega)]; exact w.wa k hk
theorem MacSim.cg {nr : Nat} {s t s' t' : S2} {j : Nat} (h : MacSim nr s t j) (e : s' (58 + j) = s (58 + j)) (E : ∀ f, 20 ≤ f → f ≤ 23 → t' f j = t f j) : MacSim nr s' t' j := by
  have a0 := E 20 (by omega) (by omega)
  have a1 := E 21 (by omega) (by omega)
  have a2 := E 22 (by omega) (by omega)
  have a3 := E 23 (by omega) (by omega)
  refine ⟨?_, ?_, ?_, ?_, ?_, ?_, ?_, ?_⟩
  · rw [e, a0]; exact h.m0
  · rw [e, a1]; exact h.m1
  · rw [a1]; exact h.m1b
  · rw [e]; exact h.m2
  · rw [e, a2]; exact h.m3
  · rw [a2]; exact h.m3b
  · rw [e, a3]; exact h.m4
  · rw [a3]; exact h.m4b
theorem MacW.cg {t t' : S2} {j : Nat} (h : MacW t j) (E : ∀ f, 20 ≤ f → f ≤ 23 → t' f j = t f j) : MacW t' j := by
  have a0 := E 20 (by omega) (by omega)
  have a2 := E 22 (by omega) (by omega)
  have a3 := E 23 (by omega) (by omega)
  exact ⟨by rw [a0]; exact h.w0, by rw [a2]; exact h.w3, by rw [a3]; exact h.w4⟩
theorem DelSim.cg {s t s' t' : S2} {k : Nat} (h : DelSim s t k) (e5 : s' 5 k = s 5 k) (e6 : s' 6 k = s 6 k) (e7 : s' 7 k = s 7 k) (E : ∀ f, 24 ≤ f → f ≤ 26 → t' f k = t f k) : DelSim s' t' k := by
  have a0 := E 24 (by omega) (by omega)
  have a1 := E 25 (by omega) (by omega)
  have a2 := E 26 (by omega) (by omega)
  exact ⟨by rw [e5, a0]; exact h.d5, by rw [e6, a1]; exact h.d6, by rw [e7, a2]; exact h.d7, by rw [a0]; exact h.b5, by rw [a1]; exact h.b6, by rw [a2]; exact h.b7⟩
/-- rows -/
theorem rows_eq : ∀ j, j < 30 → f_C_rowOf (nI j) = f_T_rowOf (nI j) ∧ 0 ≤ (f_T_rowOf (nI j)).toInt := by decide +kernel
theorem Sim.row {c nr nm : Nat} {s t : S2} (h : Sim c nr nm s t) {j : Nat} (hj : j < nm) : 0 ≤ (s (58 + j) 2).toInt := by
  rw [(h.mac j hj).m2]
  exact (rows_eq j (by have := h.hnm; omega)).2
theorem rOk_15 {nr : Nat} {a : Int32} (h : a = -1 ∨ rOk nr a) (hn : nr ≤ 16) : -1 ≤ a.toInt ∧ a.toInt ≤ 15 := by
  rcases h with rfl | h
  · decide
  · obtain ⟨i, hi, hb, rfl⟩ := rOk_nI h
    rw [nI_toInt hb]; omega
/-- one machine's pin or its release -/
theorem Sim.macUp {c nr nm : Nat} {s t : S2} (h : Sim c nr nm s t) {j : Nat} (hj : j < nm) {a : Int32} (ha : a = -1 ∨ rOk nr a) {x f : Nat} (hx : (x = 3 ∧ f = 22) ∨ (x = 4 ∧ f = 23)) : Sim c nr nm (up2 s (58 + j) x a) (up2 t f j a) := by
  have hn := h.hnr
  have hm := h.hnm
  have wa := rOk_15 ha hn
  refine h.oth ?_ ?_ ?_ ?_ ?_ ?_ ?_ ?_ ?_ ?_
  · intro y; rw [up2_n1 (by omega)]
  · intro y _ _; rw [up2_n1 (by omega)]
  · intro k k1 k2; rw [up2_ne (by omega)]
  · intro k k1 k2; rw [up2_ne (by omega)]
  · intro j' hj'
    by_cases e : j' = j
    · subst e
      have M := h.mac j' hj
      rcases hx with ⟨rfl, rfl⟩ | ⟨rfl, rfl⟩
      · refine ⟨?_, ?_, ?_, ?_, ?_, ?_, ?_, ?_⟩ <;> simp (disch := omega) only [up2_sf, up2_n1, up2_n2]
        · exact M.m0
        · exact M.m1
        · exact M.m1b
        · exact M.m2
        · exact ha
        · exact M.m4
        · exact M.m4b
      · refine ⟨?_, ?_, ?_, ?_, ?_, ?_, ?_, ?_⟩ <;> simp (disch := omega) only [up2_sf, up2_n1, up2_n2]
        · exact M.m0
        · exact M.m1
        · exact M.m1b
        · exact M.m2
        · exact M.m3
        · exact M.m3b
        · exact ha
    · refine (h.mac j' hj').cg (by rw [up2_ne (by omega)]) (fun g _ _ => by rw [up2_n2 e])
  · intro j' hj'
    by_cases e : j' = j
    · subst e
      have M := h.mw j' hj'
      rcases hx with ⟨rfl, rfl⟩ | ⟨rfl, rfl⟩
      · refine ⟨?_, ?_, ?_⟩ <;> simp (disch := omega) only [up2_sf, up2_n1, up2_n2]
        · exact M.w0
        · exact wa
        · exact M.w4
      · refine ⟨?_, ?_, ?_⟩ <;> simp (disch := omega) only [up2_sf, up2_n1, up2_n2]
        · exact M.w0
        · exact M.w3
        · exact wa
    · exact (h.mw j' hj').cg (fun g _ _ => by rw [up2_n2 e])
  · intro k hk
    rw [up2_n1 (by omega), up2_n1 (by omega)]; exact h.bd k hk
  · rw [up2_n1 (by omega), up2_n1 (by omega)]; exact h.dc
  · rw [up2_n1 (by omega)]; exact h.dcb
  · intro k hk
    exact (h.dl k hk).cg (by rw [up2_n1 (by omega)]) (by rw [up2_n1 (by omega)]) (by rw [up2_n1 (by omega)]) (fun g _ _ => by rw [up2_n1 (by omega)])
theorem sim_pin {c nr nm : Nat} {s t : S2} {a1 a2 : Int32} (h : Sim c nr nm s t) : (f_C_pin nr nm s a1 a2).1 = (f_T_pin t a1 a2).1 ∧ Sim c nr nm (f_C_pin nr nm s a1 a2).2 (f_T_pin t a1 a2).2 := by
  replace h := h.code
  unfold f_C_pin f_T_pin
  generalize up2 t 0 0 0 = t at *
  by_cases hr : rOk nm a1
  · rw [if_pos hr, if_neg (fun q => (isMac_rOk h.t3 h.hnm).mp q hr)]
    obtain ⟨j, hj, hb, rfl⟩ := rOk_nI hr
    simp only [nI_clamp hb]
    by_cases q : a2 = -1
    · rw [if_pos q, if_pos q]
      exact ⟨rfl, h.macUp hj (Or.inl q) (Or.inr ⟨rfl, rfl⟩)⟩
    · rw [if_neg q, if_neg q]
      by_cases w : rOk nr a2
      · rw [if_pos w, if_neg (fun q => (isRel_rOk h.t2 h.hnr).mp q w)]
        exact ⟨rfl, h.macUp hj (Or.inr w) (Or.inr ⟨rfl, rfl⟩)⟩
      · rw [if_neg w, if_pos ((isRel_rOk h.t2 h.hnr).mpr w)]; exact ⟨rfl, h⟩
  · rw [if_neg hr, if_pos ((isMac_rOk h.t3 h.hnm).mpr hr)]; exact ⟨rfl, h⟩
theorem sim_row {c nr nm : Nat} {s t : S2} {a1 : Int32} (h : Sim c nr nm s t) : f_C_row nr nm s a1 = (f_T_row t a1).1 ∧ Sim c nr nm s (f_T_row t a1).2 := by
  replace h := h.code
  unfold f_C_row f_T_row
  generalize up2 t 0 0 0 = t at *
  by_cases hr : rOk nm a1
  · rw [if_pos hr, if_neg (fun q => (isMac_rOk h.t3 h.hnm).mp q hr)]
    obtain ⟨j, hj, hb, rfl⟩ := rOk_nI hr
    simp only [nI_clamp hb]
    exact ⟨(h.mac j hj).m2, h⟩
  · rw [if_neg hr, if_pos ((isMac_rOk h.t3 h.hnm).mpr hr)]; exact ⟨rfl, h⟩
theorem sim_has {c nr nm : Nat} {s t : S2} {a1 : Int32} (h : Sim c nr nm s t) : f_C_has nr nm s a1 = (f_T_has t a1).1 ∧ Sim c nr nm s (f_T_has t a1).2 := by
  replace h := h.code
  unfold f_C_has f_T_has
  generalize up2 t 0 0 0 = t at *
  by_cases hr : rOk nm a1
  · rw [if_pos hr, if_neg (fun q => (isMac_rOk h.t3 h.hnm).mp q hr)]
    obtain ⟨j, hj, hb, rfl⟩ := rOk_nI hr
    simp only [nI_clamp hb]
    exact ⟨(h.mac j hj).m3, h⟩
  · rw [if_neg hr, if_pos ((isMac_rOk h.t3 h.hnm).mpr hr)]; exact ⟨rfl, h⟩
theorem Sim.bdUp {c nr nm : Nat} {s t : S2} (h : Sim c nr nm s t) {k : Nat} {a : Int32} : Sim c nr nm (up2 s 3 k a) (up2 t 19 k a) := by
  refine h.oth ?_ ?_ ?_ ?_ ?_ ?_ ?_ ?_ ?_ ?_
  · intro y; rw [up2_n1 (by omega)]
  · intro y _ _; rw [up2_n1 (by omega)]
  · intro k k1 k2; rw [up2_ne (by omega)]
  · intro k k1 k2; rw [up2_ne (by omega)]
  · intro j hj
    exact (h.mac j hj).cg (by rw [up2_ne (by omega)]) (fun g _ _ => by rw [up2_n1 (by omega)])
  · intro j hj
    exact (h.mw j hj).cg (fun g _ _ => by rw [up2_n1 (by omega)])
  · intro k' hk
    rw [up2_at, up2_at]
    by_cases e : k' = k
    · rw [if_pos ⟨rfl, e⟩, if_pos ⟨rfl, e⟩]
    · rw [if_neg (fun w => e w.2), if_neg (fun w => e w.2)]; exact h.bd k' hk
  · rw [up2_n1 (by omega), up2_n1 (by omega)]; exact h.dc
  · rw [up2_n1 (by omega)]; exact h.dcb
  · intro k hk
    exact (h.dl k hk).cg (by rw [up2_n1 (by omega)]) (by rw [up2_n1 (by omega)]) (by rw [up2_n1 (by omega)]) (fun g _ _ => by rw [up2_n1 (by omega)])
theorem sim_back {c nr nm : Nat} {s t : S2} {a1 a2 : Int32} (h : Sim c nr nm s t) : (f_C_back nr nm s a1 a2).1 = (f_T_back t a1 a2).1 ∧ Sim c nr nm (f_C_back nr nm s a1 a2).2 (f_T_back t a1 a2).2 := by
  replace h := h.code
  unfold f_C_back f_T_back f_C_isChannel
  generalize up2 t 0 0 0 = t at *
  have W : f_T_isWithin = f_C_within := rfl
  rw [W]
  by_cases q0 : f_C_within a1 0 2 = 0
  · rw [if_pos q0, if_pos q0]; exact ⟨rfl, h⟩
  · rw [if_neg q0, if_neg q0]
    by_cases q : a2 = -1
    · rw [if_pos q, if_pos q]
      exact ⟨rfl, h.bdUp⟩
    · rw [if_neg q, if_neg q]
      by_cases w : rOk nr a2
      · rw [if_pos w, if_neg (fun q => (isRel_rOk h.t2 h.hnr).mp q w)]
        obtain ⟨i, hi, hb, rfl⟩ := rOk_nI w
        rw [nI_clamp hb, (h.rel i hi).r0]
        by_cases z : t 5 i = a1
        · rw [if_pos z, if_pos z]; exact ⟨rfl, h.bdUp⟩
        · rw [if_neg z, if_neg z]; exact ⟨rfl, h⟩
      · rw [if_neg w, if_pos ((isRel_rOk h.t2 h.hnr).mpr w)]; exact ⟨rfl, h⟩
/-! what a machine may get, and what it is offered -/
theorem open_T {c nr nm : Nat} {s t : S2} (h : Sim c nr nm s t) {i j : Nat} (hi : i < nr) (hj : j < nm) (hc : t 5 i = t 20 j) : f_C_isOpenTo nr nm s j i (nI i) = 0 ↔ ¬ f_T_isBounded t (t 5 i) (nI i) = 0 := by
  have R := h.rel i hi
  have M := h.mac j hj
  have w0 := (h.mw j (by have := h.hnm; omega)).w0
  obtain ⟨k, hk, ek⟩ := i_ex (n := 2) w0.1 w0.2 (by decide)
  have e31 : (3 - 1 : Int32) = 2 := by decide
  have hch : ¬ f_C_within (t 20 j) 0 (3 - 1) = 0 := by
    rw [e31, within_ne, i_le, i_le]
    exact w0
  unfold f_C_isOpenTo f_T_isBounded
  rw [R.r0, M.m0, if_pos hc, if_neg hch, hc, ek, nI_clamp (by omega), h.bd k (by omega)]
  by_cases q : t 19 k = -1
  · rw [if_pos q, if_pos q]; simp
  · rw [if_neg q, if_neg q]
    by_cases w : t 19 k < nI i
    · rw [if_pos w, if_neg (by rw [i_le, i_lt] at *; omega)]; simp
    · rw [if_neg w, if_pos (by rw [i_le, i_lt] at *; omega)]; simp
theorem get_T {c nr nm : Nat} {s t : S2} (h : Sim c nr nm s t) {i j : Nat} (hi : i < nr) (hj : j < nm) : f_C_mayGet nr nm s j (nI i) = f_T_mayGet t (nI j) (nI i) := by
  have hn := h.hnr
  have hm := h.hnm
  have R := h.rel i hi
  have M := h.mac j hj
  have ci : (nI i).toNatClampNeg = i := nI_clamp (by omega)
  have cj : (nI j).toNatClampNeg = j := nI_clamp (by omega)
  have ro := h.row hj
  unfold f_C_mayGet f_T_mayGet
  rw [if_pos (nI_rOk hi (by omega)), ci, cj]
  by_cases q0 : t 5 i = t 20 j
  · rw [if_pos q0]
    by_cases q1 : f_T_isBounded t (t 5 i) (nI i) = 0
    · rw [if_pos q1, if_neg (fun w => (open_T h hi hj q0).mp w q1)]
      rw [shareNow_T hi hn R, ← M.m2]
      unfold f_R_isForced f_R_reachesRing f_R_isAtStage
      rw [R.r1, R.r8, R.r9, R.r10, M.m1]
      have z0 : f_T_shareOf t (nI i) = 0 → f_T_shareOf t (nI i) ≤ s (58 + j) 2 := by
        intro e
        rw [e, i_le]; exact ro
      have o1 : ¬ ((1 : Int32) = 0) := by decide
      rcases R.r8b with e | e | e | e | e
      · have z := z0 (by unfold f_T_shareOf; rw [ci, e]; rfl)
        have y := R.r9b (by rw [e]; decide)
        rw [e, y]
        simp [z]
      · rw [e]
        by_cases q2 : t 18 i = 0
        · simp [q2]
        · simp [q2]
      · rw [e]
        by_cases q2 : t 18 i = 0
        · simp [q2]
        · by_cases q4 : t 14 i = 3
          · simp [q2, q4]
          · simp [q2, q4]
      · rw [e]
        by_cases q2 : t 18 i = 0
        · simp [q2]
        · simp [q2]
      · have z := z0 (by unfold f_T_shareOf; rw [ci, e]; rfl)
        have y := R.r9b (by rw [e]; decide)
        rw [e, y]
        simp [z]
    · rw [if_neg q1, if_pos ((open_T h hi hj q0).mpr q1)]
  · rw [if_neg q0, if_pos]
    unfold f_C_isOpenTo
    rw [R.r0, M.m0, if_neg q0]
/-- the newest of the releases below r that a machine may get -/
def lastG (t : S2) (j : Nat) : Nat → Int32
  | 0 => -1
  | r + 1 => if f_T_mayGet t (nI j) (nI r) = 0 then lastG t j r else nI r
theorem lastG_C {c nr nm : Nat} {s t : S2} (h : Sim c nr nm s t) {j : Nat} (hj : j < nm) : ∀ r, r ≤ nr → ∀ n, r < n → g_C_newestFor nr nm s j n (nI r - 1) = lastG t j r := by
  have hn := h.hnr
  intro r
  induction r with
  | zero =>
    intro _ n hn
    obtain ⟨n, rfl⟩ : ∃ m, n = m + 1 := ⟨n - 1, by omega⟩
    have : nI 0 - 1 < 0 := by decide
    show (if nI 0 - 1 < 0 then _ else _) = _
    rw [if_pos this]; rfl
  | succ r ih =>
    intro hr n hn'
    obtain ⟨n, rfl⟩ : ∃ m, n = m + 1 := ⟨n - 1, by omega⟩
    rw [nI_pred]
    show (if nI r < 0 then _ else if f_C_mayGet nr nm s j (nI r) = 0 then g_C_newestFor nr nm s j n (nI r + (-1)) else nI r) = (if f_T_mayGet t (nI j) (nI r) = 0 then lastG t j r else nI r)
    rw [if_neg, get_T h (by omega) hj]
    · have : nI r + (-1) = nI r - 1 := (Int32.sub_eq_add_neg _ _).symm
      rw [this, ih (by omega) n (by omega)]
    · rw [i_lt, nI_toInt (by omega)]
      show ¬ _ < (0 : Int)
      omega
theorem lastG_T {t : S2} {nr : Nat} (h2 : t 0 2 = nI nr) (hn : nr ≤ 16) {j : Nat} : ∀ n r, r ≤ nr → nr - r < n → h_T_offer_36 t (nI j) n (lastG t j r) (nI r) = lastG t j nr := by
  intro n
  induction n with
  | zero => intro r _ w; omega
  | succ n ih =>
    intro r hr w
    show (if t 0 2 ≤ nI r then lastG t j r else if f_T_mayGet t (nI j) (nI r) = 0 then h_T_offer_36 t (nI j) n (lastG t j r) (nI r + 1) else h_T_offer_36 t (nI j) n (nI r) (nI r + 1)) = _
    rw [h2, nI_1]
    by_cases e : r = nr
    · subst e
      rw [if_pos ((nI_leI (by omega) (by omega)).mpr (Nat.le_refl _))]
    · rw [if_neg (fun q => by have := (nI_leI (a := nr) (b := r) (by omega) (by omega)).mp q; omega)]
      have ih' := ih (r + 1) (by omega) (by omega)
      have E : lastG t j (r + 1) = if f_T_mayGet t (nI j) (nI r) = 0 then lastG t j r else nI r := rfl
      rw [E] at ih'
      by_cases q : f_T_mayGet t (nI j) (nI r) = 0
      · rw [if_pos q] at ih'
        rw [if_pos q]; exact ih'
      · rw [if_neg q] at ih'
        rw [if_neg q]; exact ih'
theorem newest_T {c nr nm : Nat} {s t : S2} (h : Sim c nr nm s t) {j : Nat} (hj : j < nm) : f_C_newestFor nr nm s j = h_T_offer_36 t (nI j) 17 (-1) 0 := by
  have hn := h.hnr
  unfold f_C_newestFor
  rw [h.c4, lastG_C h hj nr (Nat.le_refl _) 17 (by omega)]
  have := lastG_T (j := j) h.t2 h.hnr 17 0 (by omega) (by omega)
  rw [nI_0] at this
  exact this.symm
theorem lastG_rg {t : S2} {j : Nat} : ∀ r, lastG t j r = -1 ∨ ∃ i, i < r ∧ lastG t j r = nI i := by
  intro r
  induction r with
  | zero => exact Or.inl rfl
  | succ r ih =>
    unfold lastG
    split
    · rcases ih with e | ⟨i, hi, e⟩
      · exact Or.inl e
      · exact Or.inr ⟨i, by omega, e⟩
    · exact Or.inr ⟨r, by omega, rfl⟩
theorem offer_T {c nr nm : Nat} {s t : S2} (h : Sim c nr nm s t) {j : Nat} (hj : j < nm) : f_C_offerTo nr nm s j = f_T_offer t (nI j) ∧ (f_T_offer t (nI j) = -1 ∨ rOk nr (f_T_offer t (nI j))) := by
  have hn := h.hnr
  have hm := h.hnm
  have M := h.mac j hj
  have cj : (nI j).toNatClampNeg = j := nI_clamp (by omega)
  have N := newest_T h hj
  have rg : h_T_offer_36 t (nI j) 17 (-1) 0 = -1 ∨ rOk nr (h_T_offer_36 t (nI j) 17 (-1) 0) := by
    have := lastG_T (j := j) h.t2 h.hnr 17 0 (by omega) (by omega)
    rw [nI_0] at this
    have e : lastG t j 0 = -1 := rfl
    rw [e] at this
    rw [this]
    rcases lastG_rg (t := t) (j := j) nr with e | ⟨i, hi, e⟩
    · exact Or.inl e
    · rw [e]; exact Or.inr (nI_rOk hi (by omega))
  have keep : ¬ t 22 j ≤ h_T_offer_36 t (nI j) 17 (-1) 0 → rOk nr (t 22 j) := by
    intro q
    rcases M.m3b with e | e
    · exfalso
      apply q
      rw [e, i_le]
      have := rOk_15 rg hn
      exact this.1
    · exact e
  have mk : rOk nr (t 22 j) → (f_C_mayKeep nr nm s j = 0 ↔ ¬ (t 5 (t 22 j).toNatClampNeg = t 20 j ∧ ¬ t 12 (t 22 j).toNatClampNeg = 4 ∧ f_T_isBounded t (t 5 (t 22 j).toNatClampNeg) (t 22 j) = 0)) := by
    intro q
    unfold f_C_mayKeep
    rw [M.m3, if_pos q]
    obtain ⟨i, hi, hb, e⟩ := rOk_nI q
    rw [e, nI_clamp hb, (h.rel i hi).r8]
    by_cases q1 : t 12 i = 4
    · rw [if_pos q1]; simp [q1]
    · rw [if_neg q1]
      by_cases q2 : t 5 i = t 20 j
      · have := open_T h hi hj q2
        by_cases q3 : f_C_isOpenTo nr nm s j i (nI i) = 0
        · rw [if_pos q3]
          have := this.mp q3
          simp [q1, q2]
          rw [q2] at this; exact this
        · rw [if_neg q3]
          have : f_T_isBounded t (t 5 i) (nI i) = 0 := Classical.byContradiction fun w => q3 (this.mpr w)
          rw [q2] at this
          simp [q1, q2, this]
      · rw [if_pos]
        · simp [q2]
        · unfold f_C_isOpenTo
          rw [(h.rel i hi).r0, M.m0, if_neg q2]
  have core : (if s (58 + j) 3 ≤ f_C_newestFor nr nm s j then f_C_newestFor nr nm s j else if f_C_mayKeep nr nm s j = 0 then f_C_newestFor nr nm s j else s (58 + j) 3) = (if t 22 j ≤ h_T_offer_36 t (nI j) 17 (-1) 0 then h_T_offer_36 t (nI j) 17 (-1) 0 else if t 5 (t 22 j).toNatClampNeg = t 20 j then if t 12 (t 22 j).toNatClampNeg = 4 then h_T_offer_36 t (nI j) 17 (-1) 0 else if f_T_isBounded t (t 5 (t 22 j).toNatClampNeg) (t 22 j) = 0 then t 22 j else h_T_offer_36 t (nI j) 17 (-1) 0 else h_T_offer_36 t (nI j) 17 (-1) 0) ∧ ((if s (58 + j) 3 ≤ f_C_newestFor nr nm s j then f_C_newestFor nr nm s j else if f_C_mayKeep nr nm s j = 0 then f_C_newestFor nr nm s j else s (58 + j) 3) = -1 ∨ rOk nr (if s (58 + j) 3 ≤ f_C_newestFor nr nm s j then f_C_newestFor nr nm s j else if f_C_mayKeep nr nm s j = 0 then f_C_newestFor nr nm s j else s (58 + j) 3)) := by
    rw [N, M.m3]
    by_cases q : t 22 j ≤ h_T_offer_36 t (nI j) 17 (-1) 0
    · rw [if_pos q, if_pos q]; exact ⟨rfl, rg⟩
    · rw [if_neg q, if_neg q]
      have k := keep q
      by_cases w : f_C_mayKeep nr nm s j = 0
      · rw [if_pos w]
        refine ⟨?_, rg⟩
        have := (mk k).mp w
        by_cases a : t 5 (t 22 j).toNatClampNeg = t 20 j
        · rw [if_pos a]
          by_cases b : t 12 (t 22 j).toNatClampNeg = 4
          · rw [if_pos b]
          · rw [if_neg b, if_neg (fun d => this ⟨a, b, d⟩)]
        · rw [if_neg a]
      · rw [if_neg w]
        have : (t 5 (t 22 j).toNatClampNeg = t 20 j ∧ ¬ t 12 (t 22 j).toNatClampNeg = 4 ∧ f_T_isBounded t (t 5 (t 22 j).toNatClampNeg) (t 22 j) = 0) := Classical.byContradiction fun d => w ((mk k).mpr d)
        rw [if_pos this.1, if_neg this.2.1, if_pos this.2.2]
        exact ⟨rfl, Or.inr k⟩
  unfold f_C_offerTo f_T_offer
  rw [cj, M.m4]
  rcases M.m4b with e | e
  · rw [e, if_neg (fun w => absurd w.1 (by decide)), if_pos rfl]
    refine ⟨core.1, ?_⟩
    rw [← core.1]; exact core.2
  · have e1 : ¬ t 23 j = -1 := by
      intro w
      rw [w] at e
      exact absurd e.1 (by decide)
    rw [if_pos e, if_neg e1]
    obtain ⟨i, hi, hb, q⟩ := rOk_nI e
    rw [q, nI_clamp hb, (h.rel i hi).r8]
    by_cases w : t 12 i = 4
    · rw [if_pos w, if_pos w]
      refine ⟨core.1, ?_⟩
      rw [← core.1]; exact core.2
    · rw [if_neg w, if_neg w]
      exact ⟨rfl, Or.inr (by rw [← q]; exact e)⟩
theorem sim_offered {c nr nm : Nat} {s t : S2} {a1 : Int32} (h : Sim c nr nm s t) : f_C_offered nr nm s a1 = (f_T_offered t a1).1 ∧ Sim c nr nm s (f_T_offered t a1).2 := by
  replace h := h.code
  unfold f_C_offered f_T_offered
  generalize up2 t 0 0 0 = t at *
  by_cases hr : rOk nm a1
  · rw [if_pos hr, if_neg (fun q => (isMac_rOk h.t3 h.hnm).mp q hr)]
    obtain ⟨j, hj, hb, rfl⟩ := rOk_nI hr
    rw [nI_clamp hb]
    exact ⟨(offer_T h hj).1, h⟩
  · rw [if_neg hr, if_pos ((isMac_rOk h.t3 h.hnm).mpr hr)]; exact ⟨rfl, h⟩
theorem sim_may {c nr nm : Nat} {s t : S2} {a1 a2 : Int32} (h : Sim c nr nm s t) : f_C_may nr nm s a1 a2 = (f_T_may t a1 a2).1 ∧ Sim c nr nm s (f_T_may t a1 a2).2 := by
  replace h := h.code
  unfold f_C_may f_T_may
  generalize up2 t 0 0 0 = t at *
  by_cases hr : rOk nm a1
  · rw [if_pos hr, if_neg (fun q => (isMac_rOk h.t3 h.hnm).mp q hr)]
    obtain ⟨j, hj, hb, rfl⟩ := rOk_nI hr
    rw [nI_clamp hb]
    by_cases w : rOk nr a2
    · rw [if_neg (fun q => (isRel_rOk h.t2 h.hnr).mp q w)]
      obtain ⟨i, hi, hb', rfl⟩ := rOk_nI w
      rw [get_T h hi hj]
      by_cases z : f_T_mayGet t (nI j) (nI i) = 0
      · rw [if_pos z, if_pos z]; exact ⟨rfl, h⟩
      · rw [if_neg z, if_neg z]; exact ⟨rfl, h⟩
    · rw [if_pos ((isRel_rOk h.t2 h.hnr).mpr w), if_pos]
      · exact ⟨rfl, h⟩
      · unfold f_C_mayGet
        rw [if_neg w]
  · rw [if_neg hr, if_pos ((isMac_rOk h.t3 h.hnm).mpr hr)]; exact ⟨rfl, h⟩
theorem sim_update {c nr nm : Nat} {s t : S2} {a1 : Int32} (h : Sim c nr nm s t) : (f_C_update nr nm s a1).1 = (f_T_update t a1).1 ∧ Sim c nr nm (f_C_update nr nm s a1).2 (f_T_update t a1).2 := by
  replace h := h.code
  unfold f_C_update f_T_update
  generalize up2 t 0 0 0 = t at *
  by_cases hr : rOk nm a1
  · rw [if_pos hr, if_neg (fun q => (isMac_rOk h.t3 h.hnm).mp q hr)]
    obtain ⟨j, hj, hb, rfl⟩ := rOk_nI hr
    have O := offer_T h hj
    rw [nI_clamp hb, O.1]
    by_cases w : f_T_offer t (nI j) = -1
    · rw [if_pos w, if_pos w]; exact ⟨w, h⟩
    · rw [if_neg w, if_neg w]
      exact ⟨(up2_sf t 22 j _).symm, h.macUp hj O.2 (Or.inl ⟨rfl, rfl⟩)⟩
  · rw [if_neg hr, if_pos ((isMac_rOk h.t3 h.hnm).mpr hr)]; exact ⟨rfl, h⟩

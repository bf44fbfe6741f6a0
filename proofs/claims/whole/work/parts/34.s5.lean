/-! delta, release, machine -/
theorem place_T {c nr nm : Nat} {s t : S2} (h : Sim c nr nm s t) {cnt : Nat} (hc : cnt ≤ 40) (ec : t 0 4 = nI cnt) {a1 a2 a3 : Int32} : ∀ n k, k ≤ cnt → cnt - k < n → g_D_placeOf s a1 a2 n (nI k) = h_T_delta_42 t a1 a2 a3 n (nI k) ∧ ∃ m, m ≤ cnt ∧ h_T_delta_42 t a1 a2 a3 n (nI k) = nI m := by
  intro n
  induction n with
  | zero => intro k _ w; omega
  | succ n ih =>
    intro k hk w
    have L : g_D_placeOf s a1 a2 (n + 1) (nI k) = (if s 4 3 ≤ nI k then s 4 3 else if s 5 (nI k).toNatClampNeg = a1 then if s 6 (nI k).toNatClampNeg = a2 then nI k else g_D_placeOf s a1 a2 n (nI k + 1) else g_D_placeOf s a1 a2 n (nI k + 1)) := rfl
    have L2 : h_T_delta_42 t a1 a2 a3 (n + 1) (nI k) = (if t 0 4 ≤ nI k then nI k else if t 24 (nI k).toNatClampNeg = a1 then if t 25 (nI k).toNatClampNeg = a2 then nI k else h_T_delta_42 t a1 a2 a3 n (nI k + 1) else h_T_delta_42 t a1 a2 a3 n (nI k + 1)) := rfl
    rw [L, L2, h.dc, ec, nI_clamp (by omega), nI_1]
    by_cases e : k = cnt
    · subst e
      rw [if_pos ((nI_leI (by omega) (by omega)).mpr (Nat.le_refl _)), if_pos ((nI_leI (by omega) (by omega)).mpr (Nat.le_refl _))]
      exact ⟨rfl, k, Nat.le_refl _, rfl⟩
    · have g : ¬ nI cnt ≤ nI k := fun q => by have := (nI_leI (a := cnt) (b := k) (by omega) (by omega)).mp q; omega
      have D := h.dl k (by omega)
      rw [if_neg g, if_neg g, D.d5, D.d6]
      have I := ih (k + 1) (by omega) (by omega)
      by_cases q1 : t 24 k = a1
      · rw [if_pos q1, if_pos q1]
        by_cases q2 : t 25 k = a2
        · rw [if_pos q2, if_pos q2]; exact ⟨rfl, k, hk, rfl⟩
        · rw [if_neg q2, if_neg q2]; exact I
      · rw [if_neg q1, if_neg q1]; exact I
theorem sim_delta {c nr nm : Nat} {s t : S2} {a1 a2 a3 : Int32} (h : Sim c nr nm s t) : (f_C_delta nr nm s a1 a2 a3).1 = (f_T_delta t a1 a2 a3).1 ∧ Sim c nr nm (f_C_delta nr nm s a1 a2 a3).2 (f_T_delta t a1 a2 a3).2 := by
  replace h := h.code
  unfold f_C_delta f_T_delta
  generalize up2 t 0 0 0 = t at *
  have W : f_T_isWithin = f_C_within := rfl
  have o1 : ¬ ((1 : Int32) = 0) := by decide
  have hn := h.hnr
  by_cases hr : rOk nr a1
  · rw [if_pos hr, if_neg (fun q => (isRel_rOk h.t2 h.hnr).mp q hr)]
    by_cases hr2 : rOk nr a2
    · rw [if_pos hr2, if_neg (fun q => (isRel_rOk h.t2 h.hnr).mp q hr2), W]
      by_cases q0 : a1 = a2
      · rw [if_pos q0, if_pos q0]; exact ⟨rfl, h⟩
      · rw [if_neg q0, if_neg q0]
        by_cases q1 : f_C_within a3 1 1000 = 0
        · rw [if_pos q1, if_pos q1]; exact ⟨rfl, h⟩
        · rw [if_neg q1, if_neg q1]
          have A3 := within_ne.mp q1
          obtain ⟨cnt, hc, ec⟩ := i_ex (n := 40) h.dcb.1 h.dcb.2 (by decide)
          obtain ⟨p1, m, hm, p2⟩ := place_T h hc ec (a1 := a1) (a2 := a2) (a3 := a3) 41 0 (by omega) (by omega)
          rw [nI_0] at p1 p2
          rw [p2]
          have P : f_D_placeOf s a1 a2 = nI m := by
            unfold f_D_placeOf
            rw [p1, p2]
          unfold f_D_put
          rw [P]
          have cm : (nI m).toNatClampNeg = m := nI_clamp (by omega)
          by_cases e : m = 40
          · subst e
            have b1 : f_C_within (nI 40) 0 39 = 0 := by decide
            have b2 : nI 40 = 40 := by decide
            rw [if_pos b1, if_pos b2]
            exact ⟨rfl, h⟩
          · have b1 : ¬ f_C_within (nI m) 0 39 = 0 := by
              rw [within_ne]
              exact ⟨by rw [← nI_0]; exact (nI_leI (by decide) (by omega)).mpr (by omega), (nI_leI (b := 39) (by omega) (by decide)).mpr (by omega)⟩
            have b2 : ¬ nI m = 40 := fun w => e ((nI_eq (b := 40) (by omega) (by decide)).mp w)
            rw [if_neg b1, if_neg b2, cm]
            simp (disch := omega) only [up2_sf, up2_n1, up2_n2]
            rw [if_neg o1, h.dc, ec, nI_1]
            obtain ⟨i1, hi1, hb1, rfl⟩ := rOk_nI hr
            obtain ⟨i2, hi2, hb2, rfl⟩ := rOk_nI hr2
            have fin : ∀ v, 0 ≤ v.toInt ∧ v.toInt ≤ 40 → Sim c nr nm (up2 (up2 (up2 (up2 s 5 m (nI i1)) 6 m (nI i2)) 7 m a3) 4 3 v) (up2 (up2 (up2 (up2 t 24 m (nI i1)) 25 m (nI i2)) 26 m a3) 0 4 v) := by
              intro v hv
              refine h.oth ?_ ?_ ?_ ?_ ?_ ?_ ?_ ?_ ?_ ?_
              · intro y; simp (disch := omega) only [up2_n1]
              · intro y _ _; simp (disch := omega) only [up2_n1, up2_n2]
              · intro k k1 k2; simp (disch := omega) only [up2_ne]
              · intro k k1 k2; simp (disch := omega) only [up2_ne]
              · intro j hj
                exact (h.mac j hj).cg (by simp (disch := omega) only [up2_ne]) (fun g _ _ => by simp (disch := omega) only [up2_n1])
              · intro j hj
                exact (h.mw j hj).cg (fun g _ _ => by simp (disch := omega) only [up2_n1])
              · intro k' hk
                simp (disch := omega) only [up2_n1]; exact h.bd k' hk
              · simp only [up2_sf]
              · simp only [up2_sf]; exact hv
              · intro k hk
                by_cases ek : k = m
                · subst ek
                  refine ⟨?_, ?_, ?_, ?_, ?_, ?_⟩ <;> simp (disch := omega) only [up2_sf, up2_n1]
                  · rw [nI_toInt hb1]; omega
                  · rw [nI_toInt hb2]; omega
                  · have a := i_le.mp A3.1
                    have b := i_le.mp A3.2
                    have e1 : (1 : Int32).toInt = 1 := by decide
                    have e2 : (1000 : Int32).toInt = 1000 := by decide
                    omega
                · exact (h.dl k hk).cg (by simp (disch := omega) only [up2_n1, up2_n2]) (by simp (disch := omega) only [up2_n1, up2_n2]) (by simp (disch := omega) only [up2_n1, up2_n2]) (fun g _ _ => by simp (disch := omega) only [up2_n1, up2_n2])
            by_cases eq : m = cnt
            · subst eq
              rw [if_pos rfl, if_pos ((nI_ltI (by omega) (by omega)).mpr (by omega))]
              exact ⟨rfl, by rw [nI_1]; exact fin (nI (m + 1)) (by rw [nI_toInt (by omega)]; omega)⟩
            · rw [if_neg (fun w => eq ((nI_eq (by omega) (by omega)).mp w)), if_neg (fun w => by have := (nI_ltI (a := cnt) (b := m + 1) (by omega) (by omega)).mp w; omega), Int32.add_zero]
              exact ⟨rfl, fin _ (by rw [nI_toInt (by omega)]; omega)⟩
    · rw [if_neg hr2, if_pos ((isRel_rOk h.t2 h.hnr).mpr hr2)]; exact ⟨rfl, h⟩
  · rw [if_neg hr, if_pos ((isRel_rOk h.t2 h.hnr).mpr hr)]; exact ⟨rfl, h⟩
/-- a new release's numbers -/
def recR (a1 a2 a3 : Int32) : Nat → Int32 := fun j => if j = 0 then a1 else if j = 1 then a2 else if j = 2 then a3 else if j = 6 then 1 else if j = 7 then 1 else 0
def newR (nr : Nat) (s : S2) (a1 a2 a3 : Int32) : S2 := up2 (va_up (va_up (va_up s (10 + 3 * nr) (recR a1 a2 a3)) (10 + 3 * nr + 1) (fun _ => 0)) (10 + 3 * nr + 2) (fun _ => 0)) 0 4 (s 0 4 + 1)
def f_C_release (nr : Nat) (s : S2) (a1 a2 a3 : Int32) : Int32 × Nat × S2 :=
  if s 0 4 < 16 then
    if f_C_isChannel a1 = 0 then (-1, nr, s)
    else if f_C_within a3 1 100000 = 0 then (-1, nr, s)
    else (s 0 4 + 1 - 1, nr + 1, newR nr s a1 a2 a3)
  else (-1, nr, s)
def recM (a1 a2 v : Int32) : Nat → Int32 := fun j => if j = 0 then a1 else if j = 1 then a2 else if j = 2 then v else -1
def newM (nm : Nat) (s : S2) (a1 a2 : Int32) : S2 := up2 (va_up s (58 + nm) (recM a1 a2 (f_C_rowOf (s 0 5)))) 0 5 (s 0 5 + 1)
def f_C_machine (nm : Nat) (s : S2) (a1 a2 : Int32) : Int32 × Nat × S2 :=
  if s 0 5 < 30 then
    if f_C_isChannel a1 = 0 then (-1, nm, s)
    else if f_C_within a2 0 3 = 0 then (-1, nm, s)
    else (s 0 5 + 1 - 1, nm + 1, newM nm s a1 a2)
  else (-1, nm, s)
theorem va_up_s2 (s : S2) (k : Nat) (r : Nat → Int32) (x : Nat) : va_up s k r k x = r x := by rw [va_up_self]
theorem va_up_n2 {s : S2} {k k' : Nat} {r : Nat → Int32} {x : Nat} (h : k' ≠ k) : va_up s k r k' x = s k' x := by rw [va_up_ne _ _ h]
theorem rOk_up {nr : Nat} {a : Int32} (h : a = -1 ∨ rOk nr a) : a = -1 ∨ rOk (nr + 1) a := h.imp id (fun w => ⟨w.1, by have := w.2; omega⟩)
theorem sim_release {c nr nm : Nat} {s t : S2} {a1 a2 a3 : Int32} (h : Sim c nr nm s t) : (f_C_release nr s a1 a2 a3).1 = (f_T_release t a1 a2 a3).1 ∧ Sim c (f_C_release nr s a1 a2 a3).2.1 nm (f_C_release nr s a1 a2 a3).2.2 (f_T_release t a1 a2 a3).2 := by
  replace h := h.code
  unfold f_C_release f_T_release f_C_isChannel
  generalize up2 t 0 0 0 = t at *
  have W : f_T_isWithin = f_C_within := rfl
  have hn := h.hnr
  have hm := h.hnm
  rw [h.c4, h.t2, W]
  by_cases e : nr = 16
  · subst e
    rw [if_neg (by decide), if_pos (by decide)]; exact ⟨rfl, h⟩
  · have b1 : nI nr < 16 := (nI_ltI (a := nr) (b := 16) (by omega) (by decide)).mpr (by omega)
    have b2 : ¬ nI nr = 16 := fun w => e ((nI_eq (a := nr) (b := 16) (by omega) (by decide)).mp w)
    rw [if_pos b1, if_neg b2]
    by_cases q1 : f_C_within a1 0 2 = 0
    · rw [if_pos q1, if_pos q1]; exact ⟨rfl, h⟩
    · rw [if_neg q1, if_neg q1]
      by_cases q2 : f_C_within a3 1 100000 = 0
      · rw [if_pos q2, if_pos q2]; exact ⟨rfl, h⟩
      · rw [if_neg q2, if_neg q2]
        have A1 := within_ne.mp q1
        have A3 := within_ne.mp q2
        rw [i_le, i_le] at A1 A3
        have e1 : (1 : Int32).toInt = 1 := by decide
        have e2 : (100000 : Int32).toInt = 100000 := by decide
        have e3 : (0 : Int32).toInt = 0 := by decide
        have e4 : (2 : Int32).toInt = 2 := by decide
        rw [e1, e2] at A3
        rw [e3, e4] at A1
        have cn : (nI nr).toNatClampNeg = nr := nI_clamp (by omega)
        simp (disch := omega) only [up2_sf, up2_n1, up2_n2, h.t2, cn, nI_1]
        refine ⟨trivial, ?_⟩
        unfold newR
        rw [h.c4, nI_1]
        have w := h.nw nr (Nat.le_refl _) (by omega)
        refine ⟨by omega, h.hnm, ?_, ?_, ?_, ?_, ?_, ?_, ?_, ?_, ?_, ?_, ?_, ?_, ?_, ?_⟩
        · rw [up2_sf]
        · simp (disch := omega) only [up2_n2, va_up_n2]; exact h.c5
        · rw [up2_sf]
        · simp (disch := omega) only [up2_n1, up2_n2]; exact h.t3
        · simp (disch := omega) only [up2_n1, up2_n2, va_up_n2]; exact h.ck
        · simp (disch := omega) only [up2_n1, up2_n2]; exact h.ckb
        · intro i hi
          by_cases ei : i = nr
          · subst ei
            refine ⟨?_, ?_, ?_, ?_, ?_, ?_, ?_, ?_, ?_, ?_, ?_, ?_, ?_, ?_, ?_, ?_, ?_, ?_, ?_, ?_, ?_, ?_, ?_⟩
            all_goals simp (disch := omega) only [up2_sf, up2_n1, up2_n2, va_up_s2, va_up_n2, w.n12, w.n7, w.n13, w.n14, w.n15, w.n16, w.n17]
            · rfl
            · exact A1
            · rfl
            · rfl
            · exact A3
            · rfl
            · decide
            · rfl
            · rfl
            · rfl
            · decide
            · rfl
            · exact fun _ => trivial
            · rfl
            · decide
            · rfl
            · exact ⟨by decide, h.ckb.1⟩
            · rfl
            · rfl
            · intro k hk; exact (w.sh k hk).symm
            · intro k hk; rw [w.sh k hk]; decide
            · intro k hk; exact (w.wa k hk).symm
            · intro k hk; rw [w.wa k hk]; decide
          · refine ((h.rel i (by omega)).cS ?_).cT ?_ ?_ ?_ ?_
            · intro k k1 k2
              funext x
              simp (disch := omega) only [up2_n1, va_up_n2]
            · intro f f1 f2 f8 f9
              simp (disch := omega) only [up2_n1, up2_n2]
            · intro k hk; simp (disch := omega) only [up2_n1, up2_n2]
            · intro k hk; simp (disch := omega) only [up2_n1, up2_n2]
            · simp (disch := omega) only [up2_n1, up2_n2]; exact Int.le_refl _
        · intro i hi hi2
          have w := h.nw i (by omega) hi2
          refine ⟨?_, ?_, ?_, ?_, ?_, ?_, ?_, ?_, ?_, ?_⟩
          all_goals simp (disch := omega) only [up2_n1, up2_n2]
          · exact w.n5
          · exact w.n7
          · exact w.n12
          · exact w.n13
          · exact w.n14
          · exact w.n15
          · exact w.n16
          · exact w.n17
          · exact w.sh
          · exact w.wa
        · intro j hj
          have M : MacSim (nr + 1) s t j := ⟨(h.mac j hj).m0, (h.mac j hj).m1, (h.mac j hj).m1b, (h.mac j hj).m2, (h.mac j hj).m3, rOk_up (h.mac j hj).m3b, (h.mac j hj).m4, rOk_up (h.mac j hj).m4b⟩
          refine M.cg ?_ ?_
          · funext x
            simp (disch := omega) only [up2_n1, va_up_n2]
          · intro g _ _
            simp (disch := omega) only [up2_n1]
        · intro j hj
          exact (h.mw j hj).cg (fun g _ _ => by simp (disch := omega) only [up2_n1])
        · intro k hk
          simp (disch := omega) only [up2_n1, va_up_n2]; exact h.bd k hk
        · simp (disch := omega) only [up2_n1, up2_n2, va_up_n2]; exact h.dc
        · simp (disch := omega) only [up2_n1, up2_n2]; exact h.dcb
        · intro k hk
          refine (h.dl k hk).cg ?_ ?_ ?_ (fun g _ _ => by simp (disch := omega) only [up2_n1]) <;> simp (disch := omega) only [up2_n1, va_up_n2]
theorem sim_machine {c nr nm : Nat} {s t : S2} {a1 a2 : Int32} (h : Sim c nr nm s t) : (f_C_machine nm s a1 a2).1 = (f_T_machine t a1 a2).1 ∧ Sim c nr (f_C_machine nm s a1 a2).2.1 (f_C_machine nm s a1 a2).2.2 (f_T_machine t a1 a2).2 := by
  replace h := h.code
  unfold f_C_machine f_T_machine f_C_isChannel
  generalize up2 t 0 0 0 = t at *
  have W : f_T_isWithin = f_C_within := rfl
  have hn := h.hnr
  have hm := h.hnm
  rw [h.c5, h.t3, W]
  by_cases e : nm = 30
  · subst e
    rw [if_neg (by decide), if_pos (by decide)]; exact ⟨rfl, h⟩
  · have b1 : nI nm < 30 := (nI_ltI (a := nm) (b := 30) (by omega) (by decide)).mpr (by omega)
    have b2 : ¬ nI nm = 30 := fun w => e ((nI_eq (a := nm) (b := 30) (by omega) (by decide)).mp w)
    rw [if_pos b1, if_neg b2]
    by_cases q1 : f_C_within a1 0 2 = 0
    · rw [if_pos q1, if_pos q1]; exact ⟨rfl, h⟩
    · rw [if_neg q1, if_neg q1]
      by_cases q2 : f_C_within a2 0 3 = 0
      · rw [if_pos q2, if_pos q2]; exact ⟨rfl, h⟩
      · rw [if_neg q2, if_neg q2]
        have A1 := within_ne.mp q1
        have A2 := within_ne.mp q2
        rw [i_le, i_le] at A1 A2
        have e3 : (0 : Int32).toInt = 0 := by decide
        have e4 : (2 : Int32).toInt = 2 := by decide
        rw [e3] at A2
        rw [e3, e4] at A1
        have cn : (nI nm).toNatClampNeg = nm := nI_clamp (by omega)
        simp (disch := omega) only [up2_sf, up2_n1, up2_n2, h.t3, cn, nI_1]
        refine ⟨trivial, ?_⟩
        unfold newM
        rw [h.c5, nI_1]
        refine ⟨h.hnr, by omega, ?_, ?_, ?_, ?_, ?_, ?_, ?_, ?_, ?_, ?_, ?_, ?_, ?_, ?_⟩
        · simp (disch := omega) only [up2_n2, va_up_n2]; exact h.c4
        · rw [up2_sf]
        · simp (disch := omega) only [up2_n1, up2_n2]; exact h.t2
        · rw [up2_sf]
        · simp (disch := omega) only [up2_n1, up2_n2, va_up_n2]; exact h.ck
        · simp (disch := omega) only [up2_n1, up2_n2]; exact h.ckb
        · intro i hi
          refine ((h.rel i hi).cS ?_).cT ?_ ?_ ?_ ?_
          · intro k k1 k2
            funext x
            simp (disch := omega) only [up2_n1, va_up_n2]
          · intro f f1 f2 f8 f9
            simp (disch := omega) only [up2_n1, up2_n2]
          · intro k hk; simp (disch := omega) only [up2_n1, up2_n2]
          · intro k hk; simp (disch := omega) only [up2_n1, up2_n2]
          · simp (disch := omega) only [up2_n1, up2_n2]; exact Int.le_refl _
        · intro i hi hi2
          have w := h.nw i (by omega) hi2
          refine ⟨?_, ?_, ?_, ?_, ?_, ?_, ?_, ?_, ?_, ?_⟩
          all_goals simp (disch := omega) only [up2_n1, up2_n2]
          · exact w.n5
          · exact w.n7
          · exact w.n12
          · exact w.n13
          · exact w.n14
          · exact w.n15
          · exact w.n16
          · exact w.n17
          · exact w.sh
          · exact w.wa
        · intro j hj
          by_cases ej : j = nm
          · subst ej
            refine ⟨?_, ?_, ?_, ?_, ?_, ?_, ?_, ?_⟩
            all_goals simp (disch := omega) only [up2_sf, up2_n1, up2_n2, va_up_s2, va_up_n2]
            · rfl
            · rfl
            · exact A2.1
            · exact (rows_eq j (by omega)).1
            · rfl
            · exact Or.inl trivial
            · rfl
            · exact Or.inl trivial
          · refine (h.mac j (by omega)).cg ?_ ?_
            · funext x
              simp (disch := omega) only [up2_n1, va_up_n2]
            · intro g _ _
              simp (disch := omega) only [up2_n1, up2_n2]
        · intro j hj
          by_cases ej : j = nm
          · subst ej
            refine ⟨?_, ?_, ?_⟩
            all_goals simp (disch := omega) only [up2_sf, up2_n1, up2_n2]
            · exact A1
            · decide
            · decide
          · exact (h.mw j hj).cg (fun g _ _ => by simp (disch := omega) only [up2_n1, up2_n2])
        · intro k hk
          simp (disch := omega) only [up2_n1, va_up_n2]; exact h.bd k hk
        · simp (disch := omega) only [up2_n1, up2_n2, va_up_n2]; exact h.dc
        · simp (disch := omega) only [up2_n1, up2_n2]; exact h.dcb
        · intro k hk
          refine (h.dl k hk).cg ?_ ?_ ?_ (fun g _ _ => by simp (disch := omega) only [up2_n1]) <;> simp (disch := omega) only [up2_n1, va_up_n2]

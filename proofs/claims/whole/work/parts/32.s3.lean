theorem valueOf_T {s t : S2} {i : Nat} (hi : i < 16) (R : RelSim s t i) {q f : Nat} (E : ∀ k, k < 5 → s q k = t f (5 * i + k)) : f_R_valueOfStage s i q 5 = t f (Int32.toNatClampNeg (5 * nI i + t 13 i)) := by
  obtain ⟨k, hk, ek⟩ := i_ex (n := 4) R.r10b.1 R.r10b.2 (by decide)
  have a1 : ¬ nI k < 0 := by
    rw [i_lt, nI_toInt (by omega)]
    show ¬ _ < (0 : Int)
    omega
  have a2 : ¬ nI 5 ≤ nI k := fun q => by have := (nI_leI (a := 5) (b := k) (by omega) (by omega)).mp q; omega
  unfold f_R_valueOfStage
  rw [R.r10, ek, n5, nI_clamp (by omega), nI_clamp (by omega), if_neg a1, if_neg a2, E k (by omega)]
theorem shareNow_T {s t : S2} {i nr : Nat} (hi : i < nr) (hn : nr ≤ 16) (R : RelSim s t i) : f_R_shareNow s i = f_T_shareOf t (nI i) := by
  unfold f_R_shareNow f_T_shareOf f_R_isAtStage
  rw [nI_clamp (by omega), R.r8, valueOf_T (by omega) R R.sh]
  rcases R.r8b with e | e | e | e | e <;> rw [e] <;> rfl
/-! stage, about -/
theorem sim_stage {c nr nm : Nat} {s t : S2} {a1 a2 a3 : Int32} (h : Sim c nr nm s t) : (f_C_stage nr nm s a1 a2 a3).1 = (f_T_stage t a1 a2 a3).1 ∧ Sim c nr nm (f_C_stage nr nm s a1 a2 a3).2 (f_T_stage t a1 a2 a3).2 := by
  replace h := h.code
  unfold f_C_stage f_T_stage
  generalize up2 t 0 0 0 = t at *
  have W : f_T_isWithin = f_C_within := rfl
  have o1 : ((1 : Int32) = 0) = False := by decide
  by_cases hr : rOk nr a1
  · rw [if_pos hr, if_neg (fun q => (isRel_rOk h.t2 h.hnr).mp q hr)]
    obtain ⟨i, hi, hb, rfl⟩ := rOk_nI hr
    have R := h.rel i hi
    simp only [nI_clamp hb, W]
    unfold f_R_addStage
    have hn := h.hnr
    obtain ⟨k, hk, ek⟩ := i_ex (n := 5) R.r5b.1 R.r5b.2 (by decide)
    by_cases q0 : t 12 i = 0
    · rw [R.r8]
      by_cases k5 : k = 5
      · subst k5
        have b1 : ¬ nI 5 < 5 := by decide
        have b2 : nI 5 = 5 := by decide
        rw [q0, if_pos rfl, if_pos rfl, R.r5, ek, if_neg b1, if_pos b2]
        exact ⟨rfl, h⟩
      · have b1 : nI k < 5 := nI_ltI (b := 5) (by omega) (by decide) |>.mpr (by omega)
        have b2 : ¬ nI k = 5 := fun w => k5 ((nI_eq (b := 5) (by omega) (by decide)).mp w)
        by_cases q3 : f_C_within a3 0 1000 = 0
        · simp only [q0, R.r5, ek, b1, b2, q3, if_true, if_false, ite_self]
          exact ⟨trivial, h⟩
        · have A3 := within_ne.mp q3
          by_cases k0 : k = 0
          · have b3 : nI k = 0 := by rw [k0]; exact nI_0
            have b4 : nI k ≤ 0 := by rw [k0]; decide
            by_cases q2 : f_C_within a2 0 1000 = 0
            · rw [q0, if_pos rfl, if_pos rfl, R.r5, ek, if_pos b1, if_pos b3, if_neg b2, if_pos q2, if_pos q2]
              exact ⟨rfl, h⟩
            · have A2 := (within_ne.mp q2).1
              rw [q0, if_pos rfl, if_pos rfl, R.r5, ek, if_pos b1, if_pos b3, if_neg b2, if_neg q2, if_neg q2, if_neg q3, if_neg q3, if_pos b4]
              simp only [o1, if_false]
              have cc : Int32.toNatClampNeg (nI (5 * i + k)) = 5 * i + k := nI_clamp (by omega)
              have ck : Int32.toNatClampNeg (nI k) = k := nI_clamp (by omega)
              simp (disch := omega) only [up2_sf, up2_n1, up2_n2, R.r5, ek, n5, cc, ck, nI_1]
              refine ⟨trivial, h.relUp hi ?_ ?_ ?_⟩
              · intro k x
                simp only [up2_at]
                repeat (split <;> first | omega | skip)
                exact Or.inl rfl
              · intro k x
                simp only [up2_at]
                repeat (split <;> first | omega | skip)
                exact Or.inl rfl
              · refine ⟨?_, ?_, ?_, ?_, ?_, ?_, ?_, ?_, ?_, ?_, ?_, ?_, ?_, ?_, ?_, ?_, ?_, ?_, ?_, ?_, ?_, ?_, ?_⟩
                · simp (disch := omega) only [up2_sf, up2_n1, up2_n2]; exact R.r0
                · simp (disch := omega) only [up2_sf, up2_n1, up2_n2]; exact R.r0b
                · simp (disch := omega) only [up2_sf, up2_n1, up2_n2]; exact R.r1
                · simp (disch := omega) only [up2_sf, up2_n1, up2_n2]; exact R.r2
                · simp (disch := omega) only [up2_sf, up2_n1, up2_n2]; exact R.r2b
                · simp (disch := omega) only [up2_sf, up2_n1, up2_n2]
                · simp (disch := omega) only [up2_sf, up2_n1, up2_n2]; rw [nI_toInt (by omega)]; omega
                · simp (disch := omega) only [up2_sf, up2_n1, up2_n2]; exact R.r6
                · simp (disch := omega) only [up2_sf, up2_n1, up2_n2]; exact R.r7
                · simp (disch := omega) only [up2_sf, up2_n1, up2_n2]; exact R.r8
                · simp (disch := omega) only [up2_sf, up2_n1, up2_n2]; exact R.r8b
                · simp (disch := omega) only [up2_sf, up2_n1, up2_n2]; exact R.r9
                · simp (disch := omega) only [up2_sf, up2_n1, up2_n2]; exact R.r9b
                · simp (disch := omega) only [up2_sf, up2_n1, up2_n2]; exact R.r10
                · simp (disch := omega) only [up2_sf, up2_n1, up2_n2]; exact R.r10b
                · simp (disch := omega) only [up2_sf, up2_n1, up2_n2]; exact R.r11
                · simp (disch := omega) only [up2_sf, up2_n1, up2_n2]; exact R.r11b
                · simp (disch := omega) only [up2_sf, up2_n1, up2_n2]; exact R.r12
                · simp (disch := omega) only [up2_sf, up2_n1, up2_n2]; exact R.r13
                · intro k' hk'
                  by_cases e : k' = k
                  · subst e; simp (disch := omega) only [up2_sf, up2_n1, up2_n2]
                  · simp (disch := omega) only [up2_sf, up2_n1, up2_n2]; exact R.sh k' hk'
                · intro k' hk'
                  by_cases e : k' = k
                  · subst e; simp (disch := omega) only [up2_sf, up2_n1, up2_n2]; exact i_le.mp A2
                  · simp (disch := omega) only [up2_sf, up2_n1, up2_n2]; exact R.shb k' hk'
                · intro k' hk'
                  by_cases e : k' = k
                  · subst e; simp (disch := omega) only [up2_sf, up2_n1, up2_n2]
                  · simp (disch := omega) only [up2_sf, up2_n1, up2_n2]; exact R.wa k' hk'
                · intro k' hk'
                  by_cases e : k' = k
                  · subst e; simp (disch := omega) only [up2_sf, up2_n1, up2_n2]; exact ⟨i_le.mp A3.1, i_le.mp A3.2⟩
                  · simp (disch := omega) only [up2_sf, up2_n1, up2_n2]; exact R.wab k' hk'
          · have b3 : ¬ nI k = 0 := fun w => k0 ((nI_eq (b := 0) (by omega) (by decide)).mp (by rw [w]; exact nI_0.symm))
            have b4 : ¬ nI k ≤ 0 := fun w => k0 (by have := (nI_leI (a := k) (b := 0) (by omega) (by decide)).mp (by rw [nI_0]; exact w); omega)
            have e1 : Int32.toNatClampNeg (nI k - 1) = k - 1 := by
              obtain ⟨k', rfl⟩ : ∃ k', k = k' + 1 := ⟨k - 1, by omega⟩
              rw [nI_pred, nI_clamp (by omega)]; omega
            have e2 : Int32.toNatClampNeg (5 * nI i + nI k - 1) = 5 * i + (k - 1) := by
              obtain ⟨k', rfl⟩ : ∃ k', k = k' + 1 := ⟨k - 1, by omega⟩
              rw [n5, ← Nat.add_assoc, nI_pred, nI_clamp (by omega)]; omega
            have S1 := R.sh (k - 1) (by omega)
            have S0 := R.shb (k - 1) (by omega)
            by_cases q2 : f_C_within a2 (t 8 (5 * i + (k - 1))) 1000 = 0
            · have z : f_C_within a2 0 1000 = 0 ∨ ¬ t 8 (5 * i + (k - 1)) ≤ a2 := by
                apply Classical.byContradiction
                intro w
                have w1 := within_ne.mp (fun u => w (Or.inl u))
                have w2 : t 8 (5 * i + (k - 1)) ≤ a2 := Classical.byContradiction fun u => w (Or.inr u)
                exact within_ne.mpr ⟨w2, w1.2⟩ q2
              rcases z with z | z
              · simp only [q0, R.r5, ek, b1, b2, b3, b4, e1, S1, q2, z, if_true, if_false]
                exact ⟨trivial, h⟩
              · simp only [q0, R.r5, ek, b1, b2, b3, b4, e1, e2, S1, q2, q3, z, if_true, if_false, ite_self]
                exact ⟨trivial, h⟩
            · have w := within_ne.mp q2
              have A2 : (0 : Int32) ≤ a2 := by
                have := i_le.mp w.1
                rw [i_le]
                show (0 : Int) ≤ _
                omega
              have z : ¬ f_C_within a2 0 1000 = 0 := within_ne.mpr ⟨A2, w.2⟩
              have z2 : t 8 (5 * i + (k - 1)) ≤ a2 := w.1
              rw [q0, if_pos rfl, if_pos rfl, R.r5, ek, if_pos b1, if_neg b3, if_neg b2, if_neg z, if_neg q3, if_neg b4, e1, e2, S1, if_neg q2, if_neg q3, if_pos z2]
              simp only [o1, if_false]
              have cc : Int32.toNatClampNeg (nI (5 * i + k)) = 5 * i + k := nI_clamp (by omega)
              have ck : Int32.toNatClampNeg (nI k) = k := nI_clamp (by omega)
              simp (disch := omega) only [up2_sf, up2_n1, up2_n2, R.r5, ek, n5, cc, ck, nI_1]
              refine ⟨trivial, h.relUp hi ?_ ?_ ?_⟩
              · intro k x
                simp only [up2_at]
                repeat (split <;> first | omega | skip)
                exact Or.inl rfl
              · intro k x
                simp only [up2_at]
                repeat (split <;> first | omega | skip)
                exact Or.inl rfl
              · refine ⟨?_, ?_, ?_, ?_, ?_, ?_, ?_, ?_, ?_, ?_, ?_, ?_, ?_, ?_, ?_, ?_, ?_, ?_, ?_, ?_, ?_, ?_, ?_⟩
                · simp (disch := omega) only [up2_sf, up2_n1, up2_n2]; exact R.r0
                · simp (disch := omega) only [up2_sf, up2_n1, up2_n2]; exact R.r0b
                · simp (disch := omega) only [up2_sf, up2_n1, up2_n2]; exact R.r1
                · simp (disch := omega) only [up2_sf, up2_n1, up2_n2]; exact R.r2
                · simp (disch := omega) only [up2_sf, up2_n1, up2_n2]; exact R.r2b
                · simp (disch := omega) only [up2_sf, up2_n1, up2_n2]
                · simp (disch := omega) only [up2_sf, up2_n1, up2_n2]; rw [nI_toInt (by omega)]; omega
                · simp (disch := omega) only [up2_sf, up2_n1, up2_n2]; exact R.r6
                · simp (disch := omega) only [up2_sf, up2_n1, up2_n2]; exact R.r7
                · simp (disch := omega) only [up2_sf, up2_n1, up2_n2]; exact R.r8
                · simp (disch := omega) only [up2_sf, up2_n1, up2_n2]; exact R.r8b
                · simp (disch := omega) only [up2_sf, up2_n1, up2_n2]; exact R.r9
                · simp (disch := omega) only [up2_sf, up2_n1, up2_n2]; exact R.r9b
                · simp (disch := omega) only [up2_sf, up2_n1, up2_n2]; exact R.r10
                · simp (disch := omega) only [up2_sf, up2_n1, up2_n2]; exact R.r10b
                · simp (disch := omega) only [up2_sf, up2_n1, up2_n2]; exact R.r11
                · simp (disch := omega) only [up2_sf, up2_n1, up2_n2]; exact R.r11b
                · simp (disch := omega) only [up2_sf, up2_n1, up2_n2]; exact R.r12
                · simp (disch := omega) only [up2_sf, up2_n1, up2_n2]; exact R.r13
                · intro k' hk'
                  by_cases e : k' = k
                  · subst e; simp (disch := omega) only [up2_sf, up2_n1, up2_n2]
                  · simp (disch := omega) only [up2_sf, up2_n1, up2_n2]; exact R.sh k' hk'
                · intro k' hk'
                  by_cases e : k' = k
                  · subst e; simp (disch := omega) only [up2_sf, up2_n1, up2_n2]; exact i_le.mp A2
                  · simp (disch := omega) only [up2_sf, up2_n1, up2_n2]; exact R.shb k' hk'
                · intro k' hk'
                  by_cases e : k' = k
                  · subst e; simp (disch := omega) only [up2_sf, up2_n1, up2_n2]
                  · simp (disch := omega) only [up2_sf, up2_n1, up2_n2]; exact R.wa k' hk'
                · intro k' hk'
                  by_cases e : k' = k
                  · subst e; simp (disch := omega) only [up2_sf, up2_n1, up2_n2]; exact ⟨i_le.mp A3.1, i_le.mp A3.2⟩
                  · simp (disch := omega) only [up2_sf, up2_n1, up2_n2]; exact R.wab k' hk'
    · rw [R.r8]
      simp only [q0, if_true, if_false]
      exact ⟨trivial, h⟩
  · rw [if_neg hr, if_pos ((isRel_rOk h.t2 h.hnr).mpr hr)]; exact ⟨rfl, h⟩

theorem sim_about {c nr nm : Nat} {s t : S2} {a1 a2 : Int32} (h : Sim c nr nm s t) : f_C_about nr nm s a1 a2 = (f_T_about t a1 a2).1 ∧ Sim c nr nm s (f_T_about t a1 a2).2 := by
  replace h := h.code
  unfold f_C_about f_T_about
  generalize up2 t 0 0 0 = t at *
  by_cases hr : rOk nr a1
  · rw [if_pos hr, if_neg (fun q => (isRel_rOk h.t2 h.hnr).mp q hr)]
    obtain ⟨i, hi, hb, rfl⟩ := rOk_nI hr
    have R := h.rel i hi
    simp only [nI_clamp hb]
    rw [R.r8, R.r9, shareNow_T hi h.hnr R]
    unfold f_R_stageNow f_R_isAtStage f_R_allReports
    rw [R.r8, R.r10, R.r12]
    have o1 : ((1 : Int32) = 0) = False := by decide
    refine ⟨?_, ?_⟩
    · repeat' split
      all_goals first | rfl | simp_all
    · repeat' split
      all_goals exact h
  · rw [if_neg hr, if_pos ((isRel_rOk h.t2 h.hnr).mpr hr)]; exact ⟨rfl, h⟩

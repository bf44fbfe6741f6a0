theorem addr4 (a b c d : Int32) : a + c + (b + d) = a + b + (c + d) := by
  rw [Int32.add_assoc, ← Int32.add_assoc c b d, Int32.add_comm c b, Int32.add_assoc b c d, ← Int32.add_assoc]
/-! the calls that touch one release -/
theorem sim_health {c nr nm : Nat} {s t : S2} {a1 a2 a3 : Int32} (h : Sim c nr nm s t) : (f_C_health nr nm s a1 a2 a3).1 = (f_T_health t a1 a2 a3).1 ∧ Sim c nr nm (f_C_health nr nm s a1 a2 a3).2 (f_T_health t a1 a2 a3).2 := by
  replace h := h.code
  unfold f_C_health f_T_health
  generalize up2 t 0 0 0 = t at *
  have W : f_T_isWithin = f_C_within := rfl
  have o1 : ((1 : Int32) = 0) = False := by decide
  by_cases hr : rOk nr a1
  · rw [if_pos hr, if_neg (fun q => (isRel_rOk h.t2 h.hnr).mp q hr)]
    obtain ⟨i, hi, hb, rfl⟩ := rOk_nI hr
    have R := h.rel i hi
    simp only [nI_clamp hb, W]
    unfold f_R_setHealth
    by_cases q1 : f_C_within a3 1 1000 = 0
    · simp only [q1, if_true]; exact ⟨trivial, h⟩
    · by_cases q2 : f_C_within a2 0 a3 = 0
      · simp only [q1, q2, if_true, if_false]; exact ⟨trivial, h⟩
      · simp only [q1, q2, if_false, o1]
        refine ⟨trivial, h.relUp hi ?_ ?_ ?_⟩
        · intro k x
          simp only [up2_at]
          repeat (split <;> first | omega | skip)
          exact Or.inl rfl
        · intro k x
          simp only [up2_at]
          repeat (split <;> first | omega | skip)
          exact Or.inl rfl
        · refine ⟨?_, ?_, ?_, ?_, ?_, ?_, ?_, ?_, ?_, ?_, ?_, ?_, ?_, ?_, ?_, ?_, ?_, ?_, ?_, ?_, ?_, ?_, ?_⟩
          · simp (disch := omega) only [up2_sf, up2_n1, up2_n2]; exact R.r0
          · simp (disch := omega) only [up2_sf, up2_n1, up2_n2]; exact R.r0b
          · simp (disch := omega) only [up2_sf, up2_n1, up2_n2]; exact R.r1
          · simp (disch := omega) only [up2_sf, up2_n1, up2_n2]; exact R.r2
          · simp (disch := omega) only [up2_sf, up2_n1, up2_n2]; exact R.r2b
          · simp (disch := omega) only [up2_sf, up2_n1, up2_n2]; exact R.r5
          · simp (disch := omega) only [up2_sf, up2_n1, up2_n2]; exact R.r5b
          · simp (disch := omega) only [up2_sf, up2_n1, up2_n2]
          · simp (disch := omega) only [up2_sf, up2_n1, up2_n2]
          · simp (disch := omega) only [up2_sf, up2_n1, up2_n2]; exact R.r8
          · simp (disch := omega) only [up2_sf, up2_n1, up2_n2]; exact R.r8b
          · simp (disch := omega) only [up2_sf, up2_n1, up2_n2]; exact R.r9
          · simp (disch := omega) only [up2_sf, up2_n1, up2_n2]; exact R.r9b
          · simp (disch := omega) only [up2_sf, up2_n1, up2_n2]; exact R.r10
          · simp (disch := omega) only [up2_sf, up2_n1, up2_n2]; exact R.r10b
          · simp (disch := omega) only [up2_sf, up2_n1, up2_n2]; exact R.r11
          · simp (disch := omega) only [up2_sf, up2_n1, up2_n2]; exact R.r11b
          · simp (disch := omega) only [up2_sf, up2_n1, up2_n2]; exact R.r12
          · simp (disch := omega) only [up2_sf, up2_n1, up2_n2]; exact R.r13
          · simp (disch := omega) only [up2_sf, up2_n1, up2_n2]; exact R.sh
          · simp (disch := omega) only [up2_sf, up2_n1, up2_n2]; exact R.shb
          · simp (disch := omega) only [up2_sf, up2_n1, up2_n2]; exact R.wa
          · simp (disch := omega) only [up2_sf, up2_n1, up2_n2]; exact R.wab
  · rw [if_neg hr, if_pos ((isRel_rOk h.t2 h.hnr).mpr hr)]; exact ⟨rfl, h⟩

theorem sim_start {c nr nm : Nat} {s t : S2} {a1 : Int32} (h : Sim c nr nm s t) : (f_C_start nr nm s a1).1 = (f_T_start t a1).1 ∧ Sim c nr nm (f_C_start nr nm s a1).2 (f_T_start t a1).2 := by
  replace h := h.code
  unfold f_C_start f_T_start
  generalize up2 t 0 0 0 = t at *
  have W : f_T_isWithin = f_C_within := rfl
  have o1 : ((1 : Int32) = 0) = False := by decide
  by_cases hr : rOk nr a1
  · rw [if_pos hr, if_neg (fun q => (isRel_rOk h.t2 h.hnr).mp q hr)]
    obtain ⟨i, hi, hb, rfl⟩ := rOk_nI hr
    have R := h.rel i hi
    simp only [nI_clamp hb, W]
    unfold f_R_begin
    rw [R.r8, R.r5]
    by_cases q1 : t 12 i = 0
    · by_cases q2 : t 7 i = 0
      · simp only [q1, q2, if_true]; exact ⟨trivial, h⟩
      · simp only [q1, q2, if_true, if_false, o1]
        unfold f_R_rollAt f_T_begin
        simp only [nI_clamp hb]
        refine ⟨trivial, h.relUp hi ?_ ?_ ?_⟩
        · intro k x
          simp only [up2_at]
          repeat (split <;> first | omega | skip)
          exact Or.inl rfl
        · intro k x
          simp only [up2_at]
          repeat (split <;> first | omega | skip)
          exact Or.inl rfl
        · refine ⟨?_, ?_, ?_, ?_, ?_, ?_, ?_, ?_, ?_, ?_, ?_, ?_, ?_, ?_, ?_, ?_, ?_, ?_, ?_, ?_, ?_, ?_, ?_⟩
          · simp (disch := omega) only [up2_sf, up2_n1, up2_n2]; exact R.r0
          · simp (disch := omega) only [up2_sf, up2_n1, up2_n2]; exact R.r0b
          · simp (disch := omega) only [up2_sf, up2_n1, up2_n2]; exact R.r1
          · simp (disch := omega) only [up2_sf, up2_n1, up2_n2]; exact R.r2
          · simp (disch := omega) only [up2_sf, up2_n1, up2_n2]; exact R.r2b
          · simp (disch := omega) only [up2_sf, up2_n1, up2_n2]; exact R.r5
          · simp (disch := omega) only [up2_sf, up2_n1, up2_n2]; exact R.r5b
          · simp (disch := omega) only [up2_sf, up2_n1, up2_n2]; exact R.r6
          · simp (disch := omega) only [up2_sf, up2_n1, up2_n2]; exact R.r7
          · simp (disch := omega) only [up2_sf, up2_n1, up2_n2]
          · simp (disch := omega) only [up2_sf, up2_n1, up2_n2]; exact Or.inr (Or.inl trivial)
          · simp (disch := omega) only [up2_sf, up2_n1, up2_n2]
          · simp (disch := omega) only [up2_sf, up2_n1, up2_n2]; exact fun _ => trivial
          · simp (disch := omega) only [up2_sf, up2_n1, up2_n2]
          · simp (disch := omega) only [up2_sf, up2_n1, up2_n2]; decide
          · simp (disch := omega) only [up2_sf, up2_n1, up2_n2]; exact h.ck
          · simp (disch := omega) only [up2_sf, up2_n1, up2_n2]; exact ⟨h.ckb.1, Int.le_refl _⟩
          · simp (disch := omega) only [up2_sf, up2_n1, up2_n2]; rfl
          · simp (disch := omega) only [up2_sf, up2_n1, up2_n2]
          · simp (disch := omega) only [up2_sf, up2_n1, up2_n2]; exact R.sh
          · simp (disch := omega) only [up2_sf, up2_n1, up2_n2]; exact R.shb
          · simp (disch := omega) only [up2_sf, up2_n1, up2_n2]; exact R.wa
          · simp (disch := omega) only [up2_sf, up2_n1, up2_n2]; exact R.wab
    · simp only [q1, if_false, if_true]; exact ⟨trivial, h⟩
  · rw [if_neg hr, if_pos ((isRel_rOk h.t2 h.hnr).mpr hr)]; exact ⟨rfl, h⟩

theorem sim_report {c nr nm : Nat} {s t : S2} {a1 a2 a3 : Int32} (h : Sim c nr nm s t) : (f_C_report nr nm s a1 a2 a3).1 = (f_T_report t a1 a2 a3).1 ∧ Sim c nr nm (f_C_report nr nm s a1 a2 a3).2 (f_T_report t a1 a2 a3).2 := by
  replace h := h.code
  unfold f_C_report f_T_report
  generalize up2 t 0 0 0 = t at *
  have W : f_T_isWithin = f_C_within := rfl
  have o1 : ((1 : Int32) = 0) = False := by decide
  by_cases hr : rOk nr a1
  · rw [if_pos hr, if_neg (fun q => (isRel_rOk h.t2 h.hnr).mp q hr)]
    obtain ⟨i, hi, hb, rfl⟩ := rOk_nI hr
    have R := h.rel i hi
    simp only [nI_clamp hb, W]
    unfold f_R_addReports
    rw [R.r8]
    by_cases q0 : t 12 i = 1
    · by_cases q1 : f_C_within a2 0 10000 = 0
      · simp only [q0, q1, if_true]; exact ⟨trivial, h⟩
      · by_cases q2 : f_C_within a3 0 10000 = 0
        · simp only [q0, q1, q2, if_true, if_false]; exact ⟨trivial, h⟩
        · simp only [q0, q1, q2, if_true, if_false, o1]
          refine ⟨trivial, h.relUp hi ?_ ?_ ?_⟩
          · intro k x
            simp only [up2_at]
            repeat (split <;> first | omega | skip)
            exact Or.inl rfl
          · intro k x
            simp only [up2_at]
            repeat (split <;> first | omega | skip)
            exact Or.inl rfl
          · refine ⟨?_, ?_, ?_, ?_, ?_, ?_, ?_, ?_, ?_, ?_, ?_, ?_, ?_, ?_, ?_, ?_, ?_, ?_, ?_, ?_, ?_, ?_, ?_⟩
            · simp (disch := omega) only [up2_sf, up2_n1, up2_n2]; exact R.r0
            · simp (disch := omega) only [up2_sf, up2_n1, up2_n2]; exact R.r0b
            · simp (disch := omega) only [up2_sf, up2_n1, up2_n2]; exact R.r1
            · simp (disch := omega) only [up2_sf, up2_n1, up2_n2]; exact R.r2
            · simp (disch := omega) only [up2_sf, up2_n1, up2_n2]; exact R.r2b
            · simp (disch := omega) only [up2_sf, up2_n1, up2_n2]; exact R.r5
            · simp (disch := omega) only [up2_sf, up2_n1, up2_n2]; exact R.r5b
            · simp (disch := omega) only [up2_sf, up2_n1, up2_n2]; exact R.r6
            · simp (disch := omega) only [up2_sf, up2_n1, up2_n2]; exact R.r7
            · simp (disch := omega) only [up2_sf, up2_n1, up2_n2]; exact R.r8
            · simp (disch := omega) only [up2_sf, up2_n1, up2_n2]; exact R.r8b
            · simp (disch := omega) only [up2_sf, up2_n1, up2_n2]; exact R.r9
            · simp (disch := omega) only [up2_sf, up2_n1, up2_n2]; exact R.r9b
            · simp (disch := omega) only [up2_sf, up2_n1, up2_n2]; exact R.r10
            · simp (disch := omega) only [up2_sf, up2_n1, up2_n2]; exact R.r10b
            · simp (disch := omega) only [up2_sf, up2_n1, up2_n2]; exact R.r11
            · simp (disch := omega) only [up2_sf, up2_n1, up2_n2]; exact R.r11b
            · simp (disch := omega) only [up2_sf, up2_n1, up2_n2]; rw [← R.r12]; exact addr4 _ _ _ _
            · simp (disch := omega) only [up2_sf, up2_n1, up2_n2]; rw [R.r13]
            · simp (disch := omega) only [up2_sf, up2_n1, up2_n2]; exact R.sh
            · simp (disch := omega) only [up2_sf, up2_n1, up2_n2]; exact R.shb
            · simp (disch := omega) only [up2_sf, up2_n1, up2_n2]; exact R.wa
            · simp (disch := omega) only [up2_sf, up2_n1, up2_n2]; exact R.wab
    · by_cases q1 : f_C_within a2 0 10000 = 0
      · simp only [q0, q1, if_true, if_false]; exact ⟨trivial, h⟩
      · by_cases q2 : f_C_within a3 0 10000 = 0
        · simp only [q0, q1, q2, if_true, if_false]; exact ⟨trivial, h⟩
        · simp only [q0, q1, q2, if_true, if_false]; exact ⟨trivial, h⟩
  · rw [if_neg hr, if_pos ((isRel_rOk h.t2 h.hnr).mpr hr)]; exact ⟨rfl, h⟩

theorem sim_hold {c nr nm : Nat} {s t : S2} {a1 a2 : Int32} (h : Sim c nr nm s t) : (f_C_hold nr nm s a1 a2).1 = (f_T_hold t a1 a2).1 ∧ Sim c nr nm (f_C_hold nr nm s a1 a2).2 (f_T_hold t a1 a2).2 := by
  replace h := h.code
  unfold f_C_hold f_T_hold
  generalize up2 t 0 0 0 = t at *
  have W : f_T_isWithin = f_C_within := rfl
  have o1 : ((1 : Int32) = 0) = False := by decide
  by_cases hr : rOk nr a1
  · rw [if_pos hr, if_neg (fun q => (isRel_rOk h.t2 h.hnr).mp q hr)]
    obtain ⟨i, hi, hb, rfl⟩ := rOk_nI hr
    have R := h.rel i hi
    simp only [nI_clamp hb, W]
    unfold f_R_goOn f_R_holdByHand
    rw [R.r8, R.r10]
    by_cases q0 : a2 = 0
    · by_cases q1 : t 12 i = 2
      · simp only [q0, q1, if_true, if_false]
        unfold f_R_rollAt f_T_begin
        simp only [nI_clamp hb]
        refine ⟨trivial, h.relUp hi ?_ ?_ ?_⟩
        · intro k x
          simp only [up2_at]
          repeat (split <;> first | omega | skip)
          exact Or.inl rfl
        · intro k x
          simp only [up2_at]
          repeat (split <;> first | omega | skip)
          exact Or.inl rfl
        · refine ⟨?_, ?_, ?_, ?_, ?_, ?_, ?_, ?_, ?_, ?_, ?_, ?_, ?_, ?_, ?_, ?_, ?_, ?_, ?_, ?_, ?_, ?_, ?_⟩
          · simp (disch := omega) only [up2_sf, up2_n1, up2_n2]; exact R.r0
          · simp (disch := omega) only [up2_sf, up2_n1, up2_n2]; exact R.r0b
          · simp (disch := omega) only [up2_sf, up2_n1, up2_n2]; exact R.r1
          · simp (disch := omega) only [up2_sf, up2_n1, up2_n2]; exact R.r2
          · simp (disch := omega) only [up2_sf, up2_n1, up2_n2]; exact R.r2b
          · simp (disch := omega) only [up2_sf, up2_n1, up2_n2]; exact R.r5
          · simp (disch := omega) only [up2_sf, up2_n1, up2_n2]; exact R.r5b
          · simp (disch := omega) only [up2_sf, up2_n1, up2_n2]; exact R.r6
          · simp (disch := omega) only [up2_sf, up2_n1, up2_n2]; exact R.r7
          · simp (disch := omega) only [up2_sf, up2_n1, up2_n2]
          · simp (disch := omega) only [up2_sf, up2_n1, up2_n2]; exact Or.inr (Or.inl trivial)
          · simp (disch := omega) only [up2_sf, up2_n1, up2_n2]
          · simp (disch := omega) only [up2_sf, up2_n1, up2_n2]; exact fun _ => trivial
          · simp (disch := omega) only [up2_sf, up2_n1, up2_n2]
          · simp (disch := omega) only [up2_sf, up2_n1, up2_n2]; exact R.r10b
          · simp (disch := omega) only [up2_sf, up2_n1, up2_n2]; exact h.ck
          · simp (disch := omega) only [up2_sf, up2_n1, up2_n2]; exact ⟨h.ckb.1, Int.le_refl _⟩
          · simp (disch := omega) only [up2_sf, up2_n1, up2_n2]; rfl
          · simp (disch := omega) only [up2_sf, up2_n1, up2_n2]
          · simp (disch := omega) only [up2_sf, up2_n1, up2_n2]; exact R.sh
          · simp (disch := omega) only [up2_sf, up2_n1, up2_n2]; exact R.shb
          · simp (disch := omega) only [up2_sf, up2_n1, up2_n2]; exact R.wa
          · simp (disch := omega) only [up2_sf, up2_n1, up2_n2]; exact R.wab
      · simp only [q0, q1, if_true, if_false]; exact ⟨trivial, h⟩
    · by_cases q1 : t 12 i = 1
      · simp only [q0, q1, if_true, if_false]
        unfold f_R_holdFor f_T_halt
        simp only [nI_clamp hb]
        refine ⟨trivial, h.relUp hi ?_ ?_ ?_⟩
        · intro k x
          simp only [up2_at]
          repeat (split <;> first | omega | skip)
          exact Or.inl rfl
        · intro k x
          simp only [up2_at]
          repeat (split <;> first | omega | skip)
          exact Or.inl rfl
        · refine ⟨?_, ?_, ?_, ?_, ?_, ?_, ?_, ?_, ?_, ?_, ?_, ?_, ?_, ?_, ?_, ?_, ?_, ?_, ?_, ?_, ?_, ?_, ?_⟩
          · simp (disch := omega) only [up2_sf, up2_n1, up2_n2]; exact R.r0
          · simp (disch := omega) only [up2_sf, up2_n1, up2_n2]; exact R.r0b
          · simp (disch := omega) only [up2_sf, up2_n1, up2_n2]; exact R.r1
          · simp (disch := omega) only [up2_sf, up2_n1, up2_n2]; exact R.r2
          · simp (disch := omega) only [up2_sf, up2_n1, up2_n2]; exact R.r2b
          · simp (disch := omega) only [up2_sf, up2_n1, up2_n2]; exact R.r5
          · simp (disch := omega) only [up2_sf, up2_n1, up2_n2]; exact R.r5b
          · simp (disch := omega) only [up2_sf, up2_n1, up2_n2]; exact R.r6
          · simp (disch := omega) only [up2_sf, up2_n1, up2_n2]; exact R.r7
          · simp (disch := omega) only [up2_sf, up2_n1, up2_n2]
          · simp (disch := omega) only [up2_sf, up2_n1, up2_n2]; exact Or.inr (Or.inr (Or.inl trivial))
          · simp (disch := omega) only [up2_sf, up2_n1, up2_n2]
          · simp (disch := omega) only [up2_sf, up2_n1, up2_n2]; exact fun w => absurd rfl w
          · simp (disch := omega) only [up2_sf, up2_n1, up2_n2]; exact R.r10
          · simp (disch := omega) only [up2_sf, up2_n1, up2_n2]; exact R.r10b
          · simp (disch := omega) only [up2_sf, up2_n1, up2_n2]; exact R.r11
          · simp (disch := omega) only [up2_sf, up2_n1, up2_n2]; exact R.r11b
          · simp (disch := omega) only [up2_sf, up2_n1, up2_n2]; exact R.r12
          · simp (disch := omega) only [up2_sf, up2_n1, up2_n2]; exact R.r13
          · simp (disch := omega) only [up2_sf, up2_n1, up2_n2]; exact R.sh
          · simp (disch := omega) only [up2_sf, up2_n1, up2_n2]; exact R.shb
          · simp (disch := omega) only [up2_sf, up2_n1, up2_n2]; exact R.wa
          · simp (disch := omega) only [up2_sf, up2_n1, up2_n2]; exact R.wab
      · simp only [q0, q1, if_true, if_false]; exact ⟨trivial, h⟩
  · rw [if_neg hr, if_pos ((isRel_rOk h.t2 h.hnr).mpr hr)]; exact ⟨rfl, h⟩

theorem sim_revoke {c nr nm : Nat} {s t : S2} {a1 : Int32} (h : Sim c nr nm s t) : (f_C_revoke nr nm s a1).1 = (f_T_revoke t a1).1 ∧ Sim c nr nm (f_C_revoke nr nm s a1).2 (f_T_revoke t a1).2 := by
  replace h := h.code
  unfold f_C_revoke f_T_revoke
  generalize up2 t 0 0 0 = t at *
  have W : f_T_isWithin = f_C_within := rfl
  have o1 : ((1 : Int32) = 0) = False := by decide
  by_cases hr : rOk nr a1
  · rw [if_pos hr, if_neg (fun q => (isRel_rOk h.t2 h.hnr).mp q hr)]
    obtain ⟨i, hi, hb, rfl⟩ := rOk_nI hr
    have R := h.rel i hi
    simp only [nI_clamp hb, W]
    unfold f_R_bar
    rw [R.r8]
    by_cases q1 : t 12 i = 4
    · simp only [q1, if_true, if_false]; exact ⟨trivial, h⟩
    · simp only [q1, if_true, if_false, o1]
      refine ⟨trivial, h.relUp hi ?_ ?_ ?_⟩
      · intro k x
        simp only [up2_at]
        repeat (split <;> first | omega | skip)
        exact Or.inl rfl
      · intro k x
        simp only [up2_at]
        repeat (split <;> first | omega | skip)
        exact Or.inl rfl
      · refine ⟨?_, ?_, ?_, ?_, ?_, ?_, ?_, ?_, ?_, ?_, ?_, ?_, ?_, ?_, ?_, ?_, ?_, ?_, ?_, ?_, ?_, ?_, ?_⟩
        · simp (disch := omega) only [up2_sf, up2_n1, up2_n2]; exact R.r0
        · simp (disch := omega) only [up2_sf, up2_n1, up2_n2]; exact R.r0b
        · simp (disch := omega) only [up2_sf, up2_n1, up2_n2]; exact R.r1
        · simp (disch := omega) only [up2_sf, up2_n1, up2_n2]; exact R.r2
        · simp (disch := omega) only [up2_sf, up2_n1, up2_n2]; exact R.r2b
        · simp (disch := omega) only [up2_sf, up2_n1, up2_n2]; exact R.r5
        · simp (disch := omega) only [up2_sf, up2_n1, up2_n2]; exact R.r5b
        · simp (disch := omega) only [up2_sf, up2_n1, up2_n2]; exact R.r6
        · simp (disch := omega) only [up2_sf, up2_n1, up2_n2]; exact R.r7
        · simp (disch := omega) only [up2_sf, up2_n1, up2_n2]
        · simp (disch := omega) only [up2_sf, up2_n1, up2_n2]; exact Or.inr (Or.inr (Or.inr (Or.inr trivial)))
        · simp (disch := omega) only [up2_sf, up2_n1, up2_n2]
        · simp (disch := omega) only [up2_sf, up2_n1, up2_n2]; exact fun _ => trivial
        · simp (disch := omega) only [up2_sf, up2_n1, up2_n2]; exact R.r10
        · simp (disch := omega) only [up2_sf, up2_n1, up2_n2]; exact R.r10b
        · simp (disch := omega) only [up2_sf, up2_n1, up2_n2]; exact R.r11
        · simp (disch := omega) only [up2_sf, up2_n1, up2_n2]; exact R.r11b
        · simp (disch := omega) only [up2_sf, up2_n1, up2_n2]; exact R.r12
        · simp (disch := omega) only [up2_sf, up2_n1, up2_n2]; exact R.r13
        · simp (disch := omega) only [up2_sf, up2_n1, up2_n2]; exact R.sh
        · simp (disch := omega) only [up2_sf, up2_n1, up2_n2]; exact R.shb
        · simp (disch := omega) only [up2_sf, up2_n1, up2_n2]; exact R.wa
        · simp (disch := omega) only [up2_sf, up2_n1, up2_n2]; exact R.wab
  · rw [if_neg hr, if_pos ((isRel_rOk h.t2 h.hnr).mpr hr)]; exact ⟨rfl, h⟩

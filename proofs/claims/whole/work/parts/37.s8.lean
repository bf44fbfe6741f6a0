theorem i16 {r : Nat} (h : r < 16) : ¬ (16 : Int32) ≤ nI r := fun q => by have := (nI_leI (a := 16) (b := r) (by decide) (by omega)).mp q; omega
theorem h47_at {a1 x2 : Int32} : ∀ n r (t : S2), r ≤ 16 → 16 - r < n → (∀ f, f ≠ 29 → f ≠ 30 → h_T_findWays_47 a1 x2 n t (nI r) f = t f) ∧ ∀ x, (r ≤ x → x < 16 → h_T_findWays_47 a1 x2 n t (nI r) 29 x = t 27 x ∧ h_T_findWays_47 a1 x2 n t (nI r) 30 x = t 28 x) ∧ (x < r → h_T_findWays_47 a1 x2 n t (nI r) 29 x = t 29 x ∧ h_T_findWays_47 a1 x2 n t (nI r) 30 x = t 30 x) := by
  intro n
  induction n with
  | zero => intro r t _ w; omega
  | succ n ih =>
    intro r t hr w
    have L : h_T_findWays_47 a1 x2 (n + 1) t (nI r) = (if 16 ≤ nI r then t else h_T_findWays_47 a1 x2 n (up2 (up2 t 29 (nI r).toNatClampNeg (t 27 (nI r).toNatClampNeg)) 30 (nI r).toNatClampNeg ((up2 t 29 (nI r).toNatClampNeg (t 27 (nI r).toNatClampNeg)) 28 (nI r).toNatClampNeg)) (nI r + 1)) := rfl
    rw [L]
    by_cases e : r = 16
    · subst e
      rw [if_pos (by decide)]
      exact ⟨fun _ _ _ => rfl, fun x => ⟨fun a b => by omega, fun _ => ⟨rfl, rfl⟩⟩⟩
    · rw [if_neg (i16 (by omega)), nI_clamp (by omega), nI_1, up2_n1 (k' := 28) (by omega)]
      obtain ⟨F, G⟩ := ih (r + 1) (up2 (up2 t 29 r (t 27 r)) 30 r (t 28 r)) (by omega) (by omega)
      refine ⟨fun f f1 f2 => by rw [F f f1 f2, up2_ne f2, up2_ne f1], fun x => ⟨fun a b => ?_, fun a => ?_⟩⟩
      · by_cases ex : x = r
        · subst ex
          have := (G x).2 (by omega)
          rw [this.1, this.2, up2_sf, up2_n1 (by omega), up2_sf]
          exact ⟨rfl, rfl⟩
        · have := (G x).1 (by omega) b
          rw [this.1, this.2, up2_n1 (by omega), up2_n1 (by omega), up2_n1 (by omega), up2_n1 (by omega)]
          exact ⟨rfl, rfl⟩
      · have := (G x).2 (by omega)
        rw [this.1, this.2, up2_n2 (by omega), up2_n2 (by omega), up2_n2 (by omega), up2_n2 (by omega)]
        exact ⟨rfl, rfl⟩
theorem h206_at {a1 x2 : Int32} : ∀ n r (t : S2), r ≤ 16 → 16 - r < n → (∀ f, f ≠ 27 → f ≠ 28 → h_T_findWays_206 a1 x2 n t (nI r) f = t f) ∧ ∀ x, (r ≤ x → x < 16 → h_T_findWays_206 a1 x2 n t (nI r) 27 x = t 29 x ∧ h_T_findWays_206 a1 x2 n t (nI r) 28 x = t 30 x) ∧ (x < r → h_T_findWays_206 a1 x2 n t (nI r) 27 x = t 27 x ∧ h_T_findWays_206 a1 x2 n t (nI r) 28 x = t 28 x) := by
  intro n
  induction n with
  | zero => intro r t _ w; omega
  | succ n ih =>
    intro r t hr w
    have L : h_T_findWays_206 a1 x2 (n + 1) t (nI r) = (if 16 ≤ nI r then t else h_T_findWays_206 a1 x2 n (up2 (up2 t 27 (nI r).toNatClampNeg (t 29 (nI r).toNatClampNeg)) 28 (nI r).toNatClampNeg ((up2 t 27 (nI r).toNatClampNeg (t 29 (nI r).toNatClampNeg)) 30 (nI r).toNatClampNeg)) (nI r + 1)) := rfl
    rw [L]
    by_cases e : r = 16
    · subst e
      rw [if_pos (by decide)]
      exact ⟨fun _ _ _ => rfl, fun x => ⟨fun a b => by omega, fun _ => ⟨rfl, rfl⟩⟩⟩
    · rw [if_neg (i16 (by omega)), nI_clamp (by omega), nI_1, up2_n1 (k' := 30) (by omega)]
      obtain ⟨F, G⟩ := ih (r + 1) (up2 (up2 t 27 r (t 29 r)) 28 r (t 30 r)) (by omega) (by omega)
      refine ⟨fun f f1 f2 => by rw [F f f1 f2, up2_ne f2, up2_ne f1], fun x => ⟨fun a b => ?_, fun a => ?_⟩⟩
      · by_cases ex : x = r
        · subst ex
          have := (G x).2 (by omega)
          rw [this.1, this.2, up2_sf, up2_n1 (by omega), up2_sf]
          exact ⟨rfl, rfl⟩
        · have := (G x).1 (by omega) b
          rw [this.1, this.2, up2_n1 (by omega), up2_n1 (by omega), up2_n1 (by omega), up2_n1 (by omega)]
          exact ⟨rfl, rfl⟩
      · have := (G x).2 (by omega)
        rw [this.1, this.2, up2_n2 (by omega), up2_n2 (by omega), up2_n2 (by omega), up2_n2 (by omega)]
        exact ⟨rfl, rfl⟩
theorem h2_at {h0 : Nat} (hh : h0 < 16) : ∀ n r (t : S2), r ≤ 16 → 16 - r < n → (∀ f, f ≠ 27 → f ≠ 28 → h_T_findWays_2 (nI h0) n t (nI r) f = t f) ∧ ∀ x, (r ≤ x → x < 16 → h_T_findWays_2 (nI h0) n t (nI r) 27 x = (if x = h0 then 0 else 1000000) ∧ h_T_findWays_2 (nI h0) n t (nI r) 28 x = 0) ∧ (x < r → h_T_findWays_2 (nI h0) n t (nI r) 27 x = t 27 x ∧ h_T_findWays_2 (nI h0) n t (nI r) 28 x = t 28 x) := by
  intro n
  induction n with
  | zero => intro r t _ w; omega
  | succ n ih =>
    intro r t hr w
    have L : h_T_findWays_2 (nI h0) (n + 1) t (nI r) = (if 16 ≤ nI r then t else if nI r = nI h0 then h_T_findWays_2 (nI h0) n (up2 (up2 t 27 (nI r).toNatClampNeg 0) 28 (nI r).toNatClampNeg 0) (nI r + 1) else h_T_findWays_2 (nI h0) n (up2 (up2 t 27 (nI r).toNatClampNeg 1000000) 28 (nI r).toNatClampNeg 0) (nI r + 1)) := rfl
    rw [L]
    by_cases e : r = 16
    · subst e
      rw [if_pos (by decide)]
      exact ⟨fun _ _ _ => rfl, fun x => ⟨fun a b => by omega, fun _ => ⟨rfl, rfl⟩⟩⟩
    · have M : (if nI r = nI h0 then h_T_findWays_2 (nI h0) n (up2 (up2 t 27 (nI r).toNatClampNeg 0) 28 (nI r).toNatClampNeg 0) (nI r + 1) else h_T_findWays_2 (nI h0) n (up2 (up2 t 27 (nI r).toNatClampNeg 1000000) 28 (nI r).toNatClampNeg 0) (nI r + 1)) = h_T_findWays_2 (nI h0) n (up2 (up2 t 27 r (if r = h0 then 0 else 1000000)) 28 r 0) (nI (r + 1)) := by
        rw [nI_clamp (by omega), nI_1]
        by_cases q : r = h0
        · rw [if_pos (by rw [q]), if_pos q]
        · rw [if_neg (fun w => q ((nI_eq (by omega) (by omega)).mp w)), if_neg q]
      rw [if_neg (i16 (by omega)), M]
      obtain ⟨F, G⟩ := ih (r + 1) (up2 (up2 t 27 r (if r = h0 then 0 else 1000000)) 28 r 0) (by omega) (by omega)
      refine ⟨fun f f1 f2 => by rw [F f f1 f2, up2_ne f2, up2_ne f1], fun x => ⟨fun a b => ?_, fun a => ?_⟩⟩
      · by_cases ex : x = r
        · subst ex
          have := (G x).2 (by omega)
          rw [this.1, this.2, up2_sf, up2_n1 (by omega), up2_sf]
          exact ⟨rfl, rfl⟩
        · exact (G x).1 (by omega) b
      · have := (G x).2 (by omega)
        rw [this.1, this.2, up2_n2 (by omega), up2_n2 (by omega), up2_n2 (by omega), up2_n2 (by omega)]
        exact ⟨rfl, rfl⟩
theorem drop_at {nr nm : Nat} (hn : nr ≤ 16) : ∀ n r (s : S2), r ≤ 16 → 16 - r < n → ∀ x, (r ≤ x → x < 16 → g_D_dropRevoked nr nm n s (nI r) 8 x = if x < nr ∧ s (10 + 3 * x) 8 = 4 then 2147483647 else s 8 x) ∧ (x < r → g_D_dropRevoked nr nm n s (nI r) 8 x = s 8 x) := by
  intro n
  induction n with
  | zero => intro r s _ w; omega
  | succ n ih =>
    intro r s hr w x
    have L : g_D_dropRevoked nr nm (n + 1) s (nI r) = (if 16 ≤ nI r then s else if (nI r).toNatClampNeg < nr then if s (10 + 3 * (nI r).toNatClampNeg) 8 = 4 then g_D_dropRevoked nr nm n (up2 s 8 (nI r).toNatClampNeg 2147483647) (nI r + 1) else g_D_dropRevoked nr nm n s (nI r + 1) else g_D_dropRevoked nr nm n s (nI r + 1)) := rfl
    rw [L]
    by_cases e : r = 16
    · subst e
      rw [if_pos (by decide)]
      exact ⟨fun a b => by omega, fun _ => rfl⟩
    · have M : (if (nI r).toNatClampNeg < nr then if s (10 + 3 * (nI r).toNatClampNeg) 8 = 4 then g_D_dropRevoked nr nm n (up2 s 8 (nI r).toNatClampNeg 2147483647) (nI r + 1) else g_D_dropRevoked nr nm n s (nI r + 1) else g_D_dropRevoked nr nm n s (nI r + 1)) = g_D_dropRevoked nr nm n (if r < nr ∧ s (10 + 3 * r) 8 = 4 then up2 s 8 r 2147483647 else s) (nI (r + 1)) := by
        rw [nI_clamp (by omega), nI_1]
        by_cases q : r < nr
        · rw [if_pos q]
          by_cases q2 : s (10 + 3 * r) 8 = 4
          · rw [if_pos q2, if_pos ⟨q, q2⟩]
          · rw [if_neg q2, if_neg (fun w => q2 w.2)]
        · rw [if_neg q, if_neg (fun w => q w.1)]
      rw [if_neg (i16 (by omega)), M]
      have G := ih (r + 1) (if r < nr ∧ s (10 + 3 * r) 8 = 4 then up2 s 8 r 2147483647 else s) (by omega) (by omega) x
      have R : ∀ y, (if r < nr ∧ s (10 + 3 * r) 8 = 4 then up2 s 8 r 2147483647 else s) (10 + 3 * y) 8 = s (10 + 3 * y) 8 := by
        intro y
        split
        · rw [up2_n1 (by omega)]
        · rfl
      have R8 : x ≠ r → (if r < nr ∧ s (10 + 3 * r) 8 = 4 then up2 s 8 r 2147483647 else s) 8 x = s 8 x := by
        intro y
        split
        · rw [up2_n2 y]
        · rfl
      refine ⟨fun a b => ?_, fun a => ?_⟩
      · by_cases ex : x = r
        · subst ex
          rw [G.2 (by omega)]
          split
          · rw [up2_sf]
          · rfl
        · rw [G.1 (by omega) b, R, R8 ex]
      · rw [G.2 (by omega), R8 (by omega)]
/-- a round -/
theorem dp_round {n h0 g nr nm cnt : Nat} {wh : Int} {s0 t0 s t : S2} {Bp : Nat → Int} (hn : n ≤ 3) (hg : g < 16) (hgh : g ≠ h0) (hw : 1 ≤ wh ∧ wh ≤ 100000) (B : DpB h0 nr cnt s0 t0) (P : Dp n h0 g cnt wh s0 t0 s t Bp) :
    ∀ s1, s1 = f_D_takeOneMore s → Dp (n + 1) h0 g cnt wh s0 t0 (f_D_dropRevoked nr nm (if s1 4 6 ≤ f_D_sizeAt s1 9 16 (nI g) then va_up s1 8 (va_cpy (s1 9) (s1 8) 0 0 16) else va_up (f_D_setWay s1 (f_D_sizeAt s1 9 16 (nI g)) (nI (n + 1))) 8 (va_cpy (f_D_setWay s1 (f_D_sizeAt s1 9 16 (nI g)) (nI (n + 1)) 9) (f_D_setWay s1 (f_D_sizeAt s1 9 16 (nI g)) (nI (n + 1)) 8) 0 0 16))) (h_T_findWays_206 (nI h0) (nI (n + 1)) 17 (h_T_findWays_85 (nI h0) (nI (n + 1)) 41 (h_T_findWays_47 (nI h0) (nI (n + 1)) 17 t 0) 0) 0) (fun x => (t 27 x).toInt) := by
  intro s1 es1
  have hc := B.hct
  obtain ⟨t1, et1⟩ : ∃ t1, t1 = h_T_findWays_47 (nI h0) (nI (n + 1)) 17 t 0 := ⟨_, rfl⟩
  obtain ⟨F47, G47⟩ := h47_at (a1 := nI h0) (x2 := nI (n + 1)) 17 0 t (by omega) (by omega)
  rw [nI_0, ← et1] at F47 G47
  have mf : (2147483647 : Int32).toInt = 2147483647 := by decide
  have ml : (1000000 : Int32).toInt = 1000000 := by decide
  -- the loop over the deltas
  have L0 : Lp n 0 h0 t0 s t (f_A_fill s 9 16 2147483647) t1 := by
    refine ⟨fun q hq => fill_fr _ _ _ _ hq, F47, fun x hx => Or.inl (fillf_at (by omega) hx), fun x hx => ?_, fun x hx => ?_, fun k' hk' => by omega⟩
    · rw [fillf_at (by omega) hx, ((G47 x).1 (by omega) hx).1, cv_far]
      have := P.bb x hx
      omega
    · rw [((G47 x).1 (by omega) hx).1, ((G47 x).1 (by omega) hx).2]
      exact Or.inr ⟨Int.le_refl _, rfl⟩
  have L := lp_loop hn B P 41 0 _ _ (by omega) (by omega) L0
  rw [nI_0] at L
  obtain ⟨t2, et2⟩ : ∃ t2, t2 = h_T_findWays_85 (nI h0) (nI (n + 1)) 41 t1 0 := ⟨_, rfl⟩
  have es1' : s1 = g_D_takeOneMore 41 (f_A_fill s 9 16 2147483647) 0 := es1
  rw [← et1, ← et2]
  rw [← es1', ← et2] at L
  clear es1 es1' et2 et1 L0 F47 G47
  obtain ⟨F206, G206⟩ := h206_at (a1 := nI h0) (x2 := nI (n + 1)) 17 0 t2 (by omega) (by omega)
  rw [nI_0] at F206 G206
  obtain ⟨t3, et3⟩ : ∃ t3, t3 = h_T_findWays_206 (nI h0) (nI (n + 1)) 17 t2 0 := ⟨_, rfl⟩
  rw [← et3] at F206 G206 ⊢
  have g15 : 0 ≤ (nI g).toInt ∧ (nI g).toInt ≤ 15 := by rw [nI_toInt (by omega)]; omega
  rw [sizeAt_in g15, nI_clamp (by omega)]
  -- the class's state after the round, before the drop
  obtain ⟨s2, es2⟩ : ∃ s2, s2 = (if s1 4 6 ≤ s1 9 g then va_up s1 8 (va_cpy (s1 9) (s1 8) 0 0 16) else va_up (f_D_setWay s1 (s1 9 g) (nI (n + 1))) 8 (va_cpy (f_D_setWay s1 (s1 9 g) (nI (n + 1)) 9) (f_D_setWay s1 (s1 9 g) (nI (n + 1)) 8) 0 0 16)) := ⟨_, rfl⟩
  rw [← es2]
  have S8 : ∀ x, x < 16 → s2 8 x = s1 9 x := by
    intro x hx
    rw [es2]
    split
    · rw [va_up_s2]; unfold va_cpy; rw [if_pos (by omega)]; simp
    · rw [va_up_s2]; unfold va_cpy f_D_setWay; rw [if_pos (by omega), up2_ne (by omega), up2_ne (by omega)]; simp
  have Sf : ∀ q, q ≠ 4 → q ≠ 8 → s2 q = s1 q := by
    intro q h4 h8
    rw [es2]
    split
    · rw [va_up_ne _ _ h8]
    · rw [va_up_ne _ _ h8]; unfold f_D_setWay; rw [up2_ne h4, up2_ne h4]
  have S4 : ∀ x, x ≠ 6 → x ≠ 7 → s2 4 x = s1 4 x := by
    intro x h6 h7
    rw [es2]
    split
    · rw [va_up_ne _ _ (by omega)]
    · rw [va_up_ne _ _ (by omega)]; unfold f_D_setWay; rw [up2_n2 h7, up2_n2 h6]
  have Sw : (s1 4 6 ≤ s1 9 g ∧ s2 4 6 = s1 4 6 ∧ s2 4 7 = s1 4 7) ∨ (¬ s1 4 6 ≤ s1 9 g ∧ s2 4 6 = s1 9 g ∧ s2 4 7 = nI (n + 1)) := by
    rw [es2]
    by_cases q : s1 4 6 ≤ s1 9 g
    · rw [if_pos q, va_up_ne _ _ (by omega)]; exact Or.inl ⟨q, rfl, rfl⟩
    · rw [if_neg q, va_up_ne _ _ (by omega)]; unfold f_D_setWay; rw [up2_n2 (by omega), up2_sf, up2_sf]; exact Or.inr ⟨q, rfl, rfl⟩
  clear es2
  have Dr : ∀ x, x < 16 → f_D_dropRevoked nr nm s2 8 x = if t0 12 x = 4 then 2147483647 else s1 9 x := by
    intro x hx
    have := (drop_at (nm := nm) B.hnr 17 0 s2 (by omega) (by omega) x).1 (by omega) hx
    rw [nI_0] at this
    show g_D_dropRevoked nr nm 17 s2 0 8 x = _
    have rv := B.rev x hx
    have e : s2 (10 + 3 * x) 8 = s0 (10 + 3 * x) 8 := by rw [Sf _ (by omega) (by omega), L.fs _ (by omega), P.fs _ (by omega) (by omega) (by omega)]
    rw [this, e, S8 x hx]
    by_cases q : t0 12 x = 4
    · rw [if_pos (rv.mpr q), if_pos q]
    · rw [if_neg (fun w => q (rv.mp w)), if_neg q]
  have B27 : ∀ x, x < 16 → t3 27 x = t2 29 x ∧ t3 28 x = t2 30 x := fun x hx => (G206 x).1 (by omega) hx
  have nb9 : ∀ x, x < 16 → (s1 9 x = 2147483647 ∧ cv (s1 9 x) = 1000000) ∨ (cv (s1 9 x) = (s1 9 x).toInt ∧ 0 ≤ (s1 9 x).toInt ∧ (s1 9 x).toInt ≤ 1000 * n + 1000) := by
    intro x hx
    rcases L.nb x hx with e | e
    · exact Or.inl ⟨e, by rw [e]; exact cv_far⟩
    · exact Or.inr ⟨(cv_s e (by omega)).1, e⟩
  refine ⟨?_, ?_, ?_, ?_, ?_, ?_, ?_, ?_, ?_, ?_, ?_⟩
  · intro k h4 h8 h9
    rw [drop_fr' nr nm s2 h8, Sf k h4 h8, L.fs k h9, P.fs k h4 h8 h9]
  · intro x h6 h7
    rw [drop_fr' nr nm s2 (by omega), S4 x h6 h7, L.fs 4 (by omega), P.fd x h6 h7]
  · intro f hf
    rw [F206 f (by omega) (by omega), L.ft f (by omega) (by omega), P.ft f hf]
  · intro x hx
    rw [Dr x hx]
    split
    · exact Or.inl rfl
    · rcases L.nb x hx with e | e
      · exact Or.inl e
      · exact Or.inr ⟨e.1, by have := e.2; omega⟩
  · intro x hx
    have := P.bb x hx
    show (t 27 x).toInt = 1000000 ∨ (0 ≤ (t 27 x).toInt ∧ (t 27 x).toInt ≤ 1000 * ((n + 1 : Nat) : Int))
    rcases this with e | e
    · exact Or.inl e
    · exact Or.inr ⟨e.1, by have := e.2; omega⟩
  · intro x hx
    rw [(B27 x hx).1, L.nx x hx]
    have b := P.bb x hx
    rcases nb9 x hx with e | e
    · rw [e.2]; omega
    · rw [e.1]; omega
  · intro x hx o
    show (t3 27 x).toInt = min (t 27 x).toInt _
    rw [(B27 x hx).1, L.nx x hx, Dr x hx]
    by_cases q : t0 12 x = 4
    · rw [if_pos q, cv_far]
      have : x = h0 := o.resolve_right (fun w => w q)
      subst this
      have b := P.b0
      rcases nb9 x hx with e | e
      · rw [e.2]
      · rw [e.1]; omega
    · rw [if_neg q]
  · intro x hx o
    have q : t0 12 x = 4 := Classical.byContradiction fun w => o (Or.inr w)
    rw [Dr x hx, if_pos q]
  · rw [(B27 h0 B.hh).1, L.nx h0 B.hh, P.b0]
    rcases nb9 h0 B.hh with e | e
    · rw [e.2]; decide
    · rw [e.1]; omega
  · intro k hk o z
    have D := B.dl k (by omega)
    rw [(B27 _ (aK_lt D).2).1]
    exact L.cl k hk o z
  · have b := P.bb g hg
    have N := L.nx g hg
    have Mm := L.nm g hg
    have w4 : ∀ x, s1 4 x = s 4 x := fun x => by rw [L.fs 4 (by omega)]
    rw [(B27 g hg).1, (B27 g hg).2, drop_fr' nr nm s2 (by omega)]
    have y := P.wy
    have E9 := nb9 g hg
    have e28 : t2 30 g = nI (n + 1) ∨ t2 30 g = t 28 g := Mm.elim (fun z => Or.inl z.2) (fun z => Or.inr z.2)
    rcases Sw with ⟨q, a, c⟩ | ⟨q, a, c⟩
    · rw [a, c, w4, w4]
      rw [i_le, w4] at q
      rcases y with ⟨y1, y2, y3⟩ | ⟨y1, y2, y3⟩
      · left
        rcases E9 with ⟨e, e2⟩ | ⟨e, e2⟩
        · rcases Mm with ⟨m1, m2⟩ | ⟨m1, m2⟩
          · omega
          · exact ⟨by omega, by omega, by rw [m2]; exact y3⟩
        · rcases Mm with ⟨m1, m2⟩ | ⟨m1, m2⟩
          · omega
          · exact ⟨by omega, by omega, by rw [m2]; exact y3⟩
      · right
        rcases E9 with ⟨e, e2⟩ | ⟨e, e2⟩
        · exact ⟨by omega, by omega, y3⟩
        · exact ⟨by omega, by omega, y3⟩
    · rw [a, c]
      rw [i_le, w4] at q
      left
      rcases E9 with ⟨e, e2⟩ | ⟨e, e2⟩
      · rw [e] at q
        rcases y with ⟨y1, y2, y3⟩ | ⟨y1, y2, y3⟩ <;> omega
      · rcases Mm with ⟨m1, m2⟩ | ⟨m1, m2⟩
        · rcases y with ⟨y1, y2, y3⟩ | ⟨y1, y2, y3⟩
          · exact ⟨by omega, by omega, m2.symm⟩
          · exact ⟨by omega, by omega, m2.symm⟩
        · rcases y with ⟨y1, y2, y3⟩ | ⟨y1, y2, y3⟩ <;> omega

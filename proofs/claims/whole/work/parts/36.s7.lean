/-! cost and steps: the two searches -/
def cv (x : Int32) : Int := if x = 2147483647 then 1000000 else x.toInt
def aK (t0 : S2) (k : Nat) : Nat := (t0 24 k).toNatClampNeg
def bK (t0 : S2) (k : Nat) : Nat := (t0 25 k).toNatClampNeg
abbrev okA (h0 : Nat) (t0 : S2) (x : Nat) : Prop := x = h0 ∨ ¬ t0 12 x = 4
def DpB (h0 nr cnt : Nat) (s0 t0 : S2) : Prop :=
  (cnt ≤ 40) ∧
  (t0 0 4 = nI cnt) ∧
  (h0 < 16) ∧
  (nr ≤ 16) ∧
  (s0 4 3 = t0 0 4) ∧
  (∀ x, x < 16 → ((x < nr ∧ s0 (10 + 3 * x) 8 = 4) ↔ t0 12 x = 4)) ∧
  (∀ k, k < 40 → DelSim s0 t0 k)
theorem DpB.hct {h0 nr cnt : Nat} {s0 t0 : S2} (h : DpB h0 nr cnt s0 t0) : cnt ≤ 40 := h.1
theorem DpB.ec {h0 nr cnt : Nat} {s0 t0 : S2} (h : DpB h0 nr cnt s0 t0) : t0 0 4 = nI cnt := h.2.1
theorem DpB.hh {h0 nr cnt : Nat} {s0 t0 : S2} (h : DpB h0 nr cnt s0 t0) : h0 < 16 := h.2.2.1
theorem DpB.hnr {h0 nr cnt : Nat} {s0 t0 : S2} (h : DpB h0 nr cnt s0 t0) : nr ≤ 16 := h.2.2.2.1
theorem DpB.dc {h0 nr cnt : Nat} {s0 t0 : S2} (h : DpB h0 nr cnt s0 t0) : s0 4 3 = t0 0 4 := h.2.2.2.2.1
theorem DpB.rev {h0 nr cnt : Nat} {s0 t0 : S2} (h : DpB h0 nr cnt s0 t0) : ∀ x, x < 16 → ((x < nr ∧ s0 (10 + 3 * x) 8 = 4) ↔ t0 12 x = 4) := h.2.2.2.2.2.1
theorem DpB.dl {h0 nr cnt : Nat} {s0 t0 : S2} (h : DpB h0 nr cnt s0 t0) : ∀ k, k < 40 → DelSim s0 t0 k := h.2.2.2.2.2.2
def Dp (n h0 g cnt : Nat) (wh : Int) (s0 t0 s t : S2) (Bp : Nat → Int) : Prop :=
  (∀ k, k ≠ 4 → k ≠ 8 → k ≠ 9 → s k = s0 k) ∧
  (∀ x, x ≠ 6 → x ≠ 7 → s 4 x = s0 4 x) ∧
  (∀ f, f < 27 → t f = t0 f) ∧
  (∀ x, x < 16 → s 8 x = 2147483647 ∨ (0 ≤ (s 8 x).toInt ∧ (s 8 x).toInt ≤ 1000 * n)) ∧
  (∀ x, x < 16 → Bp x = 1000000 ∨ (0 ≤ Bp x ∧ Bp x ≤ 1000 * n)) ∧
  (∀ x, x < 16 → (t 27 x).toInt = 1000000 ∨ (0 ≤ (t 27 x).toInt ∧ (t 27 x).toInt ≤ 1000 * n)) ∧
  (∀ x, x < 16 → okA h0 t0 x → (t 27 x).toInt = min (Bp x) (cv (s 8 x))) ∧
  (∀ x, x < 16 → ¬ okA h0 t0 x → s 8 x = 2147483647) ∧
  ((t 27 h0).toInt = 0) ∧
  (∀ k, k < cnt → okA h0 t0 (aK t0 k) → Bp (aK t0 k) ≠ 1000000 → (t 27 (bK t0 k)).toInt ≤ Bp (aK t0 k) + (t0 26 k).toInt) ∧
  (((t 27 g).toInt < wh ∧ (s 4 6).toInt = (t 27 g).toInt ∧ s 4 7 = t 28 g) ∨ (wh ≤ (t 27 g).toInt ∧ (s 4 6).toInt = wh ∧ s 4 7 = 0))
theorem Dp.fs {n h0 g cnt : Nat} {wh : Int} {s0 t0 s t : S2} {Bp : Nat → Int} (h : Dp n h0 g cnt wh s0 t0 s t Bp) : ∀ k, k ≠ 4 → k ≠ 8 → k ≠ 9 → s k = s0 k := h.1
theorem Dp.fd {n h0 g cnt : Nat} {wh : Int} {s0 t0 s t : S2} {Bp : Nat → Int} (h : Dp n h0 g cnt wh s0 t0 s t Bp) : ∀ x, x ≠ 6 → x ≠ 7 → s 4 x = s0 4 x := h.2.1
theorem Dp.ft {n h0 g cnt : Nat} {wh : Int} {s0 t0 s t : S2} {Bp : Nat → Int} (h : Dp n h0 g cnt wh s0 t0 s t Bp) : ∀ f, f < 27 → t f = t0 f := h.2.2.1
theorem Dp.cb {n h0 g cnt : Nat} {wh : Int} {s0 t0 s t : S2} {Bp : Nat → Int} (h : Dp n h0 g cnt wh s0 t0 s t Bp) : ∀ x, x < 16 → s 8 x = 2147483647 ∨ (0 ≤ (s 8 x).toInt ∧ (s 8 x).toInt ≤ 1000 * n) := h.2.2.2.1
theorem Dp.pb {n h0 g cnt : Nat} {wh : Int} {s0 t0 s t : S2} {Bp : Nat → Int} (h : Dp n h0 g cnt wh s0 t0 s t Bp) : ∀ x, x < 16 → Bp x = 1000000 ∨ (0 ≤ Bp x ∧ Bp x ≤ 1000 * n) := h.2.2.2.2.1
theorem Dp.bb {n h0 g cnt : Nat} {wh : Int} {s0 t0 s t : S2} {Bp : Nat → Int} (h : Dp n h0 g cnt wh s0 t0 s t Bp) : ∀ x, x < 16 → (t 27 x).toInt = 1000000 ∨ (0 ≤ (t 27 x).toInt ∧ (t 27 x).toInt ≤ 1000 * n) := h.2.2.2.2.2.1
theorem Dp.ok {n h0 g cnt : Nat} {wh : Int} {s0 t0 s t : S2} {Bp : Nat → Int} (h : Dp n h0 g cnt wh s0 t0 s t Bp) : ∀ x, x < 16 → okA h0 t0 x → (t 27 x).toInt = min (Bp x) (cv (s 8 x)) := h.2.2.2.2.2.2.1
theorem Dp.no {n h0 g cnt : Nat} {wh : Int} {s0 t0 s t : S2} {Bp : Nat → Int} (h : Dp n h0 g cnt wh s0 t0 s t Bp) : ∀ x, x < 16 → ¬ okA h0 t0 x → s 8 x = 2147483647 := h.2.2.2.2.2.2.2.1
theorem Dp.b0 {n h0 g cnt : Nat} {wh : Int} {s0 t0 s t : S2} {Bp : Nat → Int} (h : Dp n h0 g cnt wh s0 t0 s t Bp) : (t 27 h0).toInt = 0 := h.2.2.2.2.2.2.2.2.1
theorem Dp.cl {n h0 g cnt : Nat} {wh : Int} {s0 t0 s t : S2} {Bp : Nat → Int} (h : Dp n h0 g cnt wh s0 t0 s t Bp) : ∀ k, k < cnt → okA h0 t0 (aK t0 k) → Bp (aK t0 k) ≠ 1000000 → (t 27 (bK t0 k)).toInt ≤ Bp (aK t0 k) + (t0 26 k).toInt := h.2.2.2.2.2.2.2.2.2.1
theorem Dp.wy {n h0 g cnt : Nat} {wh : Int} {s0 t0 s t : S2} {Bp : Nat → Int} (h : Dp n h0 g cnt wh s0 t0 s t Bp) : ((t 27 g).toInt < wh ∧ (s 4 6).toInt = (t 27 g).toInt ∧ s 4 7 = t 28 g) ∨ (wh ≤ (t 27 g).toInt ∧ (s 4 6).toInt = wh ∧ s 4 7 = 0) := h.2.2.2.2.2.2.2.2.2.2
def Lp (n k h0 : Nat) (t0 sR tR s t : S2) : Prop :=
  (∀ q, q ≠ 9 → s q = sR q) ∧
  (∀ f, f ≠ 29 → f ≠ 30 → t f = tR f) ∧
  (∀ x, x < 16 → s 9 x = 2147483647 ∨ (0 ≤ (s 9 x).toInt ∧ (s 9 x).toInt ≤ 1000 * n + 1000)) ∧
  (∀ x, x < 16 → (t 29 x).toInt = min (tR 27 x).toInt (cv (s 9 x))) ∧
  (∀ x, x < 16 → ((t 29 x).toInt < (tR 27 x).toInt ∧ t 30 x = nI (n + 1)) ∨ ((tR 27 x).toInt ≤ (t 29 x).toInt ∧ t 30 x = tR 28 x)) ∧
  (∀ k', k' < k → okA h0 t0 (aK t0 k') → (tR 27 (aK t0 k')).toInt ≠ 1000000 → (t 29 (bK t0 k')).toInt ≤ (tR 27 (aK t0 k')).toInt + (t0 26 k').toInt)
theorem Lp.fs {n k h0 : Nat} {t0 sR tR s t : S2} (h : Lp n k h0 t0 sR tR s t) : ∀ q, q ≠ 9 → s q = sR q := h.1
theorem Lp.ft {n k h0 : Nat} {t0 sR tR s t : S2} (h : Lp n k h0 t0 sR tR s t) : ∀ f, f ≠ 29 → f ≠ 30 → t f = tR f := h.2.1
theorem Lp.nb {n k h0 : Nat} {t0 sR tR s t : S2} (h : Lp n k h0 t0 sR tR s t) : ∀ x, x < 16 → s 9 x = 2147483647 ∨ (0 ≤ (s 9 x).toInt ∧ (s 9 x).toInt ≤ 1000 * n + 1000) := h.2.2.1
theorem Lp.nx {n k h0 : Nat} {t0 sR tR s t : S2} (h : Lp n k h0 t0 sR tR s t) : ∀ x, x < 16 → (t 29 x).toInt = min (tR 27 x).toInt (cv (s 9 x)) := h.2.2.2.1
theorem Lp.nm {n k h0 : Nat} {t0 sR tR s t : S2} (h : Lp n k h0 t0 sR tR s t) : ∀ x, x < 16 → ((t 29 x).toInt < (tR 27 x).toInt ∧ t 30 x = nI (n + 1)) ∨ ((tR 27 x).toInt ≤ (t 29 x).toInt ∧ t 30 x = tR 28 x) := h.2.2.2.2.1
theorem Lp.cl {n k h0 : Nat} {t0 sR tR s t : S2} (h : Lp n k h0 t0 sR tR s t) : ∀ k', k' < k → okA h0 t0 (aK t0 k') → (tR 27 (aK t0 k')).toInt ≠ 1000000 → (t 29 (bK t0 k')).toInt ≤ (tR 27 (aK t0 k')).toInt + (t0 26 k').toInt := h.2.2.2.2.2
theorem fill_at {k nA : Nat} {v : Int32} (hA : nA < 2 ^ 30) : ∀ n r (s : S2), r ≤ nA → nA - r < n → ∀ x, g_A_fill k nA v n s (nI r) (nI nA) k x = if r ≤ x ∧ x < nA then v else s k x := by
  intro n
  induction n with
  | zero => intro r s _ w; omega
  | succ n ih =>
    intro r s hr w x
    show (if nI nA ≤ nI r then s else g_A_fill k nA v n (up2 s k (nI r).toNatClampNeg v) (nI r + 1) (nI nA)) k x = _
    by_cases e : r = nA
    · subst e
      rw [if_pos ((nI_leI (by omega) (by omega)).mpr (Nat.le_refl _)), if_neg (by omega)]
    · rw [if_neg (fun q => by have := (nI_leI (a := nA) (b := r) (by omega) (by omega)).mp q; omega), nI_1, nI_clamp (by omega), ih (r + 1) _ (by omega) (by omega) x, up2_at]
      by_cases e1 : x = r
      · subst e1
        rw [if_neg (by omega), if_pos ⟨rfl, rfl⟩, if_pos (by omega)]
      · by_cases e2 : r ≤ x ∧ x < nA
        · rw [if_pos (by omega), if_pos e2]
        · rw [if_neg (by omega), if_neg (by omega), if_neg e2]
theorem fillf_at {k nA : Nat} {v : Int32} {s : S2} (hA : nA < 2 ^ 30) {x : Nat} (hx : x < nA) : f_A_fill s k nA v k x = v := by
  have := fill_at (k := k) (v := v) hA (nA + 1) 0 s (by omega) (by omega) x
  rw [nI_0, if_pos (by omega)] at this
  exact this
theorem in16 {a : Int32} (h : 0 ≤ a.toInt ∧ a.toInt ≤ 15) : ¬ f_C_within a 0 (nI 16 - 1) = 0 := by
  rw [within_ne, i_le, i_le]
  exact h
theorem sizeAt_in {s : S2} {k : Nat} {a : Int32} (h : 0 ≤ a.toInt ∧ a.toInt ≤ 15) : f_D_sizeAt s k 16 a = s k a.toNatClampNeg := by
  unfold f_D_sizeAt
  rw [if_neg (in16 h)]
theorem lower_in {s : S2} {k : Nat} {a v : Int32} (h : 0 ≤ a.toInt ∧ a.toInt ≤ 15) : f_D_lower s k 16 a v = if s k a.toNatClampNeg ≤ v then s else up2 s k a.toNatClampNeg v := by
  unfold f_D_lower
  rw [if_neg (in16 h)]
theorem cv_far : cv 2147483647 = 1000000 := by decide
theorem cv_r {x : Int32} (h : ¬ x = 2147483647) : cv x = x.toInt := if_neg h
theorem cv_s {x : Int32} {b : Int} (h : 0 ≤ x.toInt ∧ x.toInt ≤ b) (hb : b < 1000000) : cv x = x.toInt ∧ ¬ x = 2147483647 := by
  have : ¬ x = 2147483647 := by
    intro e
    rw [e] at h
    have : (2147483647 : Int32).toInt = 2147483647 := by decide
    omega
  exact ⟨cv_r this, this⟩
/-- the body of the class's loop over the deltas -/
theorem take_step {s0 t0 s : S2} {k n cnt : Nat} (hk : k < cnt) (hc : cnt ≤ 40) (ec : s 4 3 = nI cnt) (D : DelSim s0 t0 k) (f5 : s 5 k = s0 5 k) (f6 : s 6 k = s0 6 k) (f7 : s 7 k = s0 7 k) : g_D_takeOneMore (n + 1) s (nI k) = g_D_takeOneMore n (if ¬ s 8 (aK t0 k) = 2147483647 ∧ ¬ s 9 (bK t0 k) ≤ s 8 (aK t0 k) + t0 26 k then up2 s 9 (bK t0 k) (s 8 (aK t0 k) + t0 26 k) else s) (nI (k + 1)) := by
  have L : g_D_takeOneMore (n + 1) s (nI k) = (if (s 4 3) ≤ nI k then s else if (f_D_sizeAt s 8 16 (s 5 (nI k).toNatClampNeg)) = 2147483647 then g_D_takeOneMore n s (nI k + 1) else g_D_takeOneMore n (f_D_lower s 9 16 (s 6 (nI k).toNatClampNeg) ((f_D_sizeAt s 8 16 (s 5 (nI k).toNatClampNeg)) + (s 7 (nI k).toNatClampNeg))) (nI k + 1)) := rfl
  rw [L, ec, if_neg (fun q => by have := (nI_leI (a := cnt) (b := k) (by omega) (by omega)).mp q; omega), nI_clamp (by omega), f5, f6, f7, D.d5, D.d6, D.d7, sizeAt_in D.b5, lower_in D.b6, nI_1]
  show (if s 8 (aK t0 k) = 2147483647 then g_D_takeOneMore n s (nI (k + 1)) else g_D_takeOneMore n (if s 9 (bK t0 k) ≤ s 8 (aK t0 k) + t0 26 k then s else up2 s 9 (bK t0 k) (s 8 (aK t0 k) + t0 26 k)) (nI (k + 1))) = _
  by_cases q1 : s 8 (aK t0 k) = 2147483647
  · rw [if_pos q1, if_neg (fun w => w.1 q1)]
  · rw [if_neg q1]
    by_cases q2 : s 9 (bK t0 k) ≤ s 8 (aK t0 k) + t0 26 k
    · rw [if_pos q2, if_neg (fun w => w.2 q2)]
    · rw [if_neg q2, if_pos ⟨q1, q2⟩]
/-- .. and of the reference's -/
theorem h85_step {t0 t : S2} {k n cnt h0 : Nat} {x2 : Int32} (hk : k < cnt) (hc : cnt ≤ 40) (hh : h0 < 16) (ec : t 0 4 = nI cnt) (b5 : 0 ≤ (t0 24 k).toInt ∧ (t0 24 k).toInt ≤ 15) (ft : ∀ f, f < 27 → t f = t0 f) : h_T_findWays_85 (nI h0) x2 (n + 1) t (nI k) = h_T_findWays_85 (nI h0) x2 n (if ¬ t 27 (aK t0 k) = 1000000 ∧ okA h0 t0 (aK t0 k) ∧ t 27 (aK t0 k) + t0 26 k < t 29 (bK t0 k) then up2 (up2 t 29 (bK t0 k) (t 27 (aK t0 k) + t0 26 k)) 30 (bK t0 k) x2 else t) (nI (k + 1)) := by
  have L : h_T_findWays_85 (nI h0) x2 (n + 1) t (nI k) = (if (t 0 4) ≤ nI k then t else
      if (t 27 (Int32.toNatClampNeg (t 24 (Int32.toNatClampNeg (nI k))))) = 1000000 then
        h_T_findWays_85 (nI h0) x2 n t (nI k + 1)
      else
        if (t 24 (Int32.toNatClampNeg (nI k))) = nI h0 then
          if ((t 27 (Int32.toNatClampNeg (t 24 (Int32.toNatClampNeg (nI k))))) + (t 26 (Int32.toNatClampNeg (nI k)))) < (t 29 (Int32.toNatClampNeg (t 25 (Int32.toNatClampNeg (nI k))))) then
            h_T_findWays_85 (nI h0) x2 n (up2 (up2 t 29 (Int32.toNatClampNeg (t 25 (Int32.toNatClampNeg (nI k)))) ((t 27 (Int32.toNatClampNeg (t 24 (Int32.toNatClampNeg (nI k))))) + (t 26 (Int32.toNatClampNeg (nI k))))) 30 (Int32.toNatClampNeg ((up2 t 29 (Int32.toNatClampNeg (t 25 (Int32.toNatClampNeg (nI k)))) ((t 27 (Int32.toNatClampNeg (t 24 (Int32.toNatClampNeg (nI k))))) + (t 26 (Int32.toNatClampNeg (nI k))))) 25 (Int32.toNatClampNeg (nI k)))) x2) (nI k + 1)
          else
            h_T_findWays_85 (nI h0) x2 n t (nI k + 1)
        else
          if (t 12 (Int32.toNatClampNeg (t 24 (Int32.toNatClampNeg (nI k))))) = 4 then
            h_T_findWays_85 (nI h0) x2 n t (nI k + 1)
          else
            if ((t 27 (Int32.toNatClampNeg (t 24 (Int32.toNatClampNeg (nI k))))) + (t 26 (Int32.toNatClampNeg (nI k)))) < (t 29 (Int32.toNatClampNeg (t 25 (Int32.toNatClampNeg (nI k))))) then
              h_T_findWays_85 (nI h0) x2 n (up2 (up2 t 29 (Int32.toNatClampNeg (t 25 (Int32.toNatClampNeg (nI k)))) ((t 27 (Int32.toNatClampNeg (t 24 (Int32.toNatClampNeg (nI k))))) + (t 26 (Int32.toNatClampNeg (nI k))))) 30 (Int32.toNatClampNeg ((up2 t 29 (Int32.toNatClampNeg (t 25 (Int32.toNatClampNeg (nI k)))) ((t 27 (Int32.toNatClampNeg (t 24 (Int32.toNatClampNeg (nI k))))) + (t 26 (Int32.toNatClampNeg (nI k))))) 25 (Int32.toNatClampNeg (nI k)))) x2) (nI k + 1)
            else
              h_T_findWays_85 (nI h0) x2 n t (nI k + 1)) := rfl
  have u25 : ∀ v, up2 t 29 (Int32.toNatClampNeg (t0 25 k)) v 25 k = t0 25 k := fun v => by rw [up2_n1 (by omega), ft 25 (by omega)]
  have ea : (t0 24 k = nI h0) ↔ aK t0 k = h0 := by
    unfold aK
    obtain ⟨a, ha, e⟩ := i_ex (n := 15) b5.1 b5.2 (by decide)
    rw [e, nI_clamp (by omega), nI_eq (by omega) (by omega)]
  rw [L, ec, if_neg (fun q => by have := (nI_leI (a := cnt) (b := k) (by omega) (by omega)).mp q; omega), nI_clamp (by omega), ft 24 (by omega), ft 25 (by omega), ft 26 (by omega), ft 12 (by omega), u25, nI_1]
  show (if t 27 (aK t0 k) = 1000000 then h_T_findWays_85 (nI h0) x2 n t (nI (k + 1)) else if t0 24 k = nI h0 then (if t 27 (aK t0 k) + t0 26 k < t 29 (bK t0 k) then h_T_findWays_85 (nI h0) x2 n (up2 (up2 t 29 (bK t0 k) (t 27 (aK t0 k) + t0 26 k)) 30 (bK t0 k) x2) (nI (k + 1)) else h_T_findWays_85 (nI h0) x2 n t (nI (k + 1))) else if t0 12 (aK t0 k) = 4 then h_T_findWays_85 (nI h0) x2 n t (nI (k + 1)) else (if t 27 (aK t0 k) + t0 26 k < t 29 (bK t0 k) then h_T_findWays_85 (nI h0) x2 n (up2 (up2 t 29 (bK t0 k) (t 27 (aK t0 k) + t0 26 k)) 30 (bK t0 k) x2) (nI (k + 1)) else h_T_findWays_85 (nI h0) x2 n t (nI (k + 1)))) = _
  by_cases q1 : t 27 (aK t0 k) = 1000000
  · rw [if_pos q1, if_neg (fun w => w.1 q1)]
  · rw [if_neg q1]
    by_cases q2 : t0 24 k = nI h0
    · have o : okA h0 t0 (aK t0 k) := Or.inl (ea.mp q2)
      rw [if_pos q2]
      by_cases q3 : t 27 (aK t0 k) + t0 26 k < t 29 (bK t0 k)
      · rw [if_pos q3, if_pos ⟨q1, o, q3⟩]
      · rw [if_neg q3, if_neg (fun w => q3 w.2.2)]
    · rw [if_neg q2]
      by_cases q4 : t0 12 (aK t0 k) = 4
      · rw [if_pos q4, if_neg (fun w => w.2.1.elim (fun u => q2 (ea.mpr u)) (fun u => u q4))]
      · rw [if_neg q4]
        by_cases q3 : t 27 (aK t0 k) + t0 26 k < t 29 (bK t0 k)
        · rw [if_pos q3, if_pos ⟨q1, Or.inr q4, q3⟩]
        · rw [if_neg q3, if_neg (fun w => q3 w.2.2)]
theorem aK_lt {s0 t0 : S2} {k : Nat} (D : DelSim s0 t0 k) : aK t0 k < 16 ∧ bK t0 k < 16 := by
  have := tnc D.b5.1
  have := tnc D.b6.1
  have := D.b5.2
  have := D.b6.2
  unfold aK bK
  omega
theorem lp_step {n k h0 g cnt : Nat} {wh : Int} {s0 t0 sR tR s t : S2} {Bp : Nat → Int} (hn : n ≤ 3) (hk : k < cnt) (hc : cnt ≤ 40) (D : DelSim s0 t0 k) (P : Dp n h0 g cnt wh s0 t0 sR tR Bp) (I : Lp n k h0 t0 sR tR s t) :
    Lp n (k + 1) h0 t0 sR tR (if ¬ s 8 (aK t0 k) = 2147483647 ∧ ¬ s 9 (bK t0 k) ≤ s 8 (aK t0 k) + t0 26 k then up2 s 9 (bK t0 k) (s 8 (aK t0 k) + t0 26 k) else s) (if ¬ t 27 (aK t0 k) = 1000000 ∧ okA h0 t0 (aK t0 k) ∧ t 27 (aK t0 k) + t0 26 k < t 29 (bK t0 k) then up2 (up2 t 29 (bK t0 k) (t 27 (aK t0 k) + t0 26 k)) 30 (bK t0 k) (nI (n + 1)) else t) := by
  have ab := aK_lt D
  have W := D.b7
  obtain ⟨a, ea⟩ : ∃ a, a = aK t0 k := ⟨_, rfl⟩
  obtain ⟨b, eb⟩ : ∃ b, b = bK t0 k := ⟨_, rfl⟩
  obtain ⟨w, ew⟩ : ∃ w, w = t0 26 k := ⟨_, rfl⟩
  rw [← ea, ← eb, ← ew]
  rw [← ea, ← eb] at ab
  rw [← ew] at W
  have e8 : s 8 a = sR 8 a := by rw [I.fs 8 (by omega)]
  have e27 : t 27 a = tR 27 a := by rw [I.ft 27 (by omega) (by omega)]
  rw [e8, e27]
  have mx : (2147483647 : Int32).toInt = 2147483647 := by decide
  have mf : (1000000 : Int32).toInt = 1000000 := by decide
  have hv : (sR 8 a = 2147483647 ∧ cv (sR 8 a) = 1000000) ∨ (¬ sR 8 a = 2147483647 ∧ cv (sR 8 a) = (sR 8 a).toInt ∧ 0 ≤ (sR 8 a).toInt ∧ (sR 8 a).toInt ≤ 1000 * n) := by
    rcases P.cb a ab.1 with e | e
    · exact Or.inl ⟨e, by rw [e]; exact cv_far⟩
    · have := cv_s e (by omega)
      exact Or.inr ⟨this.2, this.1, e⟩
  have h9 : (s 9 b = 2147483647 ∧ cv (s 9 b) = 1000000) ∨ (¬ s 9 b = 2147483647 ∧ cv (s 9 b) = (s 9 b).toInt ∧ 0 ≤ (s 9 b).toInt ∧ (s 9 b).toInt ≤ 1000 * n + 1000) := by
    rcases I.nb b ab.2 with e | e
    · exact Or.inl ⟨e, by rw [e]; exact cv_far⟩
    · have := cv_s e (by omega)
      exact Or.inr ⟨this.2, this.1, e⟩
  have hb := P.bb a ab.1
  have hp := P.pb a ab.1
  have nxb := I.nx b ab.2
  have hcl : okA h0 t0 a → Bp a ≠ 1000000 → (tR 27 b).toInt ≤ Bp a + w.toInt := by
    intro o z
    have := P.cl k hk (by rw [← ea]; exact o) (by rw [← ea]; exact z)
    rw [← ea, ← eb, ← ew] at this
    exact this
  have hC : ¬ tR 27 a = 1000000 ↔ (tR 27 a).toInt ≠ 1000000 := by
    rw [← mf, Ne, Int32.toInt_inj]
  -- the class's new value and the reference's, at b
  have key : ∀ Q PP : Prop, (Q ↔ ¬ sR 8 a = 2147483647 ∧ ¬ s 9 b ≤ sR 8 a + w) → (PP ↔ ¬ tR 27 a = 1000000 ∧ okA h0 t0 a ∧ tR 27 a + w < t 29 b) →
      (Q → (sR 8 a + w).toInt = (sR 8 a).toInt + w.toInt ∧ cv (sR 8 a + w) = (sR 8 a).toInt + w.toInt ∧ 0 ≤ (sR 8 a).toInt + w.toInt ∧ (sR 8 a).toInt + w.toInt ≤ 1000 * n + 1000) ∧
      (PP → (tR 27 a + w).toInt = (tR 27 a).toInt + w.toInt ∧ (tR 27 a).toInt + w.toInt < (t 29 b).toInt) ∧
      (Q → PP → (tR 27 a).toInt + w.toInt = min (tR 27 b).toInt ((sR 8 a).toInt + w.toInt)) ∧
      (Q → ¬ PP → (t 29 b).toInt = min (tR 27 b).toInt ((sR 8 a).toInt + w.toInt)) ∧
      (¬ Q → ¬ PP) ∧ (¬ PP → okA h0 t0 a → (tR 27 a).toInt ≠ 1000000 → (t 29 b).toInt ≤ (tR 27 a).toInt + w.toInt) := by
    intro Q PP hQ hP
    have addC : (tR 27 a + w).toInt = (tR 27 a).toInt + w.toInt := i_add (by omega) W.1 (by omega)
    have addV : ¬ sR 8 a = 2147483647 → (sR 8 a + w).toInt = (sR 8 a).toInt + w.toInt := by
      intro z
      rcases hv with e | e
      · exact absurd e.1 z
      · exact i_add e.2.2.1 W.1 (by omega)
    have okv : ¬ sR 8 a = 2147483647 → okA h0 t0 a := by
      intro z
      apply Classical.byContradiction
      intro o
      exact z (P.no a ab.1 o)
    have hok := P.ok a ab.1
    have c1 : Q → (sR 8 a + w).toInt = (sR 8 a).toInt + w.toInt ∧ cv (sR 8 a + w) = (sR 8 a).toInt + w.toInt ∧ 0 ≤ (sR 8 a).toInt + w.toInt ∧ (sR 8 a).toInt + w.toInt ≤ 1000 * n + 1000 := by
      intro q
      have q' := hQ.mp q
      have A := addV q'.1
      rcases hv with e | e
      · exact absurd e.1 q'.1
      · have := cv_s (x := sR 8 a + w) (b := 1000 * n + 1000) (by omega) (by omega)
        refine ⟨A, by rw [this.1, A], by omega, by omega⟩
    have c2 : PP → (tR 27 a + w).toInt = (tR 27 a).toInt + w.toInt ∧ (tR 27 a).toInt + w.toInt < (t 29 b).toInt := by
      intro p
      have p' := (hP.mp p).2.2
      rw [i_lt, addC] at p'
      exact ⟨addC, p'⟩
    refine ⟨c1, c2, ?_, ?_, ?_, ?_⟩
    · intro q p
      have q' := hQ.mp q
      have p' := hP.mp p
      have q2 := q'.2
      rw [i_le, (c1 q).1] at q2
      have p2 := (c2 p).2
      have o := hok p'.2.1
      have cl := hcl p'.2.1
      have pc := hC.mp p'.1
      rcases hv with e | e
      · exact absurd e.1 q'.1
      · rcases h9 with r | r
        · rw [r.1] at q2
          omega
        · omega
    · intro q p
      have q' := hQ.mp q
      have q2 := q'.2
      rw [i_le, (c1 q).1] at q2
      have oo := okv q'.1
      have o := hok oo
      have cl := hcl oo
      rcases hv with e | e
      · exact absurd e.1 q'.1
      · have pc : ¬ tR 27 a = 1000000 := hC.mpr (by omega)
        have p2 : ¬ tR 27 a + w < t 29 b := fun z => p (hP.mpr ⟨pc, oo, z⟩)
        rw [i_lt, addC] at p2
        rcases h9 with r | r
        · rw [r.1] at q2
          omega
        · omega
    · intro q p
      have p' := hP.mp p
      have p2 := (c2 p).2
      have o := hok p'.2.1
      have cl := hcl p'.2.1
      have pc := hC.mp p'.1
      rcases hv with e | e
      · omega
      · have q2 : s 9 b ≤ sR 8 a + w := Classical.byContradiction fun z => q (hQ.mpr ⟨e.1, z⟩)
        rw [i_le, addV e.1] at q2
        rcases h9 with r | r
        · rw [r.1] at q2
          omega
        · omega
    · intro p oo z
      have p2 : ¬ tR 27 a + w < t 29 b := fun y => p (hP.mpr ⟨hC.mpr z, oo, y⟩)
      rw [i_lt, addC] at p2
      omega
  obtain ⟨k1, k2, k3, k4, k5, k6⟩ := key _ _ Iff.rfl Iff.rfl
  by_cases q : ¬ sR 8 a = 2147483647 ∧ ¬ s 9 b ≤ sR 8 a + w
  · rw [if_pos q]
    by_cases p : ¬ tR 27 a = 1000000 ∧ okA h0 t0 a ∧ tR 27 a + w < t 29 b
    · rw [if_pos p]
      have z1 := k1 q
      have z2 := k2 p
      have z3 := k3 q p
      refine ⟨?_, ?_, ?_, ?_, ?_, ?_⟩
      · intro r hr; rw [up2_ne hr]; exact I.fs r hr
      · intro f f1 f2; rw [up2_ne f2, up2_ne f1]; exact I.ft f f1 f2
      · intro x hx
        by_cases e : x = b
        · subst e; rw [up2_sf, z1.1]; exact Or.inr z1.2.2
        · rw [up2_n2 e]; exact I.nb x hx
      · intro x hx
        rw [up2_n1 (by omega)]
        by_cases e : x = b
        · subst e; rw [up2_sf, up2_sf, z1.2.1, z2.1]; exact z3
        · rw [up2_n2 e, up2_n2 e]; exact I.nx x hx
      · intro x hx
        by_cases e : x = b
        · subst e; rw [up2_sf, up2_n1 (by omega), up2_sf, z2.1]; exact Or.inl ⟨by omega, rfl⟩
        · rw [up2_n2 e, up2_n2 e, up2_n2 e]; exact I.nm x hx
      · intro k' hk' o z
        rw [up2_n1 (by omega), up2_at]
        by_cases e : k' = k
        · subst e
          rw [← ea, ← eb, ← ew, if_pos ⟨rfl, rfl⟩, z2.1]
          omega
        · have := I.cl k' (by omega) o z
          split
          · rename_i y
            rw [y.2] at this
            rw [z2.1]; omega
          · exact this
    · rw [if_neg p]
      have z1 := k1 q
      have z4 := k4 q p
      refine ⟨?_, I.ft, ?_, ?_, I.nm, ?_⟩
      · intro r hr; rw [up2_ne hr]; exact I.fs r hr
      · intro x hx
        by_cases e : x = b
        · subst e; rw [up2_sf, z1.1]; exact Or.inr z1.2.2
        · rw [up2_n2 e]; exact I.nb x hx
      · intro x hx
        by_cases e : x = b
        · subst e; rw [up2_sf, z1.2.1]; exact z4
        · rw [up2_n2 e]; exact I.nx x hx
      · intro k' hk' o z
        by_cases e : k' = k
        · subst e
          rw [← ea] at o z ⊢
          rw [← eb, ← ew]
          exact k6 p o z
        · exact I.cl k' (by omega) o z
  · rw [if_neg q, if_neg (k5 q)]
    refine ⟨I.fs, I.ft, I.nb, I.nx, I.nm, ?_⟩
    intro k' hk' o z
    by_cases e : k' = k
    · subst e
      rw [← ea] at o z ⊢
      rw [← eb, ← ew]
      exact k6 (k5 q) o z
    · exact I.cl k' (by omega) o z
theorem lp_loop {n h0 g cnt nr : Nat} {wh : Int} {s0 t0 sR tR : S2} {Bp : Nat → Int} (hn : n ≤ 3) (B : DpB h0 nr cnt s0 t0) (P : Dp n h0 g cnt wh s0 t0 sR tR Bp) : ∀ m k (s t : S2), k ≤ cnt → cnt - k < m → Lp n k h0 t0 sR tR s t → Lp n cnt h0 t0 sR tR (g_D_takeOneMore m s (nI k)) (h_T_findWays_85 (nI h0) (nI (n + 1)) m t (nI k)) := by
  intro m
  induction m with
  | zero => intro k s t _ w; omega
  | succ m ih =>
    intro k s t hk w I
    have hc := B.hct
    have e4 : s 4 3 = nI cnt := by rw [I.fs 4 (by omega), P.fd 3 (by omega) (by omega), B.dc, B.ec]
    have t4 : t 0 4 = nI cnt := by rw [I.ft 0 (by omega) (by omega), P.ft 0 (by omega), B.ec]
    by_cases e : k = cnt
    · subst e
      have L : g_D_takeOneMore (m + 1) s (nI k) = s := by
        show (if s 4 3 ≤ nI k then s else _) = s
        rw [if_pos (by rw [e4]; exact (nI_leI (by omega) (by omega)).mpr (Nat.le_refl _))]
      have L2 : h_T_findWays_85 (nI h0) (nI (n + 1)) (m + 1) t (nI k) = t := by
        show (if t 0 4 ≤ nI k then t else _) = t
        rw [if_pos (by rw [t4]; exact (nI_leI (by omega) (by omega)).mpr (Nat.le_refl _))]
      rw [L, L2]; exact I
    · have D := B.dl k (by omega)
      rw [take_step (s0 := s0) (t0 := t0) (cnt := cnt) (by omega) hc e4 D (by rw [I.fs 5 (by omega), P.fs 5 (by omega) (by omega) (by omega)]) (by rw [I.fs 6 (by omega), P.fs 6 (by omega) (by omega) (by omega)]) (by rw [I.fs 7 (by omega), P.fs 7 (by omega) (by omega) (by omega)])]
      rw [h85_step (t0 := t0) (cnt := cnt) (by omega) hc B.hh t4 D.b5 (fun f hf => by rw [I.ft f (by omega) (by omega), P.ft f hf])]
      exact ih (k + 1) _ _ (by omega) (by omega) (lp_step hn (by omega) hc D P I)

/-! THE TWO STATES SIDE BY SIDE -/
theorem up2_sf (s : S2) (k j : Nat) (v : Int32) : up2 s k j v k j = v := by rw [up2_at, if_pos ⟨rfl, rfl⟩]
theorem up2_n1 {s : S2} {k j : Nat} {v : Int32} {k' j' : Nat} (h : k' ≠ k) : up2 s k j v k' j' = s k' j' := by rw [up2_at, if_neg (fun q => h q.1)]
theorem up2_n2 {s : S2} {k j : Nat} {v : Int32} {k' j' : Nat} (h : j' ≠ j) : up2 s k j v k' j' = s k' j' := by rw [up2_at, if_neg (fun q => h q.2)]
theorem i_ex {x : Int32} {n : Nat} (h : 0 ≤ x.toInt) (hn : x.toInt ≤ n) (hb : n < 2 ^ 31) : ∃ k, k ≤ n ∧ x = nI k := by
  refine ⟨x.toNatClampNeg, ?_, Int32.toInt_inj.mp ?_⟩
  · have := tnc h
    omega
  · have := tnc h
    rw [nI_toInt (by omega)]
    exact this.symm
theorem rOk_nI {nr : Nat} {a : Int32} (h : rOk nr a) : ∃ i, i < nr ∧ i < 2 ^ 31 ∧ a = nI i := by
  obtain ⟨h0, h1⟩ := h
  rw [i_le] at h0
  have e0 : (0 : Int32).toInt = 0 := by decide
  rw [e0] at h0
  have := tnc h0
  have := a.toInt_lt
  exact ⟨a.toNatClampNeg, h1, by omega, Int32.toInt_inj.mp (by rw [nI_toInt (by omega)]; omega)⟩
theorem nI_rOk {nr i : Nat} (h : i < nr) (hr : nr < 2 ^ 31) : rOk nr (nI i) := by
  refine ⟨?_, ?_⟩
  · rw [i_le, nI_toInt (by omega)]
    show (0 : Int) ≤ _
    omega
  · rw [nI_clamp (by omega)]; exact h
theorem isRel_rOk {t : S2} {nr : Nat} {a : Int32} (h : t 0 2 = nI nr) (hr : nr ≤ 16) : f_T_isRelease t a = 0 ↔ ¬ rOk nr a := by
  have h1 := @isRel_ne t a
  rw [h, nI_toInt (by omega)] at h1
  constructor
  · intro q w
    obtain ⟨i, hi, hj, rfl⟩ := rOk_nI w
    rw [nI_toInt hj] at h1
    exact (h1.mpr ⟨by omega, by omega⟩) q
  · intro q
    apply Classical.byContradiction
    intro w
    obtain ⟨w1, w2⟩ := h1.mp w
    refine q ⟨?_, ?_⟩
    · rw [i_le]; exact w1
    · have := tnc w1
      omega
theorem isMac_rOk {t : S2} {nm : Nat} {a : Int32} (h : t 0 3 = nI nm) (hr : nm ≤ 30) : f_T_isMachine t a = 0 ↔ ¬ rOk nm a := by
  have h1 := @isMac_ne t a
  rw [h, nI_toInt (by omega)] at h1
  constructor
  · intro q w
    obtain ⟨i, hi, hj, rfl⟩ := rOk_nI w
    rw [nI_toInt hj] at h1
    exact (h1.mpr ⟨by omega, by omega⟩) q
  · intro q
    apply Classical.byContradiction
    intro w
    obtain ⟨w1, w2⟩ := h1.mp w
    refine q ⟨?_, ?_⟩
    · rw [i_le]; exact w1
    · have := tnc w1
      omega
theorem n5 (i k : Nat) : 5 * nI i + nI k = nI (5 * i + k) := by
  have : (5 : Int32) = nI 5 := by decide
  rw [this]
  unfold nI
  rw [← Int32.ofNat_mul, ← Int32.ofNat_add]
def RelSim (s t : S2) (i : Nat) : Prop :=
  (s (10 + 3 * i) 0 = t 5 i) ∧
  (0 ≤ (t 5 i).toInt ∧ (t 5 i).toInt ≤ 2) ∧
  (s (10 + 3 * i) 1 = t 18 i) ∧
  (s (10 + 3 * i) 2 = t 6 i) ∧
  (1 ≤ (t 6 i).toInt ∧ (t 6 i).toInt ≤ 100000) ∧
  (s (10 + 3 * i) 5 = t 7 i) ∧
  (0 ≤ (t 7 i).toInt ∧ (t 7 i).toInt ≤ 5) ∧
  (s (10 + 3 * i) 6 = t 10 i) ∧
  (s (10 + 3 * i) 7 = t 11 i) ∧
  (s (10 + 3 * i) 8 = t 12 i) ∧
  (t 12 i = 0 ∨ t 12 i = 1 ∨ t 12 i = 2 ∨ t 12 i = 3 ∨ t 12 i = 4) ∧
  (s (10 + 3 * i) 9 = t 14 i) ∧
  (t 12 i ≠ 2 → t 14 i = 0) ∧
  (s (10 + 3 * i) 10 = t 13 i) ∧
  (0 ≤ (t 13 i).toInt ∧ (t 13 i).toInt ≤ 4) ∧
  (s (10 + 3 * i) 11 = t 15 i) ∧
  (0 ≤ (t 15 i).toInt ∧ (t 15 i).toInt ≤ (t 0 1).toInt) ∧
  (s (10 + 3 * i) 12 + s (10 + 3 * i) 13 = t 16 i) ∧
  (s (10 + 3 * i) 13 = t 17 i) ∧
  (∀ k, k < 5 → s (10 + 3 * i + 1) k = t 8 (5 * i + k)) ∧
  (∀ k, k < 5 → 0 ≤ (t 8 (5 * i + k)).toInt) ∧
  (∀ k, k < 5 → s (10 + 3 * i + 2) k = t 9 (5 * i + k)) ∧
  (∀ k, k < 5 → 0 ≤ (t 9 (5 * i + k)).toInt ∧ (t 9 (5 * i + k)).toInt ≤ 1000)
theorem RelSim.r0 {s t : S2} {i : Nat} (h : RelSim s t i) : s (10 + 3 * i) 0 = t 5 i := h.1
theorem RelSim.r0b {s t : S2} {i : Nat} (h : RelSim s t i) : 0 ≤ (t 5 i).toInt ∧ (t 5 i).toInt ≤ 2 := h.2.1
theorem RelSim.r1 {s t : S2} {i : Nat} (h : RelSim s t i) : s (10 + 3 * i) 1 = t 18 i := h.2.2.1
theorem RelSim.r2 {s t : S2} {i : Nat} (h : RelSim s t i) : s (10 + 3 * i) 2 = t 6 i := h.2.2.2.1
theorem RelSim.r2b {s t : S2} {i : Nat} (h : RelSim s t i) : 1 ≤ (t 6 i).toInt ∧ (t 6 i).toInt ≤ 100000 := h.2.2.2.2.1
theorem RelSim.r5 {s t : S2} {i : Nat} (h : RelSim s t i) : s (10 + 3 * i) 5 = t 7 i := h.2.2.2.2.2.1
theorem RelSim.r5b {s t : S2} {i : Nat} (h : RelSim s t i) : 0 ≤ (t 7 i).toInt ∧ (t 7 i).toInt ≤ 5 := h.2.2.2.2.2.2.1
theorem RelSim.r6 {s t : S2} {i : Nat} (h : RelSim s t i) : s (10 + 3 * i) 6 = t 10 i := h.2.2.2.2.2.2.2.1
theorem RelSim.r7 {s t : S2} {i : Nat} (h : RelSim s t i) : s (10 + 3 * i) 7 = t 11 i := h.2.2.2.2.2.2.2.2.1
theorem RelSim.r8 {s t : S2} {i : Nat} (h : RelSim s t i) : s (10 + 3 * i) 8 = t 12 i := h.2.2.2.2.2.2.2.2.2.1
theorem RelSim.r8b {s t : S2} {i : Nat} (h : RelSim s t i) : t 12 i = 0 ∨ t 12 i = 1 ∨ t 12 i = 2 ∨ t 12 i = 3 ∨ t 12 i = 4 := h.2.2.2.2.2.2.2.2.2.2.1
theorem RelSim.r9 {s t : S2} {i : Nat} (h : RelSim s t i) : s (10 + 3 * i) 9 = t 14 i := h.2.2.2.2.2.2.2.2.2.2.2.1
theorem RelSim.r9b {s t : S2} {i : Nat} (h : RelSim s t i) : t 12 i ≠ 2 → t 14 i = 0 := h.2.2.2.2.2.2.2.2.2.2.2.2.1
theorem RelSim.r10 {s t : S2} {i : Nat} (h : RelSim s t i) : s (10 + 3 * i) 10 = t 13 i := h.2.2.2.2.2.2.2.2.2.2.2.2.2.1
theorem RelSim.r10b {s t : S2} {i : Nat} (h : RelSim s t i) : 0 ≤ (t 13 i).toInt ∧ (t 13 i).toInt ≤ 4 := h.2.2.2.2.2.2.2.2.2.2.2.2.2.2.1
theorem RelSim.r11 {s t : S2} {i : Nat} (h : RelSim s t i) : s (10 + 3 * i) 11 = t 15 i := h.2.2.2.2.2.2.2.2.2.2.2.2.2.2.2.1
theorem RelSim.r11b {s t : S2} {i : Nat} (h : RelSim s t i) : 0 ≤ (t 15 i).toInt ∧ (t 15 i).toInt ≤ (t 0 1).toInt := h.2.2.2.2.2.2.2.2.2.2.2.2.2.2.2.2.1
theorem RelSim.r12 {s t : S2} {i : Nat} (h : RelSim s t i) : s (10 + 3 * i) 12 + s (10 + 3 * i) 13 = t 16 i := h.2.2.2.2.2.2.2.2.2.2.2.2.2.2.2.2.2.1
theorem RelSim.r13 {s t : S2} {i : Nat} (h : RelSim s t i) : s (10 + 3 * i) 13 = t 17 i := h.2.2.2.2.2.2.2.2.2.2.2.2.2.2.2.2.2.2.1
theorem RelSim.sh {s t : S2} {i : Nat} (h : RelSim s t i) : ∀ k, k < 5 → s (10 + 3 * i + 1) k = t 8 (5 * i + k) := h.2.2.2.2.2.2.2.2.2.2.2.2.2.2.2.2.2.2.2.1
theorem RelSim.shb {s t : S2} {i : Nat} (h : RelSim s t i) : ∀ k, k < 5 → 0 ≤ (t 8 (5 * i + k)).toInt := h.2.2.2.2.2.2.2.2.2.2.2.2.2.2.2.2.2.2.2.2.1
theorem RelSim.wa {s t : S2} {i : Nat} (h : RelSim s t i) : ∀ k, k < 5 → s (10 + 3 * i + 2) k = t 9 (5 * i + k) := h.2.2.2.2.2.2.2.2.2.2.2.2.2.2.2.2.2.2.2.2.2.1
theorem RelSim.wab {s t : S2} {i : Nat} (h : RelSim s t i) : ∀ k, k < 5 → 0 ≤ (t 9 (5 * i + k)).toInt ∧ (t 9 (5 * i + k)).toInt ≤ 1000 := h.2.2.2.2.2.2.2.2.2.2.2.2.2.2.2.2.2.2.2.2.2.2
def RelNew (t : S2) (i : Nat) : Prop :=
  (t 5 i = 0) ∧
  (t 7 i = 0) ∧
  (t 12 i = 0) ∧
  (t 13 i = 0) ∧
  (t 14 i = 0) ∧
  (t 15 i = 0) ∧
  (t 16 i = 0) ∧
  (t 17 i = 0) ∧
  (∀ k, k < 5 → t 8 (5 * i + k) = 0) ∧
  (∀ k, k < 5 → t 9 (5 * i + k) = 0)
theorem RelNew.n5 {t : S2} {i : Nat} (h : RelNew t i) : t 5 i = 0 := h.1
theorem RelNew.n7 {t : S2} {i : Nat} (h : RelNew t i) : t 7 i = 0 := h.2.1
theorem RelNew.n12 {t : S2} {i : Nat} (h : RelNew t i) : t 12 i = 0 := h.2.2.1
theorem RelNew.n13 {t : S2} {i : Nat} (h : RelNew t i) : t 13 i = 0 := h.2.2.2.1
theorem RelNew.n14 {t : S2} {i : Nat} (h : RelNew t i) : t 14 i = 0 := h.2.2.2.2.1
theorem RelNew.n15 {t : S2} {i : Nat} (h : RelNew t i) : t 15 i = 0 := h.2.2.2.2.2.1
theorem RelNew.n16 {t : S2} {i : Nat} (h : RelNew t i) : t 16 i = 0 := h.2.2.2.2.2.2.1
theorem RelNew.n17 {t : S2} {i : Nat} (h : RelNew t i) : t 17 i = 0 := h.2.2.2.2.2.2.2.1
theorem RelNew.sh {t : S2} {i : Nat} (h : RelNew t i) : ∀ k, k < 5 → t 8 (5 * i + k) = 0 := h.2.2.2.2.2.2.2.2.1
theorem RelNew.wa {t : S2} {i : Nat} (h : RelNew t i) : ∀ k, k < 5 → t 9 (5 * i + k) = 0 := h.2.2.2.2.2.2.2.2.2
def MacSim (nr : Nat) (s t : S2) (j : Nat) : Prop :=
  (s (58 + j) 0 = t 20 j) ∧
  (s (58 + j) 1 = t 21 j) ∧
  (0 ≤ (t 21 j).toInt) ∧
  (s (58 + j) 2 = f_T_rowOf (nI j)) ∧
  (s (58 + j) 3 = t 22 j) ∧
  (t 22 j = -1 ∨ rOk nr (t 22 j)) ∧
  (s (58 + j) 4 = t 23 j) ∧
  (t 23 j = -1 ∨ rOk nr (t 23 j))
theorem MacSim.m0 {nr : Nat} {s t : S2} {j : Nat} (h : MacSim nr s t j) : s (58 + j) 0 = t 20 j := h.1
theorem MacSim.m1 {nr : Nat} {s t : S2} {j : Nat} (h : MacSim nr s t j) : s (58 + j) 1 = t 21 j := h.2.1
theorem MacSim.m1b {nr : Nat} {s t : S2} {j : Nat} (h : MacSim nr s t j) : 0 ≤ (t 21 j).toInt := h.2.2.1
theorem MacSim.m2 {nr : Nat} {s t : S2} {j : Nat} (h : MacSim nr s t j) : s (58 + j) 2 = f_T_rowOf (nI j) := h.2.2.2.1
theorem MacSim.m3 {nr : Nat} {s t : S2} {j : Nat} (h : MacSim nr s t j) : s (58 + j) 3 = t 22 j := h.2.2.2.2.1
theorem MacSim.m3b {nr : Nat} {s t : S2} {j : Nat} (h : MacSim nr s t j) : t 22 j = -1 ∨ rOk nr (t 22 j) := h.2.2.2.2.2.1
theorem MacSim.m4 {nr : Nat} {s t : S2} {j : Nat} (h : MacSim nr s t j) : s (58 + j) 4 = t 23 j := h.2.2.2.2.2.2.1
theorem MacSim.m4b {nr : Nat} {s t : S2} {j : Nat} (h : MacSim nr s t j) : t 23 j = -1 ∨ rOk nr (t 23 j) := h.2.2.2.2.2.2.2
def MacW (t : S2) (j : Nat) : Prop :=
  (0 ≤ (t 20 j).toInt ∧ (t 20 j).toInt ≤ 2) ∧
  (-1 ≤ (t 22 j).toInt ∧ (t 22 j).toInt ≤ 15) ∧
  (-1 ≤ (t 23 j).toInt ∧ (t 23 j).toInt ≤ 15)
theorem MacW.w0 {t : S2} {j : Nat} (h : MacW t j) : 0 ≤ (t 20 j).toInt ∧ (t 20 j).toInt ≤ 2 := h.1
theorem MacW.w3 {t : S2} {j : Nat} (h : MacW t j) : -1 ≤ (t 22 j).toInt ∧ (t 22 j).toInt ≤ 15 := h.2.1
theorem MacW.w4 {t : S2} {j : Nat} (h : MacW t j) : -1 ≤ (t 23 j).toInt ∧ (t 23 j).toInt ≤ 15 := h.2.2
def DelSim (s t : S2) (k : Nat) : Prop :=
  (s 5 k = t 24 k) ∧
  (s 6 k = t 25 k) ∧
  (s 7 k = t 26 k) ∧
  (0 ≤ (t 24 k).toInt ∧ (t 24 k).toInt ≤ 15) ∧
  (0 ≤ (t 25 k).toInt ∧ (t 25 k).toInt ≤ 15) ∧
  (0 ≤ (t 26 k).toInt ∧ (t 26 k).toInt ≤ 1000)
theorem DelSim.d5 {s t : S2} {k : Nat} (h : DelSim s t k) : s 5 k = t 24 k := h.1
theorem DelSim.d6 {s t : S2} {k : Nat} (h : DelSim s t k) : s 6 k = t 25 k := h.2.1
theorem DelSim.d7 {s t : S2} {k : Nat} (h : DelSim s t k) : s 7 k = t 26 k := h.2.2.1
theorem DelSim.b5 {s t : S2} {k : Nat} (h : DelSim s t k) : 0 ≤ (t 24 k).toInt ∧ (t 24 k).toInt ≤ 15 := h.2.2.2.1
theorem DelSim.b6 {s t : S2} {k : Nat} (h : DelSim s t k) : 0 ≤ (t 25 k).toInt ∧ (t 25 k).toInt ≤ 15 := h.2.2.2.2.1
theorem DelSim.b7 {s t : S2} {k : Nat} (h : DelSim s t k) : 0 ≤ (t 26 k).toInt ∧ (t 26 k).toInt ≤ 1000 := h.2.2.2.2.2
def Sim (c nr nm : Nat) (s t : S2) : Prop :=
  (nr ≤ 16) ∧
  (nm ≤ 30) ∧
  (s 0 4 = nI nr) ∧
  (s 0 5 = nI nm) ∧
  (t 0 2 = nI nr) ∧
  (t 0 3 = nI nm) ∧
  (s 0 6 = t 0 1) ∧
  (0 ≤ (t 0 1).toInt ∧ (t 0 1).toInt ≤ 2000 * c) ∧
  (∀ i, i < nr → RelSim s t i) ∧
  (∀ i, nr ≤ i → i < 16 → RelNew t i) ∧
  (∀ j, j < nm → MacSim nr s t j) ∧
  (∀ j, j < 30 → MacW t j) ∧
  (∀ k, k < 3 → s 3 k = t 19 k) ∧
  (s 4 3 = t 0 4) ∧
  (0 ≤ (t 0 4).toInt ∧ (t 0 4).toInt ≤ 40) ∧
  (∀ k, k < 40 → DelSim s t k)
theorem Sim.hnr {c nr nm : Nat} {s t : S2} (h : Sim c nr nm s t) : nr ≤ 16 := h.1
theorem Sim.hnm {c nr nm : Nat} {s t : S2} (h : Sim c nr nm s t) : nm ≤ 30 := h.2.1
theorem Sim.c4 {c nr nm : Nat} {s t : S2} (h : Sim c nr nm s t) : s 0 4 = nI nr := h.2.2.1
theorem Sim.c5 {c nr nm : Nat} {s t : S2} (h : Sim c nr nm s t) : s 0 5 = nI nm := h.2.2.2.1
theorem Sim.t2 {c nr nm : Nat} {s t : S2} (h : Sim c nr nm s t) : t 0 2 = nI nr := h.2.2.2.2.1
theorem Sim.t3 {c nr nm : Nat} {s t : S2} (h : Sim c nr nm s t) : t 0 3 = nI nm := h.2.2.2.2.2.1
theorem Sim.ck {c nr nm : Nat} {s t : S2} (h : Sim c nr nm s t) : s 0 6 = t 0 1 := h.2.2.2.2.2.2.1
theorem Sim.ckb {c nr nm : Nat} {s t : S2} (h : Sim c nr nm s t) : 0 ≤ (t 0 1).toInt ∧ (t 0 1).toInt ≤ 2000 * c := h.2.2.2.2.2.2.2.1
theorem Sim.rel {c nr nm : Nat} {s t : S2} (h : Sim c nr nm s t) : ∀ i, i < nr → RelSim s t i := h.2.2.2.2.2.2.2.2.1
theorem Sim.nw {c nr nm : Nat} {s t : S2} (h : Sim c nr nm s t) : ∀ i, nr ≤ i → i < 16 → RelNew t i := h.2.2.2.2.2.2.2.2.2.1
theorem Sim.mac {c nr nm : Nat} {s t : S2} (h : Sim c nr nm s t) : ∀ j, j < nm → MacSim nr s t j := h.2.2.2.2.2.2.2.2.2.2.1
theorem Sim.mw {c nr nm : Nat} {s t : S2} (h : Sim c nr nm s t) : ∀ j, j < 30 → MacW t j := h.2.2.2.2.2.2.2.2.2.2.2.1
theorem Sim.bd {c nr nm : Nat} {s t : S2} (h : Sim c nr nm s t) : ∀ k, k < 3 → s 3 k = t 19 k := h.2.2.2.2.2.2.2.2.2.2.2.2.1
theorem Sim.dc {c nr nm : Nat} {s t : S2} (h : Sim c nr nm s t) : s 4 3 = t 0 4 := h.2.2.2.2.2.2.2.2.2.2.2.2.2.1
theorem Sim.dcb {c nr nm : Nat} {s t : S2} (h : Sim c nr nm s t) : 0 ≤ (t 0 4).toInt ∧ (t 0 4).toInt ≤ 40 := h.2.2.2.2.2.2.2.2.2.2.2.2.2.2.1
theorem Sim.dl {c nr nm : Nat} {s t : S2} (h : Sim c nr nm s t) : ∀ k, k < 40 → DelSim s t k := h.2.2.2.2.2.2.2.2.2.2.2.2.2.2.2
theorem Sim.wt {c nr nm : Nat} {s t : S2} (h : Sim c nr nm s t) : Wt t := by
  have := h.hnr
  have := h.hnm
  refine ⟨?_, ?_, h.dcb, fun i hi => ?_, fun j hj => ⟨(h.mw j hj).w0, (h.mw j hj).w3, (h.mw j hj).w4⟩, fun k hk => ⟨(h.dl k hk).b5, (h.dl k hk).b6⟩⟩
  · rw [h.t2, nI_toInt (by omega)]; omega
  · rw [h.t3, nI_toInt (by omega)]; omega
  · by_cases q : i < nr
    · exact ⟨(h.rel i q).r0b, (h.rel i q).r5b, (h.rel i q).r10b⟩
    · have w := h.nw i (by omega) hi
      rw [w.n5, w.n7, w.n13]
      decide
theorem Sim.mono {c c' nr nm : Nat} {s t : S2} (h : Sim c nr nm s t) (hc : c ≤ c') : Sim c' nr nm s t :=
  ⟨h.hnr, h.hnm, h.c4, h.c5, h.t2, h.t3, h.ck, ⟨h.ckb.1, by have := h.ckb.2; omega⟩, h.rel, h.nw, h.mac, h.mw, h.bd, h.dc, h.dcb, h.dl⟩
/-- what a release's part of the class's state is made of -/
theorem RelSim.cS {s s' t : S2} {i : Nat} (h : RelSim s t i) (e : ∀ k, 10 + 3 * i ≤ k → k ≤ 12 + 3 * i → s' k = s k) : RelSim s' t i := by
  have e0 := e (10 + 3 * i) (by omega) (by omega)
  have e1 := e (10 + 3 * i + 1) (by omega) (by omega)
  have e2 := e (10 + 3 * i + 2) (by omega) (by omega)
  refine ⟨?_, ?_, ?_, ?_, ?_, ?_, ?_, ?_, ?_, ?_, ?_, ?_, ?_, ?_, ?_, ?_, ?_, ?_, ?_, ?_, ?_, ?_, ?_⟩
  all_goals (first | rw [e0] | rw [e1] | rw [e2] | skip)
  · exact h.r0
  · exact h.r0b
  · exact h.r1
  · exact h.r2
  · exact h.r2b
  · exact h.r5
  · exact h.r5b
  · exact h.r6
  · exact h.r7
  · exact h.r8
  · exact h.r8b
  · exact h.r9
  · exact h.r9b
  · exact h.r10
  · exact h.r10b
  · exact h.r11
  · exact h.r11b
  · exact h.r12
  · exact h.r13
  · exact h.sh
  · exact h.shb
  · exact h.wa
  · exact h.wab
/-- .. and of the reference's -/
theorem RelSim.cT {s t t' : S2} {i : Nat} (h : RelSim s t i) (e : ∀ f, 5 ≤ f → f ≤ 18 → f ≠ 8 → f ≠ 9 → t' f i = t f i) (e8 : ∀ k, k < 5 → t' 8 (5 * i + k) = t 8 (5 * i + k)) (e9 : ∀ k, k < 5 → t' 9 (5 * i + k) = t 9 (5 * i + k)) (hc : (t 0 1).toInt ≤ (t' 0 1).toInt) : RelSim s t' i := by
  have a5 := e 5 (by decide) (by decide) (by decide) (by decide)
  have a6 := e 6 (by decide) (by decide) (by decide) (by decide)
  have a7 := e 7 (by decide) (by decide) (by decide) (by decide)
  have a10 := e 10 (by decide) (by decide) (by decide) (by decide)
  have a11 := e 11 (by decide) (by decide) (by decide) (by decide)
  have a12 := e 12 (by decide) (by decide) (by decide) (by decide)
  have a13 := e 13 (by decide) (by decide) (by decide) (by decide)
  have a14 := e 14 (by decide) (by decide) (by decide) (by decide)
  have a15 := e 15 (by decide) (by decide) (by decide) (by decide)
  have a16 := e 16 (by decide) (by decide) (by decide) (by decide)
  have a17 := e 17 (by decide) (by decide) (by decide) (by decide)
  have a18 := e 18 (by decide) (by decide) (by decide) (by decide)
  refine ⟨?_, ?_, ?_, ?_, ?_, ?_, ?_, ?_, ?_, ?_, ?_, ?_, ?_, ?_, ?_, ?_, ?_, ?_, ?_, ?_, ?_, ?_, ?_⟩
  · rw [a5]; exact h.r0
  · rw [a5]; exact h.r0b
  · rw [a18]; exact h.r1
  · rw [a6]; exact h.r2
  · rw [a6]; exact h.r2b
  · rw [a7]; exact h.r5
  · rw [a7]; exact h.r5b
  · rw [a10]; exact h.r6
  · rw [a11]; exact h.r7
  · rw [a12]; exact h.r8
  · rw [a12]; exact h.r8b
  · rw [a14]; exact h.r9
  · rw [a12, a14]; exact h.r9b
  · rw [a13]; exact h.r10
  · rw [a13]; exact h.r10b
  · rw [a15]; exact h.r11
  · rw [a15]; exact ⟨h.r11b.1, by have := h.r11b.2; omega⟩
  · rw [a16]; exact h.r12
  · rw [a17]; exact h.r13
  · intro k hk; rw [e8 k hk]; exact h.sh k hk
  · intro k hk; rw [e8 k hk]; exact h.shb k hk
  · intro k hk; rw [e9 k hk]; exact h.wa k hk
  · intro k hk; rw [e9 k hk]; exact h.wab k hk
/-- a call that touches release i alone -/
theorem Sim.relUp {c nr nm : Nat} {s t s' t' : S2} {i : Nat} (h : Sim c nr nm s t) (hi : i < nr)
    (hs : ∀ k x, s' k x = s k x ∨ (10 + 3 * i ≤ k ∧ k ≤ 12 + 3 * i))
    (ht : ∀ f x, t' f x = t f x ∨ (f = 0 ∧ x = 0) ∨ (7 ≤ f ∧ f ≤ 17 ∧ ((f = 8 ∨ f = 9) → 5 * i ≤ x ∧ x < 5 * i + 5) ∧ (f ≠ 8 → f ≠ 9 → x = i)))
    (hr : RelSim s' t' i) : Sim c nr nm s' t' := by
  have hn := h.hnr
  have S : ∀ k x, (k < 10 + 3 * i ∨ 12 + 3 * i < k) → s' k x = s k x := fun k x q => (hs k x).resolve_right (by omega)
  have T : ∀ f x, (f < 7 ∨ 17 < f) → (f ≠ 0 ∨ x ≠ 0) → t' f x = t f x := fun f x q w => (ht f x).resolve_right (by omega)
  have U : ∀ f x, f ≠ 0 → f ≠ 8 → f ≠ 9 → x ≠ i → t' f x = t f x := fun f x q q8 q9 w => (ht f x).resolve_right (by omega)
  have V : ∀ f x, (f = 8 ∨ f = 9) → (x < 5 * i ∨ 5 * i + 5 ≤ x) → t' f x = t f x := fun f x q w => (ht f x).resolve_right (by omega)
  have T1 := T 0 1 (by decide) (by decide)
  refine ⟨h.hnr, h.hnm, ?_, ?_, ?_, ?_, ?_, ?_, ?_, ?_, ?_, ?_, ?_, ?_, ?_, ?_⟩
  · rw [S 0 4 (by omega)]; exact h.c4
  · rw [S 0 5 (by omega)]; exact h.c5
  · rw [T 0 2 (by omega) (by omega)]; exact h.t2
  · rw [T 0 3 (by omega) (by omega)]; exact h.t3
  · rw [S 0 6 (by omega), T1]; exact h.ck
  · rw [T1]; exact h.ckb
  · intro i' hi'
    by_cases e : i' = i
    · subst e; exact hr
    · refine ((h.rel i' hi').cS (s' := s') ?_).cT ?_ ?_ ?_ ?_
      · intro k k1 k2
        funext x
        exact S k x (by omega)
      · intro f f1 f2 f8 f9
        exact U f i' (by omega) f8 f9 e
      · intro k hk
        exact V 8 _ (by omega) (by omega)
      · intro k hk
        exact V 9 _ (by omega) (by omega)
      · rw [T1]; exact Int.le_refl _
  · intro i' hi' hi2
    have w := h.nw i' hi' hi2
    refine ⟨?_, ?_, ?_, ?_, ?_, ?_, ?_, ?_, ?_, ?_⟩
    · rw [T 5 i' (by omega) (by omega)]; exact w.n5
    · rw [U 7 i' (by omega) (by omega) (by omega) (by omega)]; exact w.n7
    · rw [U 12 i' (by omega) (by omega) (by omega) (by omega)]; exact w.n12
    · rw [U 13 i' (by omega) (by omega) (by omega) (by omega)]; exact w.n13
    · rw [U 14 i' (by omega) (by omega) (by omega) (by omega)]; exact w.n14
    · rw [U 15 i' (by omega) (by omega) (by omega) (by omega)]; exact w.n15
    · rw [U 16 i' (by omega) (by omega) (by omega) (by omega)]; exact w.n16
    · rw [U 17 i' (by omega) (by omega) (by omega) (by omega)]; exact w.n17
    · intro k hk; rw [V 8 _ (by omega) (by omega)]; exact w.sh k hk
    · intro k hk; rw [V 9 _ (by omega) (by omega)]; exact w.wa k hk
  · intro j hj
    have w := h.mac j hj
    have M : ∀ x, s' (58 + j) x = s (58 + j) x := fun x => S _ x (by omega)
    refine ⟨?_, ?_, ?_, ?_, ?_, ?_, ?_, ?_⟩
    · rw [M, T 20 j (by omega) (by omega)]; exact w.m0
    · rw [M, T 21 j (by omega) (by omega)]; exact w.m1
    · rw [T 21 j (by omega) (by omega)]; exact w.m1b
    · rw [M]; exact w.m2
    · rw [M, T 22 j (by omega) (by omega)]; exact w.m3
    · rw [T 22 j (by omega) (by omega)]; exact w.m3b
    · rw [M, T 23 j (by omega) (by omega)]; exact w.m4
    · rw [T 23 j (by omega) (by omega)]; exact w.m4b
  · intro j hj
    have w := h.mw j hj
    refine ⟨?_, ?_, ?_⟩
    · rw [T 20 j (by omega) (by omega)]; exact w.w0
    · rw [T 22 j (by omega) (by omega)]; exact w.w3
    · rw [T 23 j (by omega) (by omega)]; exact w.w4
  · intro k hk
    rw [S 3 k (by omega), T 19 k (by omega) (by omega)]; exact h.bd k hk
  · rw [S 4 3 (by omega), T 0 4 (by omega) (by omega)]; exact h.dc
  · rw [T 0 4 (by omega) (by omega)]; exact h.dcb
  · intro k hk
    have w := h.dl k hk
    refine ⟨?_, ?_, ?_, ?_, ?_, ?_⟩
    · rw [S 5 k (by omega), T 24 k (by omega) (by omega)]; exact w.d5
    · rw [S 6 k (by omega), T 25 k (by omega) (by omega)]; exact w.d6
    · rw [S 7 k (by omega), T 26 k (by omega) (by omega)]; exact w.d7
    · rw [T 24 k (by omega) (by omega)]; exact w.b5
    · rw [T 25 k (by omega) (by omega)]; exact w.b6
    · rw [T 26 k (by omega) (by omega)]; exact w.b7
/-- the reference writes its code -/
theorem Sim.code {c nr nm : Nat} {s t : S2} (h : Sim c nr nm s t) : Sim c nr nm s (up2 t 0 0 0) := by
  have T : ∀ f x, (f ≠ 0 ∨ x ≠ 0) → up2 t 0 0 0 f x = t f x := by
    intro f x q
    rw [up2_at, if_neg (by omega)]
  have T1 := T 0 1 (by omega)
  refine ⟨h.hnr, h.hnm, h.c4, h.c5, ?_, ?_, ?_, ?_, ?_, ?_, ?_, ?_, ?_, ?_, ?_, ?_⟩
  · rw [T 0 2 (by omega)]; exact h.t2
  · rw [T 0 3 (by omega)]; exact h.t3
  · rw [T1]; exact h.ck
  · rw [T1]; exact h.ckb
  · intro i hi
    refine (h.rel i hi).cT ?_ ?_ ?_ (by rw [T1]; exact Int.le_refl _)
    · intro f f1 f2 _ _
      exact T f i (by omega)
    · intro k _; exact T 8 _ (by omega)
    · intro k _; exact T 9 _ (by omega)
  · intro i hi hi2
    have w := h.nw i hi hi2
    refine ⟨?_, ?_, ?_, ?_, ?_, ?_, ?_, ?_, ?_, ?_⟩
    · rw [T 5 i (by omega)]; exact w.n5
    · rw [T 7 i (by omega)]; exact w.n7
    · rw [T 12 i (by omega)]; exact w.n12
    · rw [T 13 i (by omega)]; exact w.n13
    · rw [T 14 i (by omega)]; exact w.n14
    · rw [T 15 i (by omega)]; exact w.n15
    · rw [T 16 i (by omega)]; exact w.n16
    · rw [T 17 i (by omega)]; exact w.n17
    · intro k hk; rw [T 8 _ (by omega)]; exact w.sh k hk
    · intro k hk; rw [T 9 _ (by omega)]; exact w.wa k hk
  · intro j hj
    have w := h.mac j hj
    refine ⟨?_, ?_, ?_, w.m2, ?_, ?_, ?_, ?_⟩
    · rw [T 20 j (by omega)]; exact w.m0
    · rw [T 21 j (by omega)]; exact w.m1
    · rw [T 21 j (by omega)]; exact w.m1b
    · rw [T 22 j (by omega)]; exact w.m3
    · rw [T 22 j (by omega)]; exact w.m3b
    · rw [T 23 j (by omega)]; exact w.m4
    · rw [T 23 j (by omega)]; exact w.m4b
  · intro j hj
    have w := h.mw j hj
    refine ⟨?_, ?_, ?_⟩
    · rw [T 20 j (by omega)]; exact w.w0
    · rw [T 22 j (by omega)]; exact w.w3
    · rw [T 23 j (by omega)]; exact w.w4
  · intro k hk
    rw [T 19 k (by omega)]; exact h.bd k hk
  · rw [T 0 4 (by omega)]; exact h.dc
  · rw [T 0 4 (by omega)]; exact h.dcb
  · intro k hk
    have w := h.dl k hk
    refine ⟨?_, ?_, ?_, ?_, ?_, ?_⟩
    · rw [T 24 k (by omega)]; exact w.d5
    · rw [T 25 k (by omega)]; exact w.d6
    · rw [T 26 k (by omega)]; exact w.d7
    · rw [T 24 k (by omega)]; exact w.b5
    · rw [T 25 k (by omega)]; exact w.b6
    · rw [T 26 k (by omega)]; exact w.b7

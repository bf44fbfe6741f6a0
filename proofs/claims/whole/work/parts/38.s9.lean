theorem dp_loop {h0 g nr nm cnt : Nat} {wh : Int} {s0 t0 : S2} (hg : g < 16) (hgh : g ≠ h0) (hw : 1 ≤ wh ∧ wh ≤ 100000) (B : DpB h0 nr cnt s0 t0) {a1 : Int32} : ∀ m n (s t : S2) (Bp : Nat → Int), n ≤ 4 → 4 - n < m → Dp n h0 g cnt wh s0 t0 s t Bp → ∃ Bq, Dp 4 h0 g cnt wh s0 t0 (g_D_searchCheaper nr nm a1 (nI g) m s (nI (n + 1))) (h_T_findWays_40 (nI h0) m t (nI (n + 1))) Bq := by
  intro m
  induction m with
  | zero => intro n s t Bp _ w; omega
  | succ m ih =>
    intro n s t Bp hn w P
    have L : g_D_searchCheaper nr nm a1 (nI g) (m + 1) s (nI (n + 1)) = (if 4 < nI (n + 1) then s else if ((f_D_takeOneMore s) 4 6) ≤ (f_D_sizeAt (f_D_takeOneMore s) 9 16 (nI g)) then g_D_searchCheaper nr nm a1 (nI g) m (f_D_dropRevoked nr nm (va_up (f_D_takeOneMore s) 8 (va_cpy ((f_D_takeOneMore s) 9) ((f_D_takeOneMore s) 8) 0 0 16))) (nI (n + 1) + 1) else g_D_searchCheaper nr nm a1 (nI g) m (f_D_dropRevoked nr nm (va_up (f_D_setWay (f_D_takeOneMore s) (f_D_sizeAt (f_D_takeOneMore s) 9 16 (nI g)) (nI (n + 1))) 8 (va_cpy ((f_D_setWay (f_D_takeOneMore s) (f_D_sizeAt (f_D_takeOneMore s) 9 16 (nI g)) (nI (n + 1))) 9) ((f_D_setWay (f_D_takeOneMore s) (f_D_sizeAt (f_D_takeOneMore s) 9 16 (nI g)) (nI (n + 1))) 8) 0 0 16))) (nI (n + 1) + 1)) := rfl
    have L2 : h_T_findWays_40 (nI h0) (m + 1) t (nI (n + 1)) = (if 4 < nI (n + 1) then t else h_T_findWays_40 (nI h0) m (h_T_findWays_206 (nI h0) (nI (n + 1)) 17 (h_T_findWays_85 (nI h0) (nI (n + 1)) 41 (h_T_findWays_47 (nI h0) (nI (n + 1)) 17 t 0) 0) 0) (nI (n + 1) + 1)) := rfl
    rw [L, L2]
    by_cases e : n = 4
    · subst e
      rw [if_pos (by decide), if_pos (by decide)]
      exact ⟨Bp, P⟩
    · have q : ¬ (4 : Int32) < nI (n + 1) := fun q => by have := (nI_ltI (a := 4) (b := n + 1) (by decide) (by omega)).mp q; omega
      rw [if_neg q, if_neg q, nI_1]
      have R := dp_round (nm := nm) (by omega) hg hgh hw B P _ rfl
      by_cases z : f_D_takeOneMore s 4 6 ≤ f_D_sizeAt (f_D_takeOneMore s) 9 16 (nI g)
      · rw [if_pos z] at R ⊢
        exact ih (n + 1) _ _ _ (by omega) (by omega) R
      · rw [if_neg z] at R ⊢
        exact ih (n + 1) _ _ _ (by omega) (by omega) R
theorem search_T {h0 g nr nm cnt : Nat} {wh : Int32} {s0 t0 : S2} (hg : g < 16) (hgh : g ≠ h0) (hw : 1 ≤ wh.toInt ∧ wh.toInt ≤ 100000) (B : DpB h0 nr cnt s0 t0) (w6 : s0 4 6 = wh) (w7 : s0 4 7 = 0) : ∃ Bq, Dp 4 h0 g cnt wh.toInt s0 t0 (f_D_searchCheaper nr nm s0 (nI h0) (nI g)) (f_T_findWays t0 (nI h0)) Bq := by
  have hh := B.hh
  obtain ⟨F, G⟩ := h2_at hh 17 0 t0 (by omega) (by omega)
  rw [nI_0] at F G
  have h15 : 0 ≤ (nI h0).toInt ∧ (nI h0).toInt ≤ 15 := by rw [nI_toInt (by omega)]; omega
  have z0 : (0 : Int32).toInt = 0 := by decide
  have ml : (1000000 : Int32).toInt = 1000000 := by decide
  have E : f_D_lower (f_A_fill s0 8 16 2147483647) 8 16 (nI h0) 0 = up2 (f_A_fill s0 8 16 2147483647) 8 h0 0 := by
    rw [lower_in h15, nI_clamp (by omega), fillf_at (by omega) hh, if_neg (by decide)]
  have s8 : ∀ x, x < 16 → up2 (f_A_fill s0 8 16 2147483647) 8 h0 0 8 x = if x = h0 then 0 else 2147483647 := by
    intro x hx
    by_cases e : x = h0
    · subst e; rw [up2_sf, if_pos rfl]
    · rw [up2_n2 e, fillf_at (by omega) hx, if_neg e]
  have b27 : ∀ x, x < 16 → h_T_findWays_2 (nI h0) 17 t0 0 27 x = if x = h0 then 0 else 1000000 := fun x hx => ((G x).1 (by omega) hx).1
  have P : Dp 0 h0 g cnt wh.toInt s0 t0 (up2 (f_A_fill s0 8 16 2147483647) 8 h0 0) (h_T_findWays_2 (nI h0) 17 t0 0) (fun _ => 1000000) := by
    refine ⟨?_, ?_, ?_, ?_, ?_, ?_, ?_, ?_, ?_, ?_, ?_⟩
    · intro k _ h8 _; rw [up2_ne h8, fill_fr _ _ _ _ h8]
    · intro x _ _; rw [up2_n1 (by omega), fill_fr _ _ _ _ (by omega)]
    · intro f hf; exact F f (by omega) (by omega)
    · intro x hx
      rw [s8 x hx]
      split
      · exact Or.inr (by decide)
      · exact Or.inl rfl
    · intro x hx; exact Or.inl rfl
    · intro x hx
      rw [b27 x hx]
      split
      · exact Or.inr (by decide)
      · exact Or.inl ml
    · intro x hx _
      rw [b27 x hx, s8 x hx]
      show _ = min (1000000 : Int) _
      split
      · decide
      · rw [cv_far]; decide
    · intro x hx o
      rw [s8 x hx, if_neg (fun e => o (Or.inl e))]
    · rw [b27 h0 hh, if_pos rfl]; decide
    · intro k _ _ z; exact absurd rfl z
    · right
      rw [b27 g hg, if_neg hgh, up2_n1 (by omega), fill_fr _ _ _ _ (by omega), up2_n1 (by omega), fill_fr _ _ _ _ (by omega), w6, w7, ml]
      exact ⟨by omega, rfl, rfl⟩
  have := dp_loop (nm := nm) hg hgh hw B (a1 := nI h0) 5 0 _ _ _ (by omega) (by omega) P
  unfold f_D_searchCheaper f_T_findWays
  rw [E]
  exact this
theorem Sim.dpb {c nr nm : Nat} {s t : S2} (h : Sim c nr nm s t) {h0 cnt : Nat} (hh : h0 < 16) (hc : cnt ≤ 40) (ec : t 0 4 = nI cnt) {a b : Int32} : DpB h0 nr cnt (f_D_setWay s a b) t := by
  have S : ∀ k x, k ≠ 4 → f_D_setWay s a b k x = s k x := by
    intro k x hk
    unfold f_D_setWay
    rw [up2_n1 hk, up2_n1 hk]
  refine ⟨hc, ec, hh, h.hnr, ?_, ?_, ?_⟩
  · rw [setWay_3]; exact h.dc
  · intro x hx
    rw [S _ _ (by omega)]
    constructor
    · intro w
      rw [← (h.rel x w.1).r8]; exact w.2
    · intro w
      by_cases q : x < nr
      · exact ⟨q, by rw [(h.rel x q).r8]; exact w⟩
      · have := (h.nw x (by omega) hx).n12
        rw [this] at w
        exact absurd w (by decide)
  · intro k hk
    exact (h.dl k hk).cg (S _ _ (by omega)) (S _ _ (by omega)) (S _ _ (by omega)) (fun _ _ _ => rfl)
theorem Sim.way {c nr nm : Nat} {s t s' t' : S2} (h : Sim c nr nm s t) (fs : ∀ k, k ≠ 4 → k ≠ 8 → k ≠ 9 → s' k = s k) (f3 : s' 4 3 = s 4 3) (ft : ∀ f, f < 27 → t' f = t f) : Sim c nr nm s' t' := by
  refine h.oth ?_ ?_ ?_ ?_ ?_ ?_ ?_ ?_ ?_ ?_
  · intro x; rw [fs 0 (by omega) (by omega) (by omega)]
  · intro x _ _; rw [ft 0 (by omega)]
  · intro k k1 k2; exact fs k (by omega) (by omega) (by omega)
  · intro f _ f2; exact ft f (by omega)
  · intro j hj
    exact (h.mac j hj).cg (fs _ (by omega) (by omega) (by omega)) (fun f _ _ => by rw [ft f (by omega)])
  · intro j hj
    exact (h.mw j hj).cg (fun f _ _ => by rw [ft f (by omega)])
  · intro k hk
    rw [fs 3 (by omega) (by omega) (by omega), ft 19 (by omega)]; exact h.bd k hk
  · rw [f3, ft 0 (by omega)]; exact h.dc
  · rw [ft 0 (by omega)]; exact h.dcb
  · intro k hk
    exact (h.dl k hk).cg (by rw [fs 5 (by omega) (by omega) (by omega)]) (by rw [fs 6 (by omega) (by omega) (by omega)]) (by rw [fs 7 (by omega) (by omega) (by omega)]) (fun f _ _ => by rw [ft f (by omega)])
theorem setWay_fr {s : S2} {a b : Int32} {k : Nat} (h : k ≠ 4) : f_D_setWay s a b k = s k := by
  unfold f_D_setWay
  rw [up2_ne h, up2_ne h]
theorem setWay_67 (s : S2) (a b : Int32) : f_D_setWay s a b 4 6 = a ∧ f_D_setWay s a b 4 7 = b := by
  unfold f_D_setWay
  rw [up2_n2 (by omega), up2_sf, up2_sf]
  exact ⟨rfl, rfl⟩
/-- the way found, on both sides -/
theorem find_T {c nr nm : Nat} {s t : S2} (h : Sim c nr nm s t) {j : Nat} (hj : j < nm) :
    Sim c nr nm (f_C_findWay nr nm s j) (f_T_wanted t (nI j)).2 ∧
    ((f_T_wanted t (nI j)).1 = -1 → f_C_findWay nr nm s j 4 6 = 0 ∧ f_C_findWay nr nm s j 4 7 = 0) ∧
    (¬ (f_T_wanted t (nI j)).1 = -1 → ((f_T_wanted t (nI j)).2 6 (f_T_wanted t (nI j)).1.toNatClampNeg ≤ (f_T_wanted t (nI j)).2 27 (f_T_wanted t (nI j)).1.toNatClampNeg ∧ f_C_findWay nr nm s j 4 6 = (f_T_wanted t (nI j)).2 6 (f_T_wanted t (nI j)).1.toNatClampNeg ∧ f_C_findWay nr nm s j 4 7 = 0) ∨ (¬ (f_T_wanted t (nI j)).2 6 (f_T_wanted t (nI j)).1.toNatClampNeg ≤ (f_T_wanted t (nI j)).2 27 (f_T_wanted t (nI j)).1.toNatClampNeg ∧ f_C_findWay nr nm s j 4 6 = (f_T_wanted t (nI j)).2 27 (f_T_wanted t (nI j)).1.toNatClampNeg ∧ f_C_findWay nr nm s j 4 7 = (f_T_wanted t (nI j)).2 28 (f_T_wanted t (nI j)).1.toNatClampNeg)) := by
  have hn := h.hnr
  have hm := h.hnm
  have M := h.mac j hj
  have cj : (nI j).toNatClampNeg = j := nI_clamp (by omega)
  obtain ⟨O1, O2⟩ := offer_T h hj
  have sw : ∀ a b, Sim c nr nm (f_D_setWay s a b) t := fun a b => h.way (fun k h4 _ _ => setWay_fr h4) (setWay_3 _ _ _) (fun _ _ => rfl)
  unfold f_C_findWay f_T_wanted
  rw [O1, cj, M.m3]
  rcases O2 with o | o
  · rw [o, if_neg (fun w => absurd w.1 (by decide)), if_pos rfl]
    exact ⟨sw 0 0, fun _ => setWay_67 _ _ _, fun w => absurd rfl w⟩
  · have o1 : ¬ f_T_offer t (nI j) = -1 := by
      intro w
      rw [w] at o
      exact absurd o.1 (by decide)
    rw [if_pos o, if_neg o1]
    by_cases q : f_T_offer t (nI j) = t 22 j
    · rw [if_pos q, if_pos q]
      exact ⟨sw 0 0, fun _ => setWay_67 _ _ _, fun w => absurd rfl w⟩
    · rw [if_neg q, if_neg q, setWay_fr (by omega), M.m3]
      obtain ⟨g, hg, gb, eg⟩ := rOk_nI o
      have G := h.rel g hg
      rw [eg, nI_clamp gb, G.r2]
      by_cases w : t 22 j = -1
      · rw [if_pos w, if_pos w]
        refine ⟨?_, fun z => ?_, fun _ => Or.inl ?_⟩
        · exact h.way (fun k h4 _ _ => setWay_fr h4) (setWay_3 _ _ _) (fun f hf => by show up2 _ _ _ _ f = _; rw [up2_ne (by omega)])
        · exfalso
          rw [eg] at o1; exact o1 z
        · show up2 t 27 g 1000000 6 (nI g).toNatClampNeg ≤ up2 t 27 g 1000000 27 (nI g).toNatClampNeg ∧ f_D_setWay s (t 6 g) 0 4 6 = up2 t 27 g 1000000 6 (nI g).toNatClampNeg ∧ _
          rw [nI_clamp gb, up2_n1 (by omega), up2_sf]
          refine ⟨?_, setWay_67 _ _ _⟩
          have b := G.r2b
          have : (1000000 : Int32).toInt = 1000000 := by decide
          rw [i_le]; omega
      · rw [if_neg w, if_neg w]
        have ho : rOk nr (t 22 j) := M.m3b.resolve_left w
        obtain ⟨h0, hh, hb, eh⟩ := rOk_nI ho
        rw [eh]
        obtain ⟨cnt, hc, ec⟩ := i_ex (n := 40) h.dcb.1 h.dcb.2 (by decide)
        have B := h.dpb (h0 := h0) (a := t 6 g) (b := 0) (by omega) hc ec
        have ne : g ≠ h0 := by
          intro z
          apply q
          rw [eg, eh, z]
        obtain ⟨Bq, P⟩ := search_T (nm := nm) (by omega) ne G.r2b B (setWay_67 _ _ _).1 (setWay_67 _ _ _).2
        refine ⟨?_, fun z => ?_, fun _ => ?_⟩
        · exact h.way (fun k h4 h8 h9 => by rw [P.fs k h4 h8 h9, setWay_fr h4]) (by rw [P.fd 3 (by omega) (by omega), setWay_3]) P.ft
        · exfalso
          rw [eg] at o1; exact o1 z
        · dsimp only
          rw [nI_clamp gb, P.ft 6 (by omega), i_le]
          rcases P.wy with ⟨a, b, d⟩ | ⟨a, b, d⟩
          · exact Or.inr ⟨by omega, Int32.toInt_inj.mp b, d⟩
          · exact Or.inl ⟨a, Int32.toInt_inj.mp b, d⟩
theorem sim_cost {c nr nm : Nat} {s t : S2} {a1 : Int32} (h : Sim c nr nm s t) : (f_C_cost nr nm s a1).1 = (f_T_cost t a1).1 ∧ Sim c nr nm (f_C_cost nr nm s a1).2 (f_T_cost t a1).2 := by
  replace h := h.code
  unfold f_C_cost f_T_cost
  generalize up2 t 0 0 0 = t at *
  by_cases hr : rOk nm a1
  · rw [if_pos hr, if_neg (fun q => (isMac_rOk h.t3 h.hnm).mp q hr)]
    obtain ⟨j, hj, hb, rfl⟩ := rOk_nI hr
    rw [nI_clamp hb]
    obtain ⟨A, B, C⟩ := find_T h hj
    by_cases q : (f_T_wanted t (nI j)).1 = -1
    · rw [if_pos q]; exact ⟨(B q).1, A⟩
    · rw [if_neg q]
      rcases C q with ⟨z, e, _⟩ | ⟨z, e, _⟩
      · rw [if_pos z]; exact ⟨e, A⟩
      · rw [if_neg z]; exact ⟨e, A⟩
  · rw [if_neg hr, if_pos ((isMac_rOk h.t3 h.hnm).mpr hr)]; exact ⟨rfl, h⟩
theorem sim_steps {c nr nm : Nat} {s t : S2} {a1 : Int32} (h : Sim c nr nm s t) : (f_C_steps nr nm s a1).1 = (f_T_steps t a1).1 ∧ Sim c nr nm (f_C_steps nr nm s a1).2 (f_T_steps t a1).2 := by
  replace h := h.code
  unfold f_C_steps f_T_steps
  generalize up2 t 0 0 0 = t at *
  by_cases hr : rOk nm a1
  · rw [if_pos hr, if_neg (fun q => (isMac_rOk h.t3 h.hnm).mp q hr)]
    obtain ⟨j, hj, hb, rfl⟩ := rOk_nI hr
    rw [nI_clamp hb]
    obtain ⟨A, B, C⟩ := find_T h hj
    by_cases q : (f_T_wanted t (nI j)).1 = -1
    · rw [if_pos q]; exact ⟨(B q).2, A⟩
    · rw [if_neg q]
      rcases C q with ⟨z, _, e⟩ | ⟨z, _, e⟩
      · rw [if_pos z]; exact ⟨e, A⟩
      · rw [if_neg z]; exact ⟨e, A⟩
  · rw [if_neg hr, if_pos ((isMac_rOk h.t3 h.hnm).mpr hr)]; exact ⟨rfl, h⟩
/-- the beginning -/
theorem sim_0 {g : S2} (hg : g = f_A_fill s00 3 3 (-1)) : Sim 0 0 0 g (up2 (up2 (up2 s00 19 0 (-1)) 19 1 (-1)) 19 2 (-1)) := by
  have F : ∀ k, k ≠ 3 → g k = s00 k := fun k hk => by rw [hg]; exact fill_fr _ _ _ _ hk
  have F3 : ∀ x, x < 3 → g 3 x = -1 := fun x hx => by rw [hg]; exact fillf_at (by omega) hx
  have T : ∀ f x, f ≠ 19 → up2 (up2 (up2 s00 19 0 (-1)) 19 1 (-1)) 19 2 (-1) f x = 0 := by
    intro f x hf
    rw [up2_n1 hf, up2_n1 hf, up2_n1 hf]; rfl
  refine ⟨by omega, by omega, ?_, ?_, ?_, ?_, ?_, ?_, fun i hi => by omega, ?_, fun j hj => by omega, ?_, ?_, ?_, ?_, ?_⟩
  · rw [F 0 (by omega)]; exact nI_0.symm
  · rw [F 0 (by omega)]; exact nI_0.symm
  · rw [T 0 2 (by omega)]; exact nI_0.symm
  · rw [T 0 3 (by omega)]; exact nI_0.symm
  · rw [F 0 (by omega), T 0 1 (by omega)]; rfl
  · rw [T 0 1 (by omega)]; decide
  · intro i _ _
    refine ⟨T _ _ (by omega), T _ _ (by omega), T _ _ (by omega), T _ _ (by omega), T _ _ (by omega), T _ _ (by omega), T _ _ (by omega), T _ _ (by omega), fun _ _ => T _ _ (by omega), fun _ _ => T _ _ (by omega)⟩
  · intro j hj
    refine ⟨?_, ?_, ?_⟩ <;> rw [T _ _ (by omega)] <;> decide
  · intro k hk
    rw [F3 k hk]
    rcases (by omega : k = 0 ∨ k = 1 ∨ k = 2) with rfl | rfl | rfl
    · rw [up2_n2 (by omega), up2_n2 (by omega), up2_sf]
    · rw [up2_n2 (by omega), up2_sf]
    · rw [up2_sf]
  · rw [F 4 (by omega), T 0 4 (by omega)]; rfl
  · rw [T 0 4 (by omega)]; decide
  · intro k hk
    refine ⟨?_, ?_, ?_, ?_, ?_, ?_⟩
    · rw [F 5 (by omega), T 24 k (by omega)]; rfl
    · rw [F 6 (by omega), T 25 k (by omega)]; rfl
    · rw [F 7 (by omega), T 26 k (by omega)]; rfl
    · rw [T 24 k (by omega)]; decide
    · rw [T 25 k (by omega)]; decide
    · rw [T 26 k (by omega)]; decide

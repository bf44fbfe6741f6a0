/-! calls that make cells -/
/-- a call over a part of the cells: the rest stays -/
theorem mw_callA {p : Program} {l : Launch} {e : Env} {R : Room} {s : State} {m : MethodId} {args : Array Value} {below : List Frame} {meth : Method} {c : Code} {H : Heap} {locs : List Loc} {cells slots : Nat} {Q : State → Prop} {pc : Nat} {ls : Array Slot} {rest : List Value} {D : va_G} {cl : List vw_C} {A A' : Nat → Prop} {H0 : Heap} {r : Option Value} {X : (Nat → Nat) → (Nat → Option va_E) → Prop} {st0 : List Value} {mc ms : Nat} {a : Array Value} (hr : va_Run p l e R s m args below meth c H locs cells slots mc ms (F0 m pc ls st0) rest (mE A' D cl r X a) A') (hS : va_S A H0 H locs) (hA : ∀ q, A' q → A q)
    (kk : ∀ (ad1 : Nat → Nat) (E1 : Nat → Option va_E) (H1 : Heap) (locs1 : List Loc), X ad1 E1 → mw A' D cl ad1 E1 H1 → H.size ≤ H1.size → (∀ q : Nat, q < H.size → ¬ A' q → H1[q]? = H[q]?) → va_S A H0 H1 locs1 → W p l e R s m args below meth c H1 locs1 (cells + mc) (slots + ms) Q (F0 m (pc + 3) ls (r.toList ++ rest))) : W p l e R s m args below meth c H locs cells slots Q (F0 m pc ls st0) := by
  intro T hT X
  obtain ⟨v, st₀, t, T', L, h0, X', hL, e1, e2, ⟨hv, ⟨ad1, E1, hx, hw⟩, hz, hk⟩, st⟩ := hr T hT X
  cases hv
  rw [h0] at hz hk
  obtain ⟨t2, a1, b1⟩ := kk ad1 E1 T'.heap (locs ++ L) hx (by rw [e1]; exact hw) (by rw [e1]; exact hz) (fun q h1 h2 => by rw [e1]; exact hk q h1 h2)
    ⟨Nat.le_trans hS.1 (by rw [e1]; exact hz), fun q h1 h2 => by rw [e1, hk q (Nat.lt_of_lt_of_le h1 hS.1) (fun z => h2 (hA q z))]; exact hS.2.1 q h1 h2, fun q hq => by
      rcases List.mem_append.mp hq with h | h
      · exact hS.2.2 q h
      · exact hA _ (hL q h)⟩ T' rfl X'
  exact ⟨t2, st t2 a1, b1⟩
/-- behind a constructor that got one cell: the world's other cells, and what it made -/
theorem mw_join {A : Nat → Prop} {D : va_G} {cl : List vw_C} {ad ad' : Nat → Nat} {E E' : Nat → Option va_E} {H H1 : Heap} (h : mw A D cl ad E H) (hz : H.size ≤ H1.size) (K : Nat) {eb : va_E} (hK : E K = some eb) (hk : ∀ q : Nat, q < H.size → ¬ va_A [(ad K, eb)] H.size q → H1[q]? = H[q]?) {w1 : va_W} (hP1 : va_P D cl w1 H1) (hD1 : va_D (va_A [(ad K, eb)] H.size) w1) (pos : Nat → Option Nat)
    (hN : ∀ k e, E' k = some e → (∃ i, pos k = some i ∧ w1[i]? = some (ad' k, e)) ∨ (pos k = none ∧ k ≠ K ∧ E k = some e ∧ ad' k = ad k)) (hi : ∀ j k i, pos j = some i → pos k = some i → j = k) : mw A D cl ad' E' H1 := by
  have inA : ∀ q, va_A [(ad K, eb)] H.size q → q = ad K ∨ H.size ≤ q := by
    intro q hq
    rcases hq with ⟨k, e, hq⟩ | hq
    · cases k with
      | zero => exact Or.inl (Prod.mk.inj (Option.some.inj hq)).1.symm
      | succ k => simp at hq
    · exact Or.inr hq
  have old : ∀ k e, k ≠ K → E k = some e → ad k < H.size ∧ ¬ va_A [(ad K, eb)] H.size (ad k) := by
    intro k e hkK he
    refine ⟨h.lt he, fun q => ?_⟩
    rcases inA _ q with z | z
    · exact hkK (h.2.1 k K e eb he hK z)
    · have := h.lt he
      omega
  refine ⟨fun k e he => ?_, fun j k e f hj hk' hjk => ?_, fun q hq => h.2.2 q (Nat.le_trans hz hq)⟩
  · rcases hN k e he with ⟨i, h1, h2⟩ | ⟨h1, h2, h3, h4⟩
    · refine ⟨hP1 i _ h2, ?_⟩
      rcases inA _ (hD1.2 i _ h2) with z | z
      · show A (ad' k)
        have z' : ad' k = ad K := z
        rw [z']; exact (h.1 K eb hK).2
      · exact h.2.2 _ z
    · rw [h4]
      have := old k e h2 h3
      exact ⟨(h.1 k e h3).1.kept (hk _ this.1 this.2), (h.1 k e h3).2⟩
  · rcases hN j e hj with ⟨i, h1, h2⟩ | ⟨h1, h2, h3, h4⟩
    · rcases hN k f hk' with ⟨i', g1, g2⟩ | ⟨g1, g2, g3, g4⟩
      · have := hD1.1 i i' _ _ h2 g2 hjk
        subst this
        exact hi j k i h1 g1
      · exfalso
        have o := old k f g2 g3
        have n := hD1.2 i _ h2
        have n' : va_A [(ad K, eb)] H.size (ad' j) := n
        rw [hjk, g4] at n'
        exact o.2 n'
    · rcases hN k f hk' with ⟨i', g1, g2⟩ | ⟨g1, g2, g3, g4⟩
      · exfalso
        have o := old j e h2 h3
        have n' : va_A [(ad K, eb)] H.size (ad' k) := hD1.2 i' _ g2
        rw [← hjk, h4] at n'
        exact o.2 n'
      · rw [h4, g4] at hjk
        exact h.2.1 j k e f h3 g3 hjk
theorem va_D1 {q : Nat} {e : va_E} : va_D (fun _ => True) [(q, e)] := by
  refine ⟨fun i j p r hi hj _ => ?_, fun _ _ _ => trivial⟩
  cases i with
  | zero => cases j with
    | zero => rfl
    | succ j => simp at hj
  | succ i => simp at hi
theorem mw_free1 {A : Nat → Prop} {D : va_G} {cl : List vw_C} {ad : Nat → Nat} {E : Nat → Option va_E} {H : Heap} (h : mw A D cl ad E H) {K : Nat} {eb : va_E} (hK : E K = some eb) : ∀ q, va_A [(ad K, eb)] H.size q → A q := by
  intro q hq
  rcases hq with ⟨k, e, hq⟩ | hq
  · cases k with
    | zero => rw [← (Prod.mk.inj (Option.some.inj hq)).1]; exact (h.1 K eb hK).2
    | succ k => simp at hq
  · exact h.2.2 q hq
theorem encC_freeR {g : Nat → ClassId} {ad : Nat → Nat} {nr nm : Nat} {s : S2} (h : nr < 16) : ∀ d, d < 3 → encC g ad nr nm s (10 + 3 * nr + d) = none := by
  intro d hd
  show cellC g ad nr nm _ _ = none
  unfold cellC
  rw [if_neg (by omega), if_neg (by omega), if_neg (by omega), if_neg (by omega), if_neg (by omega), if_neg (by omega), if_neg (by omega), if_pos (by omega), if_neg (by omega)]
theorem encC_freeM {g : Nat → ClassId} {ad : Nat → Nat} {nr nm : Nat} {s : S2} : encC g ad nr nm s (58 + nm) = none := by
  show cellC g ad nr nm _ _ = none
  unfold cellC
  rw [if_neg (by omega), if_neg (by omega), if_neg (by omega), if_neg (by omega), if_neg (by omega), if_neg (by omega), if_neg (by omega), if_neg (by omega), if_neg (by omega)]
/-- the cells that a new release leaves alone -/
theorem encC_othR {g : Nat → ClassId} {ad ad2 : Nat → Nat} {nr nm : Nat} {s s1 : S2} (h : nr < 16) {k : Nat} (h1 : k ≠ 1) (hk : k < 10 + 3 * nr ∨ 12 + 3 * nr < k) (ha : ∀ j, (j < 10 + 3 * nr ∨ 12 + 3 * nr < j) → ad2 j = ad j) (hs : s1 k = s k) : encC g ad2 (nr + 1) nm s1 k = encC g ad nr nm s k := by
  show cellC g ad2 (nr + 1) nm k (s1 k) = cellC g ad nr nm k (s k)
  rw [hs]
  unfold cellC
  by_cases e0 : k = 0
  · rw [if_pos e0, if_pos e0]
    unfold fsMain
    rw [ha 1 (by omega), ha 2 (by omega), ha 3 (by omega), ha 4 (by omega)]
  · rw [if_neg e0, if_neg e0, if_neg h1, if_neg h1]
    by_cases e2 : k = 2
    · rw [if_pos e2, if_pos e2]
      have : rfMac ad2 nm = rfMac ad nm := by
        funext i
        unfold rfMac
        rw [ha (58 + i) (by omega)]
      rw [this]
    · rw [if_neg e2, if_neg e2]
      by_cases e3 : k = 3
      · rw [if_pos e3, if_pos e3]
      · rw [if_neg e3, if_neg e3]
        by_cases e4 : k = 4
        · rw [if_pos e4, if_pos e4]
          unfold fsDel
          rw [ha 5 (by omega), ha 6 (by omega), ha 7 (by omega), ha 8 (by omega), ha 9 (by omega)]
        · rw [if_neg e4, if_neg e4]
          by_cases e8 : k < 8
          · rw [if_pos e8, if_pos e8]
          · rw [if_neg e8, if_neg e8]
            by_cases e10 : k < 10
            · rw [if_pos e10, if_pos e10]
            · rw [if_neg e10, if_neg e10]
              by_cases e58 : k < 58
              · rw [if_pos e58, if_pos e58]
                by_cases en : (k - 10) / 3 < nr
                · rw [if_pos en, if_pos (by omega)]
                  by_cases em : (k - 10) % 3 = 0
                  · rw [if_pos em, if_pos em]
                    unfold fsRel
                    rw [ha (k + 1) (by omega), ha (k + 2) (by omega)]
                  · rw [if_neg em, if_neg em]
                · rw [if_neg en, if_neg (by omega)]
              · rw [if_neg e58, if_neg e58]
theorem encC_othM {g : Nat → ClassId} {ad ad2 : Nat → Nat} {nr nm : Nat} {s s1 : S2} (hr : nr ≤ 16) {k : Nat} (h2 : k ≠ 2) (hk : k ≠ 58 + nm) (ha : ∀ j, j ≠ 58 + nm → ad2 j = ad j) (hs : s1 k = s k) : encC g ad2 nr (nm + 1) s1 k = encC g ad nr nm s k := by
  show cellC g ad2 nr (nm + 1) k (s1 k) = cellC g ad nr nm k (s k)
  rw [hs]
  unfold cellC
  by_cases e0 : k = 0
  · rw [if_pos e0, if_pos e0]
    unfold fsMain
    rw [ha 1 (by omega), ha 2 (by omega), ha 3 (by omega), ha 4 (by omega)]
  · rw [if_neg e0, if_neg e0]
    by_cases e1 : k = 1
    · rw [if_pos e1, if_pos e1]
      have : rfRel ad2 nr = rfRel ad nr := by
        funext i
        unfold rfRel
        by_cases hi : i < nr
        · rw [if_pos hi, if_pos hi, ha (10 + 3 * i) (by omega)]
        · rw [if_neg hi, if_neg hi]
      rw [this]
    · rw [if_neg e1, if_neg e1, if_neg h2, if_neg h2]
      by_cases e3 : k = 3
      · rw [if_pos e3, if_pos e3]
      · rw [if_neg e3, if_neg e3]
        by_cases e4 : k = 4
        · rw [if_pos e4, if_pos e4]
          unfold fsDel
          rw [ha 5 (by omega), ha 6 (by omega), ha 7 (by omega), ha 8 (by omega), ha 9 (by omega)]
        · rw [if_neg e4, if_neg e4]
          by_cases e8 : k < 8
          · rw [if_pos e8, if_pos e8]
          · rw [if_neg e8, if_neg e8]
            by_cases e10 : k < 10
            · rw [if_pos e10, if_pos e10]
            · rw [if_neg e10, if_neg e10]
              by_cases e58 : k < 58
              · rw [if_pos e58, if_pos e58]
                by_cases en : (k - 10) / 3 < nr
                · rw [if_pos en, if_pos en]
                  by_cases em : (k - 10) % 3 = 0
                  · rw [if_pos em, if_pos em]
                    unfold fsRel
                    rw [ha (k + 1) (by omega), ha (k + 2) (by omega)]
                  · rw [if_neg em, if_neg em]
                · rw [if_neg en, if_neg en]
              · rw [if_neg e58, if_neg e58]
                by_cases en : k - 58 < nm
                · rw [if_pos en, if_pos (by omega)]
                · rw [if_neg en, if_neg (by omega)]
def sR (nr : Nat) (s : S2) (a1 a2 a3 : Int32) : S2 := va_up (va_up (va_up s (10 + 3 * nr) (recR a1 a2 a3)) (10 + 3 * nr + 1) (fun _ => 0)) (10 + 3 * nr + 2) (fun _ => 0)
def sM (nm : Nat) (s : S2) (a1 a2 v : Int32) : S2 := va_up s (58 + nm) (recM a1 a2 v)
theorem newR_w {A : Nat → Prop} {G : Gx} {ad ad1 : Nat → Nat} {nr nm : Nat} {s : S2} {H H1 : Heap} {eb : va_E} {a1 a2 a3 : Int32} {q1 q2 : Nat} (hn : nr < 16) (hj : ∀ j, j ≠ 10 + 3 * nr → ad1 j = ad j) (hw : mwG G A ad1 (va_up (encC G.2 ad nr nm s) (10 + 3 * nr) (some eb)) H) (hz : H.size ≤ H1.size) (hk : ∀ q : Nat, q < H.size → ¬ va_A [(ad1 (10 + 3 * nr), eb)] H.size q → H1[q]? = H[q]?)
    (hP1 : va_P G.1 vcl [(ad1 (10 + 3 * nr), .inr (1, [.int a1, .int a2, .int a3, .ref q1, .ref q2, .int 0, .int 1, .int 1, .int 0, .int 0, .int 0, .int 0, .int 0, .int 0])), (q1, .inl (G.2 0, 5, .inl (fun _ => 0))), (q2, .inl (G.2 0, 5, .inl (fun _ => 0)))] H1) (hD1 : va_D (va_A [(ad1 (10 + 3 * nr), eb)] H.size) [(ad1 (10 + 3 * nr), .inr (1, [.int a1, .int a2, .int a3, .ref q1, .ref q2, .int 0, .int 1, .int 1, .int 0, .int 0, .int 0, .int 0, .int 0, .int 0])), (q1, .inl (G.2 0, 5, .inl (fun _ => 0))), (q2, .inl (G.2 0, 5, .inl (fun _ => 0)))]) :
    ∃ ad2 : Nat → Nat, ad2 0 = ad 0 ∧ ad2 1 = ad 1 ∧ ad2 (10 + 3 * nr) = ad1 (10 + 3 * nr) ∧ mwG G A ad2 (va_up (encC G.2 ad2 (nr + 1) nm (sR nr s a1 a2 a3)) 1 (some (.inl (G.2 1, 16, .inr (.inr (.inr (.inr (rfRel ad2 nr)))))))) H1 := by
  refine ⟨va_up (va_up ad1 (10 + 3 * nr + 1) q1) (10 + 3 * nr + 2) q2, ?_, ?_, ?_, ?_⟩
  · rw [va_up_ne _ _ (by omega), va_up_ne _ _ (by omega), hj 0 (by omega)]
  · rw [va_up_ne _ _ (by omega), va_up_ne _ _ (by omega), hj 1 (by omega)]
  · rw [va_up_ne _ _ (by omega), va_up_ne _ _ (by omega)]
  have ha : ∀ j, (j < 10 + 3 * nr ∨ 12 + 3 * nr < j) → va_up (va_up ad1 (10 + 3 * nr + 1) q1) (10 + 3 * nr + 2) q2 j = ad j := by
    intro j h
    rw [va_up_ne _ _ (by omega), va_up_ne _ _ (by omega), hj j (by omega)]
  have b0 : va_up (va_up ad1 (10 + 3 * nr + 1) q1) (10 + 3 * nr + 2) q2 (10 + 3 * nr) = ad1 (10 + 3 * nr) := by rw [va_up_ne _ _ (by omega), va_up_ne _ _ (by omega)]
  have b1 : va_up (va_up ad1 (10 + 3 * nr + 1) q1) (10 + 3 * nr + 2) q2 (10 + 3 * nr + 1) = q1 := by rw [va_up_ne _ _ (by omega), va_up_self]
  have b2 : va_up (va_up ad1 (10 + 3 * nr + 1) q1) (10 + 3 * nr + 2) q2 (10 + 3 * nr + 2) = q2 := va_up_self _ _ _
  generalize va_up (va_up ad1 (10 + 3 * nr + 1) q1) (10 + 3 * nr + 2) q2 = ad2 at ha b0 b1 b2 ⊢
  have c0 : encC G.2 ad2 (nr + 1) nm (sR nr s a1 a2 a3) (10 + 3 * nr) = some (.inr (1, [.int a1, .int a2, .int a3, .ref q1, .ref q2, .int 0, .int 1, .int 1, .int 0, .int 0, .int 0, .int 0, .int 0, .int 0])) := by
    have := cC_rel (g := G.2) (ad := ad2) (nr := nr + 1) (nm := nm) (r := sR nr s a1 a2 a3 (10 + 3 * nr)) (i := nr) (by omega) (by omega)
    show cellC _ _ _ _ _ _ = _
    rw [this]
    unfold fsRel
    rw [b1, b2]
    unfold sR
    rw [va_up_ne _ _ (by omega), va_up_ne _ _ (by omega), va_up_self]
    rfl
  have c1 : encC G.2 ad2 (nr + 1) nm (sR nr s a1 a2 a3) (10 + 3 * nr + 1) = some (.inl (G.2 0, 5, .inl (fun _ => 0))) := by
    have := cC_sh (g := G.2) (ad := ad2) (nr := nr + 1) (nm := nm) (r := sR nr s a1 a2 a3 (10 + 3 * nr + 1)) (i := nr) (by omega) (by omega)
    show cellC _ _ _ _ _ _ = _
    rw [this]
    unfold sR
    rw [va_up_ne _ _ (by omega), va_up_self]
  have c2 : encC G.2 ad2 (nr + 1) nm (sR nr s a1 a2 a3) (10 + 3 * nr + 2) = some (.inl (G.2 0, 5, .inl (fun _ => 0))) := by
    have := cC_wa (g := G.2) (ad := ad2) (nr := nr + 1) (nm := nm) (r := sR nr s a1 a2 a3 (10 + 3 * nr + 2)) (i := nr) (by omega) (by omega)
    show cellC _ _ _ _ _ _ = _
    rw [this]
    unfold sR
    rw [va_up_self]
  refine mw_join hw hz (10 + 3 * nr) (va_up_self _ _ _) hk hP1 hD1 (fun k => if k = 10 + 3 * nr then some 0 else if k = 10 + 3 * nr + 1 then some 1 else if k = 10 + 3 * nr + 2 then some 2 else none) ?_ ?_
  · intro k e he
    by_cases k1 : k = 1
    · subst k1
      refine Or.inr ⟨?_, by omega, ?_, ?_⟩
      · show (if _ then _ else _) = _
        rw [if_neg (by omega), if_neg (by omega), if_neg (by omega)]
      · rw [va_up_self] at he
        rw [va_up_ne _ _ (by omega)]
        have : rfRel ad2 nr = rfRel ad nr := by
          funext i
          unfold rfRel
          by_cases hi : i < nr
          · rw [if_pos hi, if_pos hi, ha (10 + 3 * i) (by omega)]
          · rw [if_neg hi, if_neg hi]
        rw [this] at he
        exact he
      · rw [ha 1 (by omega), hj 1 (by omega)]
    · rw [va_up_ne _ _ k1] at he
      by_cases e0 : k = 10 + 3 * nr
      · subst e0
        rw [c0] at he
        cases he
        exact Or.inl ⟨0, if_pos rfl, by rw [b0]; rfl⟩
      · by_cases e1 : k = 10 + 3 * nr + 1
        · subst e1
          rw [c1] at he
          cases he
          refine Or.inl ⟨1, ?_, by rw [b1]; rfl⟩
          show (if _ then _ else _) = _
          rw [if_neg (by omega), if_pos rfl]
        · by_cases e2 : k = 10 + 3 * nr + 2
          · subst e2
            rw [c2] at he
            cases he
            refine Or.inl ⟨2, ?_, by rw [b2]; rfl⟩
            show (if _ then _ else _) = _
            rw [if_neg (by omega), if_neg (by omega), if_pos rfl]
          · refine Or.inr ⟨?_, e0, ?_, ?_⟩
            · show (if _ then _ else _) = _
              rw [if_neg e0, if_neg e1, if_neg e2]
            · rw [va_up_ne _ _ e0]
              rw [encC_othR (ad := ad) (s := s) hn k1 (by omega) ha (by unfold sR; rw [va_up_ne _ _ e2, va_up_ne _ _ e1, va_up_ne _ _ e0])] at he
              exact he
            · rw [ha k (by omega), hj k e0]
  · intro j k i h1 h2
    have key : ∀ x, (if x = 10 + 3 * nr then some 0 else if x = 10 + 3 * nr + 1 then some 1 else if x = 10 + 3 * nr + 2 then some 2 else none) = some i → x = 10 + 3 * nr + i := by
      intro x hx
      split at hx
      · cases hx; omega
      · split at hx
        · cases hx; omega
        · split at hx
          · cases hx; omega
          · cases hx
    rw [key j h1, key k h2]
theorem newR_a {g : Nat → ClassId} {ad : Nat → Nat} {nr nm : Nat} {s : S2} {old : va_E} {i : Int32} (hi : i.toNatClampNeg = nr) : va_up (va_up (encC g ad (nr + 1) nm s) 1 (some old)) 1 (some (.inl (g 1, 16, .inr (.inr (.inr (.inr (va_up (rfRel ad nr) i.toNatClampNeg (some (ad (10 + 3 * nr))))))))) ) = encC g ad (nr + 1) nm s := by
  funext k
  by_cases k1 : k = 1
  · subst k1
    rw [va_up_self, hi]
    show _ = some (Sum.inl (g 1, 16, _))
    congr 5
    have : va_up (rfRel ad nr) nr (some (ad (10 + 3 * nr))) = rfRel ad (nr + 1) := by
      funext j
      by_cases hj : j = nr
      · subst hj
        rw [va_up_self]
        unfold rfRel
        rw [if_pos (by omega)]
      · rw [va_up_ne _ _ hj]
        unfold rfRel
        by_cases hl : j < nr
        · rw [if_pos hl, if_pos (by omega)]
        · rw [if_neg hl, if_neg (by omega)]
    rw [this]
  · rw [va_up_ne _ _ k1, va_up_ne _ _ k1]
theorem newM_w {A : Nat → Prop} {G : Gx} {ad ad1 : Nat → Nat} {nr nm : Nat} {s : S2} {H H1 : Heap} {eb : va_E} {a1 a2 v : Int32} (hr : nr ≤ 16) (hj : ∀ j, j ≠ 58 + nm → ad1 j = ad j) (hw : mwG G A ad1 (va_up (encC G.2 ad nr nm s) (58 + nm) (some eb)) H) (hz : H.size ≤ H1.size) (hk : ∀ q : Nat, q < H.size → ¬ va_A [(ad1 (58 + nm), eb)] H.size q → H1[q]? = H[q]?)
    (hP1 : va_P G.1 vcl [(ad1 (58 + nm), .inr (2, [.int a1, .int a2, .int v, .int (-1), .int (-1)]))] H1) (hD1 : va_D (va_A [(ad1 (58 + nm), eb)] H.size) [(ad1 (58 + nm), .inr (2, [.int a1, .int a2, .int v, .int (-1), .int (-1)]))]) :
    mwG G A ad1 (va_up (encC G.2 ad1 nr (nm + 1) (sM nm s a1 a2 v)) 2 (some (.inl (G.2 2, 30, .inr (.inr (.inr (.inr (rfMac ad1 nm)))))))) H1 := by
  have c0 : encC G.2 ad1 nr (nm + 1) (sM nm s a1 a2 v) (58 + nm) = some (.inr (2, [.int a1, .int a2, .int v, .int (-1), .int (-1)])) := by
    have := cC_mac (g := G.2) (ad := ad1) (nr := nr) (nm := nm + 1) (r := sM nm s a1 a2 v (58 + nm)) (j := nm) (by omega)
    show cellC _ _ _ _ _ _ = _
    rw [this]
    unfold fsMac sM
    rw [va_up_self]
    rfl
  refine mw_join hw hz (58 + nm) (va_up_self _ _ _) hk hP1 hD1 (fun k => if k = 58 + nm then some 0 else none) ?_ ?_
  · intro k e he
    by_cases k2 : k = 2
    · subst k2
      refine Or.inr ⟨if_neg (by omega), by omega, ?_, rfl⟩
      rw [va_up_self] at he
      rw [va_up_ne _ _ (by omega)]
      have : rfMac ad1 nm = rfMac ad nm := by
        funext i
        unfold rfMac
        by_cases hi : i < nm
        · rw [if_pos hi, if_pos hi, hj (58 + i) (by omega)]
        · rw [if_neg hi, if_neg hi]
      rw [this] at he
      exact he
    · rw [va_up_ne _ _ k2] at he
      by_cases e0 : k = 58 + nm
      · subst e0
        rw [c0] at he
        cases he
        exact Or.inl ⟨0, if_pos rfl, rfl⟩
      · refine Or.inr ⟨if_neg e0, e0, ?_, rfl⟩
        rw [va_up_ne _ _ e0]
        rw [encC_othM (ad := ad) (s := s) hr k2 e0 hj (by unfold sM; rw [va_up_ne _ _ e0])] at he
        exact he
  · intro j k i h1 h2
    have key : ∀ x, (if x = 58 + nm then some 0 else none) = some i → x = 58 + nm := by
      intro x hx
      split at hx
      · assumption
      · cases hx
    rw [key j h1, key k h2]
theorem newM_a {g : Nat → ClassId} {ad : Nat → Nat} {nr nm : Nat} {s : S2} {old : va_E} {i : Int32} (hi : i.toNatClampNeg = nm) : va_up (va_up (encC g ad nr (nm + 1) s) 2 (some old)) 2 (some (.inl (g 2, 30, .inr (.inr (.inr (.inr (va_up (rfMac ad nm) i.toNatClampNeg (some (ad (58 + nm))))))))) ) = encC g ad nr (nm + 1) s := by
  funext k
  by_cases k1 : k = 2
  · subst k1
    rw [va_up_self, hi]
    show _ = some (Sum.inl (g 2, 30, _))
    congr 5
    have : va_up (rfMac ad nm) nm (some (ad (58 + nm))) = rfMac ad (nm + 1) := by
      funext j
      by_cases hj : j = nm
      · subst hj
        rw [va_up_self]
        unfold rfMac
        rw [if_pos (by omega)]
      · rw [va_up_ne _ _ hj]
        unfold rfMac
        by_cases hl : j < nm
        · rw [if_pos hl, if_pos (by omega)]
        · rw [if_neg hl, if_neg (by omega)]
    rw [this]
  · rw [va_up_ne _ _ k1, va_up_ne _ _ k1]
/-- a world without one of its cells, and back -/
theorem mw_less {A : Nat → Prop} {D : va_G} {cl : List vw_C} {ad : Nat → Nat} {E E0 : Nat → Option va_E} {H : Heap} {K : Nat} {eb : va_E} (h : mw A D cl ad (va_up E K (some eb)) H) (h0 : ∀ k e, E0 k = some e → E k = some e ∧ k ≠ K) : mw (fun q => A q ∧ q ≠ ad K) D cl ad E0 H := by
  refine ⟨fun k e he => ?_, fun i j f g hi hj hij => ?_, fun q hq => ⟨h.2.2 q hq, ?_⟩⟩
  · obtain ⟨h1, h2⟩ := h0 k e he
    have h3 : va_up E K (some eb) k = some e := by rw [va_up_ne _ _ h2]; exact h1
    exact ⟨(h.1 k e h3).1, (h.1 k e h3).2, fun z => h2 (h.2.1 k K e eb h3 (va_up_self _ _ _) z)⟩
  · obtain ⟨a1, a2⟩ := h0 i f hi
    obtain ⟨b1, b2⟩ := h0 j g hj
    exact h.2.1 i j f g (by rw [va_up_ne _ _ a2]; exact a1) (by rw [va_up_ne _ _ b2]; exact b1) hij
  · have := h.lt (va_up_self E K (some eb))
    omega
theorem mw_more {A : Nat → Prop} {D : va_G} {cl : List vw_C} {ad : Nat → Nat} {E : Nat → Option va_E} {H H1 : Heap} {K : Nat} {eb : va_E} (h : mw A D cl ad (va_up E K (some eb)) H) (hz : H.size ≤ H1.size) (hk : ∀ q : Nat, q < H.size → ¬ (A q ∧ q ≠ ad K) → H1[q]? = H[q]?) {E1 : Nat → Option va_E} (h1 : mw (fun q => A q ∧ q ≠ ad K) D cl ad E1 H1) : mw A D cl ad (va_up E1 K (some eb)) H1 := by
  have hKK := h.1 K eb (va_up_self _ _ _)
  refine ⟨fun k e he => ?_, fun i j f g hi hj hij => ?_, fun q hq => h.2.2 q (Nat.le_trans hz hq)⟩
  · by_cases e0 : k = K
    · subst e0
      rw [va_up_self] at he
      cases he
      exact ⟨hKK.1.kept (hk _ (h.lt (va_up_self _ _ _)) (fun z => z.2 rfl)), hKK.2⟩
    · rw [va_up_ne _ _ e0] at he
      exact ⟨(h1.1 k e he).1, (h1.1 k e he).2.1⟩
  · by_cases e0 : i = K
    · by_cases e1 : j = K
      · rw [e0, e1]
      · exfalso
        rw [va_up_ne _ _ e1] at hj
        exact (h1.1 j g hj).2.2 (by rw [← hij, e0])
    · rw [va_up_ne _ _ e0] at hi
      by_cases e1 : j = K
      · exfalso
        exact (h1.1 i f hi).2.2 (by rw [hij, e1])
      · rw [va_up_ne _ _ e1] at hj
        exact h1.2.1 i j f g hi hj hij
theorem encC_ad {g : Nat → ClassId} {ad ad2 : Nat → Nat} {nr nm : Nat} {s : S2} (hr : nr ≤ 16) {k : Nat} (ha : ∀ j, j < 58 + nm → ad2 j = ad j) : encC g ad2 nr nm s k = encC g ad nr nm s k := by
  show cellC g ad2 nr nm k (s k) = cellC g ad nr nm k (s k)
  unfold cellC
  by_cases e0 : k = 0
  · rw [if_pos e0, if_pos e0]
    unfold fsMain
    rw [ha 1 (by omega), ha 2 (by omega), ha 3 (by omega), ha 4 (by omega)]
  · rw [if_neg e0, if_neg e0]
    by_cases e1 : k = 1
    · rw [if_pos e1, if_pos e1]
      have : rfRel ad2 nr = rfRel ad nr := by
        funext i
        unfold rfRel
        by_cases hi : i < nr
        · rw [if_pos hi, if_pos hi, ha (10 + 3 * i) (by omega)]
        · rw [if_neg hi, if_neg hi]
      rw [this]
    · rw [if_neg e1, if_neg e1]
      by_cases e2 : k = 2
      · rw [if_pos e2, if_pos e2]
        have : rfMac ad2 nm = rfMac ad nm := by
          funext i
          unfold rfMac
          by_cases hi : i < nm
          · rw [if_pos hi, if_pos hi, ha (58 + i) (by omega)]
          · rw [if_neg hi, if_neg hi]
        rw [this]
      · rw [if_neg e2, if_neg e2]
        by_cases e3 : k = 3
        · rw [if_pos e3, if_pos e3]
        · rw [if_neg e3, if_neg e3]
          by_cases e4 : k = 4
          · rw [if_pos e4, if_pos e4]
            unfold fsDel
            rw [ha 5 (by omega), ha 6 (by omega), ha 7 (by omega), ha 8 (by omega), ha 9 (by omega)]
          · rw [if_neg e4, if_neg e4]
            by_cases e8 : k < 8
            · rw [if_pos e8, if_pos e8]
            · rw [if_neg e8, if_neg e8]
              by_cases e10 : k < 10
              · rw [if_pos e10, if_pos e10]
              · rw [if_neg e10, if_neg e10]
                by_cases e58 : k < 58
                · rw [if_pos e58, if_pos e58]
                  by_cases en : (k - 10) / 3 < nr
                  · rw [if_pos en, if_pos en]
                    by_cases em : (k - 10) % 3 = 0
                    · rw [if_pos em, if_pos em]
                      unfold fsRel
                      rw [ha (k + 1) (by omega), ha (k + 2) (by omega)]
                    · rw [if_neg em, if_neg em]
                  · rw [if_neg en, if_neg en]
                · rw [if_neg e58, if_neg e58]

set_option maxHeartbeats 4000000 in
set_option maxRecDepth 100000 in
theorem cc_C_release (l : Launch) (G : Gx) (A : Nat → Prop) (ad : Nat → Nat) (nr nm : Nat) (hnr : nr ≤ 16) (hnm : nm ≤ 30) (s0 : S2) (a1 : Int32) (a2 : Int32) (a3 : Int32) (hcnt : s0 0 4 = nI nr) (hb2 : a2 = 0 ∨ a2 = 1) : Met l y_C_release ws_C_release { frames := 3, cells := 3, slots := 24, locals := 80 } (PG G [.ref (ad 0), .int a1, .int a2, .int a3] A ad (encC G.2 ad nr nm s0)) (mE A G.1 vcl (some (.int (f_C_release nr s0 a1 a2 a3).1)) (fun ad1 E1 => ad1 0 = ad 0 ∧ E1 = encC G.2 ad1 (f_C_release nr s0 a1 a2 a3).2.1 nm (f_C_release nr s0 a1 a2 a3).2.2)) 3 24 A := by
  refine Met.ofW (cc := c_C_release) (maxL := 4) (ret := (some .int)) (by decide) rfl ?_
  intro p e s m args below meth c s₁ B hml hv
  obtain ⟨rfl, hw, hK⟩ := hv
  have hx := B.exec
  have hb := B.bytes
  have hr := B.returns
  have hts : ∀ w ∈ tbG, w.before [.ref (ad 0), .int a1, .int a2, .int a3].toArray s = true := fun w h => atoms_spec (ws := ws_C_release) B.pre w (List.mem_cons_of_mem _ h)
  have hown : s.vm.findClass "RollStages" = some m.cls := findClass_of_methodNamed B.named
  have hlocks := B.notSynchronized
  have hS : va_S A s.heap s.heap [] := va_S.rf
  have hw : mwG G A ad (encC G.2 ad nr nm s0) s.heap := hw
  have hl := lv_entry ([.ref (ad 0), .int a1, .int a2, .int a3]) (n := 4) (Nat.le_of_ble_eq_true rfl)
  rw [lg_entry_eq]
  generalize (lg_sl ([.ref (ad 0), .int a1, .int a2, .int a3]) ++ List.replicate (4 - (lg_sl ([.ref (ad 0), .int a1, .int a2, .int a3])).length) Slot.unset).toArray = ls at hl ⊢
  have hl : lv_has ls 4 [(0, .ref (ad 0)), (1, .int a1), (2, .int a2), (3, .int a3)] := hl
  refine lv_aload_n hx hb d_C_release_0 rfl (lv_at hl 0 rfl) ?_
  refine mw_get (v := .int (s0 0 4)) hx hb hts in_C hown hK.1 hw (0) cC_0 rfl 4 (by decide) (hts _ tw_62) rfl d_C_release_1 ?_
  refine lv_bipush (v := 16) hx hb d_C_release_4 (by decide) ?_
  refine lv_icmp_ge (tgt := 26) hx hb d_C_release_6 (by decide) (fun h1 => ?_) (fun h1 => ?_)
  · skip
    refine lv_iconst (v := -1) hx hb d_C_release_26 (by decide) ?_
    have e9 : f_C_release nr s0 a1 a2 a3 = (-1, nr, s0) := by unfold f_C_release; rw [if_neg (Int32.not_lt.mpr h1)]
    refine W.widen (k := 3) (n := 24) (Nat.zero_le _) (Nat.zero_le _) ?_
    exact mw_iret hx hb hr rfl hw hS (congrArg (fun z => some (Value.int z.1)) e9.symm) ⟨rfl, by rw [e9]⟩ hlocks d_C_release_27
  · skip
    refine lv_iload_n hx hb d_C_release_9 rfl (lv_at hl 1 rfl) ?_
    refine gS (As := [.int (a1)]) (rest := []) (st1 := [.int (f_C_isChannel a1)]) ⟨hx, hb, hml, hown, hts⟩ (cc_C_isChannel l G A ad nr nm hnr hnm s0 a1) tw_86 tw_84 tw_85 tw_1 hd_C_isChannel rfl rfl ⟨Nat.le_of_ble_eq_true rfl, Nat.le_of_ble_eq_true rfl⟩ hK hw hS hl.1 rfl (Nat.le_of_ble_eq_true rfl) ⟨Nat.zero_le _, Nat.zero_le _⟩ d_C_release_10 rfl (fun H locs hw hS => ?_)
    refine lv_if_eq (tgt := 26) hx hb d_C_release_13 (by decide) (fun h2 => ?_) (fun h2 => ?_)
    · skip
      refine lv_iconst (v := -1) hx hb d_C_release_26 (by decide) ?_
      have e9 : f_C_release nr s0 a1 a2 a3 = (-1, nr, s0) := by unfold f_C_release; rw [if_pos (Int32.not_le.mp h1), if_pos h2]
      refine W.widen (k := 3) (n := 24) (Nat.zero_le _) (Nat.zero_le _) ?_
      exact mw_iret hx hb hr rfl hw hS (congrArg (fun z => some (Value.int z.1)) e9.symm) ⟨rfl, by rw [e9]⟩ hlocks d_C_release_27
    · skip
      refine lv_iload_n hx hb d_C_release_16 rfl (lv_at hl 3 rfl) ?_
      refine lv_iconst (v := 1) hx hb d_C_release_17 (by decide) ?_
      refine lv_ldc (v := 100000) hx hb hown (hts _ tw_90) d_C_release_18 ?_
      refine gS (As := [.int (a3), .int (1), .int (100000)]) (rest := []) (st1 := [.int (f_C_within a3 1 100000)]) ⟨hx, hb, hml, hown, hts⟩ (cc_C_within l G A ad nr nm hnr hnm s0 a3 1 100000) tw_89 tw_87 tw_88 tw_1 hd_C_within rfl rfl ⟨Nat.le_of_ble_eq_true rfl, Nat.le_of_ble_eq_true rfl⟩ hK hw hS hl.1 rfl (Nat.le_of_ble_eq_true rfl) ⟨Nat.zero_le _, Nat.zero_le _⟩ d_C_release_20 rfl (fun H locs hw hS => ?_)
      refine lv_if_ne (tgt := 28) hx hb d_C_release_23 (by decide) (fun h3 => ?_) (fun h3 => ?_)
      · skip
        refine lv_aload_n hx hb d_C_release_28 rfl (lv_at hl 0 rfl) ?_
        refine mw_get (v := .ref (ad (1))) hx hb hts in_C hown hK.1 hw (0) cC_0 rfl 0 (by decide) (hts _ tw_58) rfl d_C_release_29 ?_
        refine lv_aload_n hx hb d_C_release_32 rfl (lv_at hl 0 rfl) ?_
        refine mw_get (v := .int (s0 0 4)) hx hb hts in_C hown hK.1 hw (0) cC_0 rfl 4 (by decide) (hts _ tw_62) rfl d_C_release_33 ?_
        have hlt : nr < 16 := by
          have q := h1
          rw [hcnt] at q
          exact Nat.lt_of_not_le fun z => q ((nI_leI (a := 16) (b := nr) (by decide) (by omega)).mpr z)
        have hci : Int32.toNatClampNeg (s0 0 4) = nr := by rw [hcnt]; exact nI_clamp (by omega)
        refine mw_new (ci := 1) (fs := [.int 0, .int 0, .int 0, .null, .null, .int 0, .int 0, .int 0, .int 0, .int 0, .int 0, .int 0, .int 0, .int 0]) (C := R_R) (T := F_R) (N := 14) hx hb hts in_R ty_R ty_R_ok hown (hts _ tw_17) (hts _ tw_91) (hts _ tw_5) hK.1 hw hS (10 + 3 * nr) (encC_freeR hlt 0 (by omega)) rfl (by decide +kernel) (Nat.le_of_ble_eq_true rfl) (Nat.le_of_ble_eq_true rfl) d_C_release_36 (fun ad1 H hj hw hS => ?_)
        refine lv_dup hx hb d_C_release_39 rfl ?_
        refine lv_iload_n hx hb d_C_release_40 rfl (lv_at hl 1 rfl) ?_
        refine lv_iload_n hx hb d_C_release_41 rfl (lv_at hl 2 rfl) ?_
        refine lv_iload_n hx hb d_C_release_42 rfl (lv_at hl 3 rfl) ?_
        have hPc : va_P G.1 vcl [(ad1 (10 + 3 * nr), .inr (1, [.int 0, .int 0, .int 0, .null, .null, .int 0, .int 0, .int 0, .int 0, .int 0, .int 0, .int 0, .int 0, .int 0]))] H := hw.P (va_up_self _ _ _)
        have hFc := mw_free1 hw (va_up_self _ _ _)
        refine va_callv (va_runIN (As := [.int a1, .int a2, .int a3]) (rest := [.ref (ad1 (10 + 3 * nr)), .int (s0 0 4), .ref (ad 1)]) ⟨hx, hb, hml, hown, hts⟩ (ca_R_init l G (ad1 (10 + 3 * nr)) H.size a1 a2 a3 hb2) ⟨va_cnB 3 hts (tb_in tw_94) rfl rfl rfl (hK.2.2.1 _ nw_1) (hts _ tw_5) hd_R_init ⟨Nat.le_of_ble_eq_true rfl, Nat.le_of_ble_eq_true rfl⟩, rfl, hts _ tw_93⟩ ⟨fun a U g mk q => ⟨q.1, q.2.1, q.2.2.1, q.2.2.2.1, KK.blind U g mk a q.2.2.2.2⟩, fun U hU hW => ⟨rfl, by rw [hU], by rw [hU]; exact hPc, va_D1, hK.warm hW⟩⟩ rfl rfl hl.1 rfl (lv_room (Nat.le_of_ble_eq_true rfl)) d_C_release_43 ⟨Nat.le_of_ble_eq_true rfl, Nat.le_of_ble_eq_true rfl⟩) hS (fun q _ h => hFc q h) hFc (fun u t H1 locs ht hvm hu hB hz1 hk1 hS => ?_)
        obtain ⟨q1, q2, hP1, hD1⟩ := hB
        rw [ht] at hP1
        obtain ⟨ad2, e20, e21, e2K, hw⟩ := newR_w hlt hj hw hz1 hk1 hP1 hD1
        refine W.eq (g2 := F0 m (43 + 3) ls [.ref (ad2 (10 + 3 * nr)), .int (s0 0 4), .ref (ad2 1)]) (by rw [e2K, e21]) ?_
        have hl : lv_has ls 4 [(0, .ref (ad2 0)), (1, .int a1), (2, .int a2), (3, .int a3)] := by rw [e20]; exact hl
        refine mw_astq (r := (R_R, F_R, 14)) hx hb hK.1 hw hS 1 1 (10 + 3 * nr) 1 (va_up_self _ _ _) rfl ((va_up_ne _ _ (by omega)).trans (cC_rel (i := nr) (by omega) (by omega))) rfl (by rw [hcnt]; exact vp_in_nI (by omega) (by decide)) d_C_release_46 (fun H locs hw hS => ?_)
        rw [newR_a hci] at hw
        have hnr2 : nr + 1 ≤ 16 := hlt
        refine lv_aload_n hx hb d_C_release_47 rfl (lv_at hl 0 rfl) ?_
        refine lv_dup hx hb d_C_release_48 rfl ?_
        refine mw_get (v := .int ((sR nr s0 a1 a2 a3) 0 4)) hx hb hts in_C hown hK.1 hw 0 cC_0 rfl 4 (by decide) (hts _ tw_62) rfl d_C_release_49 ?_
        refine lv_iconst (v := 1) hx hb d_C_release_52 (by decide) ?_
        refine lv_iadd hx hb d_C_release_53 ?_
        refine mw_put (v := .int ((sR nr s0 a1 a2 a3) 0 4 + 1)) hx hb hts in_C ty_C ty_C_ok n_C hown hK.1 hw hS 0 cC_0 rfl 4 (by decide) (hts _ tw_62) rfl rfl rfl (Nat.le_of_ble_eq_true rfl) d_C_release_54 (fun H locs hw hS => ?_)
        replace hw := mw_encC (r := upd ((sR nr s0 a1 a2 a3) 0) 4 ((sR nr s0 a1 a2 a3) 0 4 + 1)) hw cC_0
        have hw : mwG G A ad2 (encC G.2 ad2 (nr + 1) nm (up2 (sR nr s0 a1 a2 a3) 0 4 ((sR nr s0 a1 a2 a3) 0 4 + 1))) H := hw
        refine lv_aload_n hx hb d_C_release_57 rfl (lv_at hl 0 rfl) ?_
        refine mw_get (v := .int ((up2 (sR nr s0 a1 a2 a3) 0 4 ((sR nr s0 a1 a2 a3) 0 4 + 1)) 0 4)) hx hb hts in_C hown hK.1 hw 0 cC_0 rfl 4 (by decide) (hts _ tw_62) rfl d_C_release_58 ?_
        refine lv_iconst (v := 1) hx hb d_C_release_61 (by decide) ?_
        refine lv_isub hx hb d_C_release_62 ?_
        have s04 : (sR nr s0 a1 a2 a3) 0 4 = s0 0 4 := by unfold sR; rw [va_up_ne _ _ (by omega), va_up_ne _ _ (by omega), va_up_ne _ _ (by omega)]
        have e9 : f_C_release nr s0 a1 a2 a3 = ((up2 (sR nr s0 a1 a2 a3) 0 4 ((sR nr s0 a1 a2 a3) 0 4 + 1)) 0 4 - 1, nr + 1, up2 (sR nr s0 a1 a2 a3) 0 4 ((sR nr s0 a1 a2 a3) 0 4 + 1)) := by
          rw [up2_sf, s04]
          unfold f_C_release newR
          rw [if_pos (Int32.not_le.mp h1), if_neg h2, if_neg h3]
          rfl
        exact mw_iret hx hb hr rfl hw hS (congrArg (fun z => some (Value.int z.1)) e9.symm) ⟨e20, by rw [e9]⟩ hlocks d_C_release_63
      · skip
        refine lv_iconst (v := -1) hx hb d_C_release_26 (by decide) ?_
        have e9 : f_C_release nr s0 a1 a2 a3 = (-1, nr, s0) := by unfold f_C_release; rw [if_pos (Int32.not_le.mp h1), if_neg h2, if_pos h3]
        refine W.widen (k := 3) (n := 24) (Nat.zero_le _) (Nat.zero_le _) ?_
        exact mw_iret hx hb hr rfl hw hS (congrArg (fun z => some (Value.int z.1)) e9.symm) ⟨rfl, by rw [e9]⟩ hlocks d_C_release_27

set_option maxHeartbeats 4000000 in
set_option maxRecDepth 100000 in
theorem cc_C_machine (l : Launch) (G : Gx) (A : Nat → Prop) (ad : Nat → Nat) (nr nm : Nat) (hnr : nr ≤ 16) (hnm : nm ≤ 30) (s0 : S2) (a1 : Int32) (a2 : Int32) (hcnt : s0 0 5 = nI nm) : Met l y_C_machine ws_C_machine { frames := 3, cells := 1, slots := 5, locals := 80 } (PG G [.ref (ad 0), .int a1, .int a2] A ad (encC G.2 ad nr nm s0)) (mE A G.1 vcl (some (.int (f_C_machine nm s0 a1 a2).1)) (fun ad1 E1 => ad1 0 = ad 0 ∧ E1 = encC G.2 ad1 nr (f_C_machine nm s0 a1 a2).2.1 (f_C_machine nm s0 a1 a2).2.2)) 1 5 A := by
  refine Met.ofW (cc := c_C_machine) (maxL := 3) (ret := (some .int)) (by decide) rfl ?_
  intro p e s m args below meth c s₁ B hml hv
  obtain ⟨rfl, hw, hK⟩ := hv
  have hx := B.exec
  have hb := B.bytes
  have hr := B.returns
  have hts : ∀ w ∈ tbG, w.before [.ref (ad 0), .int a1, .int a2].toArray s = true := fun w h => atoms_spec (ws := ws_C_machine) B.pre w (List.mem_cons_of_mem _ h)
  have hown : s.vm.findClass "RollStages" = some m.cls := findClass_of_methodNamed B.named
  have hlocks := B.notSynchronized
  have hS : va_S A s.heap s.heap [] := va_S.rf
  have hw : mwG G A ad (encC G.2 ad nr nm s0) s.heap := hw
  have hl := lv_entry ([.ref (ad 0), .int a1, .int a2]) (n := 3) (Nat.le_of_ble_eq_true rfl)
  rw [lg_entry_eq]
  generalize (lg_sl ([.ref (ad 0), .int a1, .int a2]) ++ List.replicate (3 - (lg_sl ([.ref (ad 0), .int a1, .int a2])).length) Slot.unset).toArray = ls at hl ⊢
  have hl : lv_has ls 3 [(0, .ref (ad 0)), (1, .int a1), (2, .int a2)] := hl
  refine lv_aload_n hx hb d_C_machine_0 rfl (lv_at hl 0 rfl) ?_
  refine mw_get (v := .int (s0 0 5)) hx hb hts in_C hown hK.1 hw (0) cC_0 rfl 5 (by decide) (hts _ tw_63) rfl d_C_machine_1 ?_
  refine lv_bipush (v := 30) hx hb d_C_machine_4 (by decide) ?_
  refine lv_icmp_ge (tgt := 25) hx hb d_C_machine_6 (by decide) (fun h1 => ?_) (fun h1 => ?_)
  · skip
    refine lv_iconst (v := -1) hx hb d_C_machine_25 (by decide) ?_
    have e9 : f_C_machine nm s0 a1 a2 = (-1, nm, s0) := by unfold f_C_machine; rw [if_neg (Int32.not_lt.mpr h1)]
    refine W.widen (k := 1) (n := 5) (Nat.zero_le _) (Nat.zero_le _) ?_
    exact mw_iret hx hb hr rfl hw hS (congrArg (fun z => some (Value.int z.1)) e9.symm) ⟨rfl, by rw [e9]⟩ hlocks d_C_machine_26
  · skip
    refine lv_iload_n hx hb d_C_machine_9 rfl (lv_at hl 1 rfl) ?_
    refine gS (As := [.int (a1)]) (rest := []) (st1 := [.int (f_C_isChannel a1)]) ⟨hx, hb, hml, hown, hts⟩ (cc_C_isChannel l G A ad nr nm hnr hnm s0 a1) tw_86 tw_84 tw_85 tw_1 hd_C_isChannel rfl rfl ⟨Nat.le_of_ble_eq_true rfl, Nat.le_of_ble_eq_true rfl⟩ hK hw hS hl.1 rfl (Nat.le_of_ble_eq_true rfl) ⟨Nat.zero_le _, Nat.zero_le _⟩ d_C_machine_10 rfl (fun H locs hw hS => ?_)
    refine lv_if_eq (tgt := 25) hx hb d_C_machine_13 (by decide) (fun h2 => ?_) (fun h2 => ?_)
    · skip
      refine lv_iconst (v := -1) hx hb d_C_machine_25 (by decide) ?_
      have e9 : f_C_machine nm s0 a1 a2 = (-1, nm, s0) := by unfold f_C_machine; rw [if_pos (Int32.not_le.mp h1), if_pos h2]
      refine W.widen (k := 1) (n := 5) (Nat.zero_le _) (Nat.zero_le _) ?_
      exact mw_iret hx hb hr rfl hw hS (congrArg (fun z => some (Value.int z.1)) e9.symm) ⟨rfl, by rw [e9]⟩ hlocks d_C_machine_26
    · skip
      refine lv_iload_n hx hb d_C_machine_16 rfl (lv_at hl 2 rfl) ?_
      refine lv_iconst (v := 0) hx hb d_C_machine_17 (by decide) ?_
      refine lv_iconst (v := 3) hx hb d_C_machine_18 (by decide) ?_
      refine gS (As := [.int (a2), .int (0), .int (3)]) (rest := []) (st1 := [.int (f_C_within a2 0 3)]) ⟨hx, hb, hml, hown, hts⟩ (cc_C_within l G A ad nr nm hnr hnm s0 a2 0 3) tw_89 tw_87 tw_88 tw_1 hd_C_within rfl rfl ⟨Nat.le_of_ble_eq_true rfl, Nat.le_of_ble_eq_true rfl⟩ hK hw hS hl.1 rfl (Nat.le_of_ble_eq_true rfl) ⟨Nat.zero_le _, Nat.zero_le _⟩ d_C_machine_19 rfl (fun H locs hw hS => ?_)
      refine lv_if_ne (tgt := 27) hx hb d_C_machine_22 (by decide) (fun h3 => ?_) (fun h3 => ?_)
      · skip
        refine lv_aload_n hx hb d_C_machine_27 rfl (lv_at hl 0 rfl) ?_
        refine mw_get (v := .ref (ad (2))) hx hb hts in_C hown hK.1 hw (0) cC_0 rfl 1 (by decide) (hts _ tw_59) rfl d_C_machine_28 ?_
        refine lv_aload_n hx hb d_C_machine_31 rfl (lv_at hl 0 rfl) ?_
        refine mw_get (v := .int (s0 0 5)) hx hb hts in_C hown hK.1 hw (0) cC_0 rfl 5 (by decide) (hts _ tw_63) rfl d_C_machine_32 ?_
        have hlt : nm < 30 := by
          have q := h1
          rw [hcnt] at q
          exact Nat.lt_of_not_le fun z => q ((nI_leI (a := 30) (b := nm) (by decide) (by omega)).mpr z)
        have hci : Int32.toNatClampNeg (s0 0 5) = nm := by rw [hcnt]; exact nI_clamp (by omega)
        refine mw_new (ci := 2) (fs := [.int 0, .int 0, .int 0, .int 0, .int 0]) (C := R_M) (T := F_M) (N := 5) hx hb hts in_M ty_M ty_M_ok hown (hts _ tw_19) (hts _ tw_261) (hts _ tw_7) hK.1 hw hS (58 + nm) encC_freeM rfl (by decide +kernel) (Nat.le_of_ble_eq_true rfl) (Nat.le_of_ble_eq_true rfl) d_C_machine_35 (fun ad1 H hj hw hS => ?_)
        have e10 : ad1 0 = ad 0 := hj 0 (by omega)
        have e12 : ad1 2 = ad 2 := hj 2 (by omega)
        have hl : lv_has ls 3 [(0, .ref (ad1 0)), (1, .int a1), (2, .int a2)] := by rw [e10]; exact hl
        refine lv_dup hx hb d_C_machine_38 rfl ?_
        refine lv_iload_n hx hb d_C_machine_39 rfl (lv_at hl 1 rfl) ?_
        refine lv_iload_n hx hb d_C_machine_40 rfl (lv_at hl 2 rfl) ?_
        refine lv_aload_n hx hb d_C_machine_41 rfl (lv_at hl 0 rfl) ?_
        refine mw_get (v := .int (s0 0 5)) hx hb hts in_C hown hK.1 hw 0 (fs := fsMain ad (s0 0)) ((va_up_ne _ _ (by omega)).trans cC_0) rfl 5 (by decide) (hts _ tw_63) rfl d_C_machine_42 ?_
        have hE : encC G.2 ad1 nr nm s0 = encC G.2 ad nr nm s0 := by
          funext k
          exact encC_ad hnr (fun j hj2 => hj j (by omega))
        have hwl : mwG G (fun q => A q ∧ q ≠ ad1 (58 + nm)) ad1 (encC G.2 ad1 nr nm s0) H := mw_less hw (fun k e he => ⟨by rw [← hE]; exact he, fun z => by rw [z, encC_freeM] at he; cases he⟩)
        refine mw_callA (va_runS (As := [.int (s0 0 5)]) (rest := [.int a2, .int a1, .ref (ad1 (58 + nm)), .ref (ad1 (58 + nm)), .int (s0 0 5), .ref (ad 2)]) ⟨hx, hb, hml, hown, hts⟩ (cc_C_rowOf l G (fun q => A q ∧ q ≠ ad1 (58 + nm)) ad1 nr nm hnr hnm s0 (s0 0 5)) ⟨callB_of 1 hts (tb_in tw_264) rfl rfl rfl (hts _ tw_1) (hts _ tw_262) hd_C_rowOf ⟨Nat.le_of_ble_eq_true rfl, Nat.le_of_ble_eq_true rfl⟩, hts _ tw_263⟩ (preG hK hwl) rfl rfl hl.1 rfl (lv_room (Nat.le_of_ble_eq_true rfl)) d_C_machine_45 ⟨Nat.le_of_ble_eq_true rfl, Nat.le_of_ble_eq_true rfl⟩) hS (fun q h => h.1) (fun ad3 E3 H1 locs hx3 hw3 hz3 hk3 hS => ?_)
        obtain ⟨rfl, rfl⟩ := hx3
        have hw := mw_more hw hz3 hk3 hw3
        rw [hE] at hw
        generalize H1 = H at hw hS ⊢
        refine W.eq (g2 := F0 m (45 + 3) ls [.int (f_C_rowOf (s0 0 5)), .int a2, .int a1, .ref (ad3 (58 + nm)), .ref (ad3 (58 + nm)), .int (s0 0 5), .ref (ad 2)]) rfl ?_
        refine W.widen (k := 1) (n := 5) (Nat.le_of_ble_eq_true rfl) (Nat.le_of_ble_eq_true rfl) ?_
        have hPc : va_P G.1 vcl [(ad3 (58 + nm), .inr (2, [.int 0, .int 0, .int 0, .int 0, .int 0]))] H := hw.P (va_up_self _ _ _)
        have hFc := mw_free1 hw (va_up_self _ _ _)
        refine va_callv (va_runIN (As := [.int a1, .int a2, .int (f_C_rowOf (s0 0 5))]) (rest := [.ref (ad3 (58 + nm)), .int (s0 0 5), .ref (ad 2)]) ⟨hx, hb, hml, hown, hts⟩ (ca_M_init l G (ad3 (58 + nm)) H.size a1 a2 (f_C_rowOf (s0 0 5))) ⟨va_cnB 3 hts (tb_in tw_270) rfl rfl rfl (hK.2.2.1 _ nw_14) (hts _ tw_7) hd_M_init ⟨Nat.le_of_ble_eq_true rfl, Nat.le_of_ble_eq_true rfl⟩, rfl, hts _ tw_269⟩ ⟨fun a U g mk q => ⟨q.1, q.2.1, q.2.2.1, q.2.2.2.1, KK.blind U g mk a q.2.2.2.2⟩, fun U hU hW => ⟨rfl, by rw [hU], by rw [hU]; exact hPc, va_D1, hK.warm hW⟩⟩ rfl rfl hl.1 rfl (lv_room (Nat.le_of_ble_eq_true rfl)) d_C_machine_48 ⟨Nat.le_of_ble_eq_true rfl, Nat.le_of_ble_eq_true rfl⟩) hS (fun q _ h => hFc q h) hFc (fun u t H1 locs ht hvm hu hB hz1 hk1 hS => ?_)
        obtain ⟨hP1, hD1⟩ := hB
        rw [ht] at hP1
        have hw := newM_w hnr hj hw hz1 hk1 hP1 hD1
        refine W.eq (g2 := F0 m (48 + 3) ls [.ref (ad3 (58 + nm)), .int (s0 0 5), .ref (ad3 2)]) (by rw [e12]) ?_
        refine mw_astq (r := (R_M, F_M, 5)) hx hb hK.1 hw hS 2 2 (58 + nm) 2 (va_up_self _ _ _) rfl ((va_up_ne _ _ (by omega)).trans (cC_mac (j := nm) (by omega))) rfl (by rw [hcnt]; exact vp_in_nI (by omega) (by decide)) d_C_machine_51 (fun H locs hw hS => ?_)
        rw [newM_a hci] at hw
        refine lv_aload_n hx hb d_C_machine_52 rfl (lv_at hl 0 rfl) ?_
        refine lv_dup hx hb d_C_machine_53 rfl ?_
        refine mw_get (v := .int ((sM nm s0 a1 a2 (f_C_rowOf (s0 0 5))) 0 5)) hx hb hts in_C hown hK.1 hw 0 cC_0 rfl 5 (by decide) (hts _ tw_63) rfl d_C_machine_54 ?_
        refine lv_iconst (v := 1) hx hb d_C_machine_57 (by decide) ?_
        refine lv_iadd hx hb d_C_machine_58 ?_
        refine mw_put (v := .int ((sM nm s0 a1 a2 (f_C_rowOf (s0 0 5))) 0 5 + 1)) hx hb hts in_C ty_C ty_C_ok n_C hown hK.1 hw hS 0 cC_0 rfl 5 (by decide) (hts _ tw_63) rfl rfl rfl (Nat.le_of_ble_eq_true rfl) d_C_machine_59 (fun H locs hw hS => ?_)
        replace hw := mw_encC (r := upd ((sM nm s0 a1 a2 (f_C_rowOf (s0 0 5))) 0) 5 ((sM nm s0 a1 a2 (f_C_rowOf (s0 0 5))) 0 5 + 1)) hw cC_0
        have hw : mwG G A ad3 (encC G.2 ad3 nr (nm + 1) (up2 (sM nm s0 a1 a2 (f_C_rowOf (s0 0 5))) 0 5 ((sM nm s0 a1 a2 (f_C_rowOf (s0 0 5))) 0 5 + 1))) H := hw
        refine lv_aload_n hx hb d_C_machine_62 rfl (lv_at hl 0 rfl) ?_
        refine mw_get (v := .int ((up2 (sM nm s0 a1 a2 (f_C_rowOf (s0 0 5))) 0 5 ((sM nm s0 a1 a2 (f_C_rowOf (s0 0 5))) 0 5 + 1)) 0 5)) hx hb hts in_C hown hK.1 hw 0 cC_0 rfl 5 (by decide) (hts _ tw_63) rfl d_C_machine_63 ?_
        refine lv_iconst (v := 1) hx hb d_C_machine_66 (by decide) ?_
        refine lv_isub hx hb d_C_machine_67 ?_
        have s04 : (sM nm s0 a1 a2 (f_C_rowOf (s0 0 5))) 0 5 = s0 0 5 := by unfold sM; rw [va_up_ne _ _ (by omega)]
        have e9 : f_C_machine nm s0 a1 a2 = ((up2 (sM nm s0 a1 a2 (f_C_rowOf (s0 0 5))) 0 5 ((sM nm s0 a1 a2 (f_C_rowOf (s0 0 5))) 0 5 + 1)) 0 5 - 1, nm + 1, up2 (sM nm s0 a1 a2 (f_C_rowOf (s0 0 5))) 0 5 ((sM nm s0 a1 a2 (f_C_rowOf (s0 0 5))) 0 5 + 1)) := by
          rw [up2_sf, s04]
          unfold f_C_machine newM
          rw [if_pos (Int32.not_le.mp h1), if_neg h2, if_neg h3]
          rfl
        exact mw_iret hx hb hr rfl hw hS (congrArg (fun z => some (Value.int z.1)) e9.symm) ⟨e10, by rw [e9]⟩ hlocks d_C_machine_68
      · skip
        refine lv_iconst (v := -1) hx hb d_C_machine_25 (by decide) ?_
        have e9 : f_C_machine nm s0 a1 a2 = (-1, nm, s0) := by unfold f_C_machine; rw [if_pos (Int32.not_le.mp h1), if_neg h2, if_pos h3]
        refine W.widen (k := 1) (n := 5) (Nat.zero_le _) (Nat.zero_le _) ?_
        exact mw_iret hx hb hr rfl hw hS (congrArg (fun z => some (Value.int z.1)) e9.symm) ⟨rfl, by rw [e9]⟩ hlocks d_C_machine_26

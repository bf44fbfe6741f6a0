/-! THE WORLD BY PLACES: a place k has an address ad k and, where it stands, a cell E k; every cell lies in A; A holds all that is new -/
def mw (A : Nat → Prop) (D : va_G) (cl : List vw_C) (ad : Nat → Nat) (E : Nat → Option va_E) (H : Heap) : Prop :=
  (∀ (k : Nat) (e : va_E), E k = some e → va_at D cl (ad k, e) H ∧ A (ad k)) ∧ (∀ (j k : Nat) (e f : va_E), E j = some e → E k = some f → ad j = ad k → j = k) ∧ ∀ q : Nat, H.size ≤ q → A q
theorem mw.P {A : Nat → Prop} {D : va_G} {cl : List vw_C} {ad : Nat → Nat} {E : Nat → Option va_E} {H : Heap} (h : mw A D cl ad E H) {k : Nat} {e : va_E} (he : E k = some e) : va_P D cl [(ad k, e)] H := by
  intro i q hq
  cases i with
  | zero =>
    have hq' : (ad k, e) = q := Option.some.inj hq
    subst hq'
    exact (h.1 k e he).1
  | succ i => simp at hq
theorem mw.lt {A : Nat → Prop} {D : va_G} {cl : List vw_C} {ad : Nat → Nat} {E : Nat → Option va_E} {H : Heap} (h : mw A D cl ad E H) {k : Nat} {e : va_E} (he : E k = some e) : ad k < H.size := (h.1 k e he).1.lt
theorem mw.set {A : Nat → Prop} {D : va_G} {cl : List vw_C} {ad : Nat → Nat} {E : Nat → Option va_E} {H H1 : Heap} (h : mw A D cl ad E H) {k : Nat} {e0 e : va_E} (hk : E k = some e0) (he : va_at D cl (ad k, e) H1) (z : H1.size = H.size) (oq : ∀ q : Nat, q ≠ ad k → H1[q]? = H[q]?) : mw A D cl ad (va_up E k (some e)) H1 := by
  have key : ∀ (j : Nat) (f : va_E), va_up E k (some e) j = some f → ∃ f0, E j = some f0 := by
    intro j f hj
    by_cases hjk : j = k
    · subst hjk
      exact ⟨e0, hk⟩
    · rw [va_up_ne _ _ hjk] at hj
      exact ⟨f, hj⟩
  refine ⟨fun j f hj => ?_, fun i j f g hi hj hij => ?_, fun q hq => h.2.2 q (by omega)⟩
  · by_cases hjk : j = k
    · subst hjk
      rw [va_up_self] at hj
      cases hj
      exact ⟨he, (h.1 _ _ hk).2⟩
    · rw [va_up_ne _ _ hjk] at hj
      obtain ⟨h1, h2⟩ := h.1 j f hj
      exact ⟨h1.kept (oq _ (fun z => hjk (h.2.1 j k f e0 hj hk z))), h2⟩
  · obtain ⟨f0, h1⟩ := key i f hi
    obtain ⟨g0, h2⟩ := key j g hj
    exact h.2.1 i j f0 g0 h1 h2 hij
theorem mw.push {A : Nat → Prop} {D : va_G} {cl : List vw_C} {ad : Nat → Nat} {E : Nat → Option va_E} {H H1 : Heap} (h : mw A D cl ad E H) {k : Nat} {e : va_E} (hk : E k = none) (he : va_at D cl (H.size, e) H1) (z : H1.size = H.size + 1) (oq : ∀ q : Nat, q < H.size → H1[q]? = H[q]?) : mw A D cl (va_up ad k H.size) (va_up E k (some e)) H1 := by
  have key : ∀ (j : Nat) (f : va_E), va_up E k (some e) j = some f → (j = k ∧ f = e) ∨ (j ≠ k ∧ E j = some f ∧ va_up ad k H.size j = ad j ∧ ad j < H.size) := by
    intro j f hj
    by_cases hjk : j = k
    · subst hjk
      rw [va_up_self] at hj
      exact Or.inl ⟨rfl, (Option.some.inj hj).symm⟩
    · rw [va_up_ne _ _ hjk] at hj
      exact Or.inr ⟨hjk, hj, va_up_ne _ _ hjk, h.lt hj⟩
  refine ⟨fun j f hj => ?_, fun i j f g hi hj hij => ?_, fun q hq => h.2.2 q (by omega)⟩
  · rcases key j f hj with ⟨rfl, rfl⟩ | ⟨h1, h2, h3, h4⟩
    · rw [va_up_self]
      exact ⟨he, h.2.2 _ (Nat.le_refl _)⟩
    · rw [h3]
      exact ⟨(h.1 j f h2).1.kept (oq _ h4), (h.1 j f h2).2⟩
  · rcases key i f hi with ⟨rfl, rfl⟩ | ⟨h1, h2, h3, h4⟩ <;> rcases key j g hj with ⟨r1, r2⟩ | ⟨g1, g2, g3, g4⟩
    · exact r1.symm
    · rw [va_up_self, g3] at hij
      omega
    · subst r1
      rw [va_up_self, h3] at hij
      omega
    · rw [h3, g3] at hij
      exact h.2.1 i j f g h2 g2 hij
/-- what a world is, is its cells and its addresses where they stand -/
theorem mw.to {A : Nat → Prop} {D : va_G} {cl : List vw_C} {ad ad' : Nat → Nat} {E E' : Nat → Option va_E} {H : Heap} (h : mw A D cl ad E H) (hE : ∀ k, E k = E' k) (ha : ∀ k, E k ≠ none → ad' k = ad k) : mw A D cl ad' E' H := by
  obtain rfl : E = E' := funext hE
  refine ⟨fun k e he => ?_, fun i j f g hi hj hij => ?_, h.2.2⟩
  · rw [ha k (by rw [he]; exact fun z => by cases z)]
    exact h.1 k e he
  · rw [ha i (by rw [hi]; exact fun z => by cases z), ha j (by rw [hj]; exact fun z => by cases z)] at hij
    exact h.2.1 i j f g hi hj hij
/-- another's calls leave it alone: what lies outside B stays, and no cell of ours is in B -/
theorem mw.frame {A B : Nat → Prop} {D : va_G} {cl : List vw_C} {ad : Nat → Nat} {E : Nat → Option va_E} {H H1 : Heap} (h : mw A D cl ad E H) (hs : H.size ≤ H1.size) (hk : ∀ q : Nat, q < H.size → ¬ B q → H1[q]? = H[q]?) (hB : ∀ (k : Nat) (e : va_E), E k = some e → ¬ B (ad k)) : mw A D cl ad E H1 :=
  ⟨fun k e he => ⟨(h.1 k e he).1.kept (hk _ (h.lt he) (hB k e he)), (h.1 k e he).2⟩, h.2.1, fun q hq => h.2.2 q (Nat.le_trans hs hq)⟩
theorem mw.A {A B : Nat → Prop} {D : va_G} {cl : List vw_C} {ad : Nat → Nat} {E : Nat → Option va_E} {H : Heap} (h : mw A D cl ad E H) (h1 : ∀ (k : Nat) (e : va_E), E k = some e → B (ad k)) (h2 : ∀ q : Nat, H.size ≤ q → B q) : mw B D cl ad E H := ⟨fun k e he => ⟨(h.1 k e he).1, h1 k e he⟩, h.2.1, h2⟩
section MW
variable {p : Program} {l : Launch} {e : Env} {R : Room} {s : State} {m : MethodId} {args : Array Value} {below : List Frame} {meth : Method} {c : Code} {H : Heap} {locs : List Loc} {cells slots : Nat} {Q : State → Prop}
variable {cc : ByteArray} {pc : Nat} {ls : Array Slot} {rest : List Value} {D : va_G} {cl : List vw_C} {A : Nat → Prop} {ad : Nat → Nat} {E : Nat → Option va_E} {tys : List (ClassId × FieldType)} {H0 : Heap}
theorem mw_get (hexec : p.tables.exec = Jvm.exec) (hb : c.code = cc) {own C : String} {T : u_T} {N ci index : Nat} {Ts : List Cond} (hts : ∀ w ∈ Ts, w.before args s = true) (hin : ∀ w ∈ u_ws C T N, w ∈ Ts) (hown : s.vm.findClass own = some m.cls) (hK : va_K D cl tys s) (hw : mw A D cl ad E H) (k : Nat) {fs : List Value} (he : E k = some (.inr (ci, fs))) (hc : cl[ci]? = some (C, T, N)) (j : Nat) (hj : j < N) (hlink : (Cond.fieldLink own index (T j).1 (T j).2.1 (T j).2.2.1).before args s = true) {v : Value} (hv : fs[j]? = some v) (hdg : decode cc pc = .ok (.getfield index, 3))
    (kk : W p l e R s m args below meth c H locs cells slots Q (F0 m (pc + 3) ls (v :: rest))) : W p l e R s m args below meth c H locs cells slots Q (F0 m pc ls (.ref (ad k) :: rest)) :=
  va_get hexec hb hts hin hown hK (hw.P he) 0 rfl hc j hj hlink (fun _ h => h) hv hdg kk
theorem mw_getN (hexec : p.tables.exec = Jvm.exec) (hb : c.code = cc) {own C host : String} {T : u_T} {N ci index : Nat} {Ts : List Cond} (hts : ∀ w ∈ Ts, w.before args s = true) (hin : ∀ w ∈ u_ws C T N, w ∈ Ts) (hown : s.vm.findClass own = some m.cls) (hK : va_K D cl tys s) (hw : mw A D cl ad E H) (k : Nat) {fs : List Value} (he : E k = some (.inr (ci, fs))) (hc : cl[ci]? = some (C, T, N)) (j : Nat) (hj : j < N) (hlink : va_Nw (.fieldLinkNest own index (T j).1 (T j).2.1 (T j).2.2.1 host) s) {v : Value} (hv : fs[j]? = some v) (hdg : decode cc pc = .ok (.getfield index, 3))
    (kk : W p l e R s m args below meth c H locs cells slots Q (F0 m (pc + 3) ls (v :: rest))) : W p l e R s m args below meth c H locs cells slots Q (F0 m pc ls (.ref (ad k) :: rest)) :=
  va_getN hexec hb hts hin hown hK (hw.P he) 0 rfl hc j hj (va_Nw.use rfl hlink) (fun _ h => h) hv hdg kk
theorem mw_put (hexec : p.tables.exec = Jvm.exec) (hb : c.code = cc) {own C : String} {T : u_T} {N ci index : Nat} {Ts : List Cond} (hts : ∀ w ∈ Ts, w.before args s = true) (hin : ∀ w ∈ u_ws C T N, w ∈ Ts) (ty0 : Nat → FieldType) (hty : ∀ k, k < N → parseFieldDescriptor (T k).2.2.1 = some (ty0 k)) (hnm : ∀ a, a < N → ∀ b, b < N → a ≠ b → (T a).2.1 ≠ (T b).2.1) (hown : s.vm.findClass own = some m.cls) (hK : va_K D cl tys s) (hw : mw A D cl ad E H) (hS0 : va_S A H0 H locs) (k : Nat) {fs : List Value} (he : E k = some (.inr (ci, fs))) (hc : cl[ci]? = some (C, T, N)) (j : Nat) (hj : j < N) (hlink : (Cond.fieldLink own index (T j).1 (T j).2.1 (T j).2.2.1).before args s = true) (hfin : (T j).2.2.2 = false) {v : Value} (hn : narrow (ty0 j) v = v) (hfit : fits (ty0 j) v = true) (hl : j < fs.length)
    (hdg : decode cc pc = .ok (.putfield index, 3)) (kk : ∀ (H1 : Heap) (locs1 : List Loc), mw A D cl ad (va_up E k (some (.inr (ci, fs.set j v)))) H1 → va_S A H0 H1 locs1 → W p l e R s m args below meth c H1 locs1 cells slots Q (F0 m (pc + 3) ls rest)) : W p l e R s m args below meth c H locs cells slots Q (F0 m pc ls (v :: .ref (ad k) :: rest)) := by
  have hap := va_apart (own := own) hts hin ty0 hty hnm hK hc
  obtain ⟨⟨r, h1, cell, q1, q2, q3, q4⟩, hAk⟩ := hw.1 k _ he
  have hr : r = (C, T, N) := Option.some.inj (h1.symm.trans hc)
  subst hr
  obtain ⟨hS, hfc, kC, hkC, hkind⟩ := hK.1 ci _ hc
  obtain ⟨cf, kf, fi, f, hi, hsl⟩ := hS j hj
  have hlay := hts _ (hin _ (u_in_lay hj))
  unfold u_lay at hlay
  rw [if_neg (by rw [hfin]; decide)] at hlay
  have hst := (u_facts hfc hkC (u_lays hts hin hj) hi).1
  have h6 := u_store hfc hkC hkind hlay hi (hty j hj) hn hfit
  refine W.putK hexec hb (f := f) ⟨hown, hlink, ⟨_, _, _, hi⟩, hst⟩ (by rw [q2]; exact h6) q1 q3 (by rw [hsl]; exact k2_hasslot (q4 j hj)) rfl rfl hdg fun H' e1 e2 e3 => ?_
  rw [hsl] at e1 ⊢
  exact kk H' _ (hw.set he ⟨_, hc, t_OB.to (V := updV (vp_V fs) j v) ⟨_, e1, q2, q3, t_set q4 hap hj v⟩ (fun i _ => vp_updV_set hl v i)⟩ e2 e3) (hS0.put e2 e3 hAk)
theorem mw_putN (hexec : p.tables.exec = Jvm.exec) (hb : c.code = cc) {own C host : String} {T : u_T} {N ci index : Nat} {Ts : List Cond} (hts : ∀ w ∈ Ts, w.before args s = true) (hin : ∀ w ∈ u_ws C T N, w ∈ Ts) (ty0 : Nat → FieldType) (hty : ∀ k, k < N → parseFieldDescriptor (T k).2.2.1 = some (ty0 k)) (hnm : ∀ a, a < N → ∀ b, b < N → a ≠ b → (T a).2.1 ≠ (T b).2.1) (hown : s.vm.findClass own = some m.cls) (hK : va_K D cl tys s) (hw : mw A D cl ad E H) (hS0 : va_S A H0 H locs) (k : Nat) {fs : List Value} (he : E k = some (.inr (ci, fs))) (hc : cl[ci]? = some (C, T, N)) (j : Nat) (hj : j < N) (hlink : va_Nw (.fieldLinkNest own index (T j).1 (T j).2.1 (T j).2.2.1 host) s) (hfin : (T j).2.2.2 = false) {v : Value} (hn : narrow (ty0 j) v = v) (hfit : fits (ty0 j) v = true) (hl : j < fs.length)
    (hdg : decode cc pc = .ok (.putfield index, 3)) (kk : ∀ (H1 : Heap) (locs1 : List Loc), mw A D cl ad (va_up E k (some (.inr (ci, fs.set j v)))) H1 → va_S A H0 H1 locs1 → W p l e R s m args below meth c H1 locs1 cells slots Q (F0 m (pc + 3) ls rest)) : W p l e R s m args below meth c H locs cells slots Q (F0 m pc ls (v :: .ref (ad k) :: rest)) := by
  have hap := va_apart (own := own) hts hin ty0 hty hnm hK hc
  obtain ⟨⟨r, h1, cell, q1, q2, q3, q4⟩, hAk⟩ := hw.1 k _ he
  have hr : r = (C, T, N) := Option.some.inj (h1.symm.trans hc)
  subst hr
  obtain ⟨hS, hfc, kC, hkC, hkind⟩ := hK.1 ci _ hc
  obtain ⟨cf, kf, fi, f, hi, hsl⟩ := hS j hj
  have hlay := hts _ (hin _ (u_in_lay hj))
  unfold u_lay at hlay
  rw [if_neg (by rw [hfin]; decide)] at hlay
  have hst := (u_facts hfc hkC (u_lays hts hin hj) hi).1
  have h6 := u_store hfc hkC hkind hlay hi (hty j hj) hn hfit
  refine va_WputK hexec hb (f := f) hown (va_Nw.use rfl hlink) hi hst (by rw [q2]; exact h6) q1 q3 (by rw [hsl]; exact k2_hasslot (q4 j hj)) rfl rfl hdg fun H' e1 e2 e3 => ?_
  rw [hsl] at e1 ⊢
  exact kk H' _ (hw.set he ⟨_, hc, t_OB.to (V := updV (vp_V fs) j v) ⟨_, e1, q2, q3, t_set q4 hap hj v⟩ (fun i _ => vp_updV_set hl v i)⟩ e2 e3) (hS0.put e2 e3 hAk)
theorem mw_putF (hexec : p.tables.exec = Jvm.exec) (hb : c.code = cc) {own C : String} {T : u_T} {N ci index : Nat} {Ts : List Cond} (hts : ∀ w ∈ Ts, w.before args s = true) (hin : ∀ w ∈ u_ws C T N, w ∈ Ts) (ty0 : Nat → FieldType) (hty : ∀ k, k < N → parseFieldDescriptor (T k).2.2.1 = some (ty0 k)) (hnm : ∀ a, a < N → ∀ b, b < N → a ≠ b → (T a).2.1 ≠ (T b).2.1) (hown : s.vm.findClass own = some m.cls) (hK : va_K D cl tys s) (hw : mw A D cl ad E H) (hS0 : va_S A H0 H locs) (k : Nat) {fs : List Value} (he : E k = some (.inr (ci, fs))) (hc : cl[ci]? = some (C, T, N)) (j : Nat) (hj : j < N) (hlink : (Cond.fieldLink own index (T j).1 (T j).2.1 (T j).2.2.1).before args s = true) (hfin : (T j).2.2.2 = true) (hin2 : meth.name = "<init>") (hdecl : (T j).1 = own) {v : Value} (hn : narrow (ty0 j) v = v) (hfit : fits (ty0 j) v = true) (hl : j < fs.length)
    (hdg : decode cc pc = .ok (.putfield index, 3)) (kk : ∀ (H1 : Heap) (locs1 : List Loc), mw A D cl ad (va_up E k (some (.inr (ci, fs.set j v)))) H1 → va_S A H0 H1 locs1 → W p l e R s m args below meth c H1 locs1 cells slots Q (F0 m (pc + 3) ls rest)) : W p l e R s m args below meth c H locs cells slots Q (F0 m pc ls (v :: .ref (ad k) :: rest)) := by
  have hap := va_apart (own := own) hts hin ty0 hty hnm hK hc
  obtain ⟨⟨r, h1, cell, q1, q2, q3, q4⟩, hAk⟩ := hw.1 k _ he
  have hr : r = (C, T, N) := Option.some.inj (h1.symm.trans hc)
  subst hr
  obtain ⟨hS, hfc, kC, hkC, hkind⟩ := hK.1 ci _ hc
  obtain ⟨cf, kf, fi, f, hi, hsl⟩ := hS j hj
  have hlay := hts _ (hin _ (u_in_lay hj))
  unfold u_lay at hlay
  rw [if_pos hfin] at hlay
  have hst := (u_facts hfc hkC (u_lays hts hin hj) hi).1
  have hcf : m.cls = cf := by
    obtain ⟨_, _, c', _, _, _, -, -, hf', -, -, -, hown2, -⟩ := Cond.laysFinal_spec hlay
    have e1 : c' = cf := by have := hi.symm.trans hf'; simp at this; exact this.1.symm
    rw [hdecl] at hown2
    rw [← e1]; exact Option.some.inj (hown.symm.trans hown2)
  have h6 := u_fits hfc hkC hkind (Or.inr hlay) hi (hty j hj) hn hfit
  refine W.putFinK hexec hb hown hlink hi hst hcf hin2 (by rw [q2]; exact h6) q1 q3 (by rw [hsl]; exact k2_hasslot (q4 j hj)) rfl rfl hdg fun H' e1 e2 e3 => ?_
  rw [hsl] at e1 ⊢
  exact kk H' _ (hw.set he ⟨_, hc, t_OB.to (V := updV (vp_V fs) j v) ⟨_, e1, q2, q3, t_set q4 hap hj v⟩ (fun i _ => vp_updV_set hl v i)⟩ e2 e3) (hS0.put e2 e3 hAk)
theorem mw_iald (hexec : p.tables.exec = Jvm.exec) (hb : c.code = cc) (hK : va_K D cl tys s) (hw : mw A D cl ad E H) (k t0 : Nat) {cA : ClassId} {n : Nat} {f : Nat → Int32} (he : E k = some (.inl (cA, n, .inl f))) (ht : tys[t0]? = some (cA, .int)) {i : Int32} (hin : vp_in i n) (hdg : decode cc pc = .ok (.iaload, 1))
    (kk : W p l e R s m args below meth c H locs cells slots Q (F0 m (pc + 1) ls (.int (f i.toNatClampNeg) :: rest))) : W p l e R s m args below meth c H locs cells slots Q (F0 m pc ls (.int i :: .ref (ad k) :: rest)) :=
  va_iald hexec hb hK (hw.P he) 0 t0 rfl ht hin hdg kk
theorem mw_aldq (hexec : p.tables.exec = Jvm.exec) (hb : c.code = cc) (hK : va_K D cl tys s) (hw : mw A D cl ad E H) (k t0 : Nat) {cA : ClassId} {C : String} {n : Nat} {f : Nat → Option Nat} (he : E k = some (.inl (cA, n, .inr (.inr (.inr (.inr f)))))) (ht : tys[t0]? = some (cA, .object C)) {i : Int32} (hin : vp_in i n) (hdg : decode cc pc = .ok (.aaload, 1))
    (kk : W p l e R s m args below meth c H locs cells slots Q (F0 m (pc + 1) ls (va_rf (f i.toNatClampNeg) :: rest))) : W p l e R s m args below meth c H locs cells slots Q (F0 m pc ls (.int i :: .ref (ad k) :: rest)) :=
  va_aldq hexec hb hK (hw.P he) 0 t0 rfl ht hin hdg kk
theorem mw_alen (hexec : p.tables.exec = Jvm.exec) (hb : c.code = cc) (hK : va_K D cl tys s) (hw : mw A D cl ad E H) (k t0 : Nat) {cA : ClassId} {x : vp_A} (he : E k = some (.inl (cA, x))) {ty : FieldType} (ht : tys[t0]? = some (cA, ty)) {v : Int32} (hv : Int32.ofNat x.1 = v) (hdg : decode cc pc = .ok (.arraylength, 1))
    (kk : W p l e R s m args below meth c H locs cells slots Q (F0 m (pc + 1) ls (.int v :: rest))) : W p l e R s m args below meth c H locs cells slots Q (F0 m pc ls (.ref (ad k) :: rest)) :=
  va_alen hexec hb hK (hw.P he) 0 t0 rfl ht hv hdg kk
theorem mw_iast (hexec : p.tables.exec = Jvm.exec) (hb : c.code = cc) (hK : va_K D cl tys s) (hw : mw A D cl ad E H) (hS : va_S A H0 H locs) (k t0 : Nat) {cA : ClassId} {n : Nat} {f : Nat → Int32} (he : E k = some (.inl (cA, n, .inl f))) (ht : tys[t0]? = some (cA, .int)) {i : Int32} {x : Int32} (hin : vp_in i n) (hdg : decode cc pc = .ok (.iastore, 1))
    (kk : ∀ (H1 : Heap) (locs1 : List Loc), mw A D cl ad (va_up E k (some (.inl (cA, n, .inl (upd f i.toNatClampNeg x))))) H1 → va_S A H0 H1 locs1 → W p l e R s m args below meth c H1 locs1 cells slots Q (F0 m (pc + 1) ls rest)) : W p l e R s m args below meth c H locs cells slots Q (F0 m pc ls (.int x :: .int i :: .ref (ad k) :: rest)) := by
  refine W.iast hexec hb (hw.1 k _ he).1 ((hK.2 t0 _ ht).1 n (fun j => .int (f j))) (fun q => by cases q) (by show ¬ (i < 0 ∨ (arrV _ _ _).slots.size ≤ _); rw [arrV_size]; exact hin) rfl rfl hdg fun H1 e z oq => ?_
  refine kk H1 _ (hw.set he ?_ z oq) (hS.put z oq (hw.1 k _ he).2)
  show H1[ad k]? = some (vp_cell _ _)
  rw [e]
  rw [vp_cell_i, vp_cell_i, arrV_store]
  congr 2
  funext q
  by_cases hq : q = i.toNatClampNeg
  · subst hq
    simp [updV, upd]
  · simp [updV, upd, hq]
theorem mw_astq (hexec : p.tables.exec = Jvm.exec) (hb : c.code = cc) (hK : va_K D cl tys s) (hw : mw A D cl ad E H) (hS : va_S A H0 H locs) (k t0 kv ci : Nat) {cA : ClassId} {r : vw_C} {n : Nat} {vs : List Value} {f : Nat → Option Nat} (he : E k = some (.inl (cA, n, .inr (.inr (.inr (.inr f)))))) (ht : tys[t0]? = some (cA, .object r.1)) (hv : E kv = some (.inr (ci, vs))) (hc : cl[ci]? = some r) {i : Int32} (hin : vp_in i n) (hdg : decode cc pc = .ok (.aastore, 1))
    (kk : ∀ (H1 : Heap) (locs1 : List Loc), mw A D cl ad (va_up E k (some (.inl (cA, n, .inr (.inr (.inr (.inr (va_up f i.toNatClampNeg (some (ad kv)))))))))) H1 → va_S A H0 H1 locs1 → W p l e R s m args below meth c H1 locs1 cells slots Q (F0 m (pc + 1) ls rest)) : W p l e R s m args below meth c H locs cells slots Q (F0 m pc ls (.ref (ad kv) :: .int i :: .ref (ad k) :: rest)) := by
  have hlt : i.toNatClampNeg < n := Nat.not_le.mp fun q => hin (Or.inr q)
  have h0 : ¬ i < 0 := fun q => hin (Or.inl q)
  obtain ⟨⟨r', hr', cellV, g1, g2, g3, -⟩, -⟩ := hw.1 kv _ hv
  have hcls := (hK.1 ci r hc).2
  obtain ⟨kA, comp, k1, k2, k3, -⟩ := (hK.2 t0 _ ht).2
  have hcomp : comp = D.1 ci := Option.some.inj (k3.symm.trans hcls.1)
  subst hcomp
  obtain ⟨kC, hkC, -⟩ := hcls.2
  refine W.aast hexec hb (hw.1 k _ he).1 (fun q h => by cases h) (fun h => by cases h) k1 k2 rfl hkC ⟨h0, by show _ < (arrV _ _ _).slots.size; rw [arrV_size]; exact hlt⟩ g1 (fun q h => by rw [g3] at h; cases h) (by rw [g2]; exact hkC) (by rw [g2]; exact va_assign hcls) rfl rfl hdg fun H1 e z oq => ?_
  refine kk H1 _ (hw.set he ?_ z oq) (hS.put z oq (hw.1 k _ he).2)
  show H1[ad k]? = some (vp_cell _ _)
  rw [e]
  rw [vp_cell_q, vp_cell_q, arrV_store]
  congr 2
  funext q
  by_cases hq : q = i.toNatClampNeg
  · subst hq
    simp [updV, va_up, va_rf]
  · simp [updV, va_up, hq]
theorem mw_new {c0 : Code} (hexec : p.tables.exec = Jvm.exec) (hb : c0.code = cc) {own C : String} {T : u_T} {N ci index : Nat} {Ts : List Cond} (hts : ∀ w ∈ Ts, w.before args s = true) (hin : ∀ w ∈ u_ws C T N, w ∈ Ts) (ty : Nat → FieldType) (hty : ∀ k, k < N → parseFieldDescriptor (T k).2.2.1 = some (ty k)) (hown : s.vm.findClass own = some m.cls) (hcl : (Cond.classLink own index C).before args s = true) (hinst : (Cond.instantiable C N).before args s = true) (hini : (Cond.initialized C).before args s = true)
    (hK : va_K D cl tys s) (hw : mw A D cl ad E H) (hS : va_S A H0 H locs) (k : Nat) (hk : E k = none) (hc : cl[ci]? = some (C, T, N)) {fs : List Value} (hfs : ∀ j, j < N → defaultValue (ty j) = vp_V fs j) (hcells : cells + 1 ≤ R.cells) (hslots : slots + N ≤ R.slots) (hdg : decode cc pc = .ok (.new index, 3))
    (kk : ∀ (ad1 : Nat → Nat) (H1 : Heap), (∀ j, j ≠ k → ad1 j = ad j) → mw A D cl ad1 (va_up E k (some (.inr (ci, fs)))) H1 → va_S A H0 H1 locs →
      W p l e R s m args below meth c0 H1 locs (cells + 1) (slots + N) Q (F0 m (pc + 3) ls (.ref (ad1 k) :: rest))) : W p l e R s m args below meth c0 H locs cells slots Q (F0 m pc ls rest) := by
  have hKn := hK.1 ci _ hc
  refine W.newcK hexec hb hown hcl hinst hini rfl hdg hcells hslots hKn.2.1 rfl fun H1 kC hkC e1 z1 o1 => ?_
  have h1 : mw A D cl (va_up ad k H.size) (va_up E k (some (.inr (ci, fs)))) H1 := hw.push hk ⟨_, hc, (u_born ty hts hin hKn hkC e1 hty).to hfs⟩ z1 o1
  have h2 := kk (va_up ad k H.size) H1 (fun j hj => va_up_ne _ _ hj) h1 ⟨Nat.le_trans hS.1 (by omega), fun x g1 g2 => (o1 x (Nat.lt_of_lt_of_le g1 hS.1)).trans (hS.2.1 x g1 g2), hS.2.2⟩
  rw [va_up_self] at h2
  exact h2
theorem mw_newa (hexec : p.tables.exec = Jvm.exec) (hb : c.code = cc) (harr : (Cond.arrayClass .int).before args s = true) (hK : va_K D cl tys s) (hw : mw A D cl ad E H) (hS : va_S A H0 H locs) (k : Nat) (hk : E k = none) (t0 : Nat) {cA : ClassId} (ht : tys[t0]? = some (cA, .int))
    {n : Int32} {N' : Nat} (hn : ¬ n < 0) (hN : n.toNatClampNeg = N') (hbytes : N' * 4 ≤ 536870912) (hcells : cells + 1 ≤ R.cells) (hslots : slots + N' ≤ R.slots) (hdg : decode cc pc = .ok (.newarray .int, 2))
    (kk : ∀ (ad1 : Nat → Nat) (H1 : Heap), (∀ j, j ≠ k → ad1 j = ad j) → mw A D cl ad1 (va_up E k (some (.inl (cA, N', .inl (fun _ => 0))))) H1 → va_S A H0 H1 locs →
      W p l e R s m args below meth c H1 locs (cells + 1) (slots + N') Q (F0 m (pc + 2) ls (.ref (ad1 k) :: rest))) : W p l e R s m args below meth c H locs cells slots Q (F0 m pc ls (.int n :: rest)) := by
  refine va_newaK hexec hb (atype := .int) harr rfl hdg rfl hn hN hbytes hcells hslots rfl fun H1 cA1 e1 z1 o1 hAr hNm => ?_
  have hcA : cA1 = cA := Option.some.inj (hNm.symm.trans (hK.2 t0 _ ht).2)
  subst hcA
  have h1 : mw A D cl (va_up ad k H.size) (va_up E k (some (.inl (cA1, N', .inl (fun _ => 0))))) H1 := hw.push hk e1 z1 o1
  have h2 := kk (va_up ad k H.size) H1 (fun j hj => va_up_ne _ _ hj) h1 ⟨Nat.le_trans hS.1 (by omega), fun x g1 g2 => (o1 x (Nat.lt_of_lt_of_le g1 hS.1)).trans (hS.2.1 x g1 g2), hS.2.2⟩
  rw [va_up_self] at h2
  exact h2
theorem mw_newq (hexec : p.tables.exec = Jvm.exec) (hb : c.code = cc) {own C : String} {index : Nat} (hown : s.vm.findClass own = some m.cls) (hclink : (Cond.classLink own index C).before args s = true) (hover : va_AO C s) (hK : va_K D cl tys s) (hw : mw A D cl ad E H) (hS : va_S A H0 H locs) (k : Nat) (hk : E k = none) (t0 : Nat) {cA : ClassId} (ht : tys[t0]? = some (cA, .object C))
    {n : Int32} {N' : Nat} (hn : ¬ n < 0) (hN : n.toNatClampNeg = N') (hbytes : N' * 4 ≤ 536870912) (hcells : cells + 1 ≤ R.cells) (hslots : slots + N' ≤ R.slots) (hdg : decode cc pc = .ok (.anewarray index, 3))
    (kk : ∀ (ad1 : Nat → Nat) (H1 : Heap), (∀ j, j ≠ k → ad1 j = ad j) → mw A D cl ad1 (va_up E k (some (.inl (cA, N', .inr (.inr (.inr (.inr (fun _ => none)))))))) H1 → va_S A H0 H1 locs →
      W p l e R s m args below meth c H1 locs (cells + 1) (slots + N') Q (F0 m (pc + 3) ls (.ref (ad1 k) :: rest))) : W p l e R s m args below meth c H locs cells slots Q (F0 m pc ls (.int n :: rest)) := by
  subst hN
  refine W.anew hexec hb hown hclink (va_AO.use hover) rfl hdg rfl hn hbytes hcells hslots fun cA1 kA comp f1 f2 f3 f4 => ?_
  have hcA : cA1 = cA := by
    obtain ⟨_, _, -, -, -, g4⟩ := (hK.2 t0 _ ht).2
    exact Option.some.inj (f1.symm.trans g4)
  subst hcA
  generalize hH1 : H.push ({ cls := cA1, slots := Array.replicate n.toNatClampNeg .null, vm := .none } : Cell) = H1
  have z1 : H1.size = H.size + 1 := by rw [← hH1, Array.size_push]
  have e1 : H1[H.size]? = some (arrV cA1 n.toNatClampNeg (fun _ => .null)) := by rw [← hH1, Array.getElem?_push_size, ← arrV_new]
  have o1 : ∀ q, q < H.size → H1[q]? = H[q]? := fun q hq => by rw [← hH1, Array.getElem?_push, if_neg (Nat.ne_of_lt hq)]
  have h1 : mw A D cl (va_up ad k H.size) (va_up E k (some (.inl (cA1, n.toNatClampNeg, .inr (.inr (.inr (.inr (fun _ => none)))))))) H1 := hw.push hk e1 z1 o1
  have h2 := kk (va_up ad k H.size) H1 (fun j hj => va_up_ne _ _ hj) h1 ⟨Nat.le_trans hS.1 (by omega), fun x g1 g2 => (o1 x (Nat.lt_of_lt_of_le g1 hS.1)).trans (hS.2.1 x g1 g2), hS.2.2⟩
  rw [va_up_self] at h2
  exact h2
/-- a contract's start and end: the world before, the answer, the world behind, what else stays -/
def mP (av : List Value) (A : Nat → Prop) (D : va_G) (cl : List vw_C) (ad : Nat → Nat) (E : Nat → Option va_E) (K : State → Prop) : Array Value → State → Prop := va_Pc av (fun U => mw A D cl ad E U.heap ∧ K U)
def mE (A : Nat → Prop) (D : va_G) (cl : List vw_C) (r : Option Value) (X : (Nat → Nat) → (Nat → Option va_E) → Prop) : Array Value → State → Outcome → State → Prop := fun _ st oc t => oc = .returned r ∧ (∃ ad1 E1, X ad1 E1 ∧ mw A D cl ad1 E1 t.heap) ∧ va_F A st t
/-- the end of a method that makes nothing -/
def mX (ad : Nat → Nat) (E : Nat → Option va_E) : (Nat → Nat) → (Nat → Option va_E) → Prop := fun ad1 E1 => ad1 = ad ∧ E1 = E
theorem mw_call {r : Option Value} {X : (Nat → Nat) → (Nat → Option va_E) → Prop} {st0 : List Value} {mc ms : Nat} {a : Array Value} (hr : va_Run p l e R s m args below meth c H locs cells slots mc ms (F0 m pc ls st0) rest (mE A D cl r X a) A) (hS : va_S A H0 H locs)
    (kk : ∀ (ad1 : Nat → Nat) (E1 : Nat → Option va_E) (H1 : Heap) (locs1 : List Loc), X ad1 E1 → mw A D cl ad1 E1 H1 → va_S A H0 H1 locs1 → W p l e R s m args below meth c H1 locs1 (cells + mc) (slots + ms) Q (F0 m (pc + 3) ls (r.toList ++ rest))) : W p l e R s m args below meth c H locs cells slots Q (F0 m pc ls st0) := by
  intro T hT X
  obtain ⟨v, st₀, t, T', L, h0, X', hL, e1, e2, ⟨hv, ⟨ad1, E1, hx, hw⟩, hz, hk⟩, st⟩ := hr T hT X
  cases hv
  rw [h0] at hz hk
  obtain ⟨t2, a1, b1⟩ := kk ad1 E1 T'.heap (locs ++ L) hx (by rw [e1]; exact hw)
    ⟨Nat.le_trans hS.1 (by rw [e1]; exact hz), fun q h1 h2 => by rw [e1, hk q (Nat.lt_of_lt_of_le h1 hS.1) h2]; exact hS.2.1 q h1 h2, fun q hq => by
      rcases List.mem_append.mp hq with h | h
      · exact hS.2.2 q h
      · exact hL q h⟩ T' rfl X'
  exact ⟨t2, st t2 a1, b1⟩
/-- .. where it makes nothing -/
theorem mw_call0 {r : Option Value} {ad' : Nat → Nat} {E' : Nat → Option va_E} {st0 : List Value} {a : Array Value} (hr : va_Run p l e R s m args below meth c H locs cells slots 0 0 (F0 m pc ls st0) rest (mE A D cl r (mX ad' E') a) A) (hS : va_S A H0 H locs)
    (kk : ∀ (H1 : Heap) (locs1 : List Loc), mw A D cl ad' E' H1 → va_S A H0 H1 locs1 → W p l e R s m args below meth c H1 locs1 cells slots Q (F0 m (pc + 3) ls (r.toList ++ rest))) : W p l e R s m args below meth c H locs cells slots Q (F0 m pc ls st0) := by
  refine mw_call hr hS fun ad1 E1 H1 locs1 hx hw hS1 => ?_
  obtain ⟨rfl, rfl⟩ := hx
  exact kk H1 locs1 hw hS1
theorem mw_iret {X : (Nat → Nat) → (Nat → Option va_E) → Prop} {v : Int32} {ty : FieldType} {r : Option Value} (hexec : p.tables.exec = Jvm.exec) (hb : c.code = cc) (hr : meth.sig.returnType = some ty) (hn : narrow ty (.int v) = .int v) (hw : mw A D cl ad E H) (hS : va_S A s.heap H locs) (hv : some (Value.int v) = r) (hX : X ad E) (hlocks : meth.locks = false) (hdg : decode cc pc = .ok (.ireturn, 1)) :
    W p l e R s m args below meth c H locs cells slots (MQ below (mE A D cl r X) args s cells slots A) (F0 m pc ls [.int v]) := by
  subst hv
  exact W.zret hexec hb hr hn (fun t ht _ => ⟨rfl, ⟨ad, E, hX, by rw [ht]; exact hw⟩, hS.F ht⟩) hS.2.2 hdg hlocks
theorem mw_vret {X : (Nat → Nat) → (Nat → Option va_E) → Prop} (hexec : p.tables.exec = Jvm.exec) (hb : c.code = cc) (hr : meth.sig.returnType = none) (hw : mw A D cl ad E H) (hS : va_S A s.heap H locs) (hX : X ad E) (hlocks : meth.locks = false) (hdg : decode cc pc = .ok (.return_, 1)) :
    W p l e R s m args below meth c H locs cells slots (MQ below (mE A D cl none X) args s cells slots A) (F0 m pc ls []) :=
  W.vret hexec hb hr (fun t ht _ => ⟨rfl, ⟨ad, E, hX, by rw [ht]; exact hw⟩, hS.F ht⟩) hS.2.2 hdg hlocks
theorem mw_aret {X : (Nat → Nat) → (Nat → Option va_E) → Prop} {v : Value} {rt : FieldType} {r : Option Value} (hexec : p.tables.exec = Jvm.exec) (hb : c.code = cc) (hr : meth.sig.returnType = some rt) (hrt : (∃ n, rt = .object n) ∨ ∃ t, rt = .array t) (hv0 : v = .null ∨ ∃ a, v = .ref a) (hw : mw A D cl ad E H) (hS : va_S A s.heap H locs) (hv : some v = r) (hX : X ad E) (hlocks : meth.locks = false) (hdg : decode cc pc = .ok (.areturn, 1)) :
    W p l e R s m args below meth c H locs cells slots (MQ below (mE A D cl r X) args s cells slots A) (F0 m pc ls [v]) := by
  subst hv
  exact W.aret hexec hb hr hrt hv0 (fun t ht _ => ⟨rfl, ⟨ad, E, hX, by rw [ht]; exact hw⟩, hS.F ht⟩) hS.2.2 hdg hlocks
end MW

/-! THE LAW: two worlds side by side -/
def TA (adT : Nat → Nat) (q : Nat) : Prop := ∃ k, (k = 0 ∨ (5 ≤ k ∧ k ≤ 30)) ∧ adT k = q
def CA (G : Gx) (ad : Nat → Nat) (nr nm : Nat) (s : S2) (q : Nat) : Prop := ∃ j e, encC G.2 ad nr nm s j = some e ∧ ad j = q
def two (G : Gx) (A : Nat → Prop) (ad : Nat → Nat) (nr nm : Nat) (s : S2) (adT : Nat → Nat) (t : S2) (H : Heap) : Prop :=
  (mwG G A ad (encC G.2 ad nr nm s) H) ∧
  (mwG G A adT (encT G.2 adT t) H) ∧
  (∀ j e, encC G.2 ad nr nm s j = some e → ¬ TA adT (ad j))
theorem two.wc {G : Gx} {A : Nat → Prop} {ad : Nat → Nat} {nr nm : Nat} {s : S2} {adT : Nat → Nat} {t : S2} {H : Heap} (h : two G A ad nr nm s adT t H) : mwG G A ad (encC G.2 ad nr nm s) H := h.1
theorem two.wt {G : Gx} {A : Nat → Prop} {ad : Nat → Nat} {nr nm : Nat} {s : S2} {adT : Nat → Nat} {t : S2} {H : Heap} (h : two G A ad nr nm s adT t H) : mwG G A adT (encT G.2 adT t) H := h.2.1
theorem two.dj {G : Gx} {A : Nat → Prop} {ad : Nat → Nat} {nr nm : Nat} {s : S2} {adT : Nat → Nat} {t : S2} {H : Heap} (h : two G A ad nr nm s adT t H) : ∀ j e, encC G.2 ad nr nm s j = some e → ¬ TA adT (ad j) := h.2.2
theorem encT_is {g : Nat → ClassId} {ad : Nat → Nat} {t : S2} {k : Nat} (h : k = 0 ∨ (5 ≤ k ∧ k ≤ 30)) : ∃ e, encT g ad t k = some e := by
  show ∃ e, cellT g ad k (t k) = some e
  unfold cellT
  rcases h with rfl | h
  · exact ⟨_, if_pos rfl⟩
  · rw [if_neg (by omega)]
    by_cases e : k = 18
    · rw [if_pos e]; exact ⟨_, rfl⟩
    · rw [if_neg e, if_pos h]; exact ⟨_, rfl⟩
theorem TA_lt {G : Gx} {A : Nat → Prop} {adT : Nat → Nat} {t : S2} {H : Heap} (h : mwG G A adT (encT G.2 adT t) H) {q : Nat} (hq : TA adT q) : q < H.size := by
  obtain ⟨k, hk, rfl⟩ := hq
  obtain ⟨e, he⟩ := encT_is (g := G.2) (ad := adT) (t := t) hk
  exact h.lt he
section TWO
variable {p : Program} {l : Launch} {e : Env} {R : Room} {s : State} {m : MethodId} {args : Array Value} {below : List Frame} {meth : Method} {c : Code} {H : Heap} {locs : List Loc} {cells slots : Nat} {Q : State → Prop}
variable {cc bytes : ByteArray} {pc : Nat} {ls : Array Slot} {rest As st0 st1 : List Value} {G : Gx} {A : Nat → Prop} {ad adT : Nat → Nat} {nr nm nr1 nm1 : Nat} {sc sc1 t t1 : S2} {H0 : Heap} {y : MethodName} {maxL nL index mc ms : Nat} {ret : Option FieldType} {rm : Room} {own : String} {r : Value}
/-- a call of the class's, beside the reference -/
theorem lawC {X : (Nat → Nat) → (Nat → Option va_E) → Prop} {x0 : Nat} (S : CallFix p m c cc nL s args tbG own) (hM : Met l y (.code y bytes maxL ret :: tbG) rm (PG G (.ref (ad 0) :: As) (fun q => A q ∧ ¬ TA adT q) ad (encC G.2 ad nr nm sc)) (mE (fun q => A q ∧ ¬ TA adT q) G.1 vcl (some r) X) mc ms (fun q => A q ∧ ¬ TA adT q)) (hX : ∀ ad1 E1, X ad1 E1 → ad1 0 = ad 0 ∧ E1 = encC G.2 ad1 nr1 nm1 sc1) (hcode : Cond.code y bytes maxL ret ∈ tbG) (hl : Cond.methodLink own index y ∈ tbG) (hin : Cond.instanceMethod y ∈ tbG) (hse : Cond.selects "RollStages" y y ∈ tbG) (hini : Cond.initialized y.cls ∈ tbG) (hd : y.cls ≠ "java/lang/invoke/MethodHandle" ∧ y.cls ≠ "java/lang/invoke/VarHandle" ∧ (parseMethodDescriptor y.desc).map (fun d => d.parameters.length) = some As.length) (hrc : rm.cells = mc) (hrs : rm.slots = ms) (hR : rm.frames + 1 ≤ R.frames ∧ 8 + (maxL + 11) + rm.locals ≤ R.locals) (hK : KK G s) (hw : two G A ad nr nm sc adT t H) (h0 : ad 0 = x0) (hS : va_S A H0 H locs) (hsize : ls.size = nL) (hstack : st0 = As.reverse ++ .ref x0 :: rest) (hroom : (rest.map fun v => v.category).sum ≤ 8) (hc : cells + mc ≤ R.cells ∧ slots + ms ≤ R.slots) (hdg : decode cc pc = .ok (.invokevirtual index, 3)) (hst1 : st1 = r :: rest)
    (kk : ∀ (ad1 : Nat → Nat) (H1 : Heap) (locs1 : List Loc), ad1 0 = x0 → two G A ad1 nr1 nm1 sc1 adT t H1 → va_S A H0 H1 locs1 → W p l e R s m args below meth c H1 locs1 (cells + mc) (slots + ms) Q (F0 m (pc + 3) ls st1)) : W p l e R s m args below meth c H locs cells slots Q (F0 m pc ls st0) := by
  subst hst1
  subst h0
  have hwA : mwG G (fun q => A q ∧ ¬ TA adT q) ad (encC G.2 ad nr nm sc) H := hw.wc.A (fun k e he => ⟨(hw.wc.1 k e he).2, hw.dj k e he⟩) (fun q hq => ⟨hw.wc.2.2 q hq, fun z => by have := TA_lt hw.wt z; omega⟩)
  refine mw_callA (va_runV S hM ⟨callB_of As.length S.2.2.2.2 (tb_in hcode) rfl hrc hrs (S.2.2.2.2 _ hini) (S.2.2.2.2 _ hl) hd hR, S.2.2.2.2 _ hin, S.2.2.2.2 _ hse⟩ (preGV hK hwA cC_0 rfl) rfl rfl hsize hstack (lv_room hroom) hdg hc) hS (fun q h => h.1) (fun ad1 E1 H1 locs1 hx hw1 hz hk hS1 => ?_)
  obtain ⟨h1, rfl⟩ := hX ad1 E1 hx
  refine kk ad1 H1 locs1 h1 ⟨hw1.A (fun k e he => (hw1.1 k e he).2.1) (fun q hq => hw.wc.2.2 q (Nat.le_trans hz hq)), ?_, fun j e he => (hw1.1 j e he).2.2⟩ hS1
  refine hw.wt.frame hz hk (fun k e he z => z.2 ?_)
  exact ⟨k, encT_some he, rfl⟩
/-- a call of the reference's, beside the class -/
theorem lawT {y0 : Nat} (S : CallFix p m c cc nL s args tbG own) (hM : Met l y (.code y bytes maxL ret :: tbG) rm (PG G (.ref (adT 0) :: As) (fun q => A q ∧ ¬ CA G ad nr nm sc q) adT (encT G.2 adT t)) (EG G (fun q => A q ∧ ¬ CA G ad nr nm sc q) (some r) adT (encT G.2 adT t1)) 0 0 (fun q => A q ∧ ¬ CA G ad nr nm sc q)) (hcode : Cond.code y bytes maxL ret ∈ tbG) (hl : Cond.methodLink own index y ∈ tbG) (hin : Cond.instanceMethod y ∈ tbG) (hse : Cond.selects "RollStagesModel" y y ∈ tbG) (hini : Cond.initialized y.cls ∈ tbG) (hd : y.cls ≠ "java/lang/invoke/MethodHandle" ∧ y.cls ≠ "java/lang/invoke/VarHandle" ∧ (parseMethodDescriptor y.desc).map (fun d => d.parameters.length) = some As.length) (hrc : rm.cells = 0) (hrs : rm.slots = 0) (hR : rm.frames + 1 ≤ R.frames ∧ 8 + (maxL + 11) + rm.locals ≤ R.locals) (hK : KK G s) (hw : two G A ad nr nm sc adT t H) (h0 : adT 0 = y0) (hS : va_S A H0 H locs) (hsize : ls.size = nL) (hstack : st0 = As.reverse ++ .ref y0 :: rest) (hroom : (rest.map fun v => v.category).sum ≤ 8) (hc : cells ≤ R.cells ∧ slots ≤ R.slots) (hdg : decode cc pc = .ok (.invokevirtual index, 3)) (hst1 : st1 = r :: rest)
    (kk : ∀ (H1 : Heap) (locs1 : List Loc), two G A ad nr nm sc adT t1 H1 → va_S A H0 H1 locs1 → W p l e R s m args below meth c H1 locs1 cells slots Q (F0 m (pc + 3) ls st1)) : W p l e R s m args below meth c H locs cells slots Q (F0 m pc ls st0) := by
  subst hst1
  subst h0
  have ap : ∀ k e, encT G.2 adT t k = some e → ¬ CA G ad nr nm sc (adT k) := by
    intro k e he z
    obtain ⟨j, f, hj, hjk⟩ := z
    exact hw.dj j f hj ⟨k, encT_some he, hjk.symm⟩
  have hwA : mwG G (fun q => A q ∧ ¬ CA G ad nr nm sc q) adT (encT G.2 adT t) H := hw.wt.A (fun k e he => ⟨(hw.wt.1 k e he).2, ap k e he⟩) (fun q hq => ⟨hw.wt.2.2 q hq, fun z => by
    obtain ⟨j, f, hj, hjk⟩ := z
    have := hw.wc.lt hj
    omega⟩)
  refine mw_callA (va_runV S hM ⟨callB_of As.length S.2.2.2.2 (tb_in hcode) rfl hrc hrs (S.2.2.2.2 _ hini) (S.2.2.2.2 _ hl) hd hR, S.2.2.2.2 _ hin, S.2.2.2.2 _ hse⟩ (preGV hK hwA cT_0 rfl) rfl rfl hsize hstack (lv_room hroom) hdg hc) hS (fun q h => h.1) (fun ad1 E1 H1 locs1 hx hw1 hz hk hS1 => ?_)
  obtain ⟨rfl, rfl⟩ := hx
  refine kk H1 locs1 ⟨?_, hw1.A (fun k e he => (hw1.1 k e he).2.1) (fun q hq => hw.wc.2.2 q (Nat.le_trans hz hq)), hw.dj⟩ hS1
  exact hw.wc.frame hz hk (fun k e he z => z.2 ⟨k, e, he, rfl⟩)
end TWO
/-- what stays through the law's run -/
def LF (p : Program) (R : Room) (s : State) (m : MethodId) (args : Array Value) (c : Code) (G : Gx) (A : Nat → Prop) (H0 : Heap) (b L : Nat) (xs : Nat → Int32) : Prop :=
  (p.tables.exec = Jvm.exec) ∧
  (c.code = c_L_law) ∧
  (c.maxLocals = 4) ∧
  (s.vm.findClass "RollStagesLaw" = some m.cls) ∧
  (∀ w ∈ tbG, w.before args s = true) ∧
  (KK G s) ∧
  (va_X b L xs s H0) ∧
  (b < H0.size) ∧
  (¬ A b) ∧
  (9 ≤ R.frames ∧ 318 ≤ R.locals)
theorem LF.hx {p : Program} {R : Room} {s : State} {m : MethodId} {args : Array Value} {c : Code} {G : Gx} {A : Nat → Prop} {H0 : Heap} {b L : Nat} {xs : Nat → Int32} (h : LF p R s m args c G A H0 b L xs) : p.tables.exec = Jvm.exec := h.1
theorem LF.hb {p : Program} {R : Room} {s : State} {m : MethodId} {args : Array Value} {c : Code} {G : Gx} {A : Nat → Prop} {H0 : Heap} {b L : Nat} {xs : Nat → Int32} (h : LF p R s m args c G A H0 b L xs) : c.code = c_L_law := h.2.1
theorem LF.hml {p : Program} {R : Room} {s : State} {m : MethodId} {args : Array Value} {c : Code} {G : Gx} {A : Nat → Prop} {H0 : Heap} {b L : Nat} {xs : Nat → Int32} (h : LF p R s m args c G A H0 b L xs) : c.maxLocals = 4 := h.2.2.1
theorem LF.hown {p : Program} {R : Room} {s : State} {m : MethodId} {args : Array Value} {c : Code} {G : Gx} {A : Nat → Prop} {H0 : Heap} {b L : Nat} {xs : Nat → Int32} (h : LF p R s m args c G A H0 b L xs) : s.vm.findClass "RollStagesLaw" = some m.cls := h.2.2.2.1
theorem LF.hts {p : Program} {R : Room} {s : State} {m : MethodId} {args : Array Value} {c : Code} {G : Gx} {A : Nat → Prop} {H0 : Heap} {b L : Nat} {xs : Nat → Int32} (h : LF p R s m args c G A H0 b L xs) : ∀ w ∈ tbG, w.before args s = true := h.2.2.2.2.1
theorem LF.hK {p : Program} {R : Room} {s : State} {m : MethodId} {args : Array Value} {c : Code} {G : Gx} {A : Nat → Prop} {H0 : Heap} {b L : Nat} {xs : Nat → Int32} (h : LF p R s m args c G A H0 b L xs) : KK G s := h.2.2.2.2.2.1
theorem LF.hX {p : Program} {R : Room} {s : State} {m : MethodId} {args : Array Value} {c : Code} {G : Gx} {A : Nat → Prop} {H0 : Heap} {b L : Nat} {xs : Nat → Int32} (h : LF p R s m args c G A H0 b L xs) : va_X b L xs s H0 := h.2.2.2.2.2.2.1
theorem LF.hbl {p : Program} {R : Room} {s : State} {m : MethodId} {args : Array Value} {c : Code} {G : Gx} {A : Nat → Prop} {H0 : Heap} {b L : Nat} {xs : Nat → Int32} (h : LF p R s m args c G A H0 b L xs) : b < H0.size := h.2.2.2.2.2.2.2.1
theorem LF.hbA {p : Program} {R : Room} {s : State} {m : MethodId} {args : Array Value} {c : Code} {G : Gx} {A : Nat → Prop} {H0 : Heap} {b L : Nat} {xs : Nat → Int32} (h : LF p R s m args c G A H0 b L xs) : ¬ A b := h.2.2.2.2.2.2.2.2.1
theorem LF.hR {p : Program} {R : Room} {s : State} {m : MethodId} {args : Array Value} {c : Code} {G : Gx} {A : Nat → Prop} {H0 : Heap} {b L : Nat} {xs : Nat → Int32} (h : LF p R s m args c G A H0 b L xs) : 9 ≤ R.frames ∧ 318 ≤ R.locals := h.2.2.2.2.2.2.2.2.2
def bz (v : Int32) : Int32 := if v = 0 then 0 else 1
theorem bz_01 (v : Int32) : bz v = 0 ∨ bz v = 1 := by
  unfold bz
  split
  · exact Or.inl rfl
  · exact Or.inr rfl
theorem bz_n (v : Int32) : narrow .boolean (.int (bz v)) = .int (bz v) := (b_fits (bz_01 v)).1

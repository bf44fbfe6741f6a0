/-! THE CLASS'S STATE: places 0 the object, 1 releases, 2 machines, 3 bounds, 4 deltas, 5 froms, 6 tos, 7 sizes, 8 reached, 9 next, 10+3i release i, its shares, its waits, 58+j machine j; s k j: the int in slot (or element) j of place k -/
abbrev S2 : Type := Nat → Nat → Int32
def up2 (s : S2) (k j : Nat) (v : Int32) : S2 := va_up s k (upd (s k) j v)
theorem up2_k (s : S2) (k j : Nat) (v : Int32) : up2 s k j v k = upd (s k) j v := va_up_self _ _ _
theorem up2_ne {s : S2} {k k' j : Nat} {v : Int32} (h : k' ≠ k) : up2 s k j v k' = s k' := va_up_ne _ _ h
theorem up2_at (s : S2) (k j : Nat) (v : Int32) (k' j' : Nat) : up2 s k j v k' j' = if k' = k ∧ j' = j then v else s k' j' := by
  unfold up2 va_up upd
  by_cases h : k' = k
  · subst h
    by_cases h2 : j' = j <;> simp [h2]
  · simp [h]
def fsMain (ad : Nat → Nat) (r : Nat → Int32) : List Value := [.ref (ad 1), .ref (ad 2), .ref (ad 3), .ref (ad 4), .int (r 4), .int (r 5), .int (r 6)]
def fsDel (ad : Nat → Nat) (r : Nat → Int32) : List Value := [.ref (ad 5), .ref (ad 6), .ref (ad 7), .int (r 3), .ref (ad 8), .ref (ad 9), .int (r 6), .int (r 7)]
def fsRel (ad : Nat → Nat) (k : Nat) (r : Nat → Int32) : List Value := [.int (r 0), .int (r 1), .int (r 2), .ref (ad (k + 1)), .ref (ad (k + 2)), .int (r 5), .int (r 6), .int (r 7), .int (r 8), .int (r 9), .int (r 10), .int (r 11), .int (r 12), .int (r 13)]
def fsMac (r : Nat → Int32) : List Value := [.int (r 0), .int (r 1), .int (r 2), .int (r 3), .int (r 4)]
def rfRel (ad : Nat → Nat) (nr : Nat) : Nat → Option Nat := fun i => if i < nr then some (ad (10 + 3 * i)) else none
def rfMac (ad : Nat → Nat) (nm : Nat) : Nat → Option Nat := fun i => if i < nm then some (ad (58 + i)) else none
def cellC (g : Nat → ClassId) (ad : Nat → Nat) (nr nm k : Nat) (r : Nat → Int32) : Option va_E :=
  if k = 0 then some (.inr (0, fsMain ad r)) else if k = 1 then some (.inl (g 1, 16, .inr (.inr (.inr (.inr (rfRel ad nr)))))) else if k = 2 then some (.inl (g 2, 30, .inr (.inr (.inr (.inr (rfMac ad nm)))))) else if k = 3 then some (.inl (g 0, 3, .inl r)) else if k = 4 then some (.inr (3, fsDel ad r))
  else if k < 8 then some (.inl (g 0, 40, .inl r)) else if k < 10 then some (.inl (g 0, 16, .inl r))
  else if k < 58 then (if (k - 10) / 3 < nr then (if (k - 10) % 3 = 0 then some (.inr (1, fsRel ad k r)) else some (.inl (g 0, 5, .inl r))) else none)
  else if k - 58 < nm then some (.inr (2, fsMac r)) else none
def encC (g : Nat → ClassId) (ad : Nat → Nat) (nr nm : Nat) (s : S2) : Nat → Option va_E := fun k => cellC g ad nr nm k (s k)
theorem encC_up {g : Nat → ClassId} {ad : Nat → Nat} {nr nm : Nat} {s : S2} {k : Nat} {r : Nat → Int32} {e : va_E} (h : cellC g ad nr nm k r = some e) : va_up (encC g ad nr nm s) k (some e) = encC g ad nr nm (va_up s k r) := by
  funext q
  by_cases hq : q = k
  · subst hq
    rw [va_up_self]
    show _ = cellC g ad nr nm q (va_up s q r q)
    rw [va_up_self, h]
  · rw [va_up_ne _ _ hq]
    show cellC g ad nr nm q (s q) = cellC g ad nr nm q (va_up s k r q)
    rw [va_up_ne _ _ hq]
theorem mw_encC {A : Nat → Prop} {D : va_G} {cl : List vw_C} {g : Nat → ClassId} {ad ad0 : Nat → Nat} {nr nm : Nat} {s : S2} {k : Nat} {r : Nat → Int32} {e : va_E} {H : Heap} (hw : mw A D cl ad0 (va_up (encC g ad nr nm s) k (some e)) H) (h : cellC g ad nr nm k r = some e) : mw A D cl ad0 (encC g ad nr nm (va_up s k r)) H := by
  rw [encC_up h] at hw
  exact hw
section CC
variable {g : Nat → ClassId} {ad : Nat → Nat} {nr nm : Nat} {r : Nat → Int32}
theorem cC_0 : cellC g ad nr nm 0 r = some (.inr (0, fsMain ad r)) := rfl
theorem cC_1 : cellC g ad nr nm 1 r = some (.inl (g 1, 16, .inr (.inr (.inr (.inr (rfRel ad nr)))))) := rfl
theorem cC_2 : cellC g ad nr nm 2 r = some (.inl (g 2, 30, .inr (.inr (.inr (.inr (rfMac ad nm)))))) := rfl
theorem cC_3 : cellC g ad nr nm 3 r = some (.inl (g 0, 3, .inl r)) := rfl
theorem cC_4 : cellC g ad nr nm 4 r = some (.inr (3, fsDel ad r)) := rfl
theorem cC_5 : cellC g ad nr nm 5 r = some (.inl (g 0, 40, .inl r)) := rfl
theorem cC_6 : cellC g ad nr nm 6 r = some (.inl (g 0, 40, .inl r)) := rfl
theorem cC_7 : cellC g ad nr nm 7 r = some (.inl (g 0, 40, .inl r)) := rfl
theorem cC_8 : cellC g ad nr nm 8 r = some (.inl (g 0, 16, .inl r)) := rfl
theorem cC_9 : cellC g ad nr nm 9 r = some (.inl (g 0, 16, .inl r)) := rfl
theorem cC_rel {i : Nat} (hn : nr ≤ 16) (hi : i < nr) : cellC g ad nr nm (10 + 3 * i) r = some (.inr (1, fsRel ad (10 + 3 * i) r)) := by
  unfold cellC
  rw [if_neg (by omega), if_neg (by omega), if_neg (by omega), if_neg (by omega), if_neg (by omega), if_neg (by omega), if_neg (by omega), if_pos (by omega), if_pos (by omega), if_pos (by omega)]
theorem cC_sh {i : Nat} (hn : nr ≤ 16) (hi : i < nr) : cellC g ad nr nm (10 + 3 * i + 1) r = some (.inl (g 0, 5, .inl r)) := by
  unfold cellC
  rw [if_neg (by omega), if_neg (by omega), if_neg (by omega), if_neg (by omega), if_neg (by omega), if_neg (by omega), if_neg (by omega), if_pos (by omega), if_pos (by omega), if_neg (by omega)]
theorem cC_wa {i : Nat} (hn : nr ≤ 16) (hi : i < nr) : cellC g ad nr nm (10 + 3 * i + 2) r = some (.inl (g 0, 5, .inl r)) := by
  unfold cellC
  rw [if_neg (by omega), if_neg (by omega), if_neg (by omega), if_neg (by omega), if_neg (by omega), if_neg (by omega), if_neg (by omega), if_pos (by omega), if_pos (by omega), if_neg (by omega)]
theorem cC_mac {j : Nat} (hj : j < nm) : cellC g ad nr nm (58 + j) r = some (.inr (2, fsMac r)) := by
  unfold cellC
  rw [if_neg (by omega), if_neg (by omega), if_neg (by omega), if_neg (by omega), if_neg (by omega), if_neg (by omega), if_neg (by omega), if_neg (by omega), if_pos (by omega)]
end CC

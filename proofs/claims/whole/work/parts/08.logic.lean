/-! THE LOGIC: a world of fixed cells (shp), whose ints alone change (a store: cell, place to int); contracts Ct; a walk's state G. -/
abbrev Sto : Type := Nat → Nat → Int32
/-- what a cell is: an object (its number among vwCl, its slots: a cell, or an int), a row of ints (0), booleans (1), longs (2), a row of references -/
abbrev CD : Type := (Nat × List (Option Nat)) ⊕ ((Nat × Nat) ⊕ List Nat)
def slF (ad : Nat → Nat) (t : Nat → Int32) (j : Nat) (r : Option Nat) : Value := match r with | some k => Value.ref (ad k) | none => Value.int (t j)
def cellE (cy : Nat → ClassId) (ad : Nat → Nat) (d : CD) (t : Nat → Int32) : va_E := match d with
  | .inl o => .inr (o.1, o.2.mapIdx (slF ad t))
  | .inr (.inl a) => if a.1 = 2 then .inl (cy 2, a.2, .inr (.inl (fun j => (t j).toInt64))) else .inl (cy a.1, a.2, .inl t)
  | .inr (.inr l) => .inl (cy 3, l.length, .inr (.inr (.inr (.inr (fun j => (l[j]?).map ad)))))
def wsW (sh : Nat → CD) (N : Nat) (cy : Nat → ClassId) (ad : Nat → Nat) (u : Sto) : va_W := (List.range N).map (fun k => (ad k, cellE cy ad (sh k) (u k)))
theorem wsW_get {sh : Nat → CD} {N : Nat} {cy : Nat → ClassId} {ad : Nat → Nat} {u : Sto} {k : Nat} (h : k < N) : (wsW sh N cy ad u)[k]? = some (ad k, cellE cy ad (sh k) (u k)) := by
  simp [wsW, h]
def su (u : Sto) (k j : Nat) (v : Int32) : Sto := fun a b => if a = k ∧ b = j then v else u a b
theorem su_same (u : Sto) (k j : Nat) (v : Int32) : su u k j v k j = v := by simp [su]
theorem su_ne (u : Sto) {k j a b : Nat} (v : Int32) (h : ¬ (a = k ∧ b = j)) : su u k j v a b = u a b := by simp [su, h]
theorem su_cell (u : Sto) {k j a : Nat} (v : Int32) (h : a ≠ k) : su u k j v a = u a := by funext b; simp [su, h]
theorem su_at (u : Sto) (k j : Nat) (v : Int32) : su u k j v k = upd (u k) j v := by funext b; simp [su, upd]
theorem wsW_set {sh : Nat → CD} {N : Nat} {cy : Nat → ClassId} {ad : Nat → Nat} {u : Sto} {k j : Nat} {v : Int32} {x : va_E} (h : k < N) (hx : cellE cy ad (sh k) (su u k j v k) = x) : (wsW sh N cy ad u).set k (ad k, x) = wsW sh N cy ad (su u k j v) := by
  subst hx
  apply List.ext_getElem?
  intro i
  rw [List.getElem?_set]
  by_cases hi : k = i
  · subst hi
    rw [if_pos rfl, wsW_get h]
    simp [wsW, h]
  · rw [if_neg hi]
    by_cases hN : i < N
    · rw [wsW_get hN, wsW_get hN, su_cell _ _ (fun q => hi q.symm)]
    · simp [wsW, hN]
/-- a slot of an object -/
theorem cellE_ref {cy : Nat → ClassId} {ad : Nat → Nat} {ci : Nat} {sl : List (Option Nat)} {t : Nat → Int32} : cellE cy ad (.inl (ci, sl)) t = .inr (ci, sl.mapIdx (slF ad t)) := rfl
theorem slot_r {ad : Nat → Nat} {sl : List (Option Nat)} {t : Nat → Int32} {j k : Nat} (h : sl[j]? = some (some k)) : (sl.mapIdx (slF ad t))[j]? = some (Value.ref (ad k)) := by
  simp [List.getElem?_mapIdx, h, slF]
theorem slot_i {ad : Nat → Nat} {sl : List (Option Nat)} {t : Nat → Int32} {j : Nat} (h : sl[j]? = some none) : (sl.mapIdx (slF ad t))[j]? = some (Value.int (t j)) := by
  simp [List.getElem?_mapIdx, h, slF]
theorem slot_set {ad : Nat → Nat} {sl : List (Option Nat)} {t : Nat → Int32} {j : Nat} {v : Int32} (h : sl[j]? = some none) : (sl.mapIdx (slF ad t)).set j (.int v) = sl.mapIdx (slF ad (upd t j v)) := by
  apply List.ext_getElem?
  intro i
  rw [List.getElem?_set, List.getElem?_mapIdx, List.getElem?_mapIdx]
  by_cases hi : j = i
  · subst hi
    have hl : j < sl.length := (List.getElem?_eq_some_iff.mp h).1
    rw [h]
    simp [hl, upd, slF]
  · have hi' : ¬ i = j := fun q => hi q.symm
    cases sl[i]? with
    | none => simp [hi]
    | some r => cases r <;> simp [hi, upd, hi', slF]
-- the words that stay true when tables warm
def nestB : Cond → Bool
  | .fieldLinkNest .. => true
  | .methodLinkNest .. => true
  | _ => false
def stableB (w : Cond) : Bool := (goodWord w || nestB w) || (w.onTables && w.keepsFace)
theorem stable_of {w : Cond} (hb : stableB w = true) {s U : State} (hW : s.WarmedH U.vm) {A A' : Array Value} (h : w.before A s = true) : w.before A' U = true := by
  rcases (Bool.or_eq_true _ _).mp hb with hb | h1
  rotate_left
  · obtain ⟨h2, h3⟩ := (Bool.and_eq_true _ _).mp h1
    exact va_tabs h2 (rfl : (s.setVm U.vm).vm = U.vm) (Cond.before_shiftedFace (State.Shifted.of_warmed hW) w h3 h)
  rcases (Bool.or_eq_true _ _).mp hb with h1 | h1
  · exact word_at hW (good_of_word h1) h
  · cases w with
    | fieldLinkNest a i b n d x => exact va_Nw.use rfl (va_Nw.warmF hW (va_Nw.of rfl h))
    | methodLinkNest a i x y => exact va_Nw.use rfl (va_Nw.warmM hW (va_Nw.of rfl h))
    | _ => simp [nestB] at h1
def xSel : List Cond := [.selects "HourLets$TownText" ⟨"HourLets$Text", "isBetween", "(ICC)Z"⟩ ⟨"HourLets$Text", "isBetween", "(ICC)Z"⟩, .selects "HourLets$LawText" ⟨"HourLets$Text", "isBetween", "(ICC)Z"⟩ ⟨"HourLets$Text", "isBetween", "(ICC)Z"⟩]
def TW : List Cond := (xSel ++ lw_tbl).filter stableB
theorem inTW {w : Cond} (h : w ∈ lw_tbl) (hb : stableB w = true) : w ∈ TW := List.mem_filter.mpr ⟨List.mem_append_right _ h, hb⟩
theorem inTX {w : Cond} (h : w ∈ xSel) (hb : stableB w = true) : w ∈ TW := List.mem_filter.mpr ⟨List.mem_append_left _ h, hb⟩

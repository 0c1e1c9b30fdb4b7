/-! memory: ints, longs, references; cells by number -/
abbrev gM : Type := (Nat → Nat → Int32) × (Nat → Nat → Int64) × (Nat → Nat → Option Nat)
def gwI (M : gM) (k j : Nat) (v : Int32) : gM := (fun a b => if a = k ∧ b = j then v else M.1 a b, M.2)
def gwL (M : gM) (k j : Nat) (v : Int64) : gM := (M.1, fun a b => if a = k ∧ b = j then v else M.2.1 a b, M.2.2)
def gwR (M : gM) (k j : Nat) (v : Option Nat) : gM := (M.1, M.2.1, fun a b => if a = k ∧ b = j then v else M.2.2 a b)
/-- kinds of the cells: (0, class, _), (1, array class, length) of ints, (2, ..) of longs, (3, ..) of references -/
def gKl : List (Nat × Nat × Nat) := [(0, 8, 0), (3, 4, 12), (3, 5, 4), (3, 6, 4), (3, 7, 10), (1, 0, 6), (0, 3, 0), (0, 6, 0), (1, 2, 600), (1, 0, 601), (1, 0, 601), (0, 1, 0), (1, 0, 16), (1, 0, 16), (1, 0, 16), (1, 0, 600), (1, 0, 32), (0, 1, 0), (1, 0, 16), (1, 0, 16), (1, 0, 16), (1, 0, 600), (1, 0, 32), (0, 2, 0), (1, 0, 4), (1, 0, 4), (1, 0, 4), (1, 0, 4), (1, 0, 6), (1, 0, 6), (1, 0, 6), (3, 8, 6), (1, 0, 4), (1, 0, 4), (1, 0, 4), (1, 0, 4), (1, 0, 4), (1, 0, 4), (1, 0, 6), (1, 0, 6), (1, 0, 7), (1, 0, 7), (0, 7, 0), (1, 0, 7), (0, 7, 0), (1, 0, 7), (0, 7, 0), (1, 0, 7), (0, 7, 0), (1, 0, 7), (0, 7, 0), (1, 0, 7), (0, 7, 0), (1, 0, 7), (0, 7, 0), (1, 0, 7), (0, 7, 0), (1, 0, 7), (0, 7, 0), (1, 0, 7), (0, 7, 0), (1, 0, 7), (0, 7, 0), (1, 0, 7), (0, 7, 0), (1, 0, 7), (0, 4, 0), (1, 0, 12), (0, 4, 0), (1, 0, 12), (0, 4, 0), (1, 0, 12), (0, 4, 0), (1, 0, 12), (0, 5, 0), (0, 5, 0), (0, 5, 0), (0, 5, 0), (0, 0, 0), (0, 0, 0), (0, 0, 0), (0, 0, 0), (0, 0, 0), (0, 0, 0), (0, 0, 0), (0, 0, 0), (0, 0, 0), (0, 0, 0), (0, 9, 0), (1, 0, 600), (1, 0, 602), (1, 0, 602), (2, 1, 602), (2, 1, 10), (1, 0, 2), (1, 3, 32), (1, 0, 32), (1, 0, 32), (1, 0, 1320), (1, 0, 1320), (1, 0, 7), (1, 0, 7), (1, 0, 7), (1, 0, 6), (1, 0, 660), (1, 0, 12), (1, 0, 12), (1, 0, 12), (1, 0, 12), (1, 0, 12), (1, 0, 12), (1, 0, 12), (1, 0, 12), (1, 0, 4800), (1, 3, 12), (1, 0, 4), (1, 0, 4), (1, 0, 4), (1, 0, 4), (1, 0, 4), (1, 0, 4), (1, 0, 4), (1, 0, 4), (1, 0, 4), (1, 0, 4), (1, 0, 48), (1, 0, 6), (1, 0, 6), (1, 0, 6), (1, 0, 6), (1, 0, 4), (1, 0, 4), (1, 0, 10), (1, 0, 10), (1, 0, 10), (1, 3, 10), (1, 0, 4), (1, 0, 4), (1, 0, 4), (2, 1, 1)]
def gK (k : Nat) : Nat × Nat × Nat := gKl.getD k (9, 0, 0)
def gFl : List (List Bool) := [[false, false, false, false], [true, true, true, true, true, false, false, false], [true, true, true, true, true, true, true, true, true, true, true, true, false, false, false, false, false], [true, true, true, false, false], [false, false, false, false, true], [false, false, false, false, false, false, false, false, false], [true, true, true, false, false], [false, false, false, false, false, false, false, false, false, false, true], [true, true, true, true, true, true, true, false, false, false, false, false, false, false, false], [false, true, false, false, true, true, true, false, false, true, true, true, true, true, true, true, false, false, false, false, true, true, true, true, true, false, false, true, true, true, true, true, true, true, true, true, true, false, false, true, true, true, true, false, true, true, true, true, true, true, true, false, false, true, true, true, true, false, false, true, true, false, false, true, true, true, true, false, true, true, true]]
def gfn (ci : Nat) : Nat := (gFl.getD ci []).length
def gfc (ci j : Nat) : Bool := (gFl.getD ci []).getD j false
def gMr : List Nat := [0, 89, 0, 0, 90, 91, 92, 0, 0, 93, 94, 95, 96, 97, 98, 99, 0, 0, 0, 0, 100, 101, 102, 103, 104, 0, 0, 105, 106, 107, 108, 109, 110, 111, 112, 113, 114, 0, 0, 115, 116, 117, 118, 0, 119, 120, 121, 122, 123, 124, 125, 0, 0, 126, 127, 128, 129, 0, 0, 130, 131, 0, 0, 132, 133, 134, 135, 0, 136, 137, 138]
/-- where the references lead, once all is made; b: the two Orders are swapped -/
def stdR (b : Bool) (k j : Nat) : Option Nat :=
  if k = 0 then some (if j < 6 then j + 1 else 23)
  else if k = 1 then some (2 * j + 42)
  else if k = 2 then some (2 * j + 66)
  else if k = 3 then some (j + 74)
  else if k = 4 then some (j + 78)
  else if k = 6 then some (if j = 0 then 7 else if j = 1 then (if b then 17 else 11) else (if b then 11 else 17))
  else if k = 7 then some (j + 8)
  else if k = 11 then some (j + 12)
  else if k = 17 then some (j + 18)
  else if k = 23 then some (if j < 8 then j + 24 else j + 30)
  else if k = 31 then some (j + 32)
  else if k < 74 then some (k + 1)
  else some (gMr.getD j 0)
def gv (ad : Nat → Nat) (M : gM) (k j : Nat) (r : Bool) : Value := match r with
  | true => va_rf ((M.2.2 k j).map ad)
  | false => .int (M.1 k j)
def gfs (ad : Nat → Nat) (M : gM) (k ci : Nat) : List Value := (List.range (gfn ci)).map (fun j => gv ad M k j (gfc ci j))
def ge (dA : Nat → ClassId) (ad : Nat → Nat) (M : gM) (k : Nat) : va_E := match gK k with
  | (0, ci, _) => .inr (ci, gfs ad M k ci)
  | (1, t, n) => .inl (dA t, n, .inl (M.1 k))
  | (2, t, n) => .inl (dA t, n, .inr (.inl (M.2.1 k)))
  | (_, t, n) => .inl (dA t, n, .inr (.inr (.inr (.inr (fun j => (M.2.2 k j).map ad)))))
def gw (dA : Nat → ClassId) (ad : Nat → Nat) (n : Nat) (M : gM) : va_W := (List.range n).map (fun k => (ad k, ge dA ad M k))
theorem gw_at {dA : Nat → ClassId} {ad : Nat → Nat} {n k : Nat} {M : gM} (h : k < n) : (gw dA ad n M)[k]? = some (ad k, ge dA ad M k) := by
  simp [gw, h]
theorem gw_len {dA : Nat → ClassId} {ad : Nat → Nat} {n : Nat} {M : gM} : (gw dA ad n M).length = n := by
  simp [gw]
theorem gw_inv {dA : Nat → ClassId} {ad : Nat → Nat} {n k : Nat} {M : gM} {q : Nat × va_E} (h : (gw dA ad n M)[k]? = some q) : k < n ∧ q = (ad k, ge dA ad M k) := by
  have hk : k < n := by
    have := (List.getElem?_eq_some_iff.mp h).1
    rwa [gw_len] at this
  rw [gw_at hk] at h
  exact ⟨hk, (Option.some.inj h).symm⟩
theorem gw_set {dA : Nat → ClassId} {ad : Nat → Nat} {n k : Nat} {M M' : gM} {e : va_E} (h : k < n) (he : ge dA ad M' k = e) (ho : ∀ q, q ≠ k → ge dA ad M' q = ge dA ad M q) : (gw dA ad n M).set k (ad k, e) = gw dA ad n M' := by
  apply List.ext_getElem?
  intro i
  by_cases hi : i = k
  · subst hi
    rw [List.getElem?_set_self (by rw [gw_len]; exact h), gw_at h, he]
  · rw [List.getElem?_set_ne (Ne.symm hi)]
    by_cases hn : i < n
    · rw [gw_at hn, gw_at hn, ho i hi]
    · rw [List.getElem?_eq_none (by rw [gw_len]; omega), List.getElem?_eq_none (by rw [gw_len]; omega)]
theorem ge_row {dA : Nat → ClassId} {ad : Nat → Nat} {M M' : gM} {q : Nat} (h1 : M'.1 q = M.1 q) (h2 : M'.2.1 q = M.2.1 q) (h3 : M'.2.2 q = M.2.2 q) : ge dA ad M' q = ge dA ad M q := by
  unfold ge gfs gv
  rw [h1, h2, h3]
theorem ge_obj {dA : Nat → ClassId} {ad : Nat → Nat} {M : gM} {k ci z : Nat} (h : gK k = (0, ci, z)) : ge dA ad M k = .inr (ci, gfs ad M k ci) := by
  unfold ge; rw [h]; rfl
theorem ge_int {dA : Nat → ClassId} {ad : Nat → Nat} {M : gM} {k t n : Nat} (h : gK k = (1, t, n)) : ge dA ad M k = .inl (dA t, n, .inl (M.1 k)) := by
  unfold ge; rw [h]; rfl
theorem ge_long {dA : Nat → ClassId} {ad : Nat → Nat} {M : gM} {k t n : Nat} (h : gK k = (2, t, n)) : ge dA ad M k = .inl (dA t, n, .inr (.inl (M.2.1 k))) := by
  unfold ge; rw [h]; rfl
theorem ge_ref {dA : Nat → ClassId} {ad : Nat → Nat} {M : gM} {k t n : Nat} (h : gK k = (3, t, n)) : ge dA ad M k = .inl (dA t, n, .inr (.inr (.inr (.inr (fun j => (M.2.2 k j).map ad))))) := by
  unfold ge; rw [h]; rfl
theorem gfs_at {ad : Nat → Nat} {M : gM} {k ci j : Nat} (h : j < gfn ci) : (gfs ad M k ci)[j]? = some (gv ad M k j (gfc ci j)) := by
  simp [gfs, h]
theorem gfs_len {ad : Nat → Nat} {M : gM} {k ci : Nat} : (gfs ad M k ci).length = gfn ci := by simp [gfs]
theorem gfs_set {ad : Nat → Nat} {M M' : gM} {k ci j : Nat} {v : Value} (h : j < gfn ci) (hv : gv ad M' k j (gfc ci j) = v) (ho : ∀ i, i ≠ j → gv ad M' k i (gfc ci i) = gv ad M k i (gfc ci i)) : (gfs ad M k ci).set j v = gfs ad M' k ci := by
  apply List.ext_getElem?
  intro i
  by_cases hi : i = j
  · subst hi
    rw [List.getElem?_set_self (by rw [gfs_len]; exact h), gfs_at h, hv]
  · rw [List.getElem?_set_ne (Ne.symm hi)]
    by_cases hn : i < gfn ci
    · rw [gfs_at hn, gfs_at hn, ho i hi]
    · rw [List.getElem?_eq_none (by rw [gfs_len]; omega), List.getElem?_eq_none (by rw [gfs_len]; omega)]
theorem gwI_row {M : gM} {k j q : Nat} {v : Int32} (h : q ≠ k) : (gwI M k j v).1 q = M.1 q := by
  funext b
  simp [gwI, h]
theorem gwL_row {M : gM} {k j q : Nat} {v : Int64} (h : q ≠ k) : (gwL M k j v).2.1 q = M.2.1 q := by
  funext b
  simp [gwL, h]
theorem gwR_row {M : gM} {k j q : Nat} {v : Option Nat} (h : q ≠ k) : (gwR M k j v).2.2 q = M.2.2 q := by
  funext b
  simp [gwR, h]
/-- abstract values: a reference is a cell's number -/
def gtr (ad : Nat → Nat) : Value → Value
  | .ref k => .ref (ad k)
  | v => v
theorem gtr_cat (ad : Nat → Nat) (v : Value) : (gtr ad v).category = v.category := by cases v <;> rfl
/-- locals -/
def gl (ad : Nat → Nat) (nL : Nat) (L : List (Option Value)) (ls : Array Slot) : Prop := L.length = nL ∧ ls.size = nL ∧ lv_wf ls ∧ ∀ (i : Nat) (v : Value), L[i]? = some (some v) → ls[i]? = some (.val (gtr ad v))
def glv (ad : Nat → Nat) (L : List (Option Value)) : List (Nat × Value) := (List.range L.length).filterMap (fun i => (L.getD i none).map (fun v => (i, gtr ad v)))
theorem glv_mem {ad : Nat → Nat} {L : List (Option Value)} {q : Nat × Value} : q ∈ glv ad L ↔ ∃ v, L[q.1]? = some (some v) ∧ q.2 = gtr ad v := by
  unfold glv
  rw [List.mem_filterMap]
  constructor
  · rintro ⟨i, hi, h⟩
    have hi' := List.mem_range.mp hi
    cases hL : L.getD i none with
    | none => rw [hL] at h; cases h
    | some v =>
      rw [hL] at h
      cases h
      refine ⟨v, ?_, rfl⟩
      rw [List.getD_eq_getElem?_getD, List.getElem?_eq_getElem hi'] at hL
      rw [List.getElem?_eq_getElem hi']
      exact congrArg some hL
  · rintro ⟨v, h, e⟩
    obtain ⟨i, w⟩ := q
    have hi := (List.getElem?_eq_some_iff.mp h).1
    refine ⟨i, List.mem_range.mpr hi, ?_⟩
    have hh : L[i]? = some (some v) := h
    rw [List.getD_eq_getElem?_getD, hh]
    have e' : w = gtr ad v := e
    rw [e']
    rfl
theorem gl_has {ad : Nat → Nat} {nL : Nat} {L : List (Option Value)} {ls : Array Slot} (h : gl ad nL L ls) : lv_has ls nL (glv ad L) := by
  refine ⟨h.2.1, h.2.2.1, fun q hq => ?_⟩
  obtain ⟨v, h1, h2⟩ := glv_mem.mp hq
  rw [h2]
  exact h.2.2.2 _ _ h1
/-- a long just below is dropped, as the machine does -/
def gkl (L : List (Option Value)) (i : Nat) : List (Option Value) := match i with
  | 0 => L
  | i + 1 => match L.getD i none with
    | some (.long _) => L.set i none
    | some (.double _) => L.set i none
    | _ => L
def gs1 (L : List (Option Value)) (i : Nat) (v : Value) : List (Option Value) := (gkl L i).set i (some v)
def gs2 (L : List (Option Value)) (i : Nat) (v : Value) : List (Option Value) := ((gkl L i).set (i + 1) none).set i (some v)
theorem gkl_len (L : List (Option Value)) (i : Nat) : (gkl L i).length = L.length := by
  unfold gkl
  split
  · rfl
  · split <;> simp
theorem gkl_at {L : List (Option Value)} {i j : Nat} {v : Value} (h : (gkl L i)[j]? = some (some v)) : L[j]? = some (some v) ∧ ¬ (j + 1 = i ∧ v.category = 2) := by
  unfold gkl at h
  split at h
  · exact ⟨h, fun q => by omega⟩
  · rename_i i'
    have key : ∀ w, L.getD i' none = some w → w.category = 2 → (L.set i' none)[j]? = some (some v) → L[j]? = some (some v) ∧ ¬ (j + 1 = i' + 1 ∧ v.category = 2) := by
      intro w hw hc hj
      by_cases e : j = i'
      · subst e
        rw [List.getElem?_set_self'] at hj
        cases hx : L[j]? <;> rw [hx] at hj <;> simp at hj
      · rw [List.getElem?_set_ne (Ne.symm e)] at hj
        exact ⟨hj, fun q => e (by omega)⟩
    split at h
    · rename_i w hw
      exact key _ hw rfl h
    · rename_i w hw
      exact key _ hw rfl h
    · rename_i h1 h2
      refine ⟨h, fun q => ?_⟩
      have e : j = i' := by omega
      subst e
      have hd : L.getD j none = some v := by rw [List.getD_eq_getElem?_getD, h]; rfl
      cases v with
      | long x => exact h1 _ hd
      | double x => exact h2 _ hd
      | int x => exact absurd q.2 (by simp [Value.category])
      | float x => exact absurd q.2 (by simp [Value.category])
      | null => exact absurd q.2 (by simp [Value.category])
      | ref x => exact absurd q.2 (by simp [Value.category])
      | retAddr x => exact absurd q.2 (by simp [Value.category])
theorem gl_s1 {ad : Nat → Nat} {nL i : Nat} {L : List (Option Value)} {ls ls' : Array Slot} {v : Value} (h : gl ad nL L ls) (h' : lv_has ls' nL ((i, gtr ad v) :: (glv ad L).filter (fun q => !(q.1 == i) && !(q.1 + 1 == i && q.2.category == 2)))) : gl ad nL (gs1 L i v) ls' := by
  refine ⟨by simp [gs1, gkl_len, h.1], h'.1, h'.2.1, fun j w hj => ?_⟩
  unfold gs1 at hj
  by_cases e : j = i
  · subst e
    rw [List.getElem?_set_self'] at hj
    have hw : w = v := by
      cases hx : (gkl L j)[j]? <;> rw [hx] at hj <;> simp at hj
      exact hj.symm
    subst hw
    exact h'.2.2 (j, gtr ad w) List.mem_cons_self
  · rw [List.getElem?_set_ne (Ne.symm e)] at hj
    obtain ⟨h1, h2⟩ := gkl_at hj
    refine h'.2.2 (j, gtr ad w) (List.mem_cons_of_mem _ (List.mem_filter.mpr ⟨glv_mem.mpr ⟨w, h1, rfl⟩, ?_⟩))
    simp only [Bool.and_eq_true, Bool.not_eq_true', beq_eq_false_iff_ne, ne_eq, Bool.and_eq_false_iff]
    refine ⟨e, ?_⟩
    by_cases e1 : j + 1 = i
    · exact Or.inr (fun q => h2 ⟨e1, by rw [← gtr_cat ad]; exact q⟩)
    · exact Or.inl e1
theorem gl_s2 {ad : Nat → Nat} {nL i : Nat} {L : List (Option Value)} {ls ls' : Array Slot} {v : Value} (h : gl ad nL L ls) (h' : lv_has ls' nL ((i, gtr ad v) :: (glv ad L).filter (fun q => !(q.1 == i) && (!(q.1 == i + 1) && !(q.1 + 1 == i && q.2.category == 2))))) : gl ad nL (gs2 L i v) ls' := by
  refine ⟨by simp [gs2, gkl_len, h.1], h'.1, h'.2.1, fun j w hj => ?_⟩
  unfold gs2 at hj
  by_cases e : j = i
  · subst e
    rw [List.getElem?_set_self'] at hj
    have hw : w = v := by
      cases hx : ((gkl L j).set (j + 1) none)[j]? <;> rw [hx] at hj <;> simp at hj
      exact hj.symm
    subst hw
    exact h'.2.2 (j, gtr ad w) List.mem_cons_self
  · rw [List.getElem?_set_ne (Ne.symm e)] at hj
    by_cases e2 : j = i + 1
    · subst e2
      rw [List.getElem?_set_self'] at hj
      cases hx : (gkl L i)[i + 1]? <;> rw [hx] at hj <;> simp at hj
    · rw [List.getElem?_set_ne (Ne.symm e2)] at hj
      obtain ⟨h1, h2⟩ := gkl_at hj
      refine h'.2.2 (j, gtr ad w) (List.mem_cons_of_mem _ (List.mem_filter.mpr ⟨glv_mem.mpr ⟨w, h1, rfl⟩, ?_⟩))
      simp only [Bool.and_eq_true, Bool.not_eq_true', beq_eq_false_iff_ne, ne_eq, Bool.and_eq_false_iff]
      refine ⟨e, e2, ?_⟩
      by_cases e1 : j + 1 = i
      · exact Or.inr (fun q => h2 ⟨e1, by rw [← gtr_cat ad]; exact q⟩)
      · exact Or.inl e1
theorem gl_at {ad : Nat → Nat} {nL i : Nat} {L : List (Option Value)} {ls : Array Slot} {v : Value} (h : gl ad nL L ls) (hi : L[i]? = some (some v)) : ls[i]? = some (.val (gtr ad v)) := h.2.2.2 i v hi
theorem gl_ad {ad ad' : Nat → Nat} {nL : Nat} {L : List (Option Value)} {ls : Array Slot} (h : gl ad nL L ls) (he : ∀ (i : Nat) (k : Nat), L[i]? = some (some (.ref k)) → ad' k = ad k) : gl ad' nL L ls := by
  refine ⟨h.1, h.2.1, h.2.2.1, fun i v hi => ?_⟩
  rw [h.2.2.2 i v hi]
  cases v with
  | ref k => show some (Slot.val (.ref (ad k))) = some (Slot.val (.ref (ad' k))); rw [he i k hi]
  | _ => rfl
/-- the locals at a method's entry -/
def gent : List Value → List (Option Value)
  | [] => []
  | .long x :: vs => some (.long x) :: none :: gent vs
  | .double x :: vs => some (.double x) :: none :: gent vs
  | v :: vs => some v :: gent vs
def gpad (n : Nat) (L : List (Option Value)) : List (Option Value) := L ++ List.replicate (n - L.length) none

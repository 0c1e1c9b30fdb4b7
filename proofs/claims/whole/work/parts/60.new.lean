/-! a world that grows -/
/-- all from n on is new, and references lead below n -/
def fM (n : Nat) (M : gM) : Prop := (∀ k j, n ≤ k → M.1 k j = 0 ∧ M.2.1 k j = 0 ∧ M.2.2 k j = none) ∧ ∀ k j k2, M.2.2 k j = some k2 → k2 < n
theorem fM.up {n : Nat} {M : gM} (h : fM n M) : fM (n + 1) M := ⟨fun k j hk => h.1 k j (by omega), fun k j k2 e => Nat.lt_succ_of_lt (h.2 k j k2 e)⟩
theorem fM.I {n k j : Nat} {M : gM} {v : Int32} (h : fM n M) (hk : k < n) : fM n (gwI M k j v) := ⟨fun a b ha => ⟨by rw [gwI_n (by omega)]; exact (h.1 a b ha).1, (h.1 a b ha).2⟩, h.2⟩
theorem fM.L {n k j : Nat} {M : gM} {v : Int64} (h : fM n M) (hk : k < n) : fM n (gwL M k j v) := ⟨fun a b ha => ⟨(h.1 a b ha).1, by rw [gwL_n (by omega)]; exact (h.1 a b ha).2.1, (h.1 a b ha).2.2⟩, h.2⟩
theorem fM.R {n k j k2 : Nat} {M : gM} (h : fM n M) (hk : k < n) (h2 : k2 < n) : fM n (gwR M k j (some k2)) := by
  refine ⟨fun a b ha => ⟨(h.1 a b ha).1, (h.1 a b ha).2.1, ?_⟩, fun a b c e => ?_⟩
  · show (if a = k ∧ b = j then some k2 else M.2.2 a b) = none
    rw [if_neg (by omega)]; exact (h.1 a b ha).2.2
  · have e' : (if a = k ∧ b = j then some k2 else M.2.2 a b) = some c := e
    split at e'
    · cases e'; exact h2
    · exact h.2 a b c e'
/-- the references among locals and stack lead below n -/
def gRs (n : Nat) : List (Option Value) → Prop
  | [] => True
  | some (.ref k) :: t => (k < n ∨ 1000 ≤ k) ∧ gRs n t
  | _ :: t => gRs n t
theorem gRs_at {n : Nat} : ∀ {L : List (Option Value)}, gRs n L → ∀ (i k : Nat), L[i]? = some (some (.ref k)) → k < n ∨ 1000 ≤ k
  | [], _, i, k, e => by simp at e
  | some (.ref q) :: t, h, 0, k, e => by cases e; exact h.1
  | some (.ref q) :: t, h, i + 1, k, e => gRs_at h.2 i k (by simpa using e)
  | none :: t, h, 0, k, e => by cases e
  | none :: t, h, i + 1, k, e => gRs_at (show gRs n t from h) i k (by simpa using e)
  | some (.int x) :: t, h, 0, k, e => by cases e
  | some (.int x) :: t, h, i + 1, k, e => gRs_at (show gRs n t from h) i k (by simpa using e)
  | some (.long x) :: t, h, 0, k, e => by cases e
  | some (.long x) :: t, h, i + 1, k, e => gRs_at (show gRs n t from h) i k (by simpa using e)
  | some (.float x) :: t, h, 0, k, e => by cases e
  | some (.float x) :: t, h, i + 1, k, e => gRs_at (show gRs n t from h) i k (by simpa using e)
  | some (.double x) :: t, h, 0, k, e => by cases e
  | some (.double x) :: t, h, i + 1, k, e => gRs_at (show gRs n t from h) i k (by simpa using e)
  | some (.retAddr x) :: t, h, 0, k, e => by cases e
  | some (.retAddr x) :: t, h, i + 1, k, e => gRs_at (show gRs n t from h) i k (by simpa using e)
  | some .null :: t, h, 0, k, e => by cases e
  | some .null :: t, h, i + 1, k, e => gRs_at (show gRs n t from h) i k (by simpa using e)
theorem gRs_mem {n : Nat} {st : List Value} (h : gRs n (st.map some)) {k : Nat} (hk : Value.ref k ∈ st) : k < n ∨ 1000 ≤ k := by
  obtain ⟨i, hi⟩ := List.getElem?_of_mem hk
  exact gRs_at h i k (by rw [List.getElem?_map, hi]; rfl)
/-- a new address, for the cell n -/
def adn (ad : Nat → Nat) (n q : Nat) : Nat → Nat := fun k => if k = n then q else ad k
theorem adn_s {ad : Nat → Nat} {n q : Nat} : adn ad n q n = q := if_pos rfl
theorem adn_n {ad : Nat → Nat} {n q k : Nat} (h : k ≠ n) : adn ad n q k = ad k := if_neg h
theorem ge_ad {dA : Nat → ClassId} {ad ad' : Nat → Nat} {M : gM} {k : Nat} (h : ∀ j, (M.2.2 k j).map ad' = (M.2.2 k j).map ad) : ge dA ad' M k = ge dA ad M k := by
  unfold ge
  split
  · rename_i ci z hk
    have e : gfs ad' M k ci = gfs ad M k ci := by
      unfold gfs
      refine List.map_congr_left fun j _ => ?_
      cases gfc ci j with
      | true => show va_rf ((M.2.2 k j).map ad') = va_rf ((M.2.2 k j).map ad); rw [h j]
      | false => rfl
    rw [e]
  · rfl
  · rfl
  · have e : (fun j => (M.2.2 k j).map ad') = fun j => (M.2.2 k j).map ad := funext h
    rw [e]
theorem map_ad {n : Nat} {M : gM} (h : fM n M) {ad : Nat → Nat} {q k j : Nat} : (M.2.2 k j).map (adn ad n q) = (M.2.2 k j).map ad := by
  cases e : M.2.2 k j with
  | none => rfl
  | some k2 => show some (adn ad n q k2) = some (ad k2); rw [adn_n (by have := h.2 k j k2 e; omega)]
theorem gw_grow {dA : Nat → ClassId} {ad : Nat → Nat} {n q : Nat} {M : gM} (h : fM n M) {E : va_E} (hE : ge dA ad M n = E) : gw dA (adn ad n q) (n + 1) M = gw dA ad n M ++ [(q, E)] := by
  unfold gw
  rw [List.range_succ, List.map_append]
  congr 1
  · refine List.map_congr_left fun k hk => ?_
    rw [List.mem_range] at hk
    rw [adn_n (by omega), ge_ad (fun j => map_ad h)]
  · show [(adn ad n q n, ge dA (adn ad n q) M n)] = _
    rw [adn_s, ge_ad (fun j => map_ad h), hE]
theorem gExt_grow {n0 n q : Nat} {ad0 ad : Nat → Nat} (h : gExt n0 ad0 n ad) (hn : n < 1000) : gExt n0 ad0 (n + 1) (adn ad n q) := by
  have := h.1
  refine ⟨by omega, fun k hk => ?_, fun e => by omega⟩
  rw [adn_n (by omega)]; exact h.2.1 k hk
theorem st_grow {n q : Nat} {ad : Nat → Nat} {st : List Value} (h1000 : n < 1000) (h : gRs n (st.map some)) : st.map (gtr (adn ad n q)) = st.map (gtr ad) := by
  refine List.map_congr_left fun v hv => ?_
  cases v with
  | ref k => show Value.ref (adn ad n q k) = Value.ref (ad k); rw [adn_n (by have := gRs_mem h hv; omega)]
  | _ => rfl
theorem gl_grow {n q nL : Nat} {ad : Nat → Nat} {L : List (Option Value)} {ls : Array Slot} (h1000 : n < 1000) (h : gRs n L) (hl : gl ad nL L ls) : gl (adn ad n q) nL L ls := gl_ad hl (fun i k e => adn_n (by have := gRs_at h i k e; omega))
/-- new -/
def gNw (own : String) (index ci : Nat) : Prop := ∃ (C : String) (T : u_T) (ty : Nat → FieldType), vwCl[ci]? = some (C, T, gfn ci) ∧ (∀ w ∈ u_ws C T (gfn ci), w ∈ gT) ∧ (∀ k, k < gfn ci → parseFieldDescriptor (T k).2.2.1 = some (ty k)) ∧ Cond.classLink own index C ∈ gT ∧ Cond.instantiable C (gfn ci) ∈ gT ∧ Cond.initialized C ∈ gT ∧ ∀ j, j < gfn ci → defaultValue (ty j) = if gfc ci j then .null else .int 0
theorem r_new {d mc ms : Nat} {own : String} {cc : ByteArray} {nL : Nat} {G : gJ} (hG : gS d mc ms own cc nL G) {Z : Nat × Nat × Nat} {pc : Nat} {L : List (Option Value)} {st : List Value} {M : gM} {ci index z : Nat} (hf : gNw own index ci) (hd : decode cc pc = .ok (.new index, 3)) (hkd : gK Z.1 = (0, ci, z)) (hM : fM Z.1 M) (h1000 : Z.1 < 1000) (hc : Z.2.1 + 1 ≤ mc) (hs : Z.2.2 + gfn ci ≤ ms) (hL : gRs Z.1 L) (hst : gRs Z.1 (st.map some)) (kk : G (Z.1 + 1, Z.2.1 + 1, Z.2.2 + gfn ci) (pc + 3) L (.ref Z.1 :: st) M) : G Z pc L st M := by
  obtain ⟨p, l, e, R, s, m, args, below, meth, c, D, dA, n0, ad0, Q, ⟨hx, hb, hml, hown, hts, hK, hlk, hfr, hlo, hX⟩, hmc, hms, rfl⟩ := hG
  intro ad H locs ls he hP hD hS hl
  obtain ⟨C, T, ty, h1, h2, h3, h4, h5, h6, h7⟩ := hf
  refine va_new (D := D) (fs := gfs ad M Z.1 ci) hx hb hts h2 ty h3 hown (hts _ h4) (hts _ h5) (hts _ h6) hK hP hD hS (fun q h => Or.inr h) h1 (fun j hj => ?_) (by rw [hmc]; exact hc) (by rw [hms]; exact hs) hd (fun q H1 hP1 hD1 hS1 => ?_)
  · rw [h7 j hj]
    unfold vp_V
    rw [List.getD_eq_getElem?_getD, gfs_at hj]
    cases gfc ci j with
    | true => show Value.null = va_rf ((M.2.2 Z.1 j).map ad); rw [(hM.1 Z.1 j (Nat.le_refl _)).2.2]; rfl
    | false => show Value.int 0 = Value.int (M.1 Z.1 j); rw [(hM.1 Z.1 j (Nat.le_refl _)).1]
  · have e := gw_grow (dA := dA) (ad := ad) (q := q) hM (ge_obj hkd)
    rw [← e] at hP1 hD1
    have k1 := kk (adn ad Z.1 q) H1 locs ls (gExt_grow he h1000) hP1 hD1 hS1 (gl_grow h1000 hL hl)
    rw [show ((Value.ref Z.1 :: st).map (gtr (adn ad Z.1 q))) = .ref q :: st.map (gtr ad) from by rw [List.map_cons, st_grow h1000 hst]; show Value.ref (adn ad Z.1 q Z.1) :: _ = _; rw [adn_s]] at k1
    exact k1
theorem r_newaI {d mc ms : Nat} {own : String} {cc : ByteArray} {nL : Nat} {G : gJ} (hG : gS d mc ms own cc nL G) {Z : Nat × Nat × Nat} {pc : Nat} {L : List (Option Value)} {st : List Value} {M : gM} {x : Int32} (N : Nat) (hw : Cond.arrayClass .int ∈ gT) (hd : decode cc pc = .ok (.newarray .int, 2)) (hkd : gK Z.1 = (1, 0, N)) (hM : fM Z.1 M) (h1000 : Z.1 < 1000) (hx0 : x = nI N) (hN : N < 10000) (hc : Z.2.1 + 1 ≤ mc) (hs : Z.2.2 + N ≤ ms) (hL : gRs Z.1 L) (hst : gRs Z.1 (st.map some)) (kk : G (Z.1 + 1, Z.2.1 + 1, Z.2.2 + N) (pc + 2) L (.ref Z.1 :: st) M) : G Z pc L (.int x :: st) M := by
  obtain ⟨p, l, e, R, s, m, args, below, meth, c, D, dA, n0, ad0, Q, ⟨hx, hb, hml, hown, hts, hK, hlk, hfr, hlo, hX⟩, hmc, hms, rfl⟩ := hG
  intro ad H locs ls he hP hD hS hl
  subst hx0
  have hf : M.1 Z.1 = fun _ => (0 : Int32) := funext fun j => (hM.1 Z.1 j (Nat.le_refl _)).1
  refine va_newa (D := D) (atype := .int) (a0 := (N, .inl (fun _ => (0 : Int32)))) hx hb (hts _ hw) (ty := .int) rfl hK hP hD hS (fun q h => Or.inr h) (fun cA => rfl) (nI_pos (by omega)) (nI_clamp (by omega)) (by show N * _ ≤ _; simp only [componentBytes]; omega) (by rw [hmc]; exact hc) (by rw [hms]; exact hs) hd (fun q cA H1 hK1 hP1 hD1 hS1 => ?_)
  have hA : cA = dA 0 := Option.some.inj (((hK1.2 9 (cA, .int) rfl).2 : s.vm.findClass _ = some cA).symm.trans ((hK.2 0 (dA 0, .int) rfl).2 : s.vm.findClass _ = some (dA 0)))
  subst hA
  have e := gw_grow (dA := dA) (ad := ad) (q := q) hM (ge_int hkd)
  rw [hf] at e
  rw [← e] at hP1 hD1
  have k1 := kk (adn ad Z.1 q) H1 locs ls (gExt_grow he h1000) hP1 hD1 hS1 (gl_grow h1000 hL hl)
  rw [show ((Value.ref Z.1 :: st).map (gtr (adn ad Z.1 q))) = .ref q :: st.map (gtr ad) from by rw [List.map_cons, st_grow h1000 hst]; show Value.ref (adn ad Z.1 q Z.1) :: _ = _; rw [adn_s]] at k1
  exact k1
theorem r_newaC {d mc ms : Nat} {own : String} {cc : ByteArray} {nL : Nat} {G : gJ} (hG : gS d mc ms own cc nL G) {Z : Nat × Nat × Nat} {pc : Nat} {L : List (Option Value)} {st : List Value} {M : gM} {x : Int32} (N : Nat) (hw : Cond.arrayClass .char ∈ gT) (hd : decode cc pc = .ok (.newarray .char, 2)) (hkd : gK Z.1 = (1, 2, N)) (hM : fM Z.1 M) (h1000 : Z.1 < 1000) (hx0 : x = nI N) (hN : N < 10000) (hc : Z.2.1 + 1 ≤ mc) (hs : Z.2.2 + N ≤ ms) (hL : gRs Z.1 L) (hst : gRs Z.1 (st.map some)) (kk : G (Z.1 + 1, Z.2.1 + 1, Z.2.2 + N) (pc + 2) L (.ref Z.1 :: st) M) : G Z pc L (.int x :: st) M := by
  obtain ⟨p, l, e, R, s, m, args, below, meth, c, D, dA, n0, ad0, Q, ⟨hx, hb, hml, hown, hts, hK, hlk, hfr, hlo, hX⟩, hmc, hms, rfl⟩ := hG
  intro ad H locs ls he hP hD hS hl
  subst hx0
  have hf : M.1 Z.1 = fun _ => (0 : Int32) := funext fun j => (hM.1 Z.1 j (Nat.le_refl _)).1
  refine va_newa (D := D) (atype := .char) (a0 := (N, .inl (fun _ => (0 : Int32)))) hx hb (hts _ hw) (ty := .char) rfl hK hP hD hS (fun q h => Or.inr h) (fun cA => rfl) (nI_pos (by omega)) (nI_clamp (by omega)) (by show N * _ ≤ _; simp only [componentBytes]; omega) (by rw [hmc]; exact hc) (by rw [hms]; exact hs) hd (fun q cA H1 hK1 hP1 hD1 hS1 => ?_)
  have hA : cA = dA 2 := Option.some.inj (((hK1.2 9 (cA, .char) rfl).2 : s.vm.findClass _ = some cA).symm.trans ((hK.2 2 (dA 2, .char) rfl).2 : s.vm.findClass _ = some (dA 2)))
  subst hA
  have e := gw_grow (dA := dA) (ad := ad) (q := q) hM (ge_int hkd)
  rw [hf] at e
  rw [← e] at hP1 hD1
  have k1 := kk (adn ad Z.1 q) H1 locs ls (gExt_grow he h1000) hP1 hD1 hS1 (gl_grow h1000 hL hl)
  rw [show ((Value.ref Z.1 :: st).map (gtr (adn ad Z.1 q))) = .ref q :: st.map (gtr ad) from by rw [List.map_cons, st_grow h1000 hst]; show Value.ref (adn ad Z.1 q Z.1) :: _ = _; rw [adn_s]] at k1
  exact k1
theorem r_newaZ {d mc ms : Nat} {own : String} {cc : ByteArray} {nL : Nat} {G : gJ} (hG : gS d mc ms own cc nL G) {Z : Nat × Nat × Nat} {pc : Nat} {L : List (Option Value)} {st : List Value} {M : gM} {x : Int32} (N : Nat) (hw : Cond.arrayClass .boolean ∈ gT) (hd : decode cc pc = .ok (.newarray .boolean, 2)) (hkd : gK Z.1 = (1, 3, N)) (hM : fM Z.1 M) (h1000 : Z.1 < 1000) (hx0 : x = nI N) (hN : N < 10000) (hc : Z.2.1 + 1 ≤ mc) (hs : Z.2.2 + N ≤ ms) (hL : gRs Z.1 L) (hst : gRs Z.1 (st.map some)) (kk : G (Z.1 + 1, Z.2.1 + 1, Z.2.2 + N) (pc + 2) L (.ref Z.1 :: st) M) : G Z pc L (.int x :: st) M := by
  obtain ⟨p, l, e, R, s, m, args, below, meth, c, D, dA, n0, ad0, Q, ⟨hx, hb, hml, hown, hts, hK, hlk, hfr, hlo, hX⟩, hmc, hms, rfl⟩ := hG
  intro ad H locs ls he hP hD hS hl
  subst hx0
  have hf : M.1 Z.1 = fun _ => (0 : Int32) := funext fun j => (hM.1 Z.1 j (Nat.le_refl _)).1
  refine va_newa (D := D) (atype := .boolean) (a0 := (N, .inl (fun _ => (0 : Int32)))) hx hb (hts _ hw) (ty := .boolean) rfl hK hP hD hS (fun q h => Or.inr h) (fun cA => rfl) (nI_pos (by omega)) (nI_clamp (by omega)) (by show N * _ ≤ _; simp only [componentBytes]; omega) (by rw [hmc]; exact hc) (by rw [hms]; exact hs) hd (fun q cA H1 hK1 hP1 hD1 hS1 => ?_)
  have hA : cA = dA 3 := Option.some.inj (((hK1.2 9 (cA, .boolean) rfl).2 : s.vm.findClass _ = some cA).symm.trans ((hK.2 3 (dA 3, .boolean) rfl).2 : s.vm.findClass _ = some (dA 3)))
  subst hA
  have e := gw_grow (dA := dA) (ad := ad) (q := q) hM (ge_int hkd)
  rw [hf] at e
  rw [← e] at hP1 hD1
  have k1 := kk (adn ad Z.1 q) H1 locs ls (gExt_grow he h1000) hP1 hD1 hS1 (gl_grow h1000 hL hl)
  rw [show ((Value.ref Z.1 :: st).map (gtr (adn ad Z.1 q))) = .ref q :: st.map (gtr ad) from by rw [List.map_cons, st_grow h1000 hst]; show Value.ref (adn ad Z.1 q Z.1) :: _ = _; rw [adn_s]] at k1
  exact k1
theorem r_newaJ {d mc ms : Nat} {own : String} {cc : ByteArray} {nL : Nat} {G : gJ} (hG : gS d mc ms own cc nL G) {Z : Nat × Nat × Nat} {pc : Nat} {L : List (Option Value)} {st : List Value} {M : gM} {x : Int32} (N : Nat) (hw : Cond.arrayClass .long ∈ gT) (hd : decode cc pc = .ok (.newarray .long, 2)) (hkd : gK Z.1 = (2, 1, N)) (hM : fM Z.1 M) (h1000 : Z.1 < 1000) (hx0 : x = nI N) (hN : N < 10000) (hc : Z.2.1 + 1 ≤ mc) (hs : Z.2.2 + N ≤ ms) (hL : gRs Z.1 L) (hst : gRs Z.1 (st.map some)) (kk : G (Z.1 + 1, Z.2.1 + 1, Z.2.2 + N) (pc + 2) L (.ref Z.1 :: st) M) : G Z pc L (.int x :: st) M := by
  obtain ⟨p, l, e, R, s, m, args, below, meth, c, D, dA, n0, ad0, Q, ⟨hx, hb, hml, hown, hts, hK, hlk, hfr, hlo, hX⟩, hmc, hms, rfl⟩ := hG
  intro ad H locs ls he hP hD hS hl
  subst hx0
  have hf : M.2.1 Z.1 = fun _ => (0 : Int64) := funext fun j => (hM.1 Z.1 j (Nat.le_refl _)).2.1
  refine va_newa (D := D) (atype := .long) (a0 := (N, .inr (.inl (fun _ => (0 : Int64))))) hx hb (hts _ hw) (ty := .long) rfl hK hP hD hS (fun q h => Or.inr h) (fun cA => rfl) (nI_pos (by omega)) (nI_clamp (by omega)) (by show N * _ ≤ _; simp only [componentBytes]; omega) (by rw [hmc]; exact hc) (by rw [hms]; exact hs) hd (fun q cA H1 hK1 hP1 hD1 hS1 => ?_)
  have hA : cA = dA 1 := Option.some.inj (((hK1.2 9 (cA, .long) rfl).2 : s.vm.findClass _ = some cA).symm.trans ((hK.2 1 (dA 1, .long) rfl).2 : s.vm.findClass _ = some (dA 1)))
  subst hA
  have e := gw_grow (dA := dA) (ad := ad) (q := q) hM (ge_long hkd)
  rw [hf] at e
  rw [← e] at hP1 hD1
  have k1 := kk (adn ad Z.1 q) H1 locs ls (gExt_grow he h1000) hP1 hD1 hS1 (gl_grow h1000 hL hl)
  rw [show ((Value.ref Z.1 :: st).map (gtr (adn ad Z.1 q))) = .ref q :: st.map (gtr ad) from by rw [List.map_cons, st_grow h1000 hst]; show Value.ref (adn ad Z.1 q Z.1) :: _ = _; rw [adn_s]] at k1
  exact k1
theorem r_newq4 {d mc ms : Nat} {own : String} {cc : ByteArray} {nL : Nat} {G : gJ} (hG : gS d mc ms own cc nL G) {Z : Nat × Nat × Nat} {pc : Nat} {L : List (Option Value)} {st : List Value} {M : gM} {x : Int32} {index : Nat} (N : Nat) (hw : Cond.classLink own index "WaterCarts$Village" ∈ gT) (hd : decode cc pc = .ok (.anewarray index, 3)) (hkd : gK Z.1 = (3, 4, N)) (hM : fM Z.1 M) (h1000 : Z.1 < 1000) (hx0 : x = nI N) (hN : N < 10000) (hc : Z.2.1 + 1 ≤ mc) (hs : Z.2.2 + N ≤ ms) (hL : gRs Z.1 L) (hst : gRs Z.1 (st.map some)) (kk : G (Z.1 + 1, Z.2.1 + 1, Z.2.2 + N) (pc + 3) L (.ref Z.1 :: st) M) : G Z pc L (.int x :: st) M := by
  obtain ⟨p, l, e, R, s, m, args, below, meth, c, D, dA, n0, ad0, Q, ⟨hx, hb, hml, hown, hts, hK, hlk, hfr, hlo, hX⟩, hmc, hms, rfl⟩ := hG
  intro ad H locs ls he hP hD hS hl
  subst hx0
  have hf : (fun j => (M.2.2 Z.1 j).map ad) = fun _ => none := funext fun j => by rw [(hM.1 Z.1 j (Nat.le_refl _)).2.2]; rfl
  refine va_newq (D := D) hx hb hown (hts _ hw) (hX.2.2.2.2.1 _ (by decide)) hK hP hD hS (fun q h => Or.inr h) (nI_pos (by omega)) (nI_clamp (by omega)) (by omega) (by rw [hmc]; exact hc) (by rw [hms]; exact hs) hd (fun q cA H1 hK1 hP1 hD1 hS1 => ?_)
  have hA : cA = dA 4 := by
    obtain ⟨_, _, _, _, _, g1⟩ := (hK1.2 9 (cA, .object "WaterCarts$Village") rfl).2
    obtain ⟨_, _, _, _, _, g2⟩ := (hK.2 4 (dA 4, .object "WaterCarts$Village") rfl).2
    exact Option.some.inj (g1.symm.trans g2)
  subst hA
  have e := gw_grow (dA := dA) (ad := ad) (q := q) hM (ge_ref hkd)
  rw [hf] at e
  rw [← e] at hP1 hD1
  have k1 := kk (adn ad Z.1 q) H1 locs ls (gExt_grow he h1000) hP1 hD1 hS1 (gl_grow h1000 hL hl)
  rw [show ((Value.ref Z.1 :: st).map (gtr (adn ad Z.1 q))) = .ref q :: st.map (gtr ad) from by rw [List.map_cons, st_grow h1000 hst]; show Value.ref (adn ad Z.1 q Z.1) :: _ = _; rw [adn_s]] at k1
  exact k1
theorem r_aast4 {d mc ms : Nat} {own : String} {cc : ByteArray} {nL : Nat} {G : gJ} (hG : gS d mc ms own cc nL G) {Z : Nat × Nat × Nat} {pc : Nat} {L : List (Option Value)} {st : List Value} {M : gM} {k n k2 ci z : Nat} {i : Int32} (q : Nat) {T : u_T} (hci : vwCl[ci]? = some ("WaterCarts$Village", T, gfn ci)) (hd : decode cc pc = .ok (.aastore, 1)) (hkd : gK k = (3, 4, n)) (hk : k < Z.1) (hkd2 : gK k2 = (0, ci, z)) (hk2 : k2 < Z.1) (hi : i = nI q) (hq : q < n) (hn : n < 2147483648) (kk : G Z (pc + 1) L st (gwR M k q (some k2))) : G Z pc L (.ref k2 :: .int i :: .ref k :: st) M := by
  obtain ⟨p, l, e, R, s, m, args, below, meth, c, D, dA, n0, ad0, Q, ⟨hx, hb, hml, hown, hts, hK, hlk, hfr, hlo, hX⟩, hmc, hms, rfl⟩ := hG
  intro ad H locs ls he hP hD hS hl
  obtain ⟨h1, h2⟩ := gin hi hq hn
  refine va_astq (D := D) (f := fun j => (M.2.2 k j).map ad) hx hb hK hP hD hS k 4 k2 ci (by rw [gw_at hk, ge_ref hkd]) rfl (by rw [gw_at hk2, ge_obj hkd2]) hci h1 hd (fun H1 locs1 hP1 hD1 hS1 => ?_)
  rw [h2] at hP1 hD1
  have e : (gw dA ad Z.1 M).set k (ad k, .inl (dA 4, n, .inr (.inr (.inr (.inr (va_up (fun j => (M.2.2 k j).map ad) q (some (ad k2)))))))) = gw dA ad Z.1 (gwR M k q (some k2)) := by
    refine gw_set hk ?_ (fun q hq => ge_row rfl rfl (gwR_row hq))
    rw [ge_ref hkd]
    have e1 : (fun j => ((gwR M k q (some k2)).2.2 k j).map ad) = va_up (fun j => (M.2.2 k j).map ad) q (some (ad k2)) := by
      funext j
      show (if k = k ∧ j = q then some k2 else M.2.2 k j).map ad = if j = q then some (ad k2) else (M.2.2 k j).map ad
      by_cases e : j = q
      · rw [if_pos ⟨rfl, e⟩, if_pos e]; rfl
      · rw [if_neg (fun z => e z.2), if_neg e]
    rw [e1]
  rw [e] at hP1 hD1
  exact kk ad H1 locs1 ls he hP1 hD1 hS1 hl
theorem r_newq5 {d mc ms : Nat} {own : String} {cc : ByteArray} {nL : Nat} {G : gJ} (hG : gS d mc ms own cc nL G) {Z : Nat × Nat × Nat} {pc : Nat} {L : List (Option Value)} {st : List Value} {M : gM} {x : Int32} {index : Nat} (N : Nat) (hw : Cond.classLink own index "WaterCarts$Spring" ∈ gT) (hd : decode cc pc = .ok (.anewarray index, 3)) (hkd : gK Z.1 = (3, 5, N)) (hM : fM Z.1 M) (h1000 : Z.1 < 1000) (hx0 : x = nI N) (hN : N < 10000) (hc : Z.2.1 + 1 ≤ mc) (hs : Z.2.2 + N ≤ ms) (hL : gRs Z.1 L) (hst : gRs Z.1 (st.map some)) (kk : G (Z.1 + 1, Z.2.1 + 1, Z.2.2 + N) (pc + 3) L (.ref Z.1 :: st) M) : G Z pc L (.int x :: st) M := by
  obtain ⟨p, l, e, R, s, m, args, below, meth, c, D, dA, n0, ad0, Q, ⟨hx, hb, hml, hown, hts, hK, hlk, hfr, hlo, hX⟩, hmc, hms, rfl⟩ := hG
  intro ad H locs ls he hP hD hS hl
  subst hx0
  have hf : (fun j => (M.2.2 Z.1 j).map ad) = fun _ => none := funext fun j => by rw [(hM.1 Z.1 j (Nat.le_refl _)).2.2]; rfl
  refine va_newq (D := D) hx hb hown (hts _ hw) (hX.2.2.2.2.1 _ (by decide)) hK hP hD hS (fun q h => Or.inr h) (nI_pos (by omega)) (nI_clamp (by omega)) (by omega) (by rw [hmc]; exact hc) (by rw [hms]; exact hs) hd (fun q cA H1 hK1 hP1 hD1 hS1 => ?_)
  have hA : cA = dA 5 := by
    obtain ⟨_, _, _, _, _, g1⟩ := (hK1.2 9 (cA, .object "WaterCarts$Spring") rfl).2
    obtain ⟨_, _, _, _, _, g2⟩ := (hK.2 5 (dA 5, .object "WaterCarts$Spring") rfl).2
    exact Option.some.inj (g1.symm.trans g2)
  subst hA
  have e := gw_grow (dA := dA) (ad := ad) (q := q) hM (ge_ref hkd)
  rw [hf] at e
  rw [← e] at hP1 hD1
  have k1 := kk (adn ad Z.1 q) H1 locs ls (gExt_grow he h1000) hP1 hD1 hS1 (gl_grow h1000 hL hl)
  rw [show ((Value.ref Z.1 :: st).map (gtr (adn ad Z.1 q))) = .ref q :: st.map (gtr ad) from by rw [List.map_cons, st_grow h1000 hst]; show Value.ref (adn ad Z.1 q Z.1) :: _ = _; rw [adn_s]] at k1
  exact k1
theorem r_aast5 {d mc ms : Nat} {own : String} {cc : ByteArray} {nL : Nat} {G : gJ} (hG : gS d mc ms own cc nL G) {Z : Nat × Nat × Nat} {pc : Nat} {L : List (Option Value)} {st : List Value} {M : gM} {k n k2 ci z : Nat} {i : Int32} (q : Nat) {T : u_T} (hci : vwCl[ci]? = some ("WaterCarts$Spring", T, gfn ci)) (hd : decode cc pc = .ok (.aastore, 1)) (hkd : gK k = (3, 5, n)) (hk : k < Z.1) (hkd2 : gK k2 = (0, ci, z)) (hk2 : k2 < Z.1) (hi : i = nI q) (hq : q < n) (hn : n < 2147483648) (kk : G Z (pc + 1) L st (gwR M k q (some k2))) : G Z pc L (.ref k2 :: .int i :: .ref k :: st) M := by
  obtain ⟨p, l, e, R, s, m, args, below, meth, c, D, dA, n0, ad0, Q, ⟨hx, hb, hml, hown, hts, hK, hlk, hfr, hlo, hX⟩, hmc, hms, rfl⟩ := hG
  intro ad H locs ls he hP hD hS hl
  obtain ⟨h1, h2⟩ := gin hi hq hn
  refine va_astq (D := D) (f := fun j => (M.2.2 k j).map ad) hx hb hK hP hD hS k 5 k2 ci (by rw [gw_at hk, ge_ref hkd]) rfl (by rw [gw_at hk2, ge_obj hkd2]) hci h1 hd (fun H1 locs1 hP1 hD1 hS1 => ?_)
  rw [h2] at hP1 hD1
  have e : (gw dA ad Z.1 M).set k (ad k, .inl (dA 5, n, .inr (.inr (.inr (.inr (va_up (fun j => (M.2.2 k j).map ad) q (some (ad k2)))))))) = gw dA ad Z.1 (gwR M k q (some k2)) := by
    refine gw_set hk ?_ (fun q hq => ge_row rfl rfl (gwR_row hq))
    rw [ge_ref hkd]
    have e1 : (fun j => ((gwR M k q (some k2)).2.2 k j).map ad) = va_up (fun j => (M.2.2 k j).map ad) q (some (ad k2)) := by
      funext j
      show (if k = k ∧ j = q then some k2 else M.2.2 k j).map ad = if j = q then some (ad k2) else (M.2.2 k j).map ad
      by_cases e : j = q
      · rw [if_pos ⟨rfl, e⟩, if_pos e]; rfl
      · rw [if_neg (fun z => e z.2), if_neg e]
    rw [e1]
  rw [e] at hP1 hD1
  exact kk ad H1 locs1 ls he hP1 hD1 hS1 hl
theorem r_newq6 {d mc ms : Nat} {own : String} {cc : ByteArray} {nL : Nat} {G : gJ} (hG : gS d mc ms own cc nL G) {Z : Nat × Nat × Nat} {pc : Nat} {L : List (Option Value)} {st : List Value} {M : gM} {x : Int32} {index : Nat} (N : Nat) (hw : Cond.classLink own index "WaterCarts$Tanker" ∈ gT) (hd : decode cc pc = .ok (.anewarray index, 3)) (hkd : gK Z.1 = (3, 6, N)) (hM : fM Z.1 M) (h1000 : Z.1 < 1000) (hx0 : x = nI N) (hN : N < 10000) (hc : Z.2.1 + 1 ≤ mc) (hs : Z.2.2 + N ≤ ms) (hL : gRs Z.1 L) (hst : gRs Z.1 (st.map some)) (kk : G (Z.1 + 1, Z.2.1 + 1, Z.2.2 + N) (pc + 3) L (.ref Z.1 :: st) M) : G Z pc L (.int x :: st) M := by
  obtain ⟨p, l, e, R, s, m, args, below, meth, c, D, dA, n0, ad0, Q, ⟨hx, hb, hml, hown, hts, hK, hlk, hfr, hlo, hX⟩, hmc, hms, rfl⟩ := hG
  intro ad H locs ls he hP hD hS hl
  subst hx0
  have hf : (fun j => (M.2.2 Z.1 j).map ad) = fun _ => none := funext fun j => by rw [(hM.1 Z.1 j (Nat.le_refl _)).2.2]; rfl
  refine va_newq (D := D) hx hb hown (hts _ hw) (hX.2.2.2.2.1 _ (by decide)) hK hP hD hS (fun q h => Or.inr h) (nI_pos (by omega)) (nI_clamp (by omega)) (by omega) (by rw [hmc]; exact hc) (by rw [hms]; exact hs) hd (fun q cA H1 hK1 hP1 hD1 hS1 => ?_)
  have hA : cA = dA 6 := by
    obtain ⟨_, _, _, _, _, g1⟩ := (hK1.2 9 (cA, .object "WaterCarts$Tanker") rfl).2
    obtain ⟨_, _, _, _, _, g2⟩ := (hK.2 6 (dA 6, .object "WaterCarts$Tanker") rfl).2
    exact Option.some.inj (g1.symm.trans g2)
  subst hA
  have e := gw_grow (dA := dA) (ad := ad) (q := q) hM (ge_ref hkd)
  rw [hf] at e
  rw [← e] at hP1 hD1
  have k1 := kk (adn ad Z.1 q) H1 locs ls (gExt_grow he h1000) hP1 hD1 hS1 (gl_grow h1000 hL hl)
  rw [show ((Value.ref Z.1 :: st).map (gtr (adn ad Z.1 q))) = .ref q :: st.map (gtr ad) from by rw [List.map_cons, st_grow h1000 hst]; show Value.ref (adn ad Z.1 q Z.1) :: _ = _; rw [adn_s]] at k1
  exact k1
theorem r_aast6 {d mc ms : Nat} {own : String} {cc : ByteArray} {nL : Nat} {G : gJ} (hG : gS d mc ms own cc nL G) {Z : Nat × Nat × Nat} {pc : Nat} {L : List (Option Value)} {st : List Value} {M : gM} {k n k2 ci z : Nat} {i : Int32} (q : Nat) {T : u_T} (hci : vwCl[ci]? = some ("WaterCarts$Tanker", T, gfn ci)) (hd : decode cc pc = .ok (.aastore, 1)) (hkd : gK k = (3, 6, n)) (hk : k < Z.1) (hkd2 : gK k2 = (0, ci, z)) (hk2 : k2 < Z.1) (hi : i = nI q) (hq : q < n) (hn : n < 2147483648) (kk : G Z (pc + 1) L st (gwR M k q (some k2))) : G Z pc L (.ref k2 :: .int i :: .ref k :: st) M := by
  obtain ⟨p, l, e, R, s, m, args, below, meth, c, D, dA, n0, ad0, Q, ⟨hx, hb, hml, hown, hts, hK, hlk, hfr, hlo, hX⟩, hmc, hms, rfl⟩ := hG
  intro ad H locs ls he hP hD hS hl
  obtain ⟨h1, h2⟩ := gin hi hq hn
  refine va_astq (D := D) (f := fun j => (M.2.2 k j).map ad) hx hb hK hP hD hS k 6 k2 ci (by rw [gw_at hk, ge_ref hkd]) rfl (by rw [gw_at hk2, ge_obj hkd2]) hci h1 hd (fun H1 locs1 hP1 hD1 hS1 => ?_)
  rw [h2] at hP1 hD1
  have e : (gw dA ad Z.1 M).set k (ad k, .inl (dA 6, n, .inr (.inr (.inr (.inr (va_up (fun j => (M.2.2 k j).map ad) q (some (ad k2)))))))) = gw dA ad Z.1 (gwR M k q (some k2)) := by
    refine gw_set hk ?_ (fun q hq => ge_row rfl rfl (gwR_row hq))
    rw [ge_ref hkd]
    have e1 : (fun j => ((gwR M k q (some k2)).2.2 k j).map ad) = va_up (fun j => (M.2.2 k j).map ad) q (some (ad k2)) := by
      funext j
      show (if k = k ∧ j = q then some k2 else M.2.2 k j).map ad = if j = q then some (ad k2) else (M.2.2 k j).map ad
      by_cases e : j = q
      · rw [if_pos ⟨rfl, e⟩, if_pos e]; rfl
      · rw [if_neg (fun z => e z.2), if_neg e]
    rw [e1]
  rw [e] at hP1 hD1
  exact kk ad H1 locs1 ls he hP1 hD1 hS1 hl
theorem r_newq7 {d mc ms : Nat} {own : String} {cc : ByteArray} {nL : Nat} {G : gJ} (hG : gS d mc ms own cc nL G) {Z : Nat × Nat × Nat} {pc : Nat} {L : List (Option Value)} {st : List Value} {M : gM} {x : Int32} {index : Nat} (N : Nat) (hw : Cond.classLink own index "WaterCarts$Bore" ∈ gT) (hd : decode cc pc = .ok (.anewarray index, 3)) (hkd : gK Z.1 = (3, 7, N)) (hM : fM Z.1 M) (h1000 : Z.1 < 1000) (hx0 : x = nI N) (hN : N < 10000) (hc : Z.2.1 + 1 ≤ mc) (hs : Z.2.2 + N ≤ ms) (hL : gRs Z.1 L) (hst : gRs Z.1 (st.map some)) (kk : G (Z.1 + 1, Z.2.1 + 1, Z.2.2 + N) (pc + 3) L (.ref Z.1 :: st) M) : G Z pc L (.int x :: st) M := by
  obtain ⟨p, l, e, R, s, m, args, below, meth, c, D, dA, n0, ad0, Q, ⟨hx, hb, hml, hown, hts, hK, hlk, hfr, hlo, hX⟩, hmc, hms, rfl⟩ := hG
  intro ad H locs ls he hP hD hS hl
  subst hx0
  have hf : (fun j => (M.2.2 Z.1 j).map ad) = fun _ => none := funext fun j => by rw [(hM.1 Z.1 j (Nat.le_refl _)).2.2]; rfl
  refine va_newq (D := D) hx hb hown (hts _ hw) (hX.2.2.2.2.1 _ (by decide)) hK hP hD hS (fun q h => Or.inr h) (nI_pos (by omega)) (nI_clamp (by omega)) (by omega) (by rw [hmc]; exact hc) (by rw [hms]; exact hs) hd (fun q cA H1 hK1 hP1 hD1 hS1 => ?_)
  have hA : cA = dA 7 := by
    obtain ⟨_, _, _, _, _, g1⟩ := (hK1.2 9 (cA, .object "WaterCarts$Bore") rfl).2
    obtain ⟨_, _, _, _, _, g2⟩ := (hK.2 7 (dA 7, .object "WaterCarts$Bore") rfl).2
    exact Option.some.inj (g1.symm.trans g2)
  subst hA
  have e := gw_grow (dA := dA) (ad := ad) (q := q) hM (ge_ref hkd)
  rw [hf] at e
  rw [← e] at hP1 hD1
  have k1 := kk (adn ad Z.1 q) H1 locs ls (gExt_grow he h1000) hP1 hD1 hS1 (gl_grow h1000 hL hl)
  rw [show ((Value.ref Z.1 :: st).map (gtr (adn ad Z.1 q))) = .ref q :: st.map (gtr ad) from by rw [List.map_cons, st_grow h1000 hst]; show Value.ref (adn ad Z.1 q Z.1) :: _ = _; rw [adn_s]] at k1
  exact k1
theorem r_aast7 {d mc ms : Nat} {own : String} {cc : ByteArray} {nL : Nat} {G : gJ} (hG : gS d mc ms own cc nL G) {Z : Nat × Nat × Nat} {pc : Nat} {L : List (Option Value)} {st : List Value} {M : gM} {k n k2 ci z : Nat} {i : Int32} (q : Nat) {T : u_T} (hci : vwCl[ci]? = some ("WaterCarts$Bore", T, gfn ci)) (hd : decode cc pc = .ok (.aastore, 1)) (hkd : gK k = (3, 7, n)) (hk : k < Z.1) (hkd2 : gK k2 = (0, ci, z)) (hk2 : k2 < Z.1) (hi : i = nI q) (hq : q < n) (hn : n < 2147483648) (kk : G Z (pc + 1) L st (gwR M k q (some k2))) : G Z pc L (.ref k2 :: .int i :: .ref k :: st) M := by
  obtain ⟨p, l, e, R, s, m, args, below, meth, c, D, dA, n0, ad0, Q, ⟨hx, hb, hml, hown, hts, hK, hlk, hfr, hlo, hX⟩, hmc, hms, rfl⟩ := hG
  intro ad H locs ls he hP hD hS hl
  obtain ⟨h1, h2⟩ := gin hi hq hn
  refine va_astq (D := D) (f := fun j => (M.2.2 k j).map ad) hx hb hK hP hD hS k 7 k2 ci (by rw [gw_at hk, ge_ref hkd]) rfl (by rw [gw_at hk2, ge_obj hkd2]) hci h1 hd (fun H1 locs1 hP1 hD1 hS1 => ?_)
  rw [h2] at hP1 hD1
  have e : (gw dA ad Z.1 M).set k (ad k, .inl (dA 7, n, .inr (.inr (.inr (.inr (va_up (fun j => (M.2.2 k j).map ad) q (some (ad k2)))))))) = gw dA ad Z.1 (gwR M k q (some k2)) := by
    refine gw_set hk ?_ (fun q hq => ge_row rfl rfl (gwR_row hq))
    rw [ge_ref hkd]
    have e1 : (fun j => ((gwR M k q (some k2)).2.2 k j).map ad) = va_up (fun j => (M.2.2 k j).map ad) q (some (ad k2)) := by
      funext j
      show (if k = k ∧ j = q then some k2 else M.2.2 k j).map ad = if j = q then some (ad k2) else (M.2.2 k j).map ad
      by_cases e : j = q
      · rw [if_pos ⟨rfl, e⟩, if_pos e]; rfl
      · rw [if_neg (fun z => e z.2), if_neg e]
    rw [e1]
  rw [e] at hP1 hD1
  exact kk ad H1 locs1 ls he hP1 hD1 hS1 hl
/-- in a constructor -/
def gSi (d mc ms : Nat) (own : String) (cc : ByteArray) (nL : Nat) (G : gJ) : Prop :=
  ∃ (p : Program) (l : Launch) (e : Env) (R : Room) (s : State) (m : MethodId) (args : Array Value) (below : List Frame) (meth : Method) (c : Code) (D : va_G) (dA : Nat → ClassId) (n0 : Nat) (ad0 : Nat → Nat) (Q : State → Prop),
    gF p l R s m args meth c D dA n0 ad0 d own cc nL ∧ R.cells = mc ∧ R.slots = ms ∧ meth.name = "<init>" ∧ G = gG p l e R s m args below meth c D dA n0 ad0 nL Q
set_option maxHeartbeats 1000000 in
theorem gC_vI {d mc ms : Nat} {y : MethodName} {cc : ByteArray} {nL : Nat} {n n' : Nat} {As : List Value} {M : gM} {P : gM → Prop} (hyn : y.name = "<init>") (hy : plainName y.cls = true) (hlen : (gent As).length ≤ nL)
    (body : ∀ G, gSi d mc ms y.cls cc nL G → gS d mc ms y.cls cc nL G → gEv n' mc ms cc P G → G (n, 0, 0) 0 (gpad nL (gent As)) [] M) : gC d mc ms y cc nL none n n' As M (gV P) := by
  intro l D dA ad sz
  refine Met.ofW (cc := cc) (maxL := nL) (ret := none) hy rfl ?_
  intro p e s m args below meth c s₁ B hml hv
  obtain ⟨rfl, hsz, hP, hD, hK, hX⟩ := hv
  subst hsz
  have hts := atoms_spec (ws := gWs y cc nL none) B.pre
  have hown : s.vm.findClass y.cls = some m.cls := findClass_of_methodNamed B.named
  have hin : meth.name = "<init>" := by rw [← hyn]; exact (name_of_methodNamed B.named B.method).1
  have hlk := B.notSynchronized
  rw [lg_entry_eq]
  refine body (gG p l e (gRm d mc ms) s m (As.map (gtr ad)).toArray below meth c D dA n ad nL (MQ below (gQ D dA n n' ad s.heap.size (gV P)) (As.map (gtr ad)).toArray s mc ms (gA ad n s.heap.size))) ?_ ?_ ?_ ad s.heap [] _ gExt.rf hP (gD_self hD) va_S.rf (gl_entry hlen)
  · exact ⟨p, l, e, gRm d mc ms, s, m, _, below, meth, c, D, dA, n, ad, _, ⟨B.exec, B.bytes, hml, hown, fun w hw => hts w (List.mem_cons_of_mem _ hw), hK, hlk, Nat.le_refl _, Nat.le_refl _, hX⟩, rfl, rfl, hin, rfl⟩
  · exact ⟨p, l, e, gRm d mc ms, s, m, _, below, meth, c, D, dA, n, ad, _, ⟨B.exec, B.bytes, hml, hown, fun w hw => hts w (List.mem_cons_of_mem _ hw), hK, hlk, Nat.le_refl _, Nat.le_refl _, hX⟩, rfl, rfl, rfl⟩
  · intro Z pc L M' hd hz h1 h2 hp ad' H locs ls he hP' hD' hS hl
    subst hz
    refine W.widen (k := mc) (n := ms) h1 h2 ?_
    exact W.vret B.exec B.bytes B.returns (fun t ht hW => ⟨⟨none, ad', M', rfl, ⟨rfl, hp⟩, he, by rw [ht]; exact hP', hD'⟩, hS.F ht⟩) hS.2.2 hd hlk
def gFf (own : String) (index ci j : Nat) (ty : FieldType) : Prop := ∃ (C : String) (T : u_T) (ty0 : Nat → FieldType), vwCl[ci]? = some (C, T, gfn ci) ∧ j < gfn ci ∧ (∀ w ∈ u_ws C T (gfn ci), w ∈ gT) ∧ Cond.fieldLink own index (T j).1 (T j).2.1 (T j).2.2.1 ∈ gT ∧ (∀ k, k < gfn ci → parseFieldDescriptor (T k).2.2.1 = some (ty0 k)) ∧ (∀ a, a < gfn ci → ∀ b, b < gfn ci → a ≠ b → (T a).2.1 ≠ (T b).2.1) ∧ (T j).2.2.2 = true ∧ (T j).1 = own ∧ parseFieldDescriptor (T j).2.2.1 = some ty
theorem r_putF {d mc ms : Nat} {own : String} {cc : ByteArray} {nL : Nat} {G : gJ} (hG : gSi d mc ms own cc nL G) {Z : Nat × Nat × Nat} {pc : Nat} {L : List (Option Value)} {st : List Value} {M : gM} {k ci index z k2 : Nat} {ty : FieldType} (j : Nat) (hf : gFf own index ci j ty) (hd : decode cc pc = .ok (.putfield index, 3)) (hkd : gK k = (0, ci, z)) (hk : k < Z.1) (hc : gfc ci j = true) (hn : ∀ a, narrow ty (.ref a) = .ref a) (hfit : ∀ a, fits ty (.ref a) = true) (kk : G Z (pc + 3) L st (gwR M k j (some k2))) : G Z pc L (.ref k2 :: .ref k :: st) M := by
  obtain ⟨p, l, e, R, s, m, args, below, meth, c, D, dA, n0, ad0, Q, ⟨hx, hb, hml, hown, hts, hK, hlk, hfr, hlo, hX⟩, hmc, hms, hin, rfl⟩ := hG
  intro ad H locs ls he hP hD hS hl
  obtain ⟨C, T, ty0, h1, h2, h3, h4, h5, h6, h7, h9, h8⟩ := hf
  refine va_putF (D := D) (ref := (T j).1) (v := .ref (ad k2)) (ty := ty) hx hb hts h3 ty0 h5 h6 hown hK hP hD hS k (by rw [gw_at hk, ge_obj hkd]) h1 j h2 (hts _ h4) (fun _ h9 => h9) h7 hin h9 h8 (hn _) (hfit _) (by rw [gfs_len]; exact h2) hd (fun H1 locs1 hP1 hD1 hS1 => ?_)
  have e : (gw dA ad Z.1 M).set k (ad k, .inr (ci, (gfs ad M k ci).set j (.ref (ad k2)))) = gw dA ad Z.1 (gwR M k j (some k2)) := by
    refine gw_set hk ?_ (fun q hq => ge_row rfl rfl (gwR_row hq))
    rw [ge_obj hkd, gfs_set (M' := gwR M k j (some k2)) h2 (by rw [hc]; simp [gv, gwR, va_rf]) (fun i hi => gv_R (Or.inl hi))]
  rw [e] at hP1 hD1
  exact kk ad H1 locs1 ls he hP1 hD1 hS1 hl
theorem r_obj {d mc ms : Nat} {own : String} {cc : ByteArray} {nL : Nat} {G : gJ} (hG : gS d mc ms own cc nL G) {Z : Nat × Nat × Nat} {pc : Nat} {L : List (Option Value)} {st : List Value} {M : gM} {k index : Nat} (h1 : Cond.methodLink own index Lib.objectInit ∈ gT) (h2 : Cond.instanceMethod Lib.objectInit ∈ gT) (h3 : Cond.code Lib.objectInit ⟨#[0xb1]⟩ 1 none ∈ gT) (hd : decode cc pc = .ok (.invokespecial index, 3)) (hdd : 1 ≤ d) (hst : (st.map fun v => v.category).sum ≤ 8) (kk : G Z (pc + 3) L st M) : G Z pc L (.ref k :: st) M := by
  obtain ⟨p, l, e, R, s, m, args, below, meth, c, D, dA, n0, ad0, Q, ⟨hx, hb, hml, hown, hts, hK, hlk, hfr, hlo, hX⟩, hmc, hms, rfl⟩ := hG
  intro ad H locs ls he hP hD hS hl
  have hcat : (st.map (gtr ad)).map (fun v => v.category) = st.map (fun v => v.category) := by
    rw [List.map_map]
    exact List.map_congr_left (fun v _ => gtr_cat ad v)
  refine W.objInit hx hb hown (hts _ h1) (hts _ h2) (hts _ h3) rfl (by rw [hml]; exact hl.2.1) rfl hd (Nat.le_trans hdd hfr) ?_ (kk ad H locs ls he hP hD hS hl)
  show 2 * 0 + ((st.map (gtr ad)).map fun v => v.category).sum + 12 ≤ R.locals
  rw [hcat]
  omega
/-- a constructor's call: a private one of a nest mate, and a plain one -/
def gIn (own : String) (index : Nat) (y : MethodName) (cy : ByteArray) (nLy : Nat) : Prop := ∃ host : String, Cond.methodLinkNest own index y host ∈ gNl ∧ Cond.code y cy nLy none ∈ gT ∧ Cond.initialized y.cls ∈ gT ∧ (y.cls ≠ "java/lang/invoke/MethodHandle" ∧ y.cls ≠ "java/lang/invoke/VarHandle" ∧ (parseMethodDescriptor y.desc).map (fun d => d.parameters.length) = some 0) ∧ nLy ≤ 21 ∧ y.name = "<init>" ∧ Cond.instanceMethod y ∈ gT
def gIp (own : String) (index : Nat) (y : MethodName) (cy : ByteArray) (nLy : Nat) : Prop := gLk own index y cy nLy none 0 ∧ y.name = "<init>" ∧ Cond.instanceMethod y ∈ gT
set_option maxHeartbeats 1000000 in
theorem r_cIN {d mc ms : Nat} {own : String} {cc : ByteArray} {nL : Nat} {G : gJ} (hG : gS d mc ms own cc nL G) {Z : Nat × Nat × Nat} {pc : Nat} {L : List (Option Value)} {st : List Value} {M : gM} {index n' mc' ms' : Nat} {y : MethodName} {cy : ByteArray} {nLy d' k : Nat} {P : gM → Prop} (hm : gIn own index y cy nLy) (hd : decode cc pc = .ok (.invokespecial index, 3)) (hC : gC d' mc' ms' y cy nLy none Z.1 n' [.ref k] M (gV P)) (hdd : d' + 1 ≤ d) (hc : Z.2.1 + mc' ≤ mc ∧ Z.2.2 + ms' ≤ ms) (hst : (st.map fun v => v.category).sum ≤ 8) (hL : gRs Z.1 L) (hr : gRs Z.1 (st.map some))
    (kk : ∀ (M' : gM), P M' → G (n', Z.2.1 + mc', Z.2.2 + ms') (pc + 3) L st M') : G Z pc L (.ref k :: st) M := by
  obtain ⟨p, l, e, R, s, m, args, below, meth, c, D, dA, n0, ad0, Q, ⟨hx, hb, hml, hown, hts, hK, hlk, hfr, hlo, hX⟩, hmc, hms, rfl⟩ := hG
  intro ad H locs ls he hP hD hS hl
  obtain ⟨host, h1, h2, h3, h4, h5, h6, h7⟩ := hm
  have hcw : va_CN R s args own index y host cy nLy none (gWs y cy nLy none) (gRm d' mc' ms') mc' ms' 0 := va_cnB 0 hts (gT_good h2) rfl rfl rfl (hX.2.2.2.1 _ h1) (hts _ h3) h4 ⟨Nat.le_trans hdd hfr, by show 8 + (nLy + 11) + 40 * d' ≤ R.locals; omega⟩
  have hcat : (st.map (gtr ad)).map (fun v => v.category) = st.map (fun v => v.category) := by
    rw [List.map_map]
    exact List.map_congr_left (fun v _ => gtr_cat ad v)
  refine g_back (n := Z.1) (n' := n') (mc' := mc') (ms' := ms') (rest := st) (a := (Value.ref (ad k) :: []).toArray) (va_runIN (As := []) ⟨hx, hb, hml, hown, hts⟩ (hC l D dA ad H.size) ⟨hcw, h6, hts _ h7⟩ ⟨gPre_blind, fun U hU hW => ⟨rfl, by rw [hU], by rw [hU]; exact hP, hD.weaken (fun _ _ _ _ => trivial), va_K.moved hW.alike hK, by rw [hU]; exact gX.warm hW (gX_at he hX hD hS)⟩⟩ rfl rfl (hl.2.1) rfl ?_ hd ⟨by rw [hmc]; exact hc.1, by rw [hms]; exact hc.2⟩) he hD hS hl (Or.inr ⟨fun i k e => gRs_at hL i k e, fun k e => gRs_mem hr e⟩) (fun r M' h => ?_)
  · refine lv_room ?_
    rw [hcat]
    exact hst
  · obtain ⟨rfl, h⟩ := h
    exact kk M' h
set_option maxHeartbeats 1000000 in
theorem r_cIP {d mc ms : Nat} {own : String} {cc : ByteArray} {nL : Nat} {G : gJ} (hG : gS d mc ms own cc nL G) {Z : Nat × Nat × Nat} {pc : Nat} {L : List (Option Value)} {st : List Value} {M : gM} {index n' mc' ms' : Nat} {y : MethodName} {cy : ByteArray} {nLy d' k : Nat} {P : gM → Prop} (hm : gIp own index y cy nLy) (hd : decode cc pc = .ok (.invokespecial index, 3)) (hC : gC d' mc' ms' y cy nLy none Z.1 n' [.ref k] M (gV P)) (hdd : d' + 1 ≤ d) (hc : Z.2.1 + mc' ≤ mc ∧ Z.2.2 + ms' ≤ ms) (hst : (st.map fun v => v.category).sum ≤ 8) (hL : gRs Z.1 L) (hr : gRs Z.1 (st.map some))
    (kk : ∀ (M' : gM), P M' → G (n', Z.2.1 + mc', Z.2.2 + ms') (pc + 3) L st M') : G Z pc L (.ref k :: st) M := by
  obtain ⟨p, l, e, R, s, m, args, below, meth, c, D, dA, n0, ad0, Q, ⟨hx, hb, hml, hown, hts, hK, hlk, hfr, hlo, hX⟩, hmc, hms, rfl⟩ := hG
  intro ad H locs ls he hP hD hS hl
  obtain ⟨⟨h1, h2, h3, h4, h5⟩, h6, h7⟩ := hm
  have hcw : CallB R s args own index y cy nLy none (gWs y cy nLy none) (gRm d' mc' ms') mc' ms' 0 := callB_of 0 hts (gT_good h2) rfl rfl rfl (hts _ h3) (hts _ h1) h4 ⟨Nat.le_trans hdd hfr, by show 8 + (nLy + 11) + 40 * d' ≤ R.locals; omega⟩
  have hcat : (st.map (gtr ad)).map (fun v => v.category) = st.map (fun v => v.category) := by
    rw [List.map_map]
    exact List.map_congr_left (fun v _ => gtr_cat ad v)
  refine g_back (n := Z.1) (n' := n') (mc' := mc') (ms' := ms') (rest := st) (a := (Value.ref (ad k) :: []).toArray) (va_runI (As := []) ⟨hx, hb, hml, hown, hts⟩ (hC l D dA ad H.size) ⟨hcw, h6, hts _ h7⟩ ⟨gPre_blind, fun U hU hW => ⟨rfl, by rw [hU], by rw [hU]; exact hP, hD.weaken (fun _ _ _ _ => trivial), va_K.moved hW.alike hK, by rw [hU]; exact gX.warm hW (gX_at he hX hD hS)⟩⟩ rfl rfl (hl.2.1) rfl ?_ hd ⟨by rw [hmc]; exact hc.1, by rw [hms]; exact hc.2⟩) he hD hS hl (Or.inr ⟨fun i k e => gRs_at hL i k e, fun k e => gRs_mem hr e⟩) (fun r M' h => ?_)
  · refine lv_room ?_
    rw [hcat]
    exact hst
  · obtain ⟨rfl, h⟩ := h
    exact kk M' h

/-- a field by its link: class ci, slot j -/
def gFk (own : String) (index ci j : Nat) : Prop := ∃ (C : String) (T : u_T), vwCl[ci]? = some (C, T, gfn ci) ∧ j < gfn ci ∧ (∀ w ∈ u_ws C T (gfn ci), w ∈ gT) ∧ Cond.fieldLink own index (T j).1 (T j).2.1 (T j).2.2.1 ∈ gT
def gFp (own : String) (index ci j : Nat) (ty : FieldType) : Prop := ∃ (C : String) (T : u_T) (ty0 : Nat → FieldType), vwCl[ci]? = some (C, T, gfn ci) ∧ j < gfn ci ∧ (∀ w ∈ u_ws C T (gfn ci), w ∈ gT) ∧ Cond.fieldLink own index (T j).1 (T j).2.1 (T j).2.2.1 ∈ gT ∧ (∀ k, k < gfn ci → parseFieldDescriptor (T k).2.2.1 = some (ty0 k)) ∧ (∀ a, a < gfn ci → ∀ b, b < gfn ci → a ≠ b → (T a).2.1 ≠ (T b).2.1) ∧ (T j).2.2.2 = false ∧ parseFieldDescriptor (T j).2.2.1 = some ty
theorem r_getI {d mc ms : Nat} {own : String} {cc : ByteArray} {nL : Nat} {G : gJ} (hG : gS d mc ms own cc nL G) {Z : Nat × Nat × Nat} {pc : Nat} {L : List (Option Value)} {st : List Value} {M : gM} {k ci index z : Nat} (j : Nat) (hf : gFk own index ci j) (hd : decode cc pc = .ok (.getfield index, 3)) (hkd : gK k = (0, ci, z)) (hk : k < Z.1) (hc : gfc ci j = false) (kk : G Z (pc + 3) L (.int (M.1 k j) :: st) M) : G Z pc L (.ref k :: st) M := by
  obtain ⟨p, l, e, R, s, m, args, below, meth, c, D, dA, n0, ad0, Q, ⟨hx, hb, hml, hown, hts, hK, hlk, hfr, hlo, hX⟩, hmc, hms, rfl⟩ := hG
  intro ad H locs ls he hP hD hS hl
  obtain ⟨C, T, h1, h2, h3, h4⟩ := hf
  refine va_get (D := D) (ref := (T j).1) (v := .int (M.1 k j)) hx hb hts h3 hown hK hP k (by rw [gw_at hk, ge_obj hkd]) h1 j h2 (hts _ h4) (fun _ h9 => h9) ?_ hd (kk ad H locs ls he hP hD hS hl)
  rw [gfs_at h2, hc]
  rfl
theorem r_getR {d mc ms : Nat} {own : String} {cc : ByteArray} {nL : Nat} {G : gJ} (hG : gS d mc ms own cc nL G) {Z : Nat × Nat × Nat} {pc : Nat} {L : List (Option Value)} {st : List Value} {M : gM} {k ci index z : Nat} (j k2 : Nat) (hf : gFk own index ci j) (hd : decode cc pc = .ok (.getfield index, 3)) (hkd : gK k = (0, ci, z)) (hk : k < Z.1) (hc : gfc ci j = true) (hr : M.2.2 k j = some k2) (kk : G Z (pc + 3) L (.ref k2 :: st) M) : G Z pc L (.ref k :: st) M := by
  obtain ⟨p, l, e, R, s, m, args, below, meth, c, D, dA, n0, ad0, Q, ⟨hx, hb, hml, hown, hts, hK, hlk, hfr, hlo, hX⟩, hmc, hms, rfl⟩ := hG
  intro ad H locs ls he hP hD hS hl
  obtain ⟨C, T, h1, h2, h3, h4⟩ := hf
  refine va_get (D := D) (ref := (T j).1) (v := .ref (ad k2)) hx hb hts h3 hown hK hP k (by rw [gw_at hk, ge_obj hkd]) h1 j h2 (hts _ h4) (fun _ h9 => h9) ?_ hd (kk ad H locs ls he hP hD hS hl)
  rw [gfs_at h2, hc]
  show some (va_rf ((M.2.2 k j).map ad)) = _
  rw [hr]
  rfl
theorem gv_I {ad : Nat → Nat} {M : gM} {k j i : Nat} {v : Int32} {r : Bool} (h : i ≠ j ∨ r = true) : gv ad (gwI M k j v) k i r = gv ad M k i r := by
  cases r with
  | true => rfl
  | false =>
    have h2 : i ≠ j := by simpa using h
    simp [gv, gwI, h2]
theorem gv_R {ad : Nat → Nat} {M : gM} {k j i : Nat} {v : Option Nat} {r : Bool} (h : i ≠ j ∨ r = false) : gv ad (gwR M k j v) k i r = gv ad M k i r := by
  cases r with
  | false => rfl
  | true =>
    have h2 : i ≠ j := by simpa using h
    simp [gv, gwR, h2]
theorem r_putI {d mc ms : Nat} {own : String} {cc : ByteArray} {nL : Nat} {G : gJ} (hG : gS d mc ms own cc nL G) {Z : Nat × Nat × Nat} {pc : Nat} {L : List (Option Value)} {st : List Value} {M : gM} {k ci index z : Nat} {v : Int32} {ty : FieldType} (j : Nat) (hf : gFp own index ci j ty) (hd : decode cc pc = .ok (.putfield index, 3)) (hkd : gK k = (0, ci, z)) (hk : k < Z.1) (hc : gfc ci j = false) (hn : narrow ty (.int v) = .int v) (hfit : fits ty (.int v) = true) (kk : G Z (pc + 3) L st (gwI M k j v)) : G Z pc L (.int v :: .ref k :: st) M := by
  obtain ⟨p, l, e, R, s, m, args, below, meth, c, D, dA, n0, ad0, Q, ⟨hx, hb, hml, hown, hts, hK, hlk, hfr, hlo, hX⟩, hmc, hms, rfl⟩ := hG
  intro ad H locs ls he hP hD hS hl
  obtain ⟨C, T, ty0, h1, h2, h3, h4, h5, h6, h7, h8⟩ := hf
  refine va_put (D := D) (ref := (T j).1) (v := .int v) (ty := ty) hx hb hts h3 ty0 h5 h6 hown hK hP hD hS k (by rw [gw_at hk, ge_obj hkd]) h1 j h2 (hts _ h4) (fun _ h9 => h9) h7 h8 hn hfit (by rw [gfs_len]; exact h2) hd (fun H1 locs1 hP1 hD1 hS1 => ?_)
  have e : (gw dA ad Z.1 M).set k (ad k, .inr (ci, (gfs ad M k ci).set j (.int v))) = gw dA ad Z.1 (gwI M k j v) := by
    refine gw_set hk ?_ (fun q hq => ge_row (gwI_row hq) rfl rfl)
    rw [ge_obj hkd, gfs_set (M' := gwI M k j v) h2 (by rw [hc]; simp [gv, gwI]) (fun i hi => gv_I (Or.inl hi))]
  rw [e] at hP1 hD1
  exact kk ad H1 locs1 ls he hP1 hD1 hS1 hl
theorem r_putR {d mc ms : Nat} {own : String} {cc : ByteArray} {nL : Nat} {G : gJ} (hG : gS d mc ms own cc nL G) {Z : Nat × Nat × Nat} {pc : Nat} {L : List (Option Value)} {st : List Value} {M : gM} {k ci index z k2 : Nat} {ty : FieldType} (j : Nat) (hf : gFp own index ci j ty) (hd : decode cc pc = .ok (.putfield index, 3)) (hkd : gK k = (0, ci, z)) (hk : k < Z.1) (hc : gfc ci j = true) (hn : ∀ a, narrow ty (.ref a) = .ref a) (hfit : ∀ a, fits ty (.ref a) = true) (kk : G Z (pc + 3) L st (gwR M k j (some k2))) : G Z pc L (.ref k2 :: .ref k :: st) M := by
  obtain ⟨p, l, e, R, s, m, args, below, meth, c, D, dA, n0, ad0, Q, ⟨hx, hb, hml, hown, hts, hK, hlk, hfr, hlo, hX⟩, hmc, hms, rfl⟩ := hG
  intro ad H locs ls he hP hD hS hl
  obtain ⟨C, T, ty0, h1, h2, h3, h4, h5, h6, h7, h8⟩ := hf
  refine va_put (D := D) (ref := (T j).1) (v := .ref (ad k2)) (ty := ty) hx hb hts h3 ty0 h5 h6 hown hK hP hD hS k (by rw [gw_at hk, ge_obj hkd]) h1 j h2 (hts _ h4) (fun _ h9 => h9) h7 h8 (hn _) (hfit _) (by rw [gfs_len]; exact h2) hd (fun H1 locs1 hP1 hD1 hS1 => ?_)
  have e : (gw dA ad Z.1 M).set k (ad k, .inr (ci, (gfs ad M k ci).set j (.ref (ad k2)))) = gw dA ad Z.1 (gwR M k j (some k2)) := by
    refine gw_set hk ?_ (fun q hq => ge_row rfl rfl (gwR_row hq))
    rw [ge_obj hkd, gfs_set (M' := gwR M k j (some k2)) h2 (by rw [hc]; simp [gv, gwR, va_rf]) (fun i hi => gv_R (Or.inl hi))]
  rw [e] at hP1 hD1
  exact kk ad H1 locs1 ls he hP1 hD1 hS1 hl
theorem gin {i : Int32} {q n : Nat} (hi : i = nI q) (hq : q < n) (hn : n < 2147483648) : vp_in i n ∧ i.toNatClampNeg = q := by
  subst hi
  exact ⟨vp_in_nI hq hn, nI_clamp (by omega)⟩
theorem r_iald {d mc ms : Nat} {own : String} {cc : ByteArray} {nL : Nat} {G : gJ} (hG : gS d mc ms own cc nL G) {Z : Nat × Nat × Nat} {pc : Nat} {L : List (Option Value)} {st : List Value} {M : gM} {k n : Nat} {i : Int32} (q : Nat) (hd : decode cc pc = .ok (.iaload, 1)) (hkd : gK k = (1, 0, n)) (hk : k < Z.1) (hi : i = nI q) (hq : q < n) (hn : n < 2147483648) (kk : G Z (pc + 1) L (.int (M.1 k q) :: st) M) : G Z pc L (.int i :: .ref k :: st) M := by
  obtain ⟨p, l, e, R, s, m, args, below, meth, c, D, dA, n0, ad0, Q, ⟨hx, hb, hml, hown, hts, hK, hlk, hfr, hlo, hX⟩, hmc, hms, rfl⟩ := hG
  intro ad H locs ls he hP hD hS hl
  obtain ⟨h1, h2⟩ := gin hi hq hn
  refine va_iald (D := D) (n := n) (f := M.1 k) hx hb hK hP k 0 (by rw [gw_at hk, ge_int hkd]) rfl h1 hd ?_
  rw [h2]
  exact kk ad H locs ls he hP hD hS hl
theorem r_cald {d mc ms : Nat} {own : String} {cc : ByteArray} {nL : Nat} {G : gJ} (hG : gS d mc ms own cc nL G) {Z : Nat × Nat × Nat} {pc : Nat} {L : List (Option Value)} {st : List Value} {M : gM} {k n : Nat} {i : Int32} (q : Nat) (hd : decode cc pc = .ok (.caload, 1)) (hkd : gK k = (1, 2, n)) (hk : k < Z.1) (hi : i = nI q) (hq : q < n) (hn : n < 2147483648) (kk : G Z (pc + 1) L (.int (M.1 k q) :: st) M) : G Z pc L (.int i :: .ref k :: st) M := by
  obtain ⟨p, l, e, R, s, m, args, below, meth, c, D, dA, n0, ad0, Q, ⟨hx, hb, hml, hown, hts, hK, hlk, hfr, hlo, hX⟩, hmc, hms, rfl⟩ := hG
  intro ad H locs ls he hP hD hS hl
  obtain ⟨h1, h2⟩ := gin hi hq hn
  refine va_cald (D := D) (n := n) (f := M.1 k) hx hb hK hP k 2 (by rw [gw_at hk, ge_int hkd]) rfl h1 hd ?_
  rw [h2]
  exact kk ad H locs ls he hP hD hS hl
theorem r_zald {d mc ms : Nat} {own : String} {cc : ByteArray} {nL : Nat} {G : gJ} (hG : gS d mc ms own cc nL G) {Z : Nat × Nat × Nat} {pc : Nat} {L : List (Option Value)} {st : List Value} {M : gM} {k n : Nat} {i : Int32} (q : Nat) (hd : decode cc pc = .ok (.baload, 1)) (hkd : gK k = (1, 3, n)) (hk : k < Z.1) (hi : i = nI q) (hq : q < n) (hn : n < 2147483648) (kk : G Z (pc + 1) L (.int (M.1 k q) :: st) M) : G Z pc L (.int i :: .ref k :: st) M := by
  obtain ⟨p, l, e, R, s, m, args, below, meth, c, D, dA, n0, ad0, Q, ⟨hx, hb, hml, hown, hts, hK, hlk, hfr, hlo, hX⟩, hmc, hms, rfl⟩ := hG
  intro ad H locs ls he hP hD hS hl
  obtain ⟨h1, h2⟩ := gin hi hq hn
  refine va_zald (D := D) (n := n) (f := M.1 k) hx hb hK hP k 3 (by rw [gw_at hk, ge_int hkd]) rfl h1 hd ?_
  rw [h2]
  exact kk ad H locs ls he hP hD hS hl
theorem r_lald {d mc ms : Nat} {own : String} {cc : ByteArray} {nL : Nat} {G : gJ} (hG : gS d mc ms own cc nL G) {Z : Nat × Nat × Nat} {pc : Nat} {L : List (Option Value)} {st : List Value} {M : gM} {k n : Nat} {i : Int32} (q : Nat) (hd : decode cc pc = .ok (.laload, 1)) (hkd : gK k = (2, 1, n)) (hk : k < Z.1) (hi : i = nI q) (hq : q < n) (hn : n < 2147483648) (kk : G Z (pc + 1) L (.long (M.2.1 k q) :: st) M) : G Z pc L (.int i :: .ref k :: st) M := by
  obtain ⟨p, l, e, R, s, m, args, below, meth, c, D, dA, n0, ad0, Q, ⟨hx, hb, hml, hown, hts, hK, hlk, hfr, hlo, hX⟩, hmc, hms, rfl⟩ := hG
  intro ad H locs ls he hP hD hS hl
  obtain ⟨h1, h2⟩ := gin hi hq hn
  refine va_lald (D := D) (n := n) (f := M.2.1 k) hx hb hK hP k 1 (by rw [gw_at hk, ge_long hkd]) rfl h1 hd ?_
  rw [h2]
  exact kk ad H locs ls he hP hD hS hl
theorem r_aald4 {d mc ms : Nat} {own : String} {cc : ByteArray} {nL : Nat} {G : gJ} (hG : gS d mc ms own cc nL G) {Z : Nat × Nat × Nat} {pc : Nat} {L : List (Option Value)} {st : List Value} {M : gM} {k n : Nat} {i : Int32} (q k2 : Nat) (hd : decode cc pc = .ok (.aaload, 1)) (hkd : gK k = (3, 4, n)) (hk : k < Z.1) (hi : i = nI q) (hq : q < n) (hn : n < 2147483648) (hr : M.2.2 k q = some k2) (kk : G Z (pc + 1) L (.ref k2 :: st) M) : G Z pc L (.int i :: .ref k :: st) M := by
  obtain ⟨p, l, e, R, s, m, args, below, meth, c, D, dA, n0, ad0, Q, ⟨hx, hb, hml, hown, hts, hK, hlk, hfr, hlo, hX⟩, hmc, hms, rfl⟩ := hG
  intro ad H locs ls he hP hD hS hl
  obtain ⟨h1, h2⟩ := gin hi hq hn
  have hat : (gw dA ad Z.1 M)[k]? = some (ad k, .inl (dA 4, n, .inr (.inr (.inr (.inr (fun j => (M.2.2 k j).map ad)))))) := by rw [gw_at hk, ge_ref hkd]
  have hlt : i.toNatClampNeg < n := by rw [h2]; exact hq
  refine W.aald (v := .ref (ad k2)) (ty := .object "WaterCarts$Village") hx hb (hP k _ hat) ((hK.2 4 _ rfl).1 n (fun j => va_rf ((M.2.2 k j).map ad))) rfl (fun q => by cases q) (by show ¬ (i < 0 ∨ (arrV _ _ _).slots.size ≤ _); rw [arrV_size]; exact h1) (by show (arrV _ _ _).slots[_]? = _; rw [arrV_read _ _ hlt, h2]; show some (va_rf ((M.2.2 k q).map ad)) = _; rw [hr]; rfl) rfl rfl hd (kk ad H locs ls he hP hD hS hl)
theorem r_aald5 {d mc ms : Nat} {own : String} {cc : ByteArray} {nL : Nat} {G : gJ} (hG : gS d mc ms own cc nL G) {Z : Nat × Nat × Nat} {pc : Nat} {L : List (Option Value)} {st : List Value} {M : gM} {k n : Nat} {i : Int32} (q k2 : Nat) (hd : decode cc pc = .ok (.aaload, 1)) (hkd : gK k = (3, 5, n)) (hk : k < Z.1) (hi : i = nI q) (hq : q < n) (hn : n < 2147483648) (hr : M.2.2 k q = some k2) (kk : G Z (pc + 1) L (.ref k2 :: st) M) : G Z pc L (.int i :: .ref k :: st) M := by
  obtain ⟨p, l, e, R, s, m, args, below, meth, c, D, dA, n0, ad0, Q, ⟨hx, hb, hml, hown, hts, hK, hlk, hfr, hlo, hX⟩, hmc, hms, rfl⟩ := hG
  intro ad H locs ls he hP hD hS hl
  obtain ⟨h1, h2⟩ := gin hi hq hn
  have hat : (gw dA ad Z.1 M)[k]? = some (ad k, .inl (dA 5, n, .inr (.inr (.inr (.inr (fun j => (M.2.2 k j).map ad)))))) := by rw [gw_at hk, ge_ref hkd]
  have hlt : i.toNatClampNeg < n := by rw [h2]; exact hq
  refine W.aald (v := .ref (ad k2)) (ty := .object "WaterCarts$Spring") hx hb (hP k _ hat) ((hK.2 5 _ rfl).1 n (fun j => va_rf ((M.2.2 k j).map ad))) rfl (fun q => by cases q) (by show ¬ (i < 0 ∨ (arrV _ _ _).slots.size ≤ _); rw [arrV_size]; exact h1) (by show (arrV _ _ _).slots[_]? = _; rw [arrV_read _ _ hlt, h2]; show some (va_rf ((M.2.2 k q).map ad)) = _; rw [hr]; rfl) rfl rfl hd (kk ad H locs ls he hP hD hS hl)
theorem r_aald6 {d mc ms : Nat} {own : String} {cc : ByteArray} {nL : Nat} {G : gJ} (hG : gS d mc ms own cc nL G) {Z : Nat × Nat × Nat} {pc : Nat} {L : List (Option Value)} {st : List Value} {M : gM} {k n : Nat} {i : Int32} (q k2 : Nat) (hd : decode cc pc = .ok (.aaload, 1)) (hkd : gK k = (3, 6, n)) (hk : k < Z.1) (hi : i = nI q) (hq : q < n) (hn : n < 2147483648) (hr : M.2.2 k q = some k2) (kk : G Z (pc + 1) L (.ref k2 :: st) M) : G Z pc L (.int i :: .ref k :: st) M := by
  obtain ⟨p, l, e, R, s, m, args, below, meth, c, D, dA, n0, ad0, Q, ⟨hx, hb, hml, hown, hts, hK, hlk, hfr, hlo, hX⟩, hmc, hms, rfl⟩ := hG
  intro ad H locs ls he hP hD hS hl
  obtain ⟨h1, h2⟩ := gin hi hq hn
  have hat : (gw dA ad Z.1 M)[k]? = some (ad k, .inl (dA 6, n, .inr (.inr (.inr (.inr (fun j => (M.2.2 k j).map ad)))))) := by rw [gw_at hk, ge_ref hkd]
  have hlt : i.toNatClampNeg < n := by rw [h2]; exact hq
  refine W.aald (v := .ref (ad k2)) (ty := .object "WaterCarts$Tanker") hx hb (hP k _ hat) ((hK.2 6 _ rfl).1 n (fun j => va_rf ((M.2.2 k j).map ad))) rfl (fun q => by cases q) (by show ¬ (i < 0 ∨ (arrV _ _ _).slots.size ≤ _); rw [arrV_size]; exact h1) (by show (arrV _ _ _).slots[_]? = _; rw [arrV_read _ _ hlt, h2]; show some (va_rf ((M.2.2 k q).map ad)) = _; rw [hr]; rfl) rfl rfl hd (kk ad H locs ls he hP hD hS hl)
theorem r_aald7 {d mc ms : Nat} {own : String} {cc : ByteArray} {nL : Nat} {G : gJ} (hG : gS d mc ms own cc nL G) {Z : Nat × Nat × Nat} {pc : Nat} {L : List (Option Value)} {st : List Value} {M : gM} {k n : Nat} {i : Int32} (q k2 : Nat) (hd : decode cc pc = .ok (.aaload, 1)) (hkd : gK k = (3, 7, n)) (hk : k < Z.1) (hi : i = nI q) (hq : q < n) (hn : n < 2147483648) (hr : M.2.2 k q = some k2) (kk : G Z (pc + 1) L (.ref k2 :: st) M) : G Z pc L (.int i :: .ref k :: st) M := by
  obtain ⟨p, l, e, R, s, m, args, below, meth, c, D, dA, n0, ad0, Q, ⟨hx, hb, hml, hown, hts, hK, hlk, hfr, hlo, hX⟩, hmc, hms, rfl⟩ := hG
  intro ad H locs ls he hP hD hS hl
  obtain ⟨h1, h2⟩ := gin hi hq hn
  have hat : (gw dA ad Z.1 M)[k]? = some (ad k, .inl (dA 7, n, .inr (.inr (.inr (.inr (fun j => (M.2.2 k j).map ad)))))) := by rw [gw_at hk, ge_ref hkd]
  have hlt : i.toNatClampNeg < n := by rw [h2]; exact hq
  refine W.aald (v := .ref (ad k2)) (ty := .object "WaterCarts$Bore") hx hb (hP k _ hat) ((hK.2 7 _ rfl).1 n (fun j => va_rf ((M.2.2 k j).map ad))) rfl (fun q => by cases q) (by show ¬ (i < 0 ∨ (arrV _ _ _).slots.size ≤ _); rw [arrV_size]; exact h1) (by show (arrV _ _ _).slots[_]? = _; rw [arrV_read _ _ hlt, h2]; show some (va_rf ((M.2.2 k q).map ad)) = _; rw [hr]; rfl) rfl rfl hd (kk ad H locs ls he hP hD hS hl)
theorem r_aald8 {d mc ms : Nat} {own : String} {cc : ByteArray} {nL : Nat} {G : gJ} (hG : gS d mc ms own cc nL G) {Z : Nat × Nat × Nat} {pc : Nat} {L : List (Option Value)} {st : List Value} {M : gM} {k n : Nat} {i : Int32} (q k2 : Nat) (hd : decode cc pc = .ok (.aaload, 1)) (hkd : gK k = (3, 8, n)) (hk : k < Z.1) (hi : i = nI q) (hq : q < n) (hn : n < 2147483648) (hr : M.2.2 k q = some k2) (kk : G Z (pc + 1) L (.ref k2 :: st) M) : G Z pc L (.int i :: .ref k :: st) M := by
  obtain ⟨p, l, e, R, s, m, args, below, meth, c, D, dA, n0, ad0, Q, ⟨hx, hb, hml, hown, hts, hK, hlk, hfr, hlo, hX⟩, hmc, hms, rfl⟩ := hG
  intro ad H locs ls he hP hD hS hl
  obtain ⟨h1, h2⟩ := gin hi hq hn
  have hat : (gw dA ad Z.1 M)[k]? = some (ad k, .inl (dA 8, n, .inr (.inr (.inr (.inr (fun j => (M.2.2 k j).map ad)))))) := by rw [gw_at hk, ge_ref hkd]
  have hlt : i.toNatClampNeg < n := by rw [h2]; exact hq
  refine W.aald (v := .ref (ad k2)) (ty := .array .int) hx hb (hP k _ hat) ((hK.2 8 _ rfl).1 n (fun j => va_rf ((M.2.2 k j).map ad))) rfl (fun q => by cases q) (by show ¬ (i < 0 ∨ (arrV _ _ _).slots.size ≤ _); rw [arrV_size]; exact h1) (by show (arrV _ _ _).slots[_]? = _; rw [arrV_read _ _ hlt, h2]; show some (va_rf ((M.2.2 k q).map ad)) = _; rw [hr]; rfl) rfl rfl hd (kk ad H locs ls he hP hD hS hl)
theorem r_iast {d mc ms : Nat} {own : String} {cc : ByteArray} {nL : Nat} {G : gJ} (hG : gS d mc ms own cc nL G) {Z : Nat × Nat × Nat} {pc : Nat} {L : List (Option Value)} {st : List Value} {M : gM} {k n : Nat} {i x : Int32} (q : Nat) (hd : decode cc pc = .ok (.iastore, 1)) (hkd : gK k = (1, 0, n)) (hk : k < Z.1) (hi : i = nI q) (hq : q < n) (hn : n < 2147483648) (kk : G Z (pc + 1) L st (gwI M k q x)) : G Z pc L (.int x :: .int i :: .ref k :: st) M := by
  obtain ⟨p, l, e, R, s, m, args, below, meth, c, D, dA, n0, ad0, Q, ⟨hx, hb, hml, hown, hts, hK, hlk, hfr, hlo, hX⟩, hmc, hms, rfl⟩ := hG
  intro ad H locs ls he hP hD hS hl
  obtain ⟨h1, h2⟩ := gin hi hq hn
  refine va_iast (D := D) (n := n) (f := M.1 k) hx hb hK hP hD hS k 0 (by rw [gw_at hk, ge_int hkd]) rfl h1 hd (fun H1 locs1 hP1 hD1 hS1 => ?_)
  rw [h2] at hP1 hD1
  have e : (gw dA ad Z.1 M).set k (ad k, .inl (dA 0, n, .inl (upd (M.1 k) q x))) = gw dA ad Z.1 (gwI M k q x) := by
    refine gw_set hk ?_ (fun q hq => ge_row (gwI_row hq) rfl rfl)
    rw [ge_int hkd]
    have e2 : (gwI M k q x).1 k = upd (M.1 k) q x := by
      funext b
      simp [gwI, upd]
    rw [e2]
  rw [e] at hP1 hD1
  exact kk ad H1 locs1 ls he hP1 hD1 hS1 hl
theorem r_cast {d mc ms : Nat} {own : String} {cc : ByteArray} {nL : Nat} {G : gJ} (hG : gS d mc ms own cc nL G) {Z : Nat × Nat × Nat} {pc : Nat} {L : List (Option Value)} {st : List Value} {M : gM} {k n : Nat} {i x : Int32} (q : Nat) (hd : decode cc pc = .ok (.castore, 1)) (hkd : gK k = (1, 2, n)) (hk : k < Z.1) (hi : i = nI q) (hq : q < n) (hn : n < 2147483648) (hnr : vp_nar .char x = x) (kk : G Z (pc + 1) L st (gwI M k q x)) : G Z pc L (.int x :: .int i :: .ref k :: st) M := by
  obtain ⟨p, l, e, R, s, m, args, below, meth, c, D, dA, n0, ad0, Q, ⟨hx, hb, hml, hown, hts, hK, hlk, hfr, hlo, hX⟩, hmc, hms, rfl⟩ := hG
  intro ad H locs ls he hP hD hS hl
  obtain ⟨h1, h2⟩ := gin hi hq hn
  refine va_cast (D := D) (n := n) (f := M.1 k) hx hb hK hP hD hS k 2 (by rw [gw_at hk, ge_int hkd]) rfl h1 hd (fun H1 locs1 hP1 hD1 hS1 => ?_)
  rw [h2] at hP1 hD1
  rw [hnr] at hP1 hD1
  have e : (gw dA ad Z.1 M).set k (ad k, .inl (dA 2, n, .inl (upd (M.1 k) q x))) = gw dA ad Z.1 (gwI M k q x) := by
    refine gw_set hk ?_ (fun q hq => ge_row (gwI_row hq) rfl rfl)
    rw [ge_int hkd]
    have e2 : (gwI M k q x).1 k = upd (M.1 k) q x := by
      funext b
      simp [gwI, upd]
    rw [e2]
  rw [e] at hP1 hD1
  exact kk ad H1 locs1 ls he hP1 hD1 hS1 hl
theorem r_zast {d mc ms : Nat} {own : String} {cc : ByteArray} {nL : Nat} {G : gJ} (hG : gS d mc ms own cc nL G) {Z : Nat × Nat × Nat} {pc : Nat} {L : List (Option Value)} {st : List Value} {M : gM} {k n : Nat} {i x : Int32} (q : Nat) (hd : decode cc pc = .ok (.bastore, 1)) (hkd : gK k = (1, 3, n)) (hk : k < Z.1) (hi : i = nI q) (hq : q < n) (hn : n < 2147483648) (hnr : vp_nar .boolean x = x) (kk : G Z (pc + 1) L st (gwI M k q x)) : G Z pc L (.int x :: .int i :: .ref k :: st) M := by
  obtain ⟨p, l, e, R, s, m, args, below, meth, c, D, dA, n0, ad0, Q, ⟨hx, hb, hml, hown, hts, hK, hlk, hfr, hlo, hX⟩, hmc, hms, rfl⟩ := hG
  intro ad H locs ls he hP hD hS hl
  obtain ⟨h1, h2⟩ := gin hi hq hn
  refine va_zast (D := D) (n := n) (f := M.1 k) hx hb hK hP hD hS k 3 (by rw [gw_at hk, ge_int hkd]) rfl h1 hd (fun H1 locs1 hP1 hD1 hS1 => ?_)
  rw [h2] at hP1 hD1
  rw [hnr] at hP1 hD1
  have e : (gw dA ad Z.1 M).set k (ad k, .inl (dA 3, n, .inl (upd (M.1 k) q x))) = gw dA ad Z.1 (gwI M k q x) := by
    refine gw_set hk ?_ (fun q hq => ge_row (gwI_row hq) rfl rfl)
    rw [ge_int hkd]
    have e2 : (gwI M k q x).1 k = upd (M.1 k) q x := by
      funext b
      simp [gwI, upd]
    rw [e2]
  rw [e] at hP1 hD1
  exact kk ad H1 locs1 ls he hP1 hD1 hS1 hl
theorem r_last {d mc ms : Nat} {own : String} {cc : ByteArray} {nL : Nat} {G : gJ} (hG : gS d mc ms own cc nL G) {Z : Nat × Nat × Nat} {pc : Nat} {L : List (Option Value)} {st : List Value} {M : gM} {k n : Nat} {i : Int32} {x : Int64} (q : Nat) (hd : decode cc pc = .ok (.lastore, 1)) (hkd : gK k = (2, 1, n)) (hk : k < Z.1) (hi : i = nI q) (hq : q < n) (hn : n < 2147483648) (kk : G Z (pc + 1) L st (gwL M k q x)) : G Z pc L (.long x :: .int i :: .ref k :: st) M := by
  obtain ⟨p, l, e, R, s, m, args, below, meth, c, D, dA, n0, ad0, Q, ⟨hx, hb, hml, hown, hts, hK, hlk, hfr, hlo, hX⟩, hmc, hms, rfl⟩ := hG
  intro ad H locs ls he hP hD hS hl
  obtain ⟨h1, h2⟩ := gin hi hq hn
  refine va_last (D := D) (n := n) (f := M.2.1 k) hx hb hK hP hD hS k 1 (by rw [gw_at hk, ge_long hkd]) rfl h1 hd (fun H1 locs1 hP1 hD1 hS1 => ?_)
  rw [h2] at hP1 hD1
  have e : (gw dA ad Z.1 M).set k (ad k, .inl (dA 1, n, .inr (.inl (vp_updL (M.2.1 k) q x)))) = gw dA ad Z.1 (gwL M k q x) := by
    refine gw_set hk ?_ (fun q hq => ge_row rfl (gwL_row hq) rfl)
    rw [ge_long hkd]
    have e2 : (gwL M k q x).2.1 k = vp_updL (M.2.1 k) q x := by
      funext b
      simp [gwL, vp_updL]
    rw [e2]
  rw [e] at hP1 hD1
  exact kk ad H1 locs1 ls he hP1 hD1 hS1 hl
/-! contracts -/
def gQ (D : va_G) (dA : Nat → ClassId) (n n' : Nat) (ad : Nat → Nat) (sz : Nat) (P : Option Value → gM → Prop) : Array Value → State → Outcome → State → Prop := fun _ st oc t => (∃ (r : Option Value) (ad' : Nat → Nat) (M' : gM), oc = .returned (r.map (gtr ad')) ∧ P r M' ∧ gExt n ad n' ad' ∧ va_P D vwCl (gw dA ad' n' M') t.heap ∧ va_D (gA ad n sz) (gw dA ad' n' M')) ∧ va_F (gA ad n sz) st t
def gPre (D : va_G) (dA : Nat → ClassId) (n : Nat) (ad : Nat → Nat) (sz : Nat) (M : gM) (U : State) : Prop := U.heap.size = sz ∧ va_P D vwCl (gw dA ad n M) U.heap ∧ va_D (fun _ => True) (gw dA ad n M) ∧ va_K D vwCl (gtys dA) U ∧ gX ad (gA ad n sz) U U.heap
def gC (d mc ms : Nat) (y : MethodName) (cc : ByteArray) (nL : Nat) (ret : Option FieldType) (n n' : Nat) (As : List Value) (M : gM) (P : Option Value → gM → Prop) : Prop :=
  ∀ (l : Launch) (D : va_G) (dA : Nat → ClassId) (ad : Nat → Nat) (sz : Nat), Met l y (gWs y cc nL ret) (gRm d mc ms) (va_Pc (As.map (gtr ad)) (gPre D dA n ad sz M)) (gQ D dA n n' ad sz P) mc ms (gA ad n sz)
def gI (P : Int32 → gM → Prop) : Option Value → gM → Prop := fun r M => ∃ x, r = some (.int x) ∧ P x M
def gV (P : gM → Prop) : Option Value → gM → Prop := fun r M => r = none ∧ P M
theorem gD_self {dA : Nat → ClassId} {ad : Nat → Nat} {n sz : Nat} {M : gM} {B : Nat → Prop} (h : va_D B (gw dA ad n M)) : va_D (gA ad n sz) (gw dA ad n M) := ⟨h.1, fun k q hk => by
  obtain ⟨h1, h2⟩ := gw_inv hk
  rw [h2]
  exact Or.inl ⟨k, h1, rfl⟩⟩
theorem gent_sl (ad : Nat → Nat) : ∀ (As : List Value), (lg_sl (As.map (gtr ad))).length = (gent As).length
  | [] => rfl
  | v :: vs => by
    have ih := gent_sl ad vs
    unfold lg_sl at ih ⊢
    rw [List.map_cons, List.flatMap_cons, List.length_append, ih, gtr_cat]
    cases v <;> simp [gent, Value.category] <;> omega
theorem gent_args (ad : Nat → Nat) : ∀ (As : List Value) (b i : Nat) (v : Value), (gent As)[i]? = some (some v) → (b + i, gtr ad v) ∈ lv_args b (As.map (gtr ad))
  | [], b, i, v, h => by simp [gent] at h
  | w :: vs, b, i, v, h => by
    have key1 : w.category = 1 → gent (w :: vs) = some w :: gent vs → (b + i, gtr ad v) ∈ lv_args b ((w :: vs).map (gtr ad)) := by
      intro hc he
      rw [he] at h
      rw [List.map_cons, lv_args, gtr_cat, hc]
      cases i with
      | zero =>
        rw [List.getElem?_cons_zero] at h
        cases h
        exact List.mem_cons_self
      | succ i =>
        rw [List.getElem?_cons_succ] at h
        have := gent_args ad vs (b + 1) i v h
        refine List.mem_cons_of_mem _ ?_
        simp only [show ¬ (1 : Nat) = 2 by decide, if_false]
        rw [show b + (i + 1) = b + 1 + i by omega]
        exact this
    have key2 : w.category = 2 → gent (w :: vs) = some w :: none :: gent vs → (b + i, gtr ad v) ∈ lv_args b ((w :: vs).map (gtr ad)) := by
      intro hc he
      rw [he] at h
      rw [List.map_cons, lv_args, gtr_cat, hc]
      cases i with
      | zero =>
        rw [List.getElem?_cons_zero] at h
        cases h
        exact List.mem_cons_self
      | succ i =>
        rw [List.getElem?_cons_succ] at h
        cases i with
        | zero =>
          rw [List.getElem?_cons_zero] at h
          cases h
        | succ i =>
          rw [List.getElem?_cons_succ] at h
          have := gent_args ad vs (b + 2) i v h
          refine List.mem_cons_of_mem _ ?_
          simp only [if_true]
          rw [show b + (i + 1 + 1) = b + 2 + i by omega]
          exact this
    cases w with
    | long x => exact key2 rfl rfl
    | double x => exact key2 rfl rfl
    | int x => exact key1 rfl rfl
    | float x => exact key1 rfl rfl
    | null => exact key1 rfl rfl
    | ref x => exact key1 rfl rfl
    | retAddr x => exact key1 rfl rfl
theorem gl_entry {ad : Nat → Nat} {nL : Nat} {As : List Value} (h : (gent As).length ≤ nL) : gl ad nL (gpad nL (gent As)) ((lg_sl (As.map (gtr ad)) ++ List.replicate (nL - (lg_sl (As.map (gtr ad))).length) Slot.unset).toArray) := by
  have hl := lv_entry (As.map (gtr ad)) (n := nL) (by rw [gent_sl]; exact h)
  refine ⟨by simp [gpad]; omega, hl.1, hl.2.1, fun i v hi => ?_⟩
  unfold gpad at hi
  by_cases hlt : i < (gent As).length
  · rw [List.getElem?_append_left hlt] at hi
    have := gent_args ad As 0 i v hi
    rw [Nat.zero_add] at this
    exact hl.2.2 _ this
  · rw [List.getElem?_append_right (by omega), List.getElem?_replicate] at hi
    split at hi <;> cases hi
/-- how a walk of a method ends -/
def gEi (n' mc ms : Nat) (cc : ByteArray) (ty : FieldType) (P : Int32 → gM → Prop) (G : gJ) : Prop := ∀ (Z : Nat × Nat × Nat) (pc : Nat) (L : List (Option Value)) (x : Int32) (M' : gM), decode cc pc = .ok (.ireturn, 1) → Z.1 = n' → Z.2.1 ≤ mc → Z.2.2 ≤ ms → narrow ty (.int x) = .int x → P x M' → G Z pc L [.int x] M'
def gEv (n' mc ms : Nat) (cc : ByteArray) (P : gM → Prop) (G : gJ) : Prop := ∀ (Z : Nat × Nat × Nat) (pc : Nat) (L : List (Option Value)) (M' : gM), decode cc pc = .ok (.return_, 1) → Z.1 = n' → Z.2.1 ≤ mc → Z.2.2 ≤ ms → P M' → G Z pc L [] M'
set_option maxHeartbeats 1000000 in
theorem gC_i {d mc ms : Nat} {y : MethodName} {cc : ByteArray} {nL : Nat} {ty : FieldType} {n n' : Nat} {As : List Value} {M : gM} {P : Int32 → gM → Prop} (hy : plainName y.cls = true) (hlen : (gent As).length ≤ nL)
    (body : ∀ G, gS d mc ms y.cls cc nL G → gEi n' mc ms cc ty P G → G (n, 0, 0) 0 (gpad nL (gent As)) [] M) : gC d mc ms y cc nL (some ty) n n' As M (gI P) := by
  intro l D dA ad sz
  refine Met.ofW (cc := cc) (maxL := nL) (ret := some ty) hy rfl ?_
  intro p e s m args below meth c s₁ B hml hv
  obtain ⟨rfl, hsz, hP, hD, hK, hX⟩ := hv
  subst hsz
  have hts := atoms_spec (ws := gWs y cc nL (some ty)) B.pre
  have hown : s.vm.findClass y.cls = some m.cls := findClass_of_methodNamed B.named
  have hlk := B.notSynchronized
  rw [lg_entry_eq]
  refine body (gG p l e (gRm d mc ms) s m (As.map (gtr ad)).toArray below meth c D dA n ad nL (MQ below (gQ D dA n n' ad s.heap.size (gI P)) (As.map (gtr ad)).toArray s mc ms (gA ad n s.heap.size))) ?_ ?_ ad s.heap [] _ gExt.rf hP (gD_self hD) va_S.rf (gl_entry hlen)
  · exact ⟨p, l, e, gRm d mc ms, s, m, _, below, meth, c, D, dA, n, ad, _, ⟨B.exec, B.bytes, hml, hown, fun w hw => hts w (List.mem_cons_of_mem _ hw), hK, hlk, Nat.le_refl _, Nat.le_refl _, hX⟩, rfl, rfl, rfl⟩
  · intro Z pc L x M' hd hz h1 h2 hn hp ad' H locs ls he hP' hD' hS hl
    subst hz
    refine W.widen (k := mc) (n := ms) h1 h2 ?_
    exact W.zret B.exec B.bytes B.returns hn (fun t ht hW => ⟨⟨some (.int x), ad', M', rfl, ⟨x, rfl, hp⟩, he, by rw [ht]; exact hP', hD'⟩, hS.F ht⟩) hS.2.2 hd hlk
set_option maxHeartbeats 1000000 in
theorem gC_v {d mc ms : Nat} {y : MethodName} {cc : ByteArray} {nL : Nat} {n n' : Nat} {As : List Value} {M : gM} {P : gM → Prop} (hy : plainName y.cls = true) (hlen : (gent As).length ≤ nL)
    (body : ∀ G, gS d mc ms y.cls cc nL G → gEv n' mc ms cc P G → G (n, 0, 0) 0 (gpad nL (gent As)) [] M) : gC d mc ms y cc nL none n n' As M (gV P) := by
  intro l D dA ad sz
  refine Met.ofW (cc := cc) (maxL := nL) (ret := none) hy rfl ?_
  intro p e s m args below meth c s₁ B hml hv
  obtain ⟨rfl, hsz, hP, hD, hK, hX⟩ := hv
  subst hsz
  have hts := atoms_spec (ws := gWs y cc nL none) B.pre
  have hown : s.vm.findClass y.cls = some m.cls := findClass_of_methodNamed B.named
  have hlk := B.notSynchronized
  rw [lg_entry_eq]
  refine body (gG p l e (gRm d mc ms) s m (As.map (gtr ad)).toArray below meth c D dA n ad nL (MQ below (gQ D dA n n' ad s.heap.size (gV P)) (As.map (gtr ad)).toArray s mc ms (gA ad n s.heap.size))) ?_ ?_ ad s.heap [] _ gExt.rf hP (gD_self hD) va_S.rf (gl_entry hlen)
  · exact ⟨p, l, e, gRm d mc ms, s, m, _, below, meth, c, D, dA, n, ad, _, ⟨B.exec, B.bytes, hml, hown, fun w hw => hts w (List.mem_cons_of_mem _ hw), hK, hlk, Nat.le_refl _, Nat.le_refl _, hX⟩, rfl, rfl, rfl⟩
  · intro Z pc L M' hd hz h1 h2 hp ad' H locs ls he hP' hD' hS hl
    subst hz
    refine W.widen (k := mc) (n := ms) h1 h2 ?_
    exact W.vret B.exec B.bytes B.returns (fun t ht hW => ⟨⟨none, ad', M', rfl, ⟨rfl, hp⟩, he, by rw [ht]; exact hP', hD'⟩, hS.F ht⟩) hS.2.2 hd hlk
/-! calls -/
theorem gPre_blind {D : va_G} {dA : Nat → ClassId} {n : Nat} {ad : Nat → Nat} {sz : Nat} {M : gM} {As : List Value} : FrameBlind (va_Pc As (gPre D dA n ad sz M)) := by
  intro a U g mk q
  obtain ⟨q0, q1, q2, q3, q4, q5⟩ := q
  exact ⟨q0, q1, q2, q3, va_K.moved (u := U) (U := U.calling g mk a) (Vm.Alike.refl U.vm) q4, gX.calling q5⟩
theorem gA_sub {n0 n : Nat} {ad0 ad : Nat → Nat} {dA : Nat → ClassId} {M : gM} {s : State} {H : Heap} {locs : List Loc} (hD : va_D (gA ad0 n0 s.heap.size) (gw dA ad n M)) (hS : va_S (gA ad0 n0 s.heap.size) s.heap H locs) : ∀ q, gA ad n H.size q → gA ad0 n0 s.heap.size q := by
  intro q h
  rcases h with ⟨k, hk, rfl⟩ | h
  · exact hD.2 k _ (gw_at hk)
  · exact Or.inr (Nat.le_trans hS.1 h)
theorem gX_at {n0 n : Nat} {ad0 ad : Nat → Nat} {dA : Nat → ClassId} {M : gM} {s : State} {H : Heap} {locs : List Loc} (he : gExt n0 ad0 n ad) (hX : gX ad0 (gA ad0 n0 s.heap.size) s s.heap) (hD : va_D (gA ad0 n0 s.heap.size) (gw dA ad n M)) (hS : va_S (gA ad0 n0 s.heap.size) s.heap H locs) : gX ad (gA ad n H.size) s H :=
  ((hX.kept hS.2.1).narrow (gA_sub hD hS)).adr (fun k hk => he.2.1 k (Or.inr hk))
/-- behind a call: the general road -/
theorem g_back {p : Program} {l : Launch} {e : Env} {R : Room} {s : State} {m : MethodId} {args : Array Value} {below : List Frame} {meth : Method} {c : Code} {D : va_G} {dA : Nat → ClassId} {n0 : Nat} {ad0 ad : Nat → Nat} {nL : Nat} {Q : State → Prop} {n n' cells slots mc' ms' pc : Nat} {L : List (Option Value)} {st rest : List Value} {M : gM} {P : Option Value → gM → Prop} {H : Heap} {locs : List Loc} {ls : Array Slot} {a : Array Value}
    (hr : va_Run p l e R s m args below meth c H locs cells slots mc' ms' (F0 m pc ls st) (rest.map (gtr ad)) (gQ D dA n n' ad H.size P a) (gA ad n H.size)) (he : gExt n0 ad0 n ad) (hD : va_D (gA ad0 n0 s.heap.size) (gw dA ad n M)) (hS : va_S (gA ad0 n0 s.heap.size) s.heap H locs) (hl : gl ad nL L ls)
    (hrefL : n' = n ∨ (∀ (i k : Nat), L[i]? = some (some (.ref k)) → k < n ∨ 1000 ≤ k) ∧ (∀ k, Value.ref k ∈ rest → k < n ∨ 1000 ≤ k))
    (kk : ∀ (r : Option Value) (M' : gM), P r M' → gG p l e R s m args below meth c D dA n0 ad0 nL Q (n', cells + mc', slots + ms') (pc + 3) L (r.toList ++ rest) M') : W p l e R s m args below meth c H locs cells slots Q (F0 m pc ls st) := by
  intro T hT X
  obtain ⟨v, st₀, t, T', Lc, h0, X', hL, e1, e2, ⟨⟨r, ad', M', hv, hp, hex, hP1, hD1⟩, hz, hk⟩, stp⟩ := hr T hT X
  have hv' : v = r.map (gtr ad') := Outcome.returned.inj hv
  subst hv'
  rw [h0] at hz hk
  have hsub := gA_sub hD hS
  have e3 : rest.map (gtr ad) = rest.map (gtr ad') := by
    rcases hrefL with hn | ⟨-, hn⟩
    · rw [hex.2.2 hn]
    · refine List.map_congr_left (fun w hw => ?_)
      cases w with
      | ref k => show Value.ref (ad k) = Value.ref (ad' k); rw [hex.2.1 k (hn k hw)]
      | _ => rfl
  have hl' : gl ad' nL L ls := by
    rcases hrefL with hn | ⟨hn, -⟩
    · rw [hex.2.2 hn]; exact hl
    · exact gl_ad hl (fun i k hi => hex.2.1 k (hn i k hi))
  have hS' : va_S (gA ad0 n0 s.heap.size) s.heap T'.heap (locs ++ Lc) := by
    refine ⟨Nat.le_trans hS.1 (by rw [e1]; exact hz), fun q h1 h2 => ?_, fun q hq => ?_⟩
    · rw [e1, hk q (Nat.lt_of_lt_of_le h1 hS.1) (fun z => h2 (hsub q z))]
      exact hS.2.1 q h1 h2
    · rcases List.mem_append.mp hq with h | h
      · exact hS.2.2 q h
      · exact hsub _ (hL q h)
  have hD' : va_D (gA ad0 n0 s.heap.size) (gw dA ad' n' M') := hD1.weaken (fun _ q _ h => hsub q.1 h)
  obtain ⟨t2, a1, b1⟩ := kk r M' hp ad' T'.heap (locs ++ Lc) ls (he.trans hex) (by rw [e1]; exact hP1) hD' hS' hl' T' rfl X'
  refine ⟨t2, stp t2 ?_, b1⟩
  have e4 : (r.toList ++ rest).map (gtr ad') = (r.map (gtr ad')).toList ++ rest.map (gtr ad) := by
    rw [List.map_append, e3]
    cases r <;> rfl
  rw [e4] at a1
  exact a1
/-- what a call's link needs -/
def gLk (own : String) (index : Nat) (y : MethodName) (cy : ByteArray) (nLy : Nat) (ret : Option FieldType) (na : Nat) : Prop := Cond.methodLink own index y ∈ gT ∧ Cond.code y cy nLy ret ∈ gT ∧ Cond.initialized y.cls ∈ gT ∧ (y.cls ≠ "java/lang/invoke/MethodHandle" ∧ y.cls ≠ "java/lang/invoke/VarHandle" ∧ (parseMethodDescriptor y.desc).map (fun d => d.parameters.length) = some na) ∧ nLy ≤ 21
def gVm (own : String) (index : Nat) (y : MethodName) (cy : ByteArray) (nLy : Nat) (ret : Option FieldType) (na ci : Nat) : Prop := gLk own index y cy nLy ret na ∧ Cond.instanceMethod y ∈ gT ∧ Cond.selects y.cls y y ∈ gT ∧ ∃ T : u_T, vwCl[ci]? = some (y.cls, T, gfn ci)
def gSm (own : String) (index : Nat) (y : MethodName) (cy : ByteArray) (nLy : Nat) (ret : Option FieldType) (na : Nat) : Prop := gLk own index y cy nLy ret na ∧ Cond.static y ∈ gT
set_option maxHeartbeats 1000000 in
theorem r_callV {d mc ms : Nat} {own : String} {cc : ByteArray} {nL : Nat} {G : gJ} (hG : gS d mc ms own cc nL G) {Z : Nat × Nat × Nat} {pc : Nat} {L : List (Option Value)} {st : List Value} {M : gM} {index : Nat} {y : MethodName} {cy : ByteArray} {nLy : Nat} {ret : Option FieldType} {na ci d' k z : Nat} {P : Option Value → gM → Prop} (As : List Value) (hm : gVm own index y cy nLy ret na ci) (hd : decode cc pc = .ok (.invokevirtual index, 3)) (hkd : gK k = (0, ci, z)) (hk : k < Z.1) (hna : As.length = na) (hdd : d' + 1 ≤ d) (hc : Z.2.1 ≤ mc ∧ Z.2.2 ≤ ms) (hst : (st.map fun v => v.category).sum ≤ 8)
    (hC : gC d' 0 0 y cy nLy ret Z.1 Z.1 (.ref k :: As) M P) (kk : ∀ (r : Option Value) (M' : gM), P r M' → G Z (pc + 3) L (r.toList ++ st) M') : G Z pc L (As.reverse ++ .ref k :: st) M := by
  obtain ⟨p, l, e, R, s, m, args, below, meth, c, D, dA, n0, ad0, Q, ⟨hx, hb, hml, hown, hts, hK, hlk, hfr, hlo, hX⟩, hmc, hms, rfl⟩ := hG
  intro ad H locs ls he hP hD hS hl
  obtain ⟨⟨h1, h2, h3, h4, h5⟩, h6, h7, T, h8⟩ := hm
  have hcw : CallW R s args own y.cls index y cy nLy ret (gWs y cy nLy ret) (gRm d' 0 0) 0 0 na := ⟨callB_of na hts (gT_good h2) rfl rfl rfl (hts _ h3) (hts _ h1) h4 ⟨Nat.le_trans hdd hfr, by show 8 + (nLy + 11) + 40 * d' ≤ R.locals; omega⟩, hts _ h6, hts _ h7⟩
  have hrecv := va_recv hK hP h8 (by rw [gw_at hk, ge_obj hkd] : (gw dA ad Z.1 M)[k]? = some (ad k, .inr (ci, gfs ad M k ci)))
  have hcat : (st.map (gtr ad)).map (fun v => v.category) = st.map (fun v => v.category) := by
    rw [List.map_map]
    exact List.map_congr_left (fun v _ => gtr_cat ad v)
  refine g_back (n := Z.1) (n' := Z.1) (mc' := 0) (ms' := 0) (rest := st) (a := (Value.ref (ad k) :: As.map (gtr ad)).toArray) (va_runV (As := As.map (gtr ad)) ⟨hx, hb, hml, hown, hts⟩ (hC l D dA ad H.size) hcw ⟨gPre_blind, hrecv, fun U hU hW => ⟨rfl, by rw [hU], by rw [hU]; exact hP, hD.weaken (fun _ _ _ _ => trivial), va_K.moved hW.alike hK, by rw [hU]; exact gX.warm hW (gX_at he hX hD hS)⟩⟩ rfl (by rw [List.length_map]; exact hna) (hl.2.1) ?_ ?_ hd ⟨by rw [hmc]; exact hc.1, by rw [hms]; exact hc.2⟩) he hD hS hl (Or.inl rfl) kk
  · show (As.reverse ++ Value.ref k :: st).map (gtr ad) = _
    rw [List.map_append, List.map_reverse]
    rfl
  · refine lv_room ?_
    rw [hcat]
    exact hst
set_option maxHeartbeats 1000000 in
theorem r_callS {d mc ms : Nat} {own : String} {cc : ByteArray} {nL : Nat} {G : gJ} (hG : gS d mc ms own cc nL G) {Z : Nat × Nat × Nat} {pc : Nat} {L : List (Option Value)} {st : List Value} {M : gM} {index : Nat} {y : MethodName} {cy : ByteArray} {nLy : Nat} {ret : Option FieldType} {na d' : Nat} {P : Option Value → gM → Prop} (As : List Value) (hm : gSm own index y cy nLy ret na) (hd : decode cc pc = .ok (.invokestatic index, 3)) (hna : As.length = na) (hdd : d' + 1 ≤ d) (hc : Z.2.1 ≤ mc ∧ Z.2.2 ≤ ms) (hst : (st.map fun v => v.category).sum ≤ 8)
    (hC : gC d' 0 0 y cy nLy ret Z.1 Z.1 As M P) (kk : ∀ (r : Option Value) (M' : gM), P r M' → G Z (pc + 3) L (r.toList ++ st) M') : G Z pc L (As.reverse ++ st) M := by
  obtain ⟨p, l, e, R, s, m, args, below, meth, c, D, dA, n0, ad0, Q, ⟨hx, hb, hml, hown, hts, hK, hlk, hfr, hlo, hX⟩, hmc, hms, rfl⟩ := hG
  intro ad H locs ls he hP hD hS hl
  obtain ⟨⟨h1, h2, h3, h4, h5⟩, h6⟩ := hm
  have hcw : CallB R s args own index y cy nLy ret (gWs y cy nLy ret) (gRm d' 0 0) 0 0 na := callB_of na hts (gT_good h2) rfl rfl rfl (hts _ h3) (hts _ h1) h4 ⟨Nat.le_trans hdd hfr, by show 8 + (nLy + 11) + 40 * d' ≤ R.locals; omega⟩
  have hcat : (st.map (gtr ad)).map (fun v => v.category) = st.map (fun v => v.category) := by
    rw [List.map_map]
    exact List.map_congr_left (fun v _ => gtr_cat ad v)
  refine g_back (n := Z.1) (n' := Z.1) (mc' := 0) (ms' := 0) (rest := st) (a := (As.map (gtr ad)).toArray) (va_runS (As := As.map (gtr ad)) ⟨hx, hb, hml, hown, hts⟩ (hC l D dA ad H.size) ⟨hcw, hts _ h6⟩ ⟨gPre_blind, fun U hU hW => ⟨rfl, by rw [hU], by rw [hU]; exact hP, hD.weaken (fun _ _ _ _ => trivial), va_K.moved hW.alike hK, by rw [hU]; exact gX.warm hW (gX_at he hX hD hS)⟩⟩ rfl (by rw [List.length_map]; exact hna) (hl.2.1) ?_ ?_ hd ⟨by rw [hmc]; exact hc.1, by rw [hms]; exact hc.2⟩) he hD hS hl (Or.inl rfl) kk
  · show (As.reverse ++ st).map (gtr ad) = _
    rw [List.map_append, List.map_reverse]
  · refine lv_room ?_
    rw [hcat]
    exact hst
/-- a private static method of the nest's host -/
def gNm (own : String) (index : Nat) (y : MethodName) (cy : ByteArray) (nLy : Nat) (ret : Option FieldType) (na : Nat) : Prop := ∃ host : String, Cond.methodLinkNest own index y host ∈ gNl ∧ Cond.code y cy nLy ret ∈ gT ∧ Cond.initialized y.cls ∈ gT ∧ (y.cls ≠ "java/lang/invoke/MethodHandle" ∧ y.cls ≠ "java/lang/invoke/VarHandle" ∧ (parseMethodDescriptor y.desc).map (fun d => d.parameters.length) = some na) ∧ nLy ≤ 21 ∧ Cond.static y ∈ gT
set_option maxHeartbeats 1000000 in
theorem r_callN {d mc ms : Nat} {own : String} {cc : ByteArray} {nL : Nat} {G : gJ} (hG : gS d mc ms own cc nL G) {Z : Nat × Nat × Nat} {pc : Nat} {L : List (Option Value)} {st : List Value} {M : gM} {index : Nat} {y : MethodName} {cy : ByteArray} {nLy : Nat} {ret : Option FieldType} {na d' : Nat} {P : Option Value → gM → Prop} (As : List Value) (hm : gNm own index y cy nLy ret na) (hd : decode cc pc = .ok (.invokestatic index, 3)) (hna : As.length = na) (hdd : d' + 1 ≤ d) (hc : Z.2.1 ≤ mc ∧ Z.2.2 ≤ ms) (hst : (st.map fun v => v.category).sum ≤ 8)
    (hC : gC d' 0 0 y cy nLy ret Z.1 Z.1 As M P) (kk : ∀ (r : Option Value) (M' : gM), P r M' → G Z (pc + 3) L (r.toList ++ st) M') : G Z pc L (As.reverse ++ st) M := by
  obtain ⟨p, l, e, R, s, m, args, below, meth, c, D, dA, n0, ad0, Q, ⟨hx, hb, hml, hown, hts, hK, hlk, hfr, hlo, hX⟩, hmc, hms, rfl⟩ := hG
  intro ad H locs ls he hP hD hS hl
  obtain ⟨host, h1, h2, h3, h4, h5, h6⟩ := hm
  have hcw : va_CN R s args own index y host cy nLy ret (gWs y cy nLy ret) (gRm d' 0 0) 0 0 na := va_cnB na hts (gT_good h2) rfl rfl rfl (hX.2.2.2.1 _ h1) (hts _ h3) h4 ⟨Nat.le_trans hdd hfr, by show 8 + (nLy + 11) + 40 * d' ≤ R.locals; omega⟩
  have hcat : (st.map (gtr ad)).map (fun v => v.category) = st.map (fun v => v.category) := by
    rw [List.map_map]
    exact List.map_congr_left (fun v _ => gtr_cat ad v)
  refine g_back (n := Z.1) (n' := Z.1) (mc' := 0) (ms' := 0) (rest := st) (a := (As.map (gtr ad)).toArray) (va_runSN (As := As.map (gtr ad)) ⟨hx, hb, hml, hown, hts⟩ (hC l D dA ad H.size) ⟨hcw, hts _ h6, trivial⟩ ⟨gPre_blind, fun U hU hW => ⟨rfl, by rw [hU], by rw [hU]; exact hP, hD.weaken (fun _ _ _ _ => trivial), va_K.moved hW.alike hK, by rw [hU]; exact gX.warm hW (gX_at he hX hD hS)⟩⟩ rfl (by rw [List.length_map]; exact hna) (hl.2.1) ?_ ?_ hd ⟨by rw [hmc]; exact hc.1, by rw [hms]; exact hc.2⟩) he hD hS hl (Or.inl rfl) kk
  · show (As.reverse ++ st).map (gtr ad) = _
    rw [List.map_append, List.map_reverse]
  · refine lv_room ?_
    rw [hcat]
    exact hst
theorem r_cNI3 {d mc ms : Nat} {own : String} {cc : ByteArray} {nL : Nat} {G : gJ} (hG : gS d mc ms own cc nL G) {Z : Nat × Nat × Nat} {pc : Nat} {L : List (Option Value)} {st : List Value} {M : gM} {index : Nat} {y : MethodName} {cy : ByteArray} {nLy : Nat} {ty : FieldType} {d' : Nat} {P : Int32 → gM → Prop} {a1 a2 a3 : Value} (hm : gNm own index y cy nLy (some ty) 3) (hd : decode cc pc = .ok (.invokestatic index, 3)) (hC : gC d' 0 0 y cy nLy (some ty) Z.1 Z.1 [a1, a2, a3] M (gI P)) (hdd : d' + 1 ≤ d) (hc : Z.2.1 ≤ mc ∧ Z.2.2 ≤ ms) (hst : (st.map fun v => v.category).sum ≤ 8) (kk : ∀ (x : Int32) (M' : gM), P x M' → G Z (pc + 3) L (.int x :: st) M') : G Z pc L (a3 :: a2 :: a1 :: st) M := r_callN hG [a1, a2, a3] hm hd rfl hdd hc hst hC (fun r M9 h9 => by obtain ⟨x, rfl, h⟩ := h9; exact kk x M9 h)
theorem r_cVI0 {d mc ms : Nat} {own : String} {cc : ByteArray} {nL : Nat} {G : gJ} (hG : gS d mc ms own cc nL G) {Z : Nat × Nat × Nat} {pc : Nat} {L : List (Option Value)} {st : List Value} {M : gM} {index : Nat} {y : MethodName} {cy : ByteArray} {nLy : Nat} {ty : FieldType} {ci d' k z : Nat} {P : Int32 → gM → Prop}  (hm : gVm own index y cy nLy (some ty) 0 ci) (hd : decode cc pc = .ok (.invokevirtual index, 3)) (hkd : gK k = (0, ci, z)) (hk : k < Z.1) (hC : gC d' 0 0 y cy nLy (some ty) Z.1 Z.1 (.ref k :: []) M (gI P)) (hdd : d' + 1 ≤ d) (hc : Z.2.1 ≤ mc ∧ Z.2.2 ≤ ms) (hst : (st.map fun v => v.category).sum ≤ 8) (kk : ∀ (x : Int32) (M' : gM), P x M' → G Z (pc + 3) L (.int x :: st) M') : G Z pc L (.ref k :: st) M := r_callV hG [] hm hd hkd hk rfl hdd hc hst hC (fun r M9 h9 => by obtain ⟨x, rfl, h⟩ := h9; exact kk x M9 h)
theorem r_cVI1 {d mc ms : Nat} {own : String} {cc : ByteArray} {nL : Nat} {G : gJ} (hG : gS d mc ms own cc nL G) {Z : Nat × Nat × Nat} {pc : Nat} {L : List (Option Value)} {st : List Value} {M : gM} {index : Nat} {y : MethodName} {cy : ByteArray} {nLy : Nat} {ty : FieldType} {ci d' k z : Nat} {P : Int32 → gM → Prop} {a1 : Value} (hm : gVm own index y cy nLy (some ty) 1 ci) (hd : decode cc pc = .ok (.invokevirtual index, 3)) (hkd : gK k = (0, ci, z)) (hk : k < Z.1) (hC : gC d' 0 0 y cy nLy (some ty) Z.1 Z.1 (.ref k :: [a1]) M (gI P)) (hdd : d' + 1 ≤ d) (hc : Z.2.1 ≤ mc ∧ Z.2.2 ≤ ms) (hst : (st.map fun v => v.category).sum ≤ 8) (kk : ∀ (x : Int32) (M' : gM), P x M' → G Z (pc + 3) L (.int x :: st) M') : G Z pc L (a1 :: .ref k :: st) M := r_callV hG [a1] hm hd hkd hk rfl hdd hc hst hC (fun r M9 h9 => by obtain ⟨x, rfl, h⟩ := h9; exact kk x M9 h)
theorem r_cVI2 {d mc ms : Nat} {own : String} {cc : ByteArray} {nL : Nat} {G : gJ} (hG : gS d mc ms own cc nL G) {Z : Nat × Nat × Nat} {pc : Nat} {L : List (Option Value)} {st : List Value} {M : gM} {index : Nat} {y : MethodName} {cy : ByteArray} {nLy : Nat} {ty : FieldType} {ci d' k z : Nat} {P : Int32 → gM → Prop} {a1 a2 : Value} (hm : gVm own index y cy nLy (some ty) 2 ci) (hd : decode cc pc = .ok (.invokevirtual index, 3)) (hkd : gK k = (0, ci, z)) (hk : k < Z.1) (hC : gC d' 0 0 y cy nLy (some ty) Z.1 Z.1 (.ref k :: [a1, a2]) M (gI P)) (hdd : d' + 1 ≤ d) (hc : Z.2.1 ≤ mc ∧ Z.2.2 ≤ ms) (hst : (st.map fun v => v.category).sum ≤ 8) (kk : ∀ (x : Int32) (M' : gM), P x M' → G Z (pc + 3) L (.int x :: st) M') : G Z pc L (a2 :: a1 :: .ref k :: st) M := r_callV hG [a1, a2] hm hd hkd hk rfl hdd hc hst hC (fun r M9 h9 => by obtain ⟨x, rfl, h⟩ := h9; exact kk x M9 h)
theorem r_cVI3 {d mc ms : Nat} {own : String} {cc : ByteArray} {nL : Nat} {G : gJ} (hG : gS d mc ms own cc nL G) {Z : Nat × Nat × Nat} {pc : Nat} {L : List (Option Value)} {st : List Value} {M : gM} {index : Nat} {y : MethodName} {cy : ByteArray} {nLy : Nat} {ty : FieldType} {ci d' k z : Nat} {P : Int32 → gM → Prop} {a1 a2 a3 : Value} (hm : gVm own index y cy nLy (some ty) 3 ci) (hd : decode cc pc = .ok (.invokevirtual index, 3)) (hkd : gK k = (0, ci, z)) (hk : k < Z.1) (hC : gC d' 0 0 y cy nLy (some ty) Z.1 Z.1 (.ref k :: [a1, a2, a3]) M (gI P)) (hdd : d' + 1 ≤ d) (hc : Z.2.1 ≤ mc ∧ Z.2.2 ≤ ms) (hst : (st.map fun v => v.category).sum ≤ 8) (kk : ∀ (x : Int32) (M' : gM), P x M' → G Z (pc + 3) L (.int x :: st) M') : G Z pc L (a3 :: a2 :: a1 :: .ref k :: st) M := r_callV hG [a1, a2, a3] hm hd hkd hk rfl hdd hc hst hC (fun r M9 h9 => by obtain ⟨x, rfl, h⟩ := h9; exact kk x M9 h)
theorem r_cVI4 {d mc ms : Nat} {own : String} {cc : ByteArray} {nL : Nat} {G : gJ} (hG : gS d mc ms own cc nL G) {Z : Nat × Nat × Nat} {pc : Nat} {L : List (Option Value)} {st : List Value} {M : gM} {index : Nat} {y : MethodName} {cy : ByteArray} {nLy : Nat} {ty : FieldType} {ci d' k z : Nat} {P : Int32 → gM → Prop} {a1 a2 a3 a4 : Value} (hm : gVm own index y cy nLy (some ty) 4 ci) (hd : decode cc pc = .ok (.invokevirtual index, 3)) (hkd : gK k = (0, ci, z)) (hk : k < Z.1) (hC : gC d' 0 0 y cy nLy (some ty) Z.1 Z.1 (.ref k :: [a1, a2, a3, a4]) M (gI P)) (hdd : d' + 1 ≤ d) (hc : Z.2.1 ≤ mc ∧ Z.2.2 ≤ ms) (hst : (st.map fun v => v.category).sum ≤ 8) (kk : ∀ (x : Int32) (M' : gM), P x M' → G Z (pc + 3) L (.int x :: st) M') : G Z pc L (a4 :: a3 :: a2 :: a1 :: .ref k :: st) M := r_callV hG [a1, a2, a3, a4] hm hd hkd hk rfl hdd hc hst hC (fun r M9 h9 => by obtain ⟨x, rfl, h⟩ := h9; exact kk x M9 h)
theorem r_cVV0 {d mc ms : Nat} {own : String} {cc : ByteArray} {nL : Nat} {G : gJ} (hG : gS d mc ms own cc nL G) {Z : Nat × Nat × Nat} {pc : Nat} {L : List (Option Value)} {st : List Value} {M : gM} {index : Nat} {y : MethodName} {cy : ByteArray} {nLy : Nat}  {ci d' k z : Nat} {P : gM → Prop}  (hm : gVm own index y cy nLy (none) 0 ci) (hd : decode cc pc = .ok (.invokevirtual index, 3)) (hkd : gK k = (0, ci, z)) (hk : k < Z.1) (hC : gC d' 0 0 y cy nLy (none) Z.1 Z.1 (.ref k :: []) M (gV P)) (hdd : d' + 1 ≤ d) (hc : Z.2.1 ≤ mc ∧ Z.2.2 ≤ ms) (hst : (st.map fun v => v.category).sum ≤ 8) (kk : ∀ (M' : gM), P M' → G Z (pc + 3) L st M') : G Z pc L (.ref k :: st) M := r_callV hG [] hm hd hkd hk rfl hdd hc hst hC (fun r M9 h9 => by obtain ⟨rfl, h⟩ := h9; exact kk M9 h)
theorem r_cVV1 {d mc ms : Nat} {own : String} {cc : ByteArray} {nL : Nat} {G : gJ} (hG : gS d mc ms own cc nL G) {Z : Nat × Nat × Nat} {pc : Nat} {L : List (Option Value)} {st : List Value} {M : gM} {index : Nat} {y : MethodName} {cy : ByteArray} {nLy : Nat}  {ci d' k z : Nat} {P : gM → Prop} {a1 : Value} (hm : gVm own index y cy nLy (none) 1 ci) (hd : decode cc pc = .ok (.invokevirtual index, 3)) (hkd : gK k = (0, ci, z)) (hk : k < Z.1) (hC : gC d' 0 0 y cy nLy (none) Z.1 Z.1 (.ref k :: [a1]) M (gV P)) (hdd : d' + 1 ≤ d) (hc : Z.2.1 ≤ mc ∧ Z.2.2 ≤ ms) (hst : (st.map fun v => v.category).sum ≤ 8) (kk : ∀ (M' : gM), P M' → G Z (pc + 3) L st M') : G Z pc L (a1 :: .ref k :: st) M := r_callV hG [a1] hm hd hkd hk rfl hdd hc hst hC (fun r M9 h9 => by obtain ⟨rfl, h⟩ := h9; exact kk M9 h)
theorem r_cVV2 {d mc ms : Nat} {own : String} {cc : ByteArray} {nL : Nat} {G : gJ} (hG : gS d mc ms own cc nL G) {Z : Nat × Nat × Nat} {pc : Nat} {L : List (Option Value)} {st : List Value} {M : gM} {index : Nat} {y : MethodName} {cy : ByteArray} {nLy : Nat}  {ci d' k z : Nat} {P : gM → Prop} {a1 a2 : Value} (hm : gVm own index y cy nLy (none) 2 ci) (hd : decode cc pc = .ok (.invokevirtual index, 3)) (hkd : gK k = (0, ci, z)) (hk : k < Z.1) (hC : gC d' 0 0 y cy nLy (none) Z.1 Z.1 (.ref k :: [a1, a2]) M (gV P)) (hdd : d' + 1 ≤ d) (hc : Z.2.1 ≤ mc ∧ Z.2.2 ≤ ms) (hst : (st.map fun v => v.category).sum ≤ 8) (kk : ∀ (M' : gM), P M' → G Z (pc + 3) L st M') : G Z pc L (a2 :: a1 :: .ref k :: st) M := r_callV hG [a1, a2] hm hd hkd hk rfl hdd hc hst hC (fun r M9 h9 => by obtain ⟨rfl, h⟩ := h9; exact kk M9 h)
theorem r_cVV3 {d mc ms : Nat} {own : String} {cc : ByteArray} {nL : Nat} {G : gJ} (hG : gS d mc ms own cc nL G) {Z : Nat × Nat × Nat} {pc : Nat} {L : List (Option Value)} {st : List Value} {M : gM} {index : Nat} {y : MethodName} {cy : ByteArray} {nLy : Nat}  {ci d' k z : Nat} {P : gM → Prop} {a1 a2 a3 : Value} (hm : gVm own index y cy nLy (none) 3 ci) (hd : decode cc pc = .ok (.invokevirtual index, 3)) (hkd : gK k = (0, ci, z)) (hk : k < Z.1) (hC : gC d' 0 0 y cy nLy (none) Z.1 Z.1 (.ref k :: [a1, a2, a3]) M (gV P)) (hdd : d' + 1 ≤ d) (hc : Z.2.1 ≤ mc ∧ Z.2.2 ≤ ms) (hst : (st.map fun v => v.category).sum ≤ 8) (kk : ∀ (M' : gM), P M' → G Z (pc + 3) L st M') : G Z pc L (a3 :: a2 :: a1 :: .ref k :: st) M := r_callV hG [a1, a2, a3] hm hd hkd hk rfl hdd hc hst hC (fun r M9 h9 => by obtain ⟨rfl, h⟩ := h9; exact kk M9 h)
theorem r_cVV4 {d mc ms : Nat} {own : String} {cc : ByteArray} {nL : Nat} {G : gJ} (hG : gS d mc ms own cc nL G) {Z : Nat × Nat × Nat} {pc : Nat} {L : List (Option Value)} {st : List Value} {M : gM} {index : Nat} {y : MethodName} {cy : ByteArray} {nLy : Nat}  {ci d' k z : Nat} {P : gM → Prop} {a1 a2 a3 a4 : Value} (hm : gVm own index y cy nLy (none) 4 ci) (hd : decode cc pc = .ok (.invokevirtual index, 3)) (hkd : gK k = (0, ci, z)) (hk : k < Z.1) (hC : gC d' 0 0 y cy nLy (none) Z.1 Z.1 (.ref k :: [a1, a2, a3, a4]) M (gV P)) (hdd : d' + 1 ≤ d) (hc : Z.2.1 ≤ mc ∧ Z.2.2 ≤ ms) (hst : (st.map fun v => v.category).sum ≤ 8) (kk : ∀ (M' : gM), P M' → G Z (pc + 3) L st M') : G Z pc L (a4 :: a3 :: a2 :: a1 :: .ref k :: st) M := r_callV hG [a1, a2, a3, a4] hm hd hkd hk rfl hdd hc hst hC (fun r M9 h9 => by obtain ⟨rfl, h⟩ := h9; exact kk M9 h)
theorem r_cSI0 {d mc ms : Nat} {own : String} {cc : ByteArray} {nL : Nat} {G : gJ} (hG : gS d mc ms own cc nL G) {Z : Nat × Nat × Nat} {pc : Nat} {L : List (Option Value)} {st : List Value} {M : gM} {index : Nat} {y : MethodName} {cy : ByteArray} {nLy : Nat} {ty : FieldType} {d' : Nat} {P : Int32 → gM → Prop}  (hm : gSm own index y cy nLy (some ty) 0) (hd : decode cc pc = .ok (.invokestatic index, 3)) (hC : gC d' 0 0 y cy nLy (some ty) Z.1 Z.1 [] M (gI P)) (hdd : d' + 1 ≤ d) (hc : Z.2.1 ≤ mc ∧ Z.2.2 ≤ ms) (hst : (st.map fun v => v.category).sum ≤ 8) (kk : ∀ (x : Int32) (M' : gM), P x M' → G Z (pc + 3) L (.int x :: st) M') : G Z pc L (st) M := r_callS hG [] hm hd rfl hdd hc hst hC (fun r M9 h9 => by obtain ⟨x, rfl, h⟩ := h9; exact kk x M9 h)
theorem r_cSI1 {d mc ms : Nat} {own : String} {cc : ByteArray} {nL : Nat} {G : gJ} (hG : gS d mc ms own cc nL G) {Z : Nat × Nat × Nat} {pc : Nat} {L : List (Option Value)} {st : List Value} {M : gM} {index : Nat} {y : MethodName} {cy : ByteArray} {nLy : Nat} {ty : FieldType} {d' : Nat} {P : Int32 → gM → Prop} {a1 : Value} (hm : gSm own index y cy nLy (some ty) 1) (hd : decode cc pc = .ok (.invokestatic index, 3)) (hC : gC d' 0 0 y cy nLy (some ty) Z.1 Z.1 [a1] M (gI P)) (hdd : d' + 1 ≤ d) (hc : Z.2.1 ≤ mc ∧ Z.2.2 ≤ ms) (hst : (st.map fun v => v.category).sum ≤ 8) (kk : ∀ (x : Int32) (M' : gM), P x M' → G Z (pc + 3) L (.int x :: st) M') : G Z pc L (a1 :: st) M := r_callS hG [a1] hm hd rfl hdd hc hst hC (fun r M9 h9 => by obtain ⟨x, rfl, h⟩ := h9; exact kk x M9 h)
theorem r_cSI2 {d mc ms : Nat} {own : String} {cc : ByteArray} {nL : Nat} {G : gJ} (hG : gS d mc ms own cc nL G) {Z : Nat × Nat × Nat} {pc : Nat} {L : List (Option Value)} {st : List Value} {M : gM} {index : Nat} {y : MethodName} {cy : ByteArray} {nLy : Nat} {ty : FieldType} {d' : Nat} {P : Int32 → gM → Prop} {a1 a2 : Value} (hm : gSm own index y cy nLy (some ty) 2) (hd : decode cc pc = .ok (.invokestatic index, 3)) (hC : gC d' 0 0 y cy nLy (some ty) Z.1 Z.1 [a1, a2] M (gI P)) (hdd : d' + 1 ≤ d) (hc : Z.2.1 ≤ mc ∧ Z.2.2 ≤ ms) (hst : (st.map fun v => v.category).sum ≤ 8) (kk : ∀ (x : Int32) (M' : gM), P x M' → G Z (pc + 3) L (.int x :: st) M') : G Z pc L (a2 :: a1 :: st) M := r_callS hG [a1, a2] hm hd rfl hdd hc hst hC (fun r M9 h9 => by obtain ⟨x, rfl, h⟩ := h9; exact kk x M9 h)
theorem r_cSI3 {d mc ms : Nat} {own : String} {cc : ByteArray} {nL : Nat} {G : gJ} (hG : gS d mc ms own cc nL G) {Z : Nat × Nat × Nat} {pc : Nat} {L : List (Option Value)} {st : List Value} {M : gM} {index : Nat} {y : MethodName} {cy : ByteArray} {nLy : Nat} {ty : FieldType} {d' : Nat} {P : Int32 → gM → Prop} {a1 a2 a3 : Value} (hm : gSm own index y cy nLy (some ty) 3) (hd : decode cc pc = .ok (.invokestatic index, 3)) (hC : gC d' 0 0 y cy nLy (some ty) Z.1 Z.1 [a1, a2, a3] M (gI P)) (hdd : d' + 1 ≤ d) (hc : Z.2.1 ≤ mc ∧ Z.2.2 ≤ ms) (hst : (st.map fun v => v.category).sum ≤ 8) (kk : ∀ (x : Int32) (M' : gM), P x M' → G Z (pc + 3) L (.int x :: st) M') : G Z pc L (a3 :: a2 :: a1 :: st) M := r_callS hG [a1, a2, a3] hm hd rfl hdd hc hst hC (fun r M9 h9 => by obtain ⟨x, rfl, h⟩ := h9; exact kk x M9 h)
theorem r_cSI4 {d mc ms : Nat} {own : String} {cc : ByteArray} {nL : Nat} {G : gJ} (hG : gS d mc ms own cc nL G) {Z : Nat × Nat × Nat} {pc : Nat} {L : List (Option Value)} {st : List Value} {M : gM} {index : Nat} {y : MethodName} {cy : ByteArray} {nLy : Nat} {ty : FieldType} {d' : Nat} {P : Int32 → gM → Prop} {a1 a2 a3 a4 : Value} (hm : gSm own index y cy nLy (some ty) 4) (hd : decode cc pc = .ok (.invokestatic index, 3)) (hC : gC d' 0 0 y cy nLy (some ty) Z.1 Z.1 [a1, a2, a3, a4] M (gI P)) (hdd : d' + 1 ≤ d) (hc : Z.2.1 ≤ mc ∧ Z.2.2 ≤ ms) (hst : (st.map fun v => v.category).sum ≤ 8) (kk : ∀ (x : Int32) (M' : gM), P x M' → G Z (pc + 3) L (.int x :: st) M') : G Z pc L (a4 :: a3 :: a2 :: a1 :: st) M := r_callS hG [a1, a2, a3, a4] hm hd rfl hdd hc hst hC (fun r M9 h9 => by obtain ⟨x, rfl, h⟩ := h9; exact kk x M9 h)
theorem r_cSV0 {d mc ms : Nat} {own : String} {cc : ByteArray} {nL : Nat} {G : gJ} (hG : gS d mc ms own cc nL G) {Z : Nat × Nat × Nat} {pc : Nat} {L : List (Option Value)} {st : List Value} {M : gM} {index : Nat} {y : MethodName} {cy : ByteArray} {nLy : Nat}  {d' : Nat} {P : gM → Prop}  (hm : gSm own index y cy nLy (none) 0) (hd : decode cc pc = .ok (.invokestatic index, 3)) (hC : gC d' 0 0 y cy nLy (none) Z.1 Z.1 [] M (gV P)) (hdd : d' + 1 ≤ d) (hc : Z.2.1 ≤ mc ∧ Z.2.2 ≤ ms) (hst : (st.map fun v => v.category).sum ≤ 8) (kk : ∀ (M' : gM), P M' → G Z (pc + 3) L st M') : G Z pc L (st) M := r_callS hG [] hm hd rfl hdd hc hst hC (fun r M9 h9 => by obtain ⟨rfl, h⟩ := h9; exact kk M9 h)
theorem r_cSV1 {d mc ms : Nat} {own : String} {cc : ByteArray} {nL : Nat} {G : gJ} (hG : gS d mc ms own cc nL G) {Z : Nat × Nat × Nat} {pc : Nat} {L : List (Option Value)} {st : List Value} {M : gM} {index : Nat} {y : MethodName} {cy : ByteArray} {nLy : Nat}  {d' : Nat} {P : gM → Prop} {a1 : Value} (hm : gSm own index y cy nLy (none) 1) (hd : decode cc pc = .ok (.invokestatic index, 3)) (hC : gC d' 0 0 y cy nLy (none) Z.1 Z.1 [a1] M (gV P)) (hdd : d' + 1 ≤ d) (hc : Z.2.1 ≤ mc ∧ Z.2.2 ≤ ms) (hst : (st.map fun v => v.category).sum ≤ 8) (kk : ∀ (M' : gM), P M' → G Z (pc + 3) L st M') : G Z pc L (a1 :: st) M := r_callS hG [a1] hm hd rfl hdd hc hst hC (fun r M9 h9 => by obtain ⟨rfl, h⟩ := h9; exact kk M9 h)
theorem r_cSV2 {d mc ms : Nat} {own : String} {cc : ByteArray} {nL : Nat} {G : gJ} (hG : gS d mc ms own cc nL G) {Z : Nat × Nat × Nat} {pc : Nat} {L : List (Option Value)} {st : List Value} {M : gM} {index : Nat} {y : MethodName} {cy : ByteArray} {nLy : Nat}  {d' : Nat} {P : gM → Prop} {a1 a2 : Value} (hm : gSm own index y cy nLy (none) 2) (hd : decode cc pc = .ok (.invokestatic index, 3)) (hC : gC d' 0 0 y cy nLy (none) Z.1 Z.1 [a1, a2] M (gV P)) (hdd : d' + 1 ≤ d) (hc : Z.2.1 ≤ mc ∧ Z.2.2 ≤ ms) (hst : (st.map fun v => v.category).sum ≤ 8) (kk : ∀ (M' : gM), P M' → G Z (pc + 3) L st M') : G Z pc L (a2 :: a1 :: st) M := r_callS hG [a1, a2] hm hd rfl hdd hc hst hC (fun r M9 h9 => by obtain ⟨rfl, h⟩ := h9; exact kk M9 h)
theorem r_cSV3 {d mc ms : Nat} {own : String} {cc : ByteArray} {nL : Nat} {G : gJ} (hG : gS d mc ms own cc nL G) {Z : Nat × Nat × Nat} {pc : Nat} {L : List (Option Value)} {st : List Value} {M : gM} {index : Nat} {y : MethodName} {cy : ByteArray} {nLy : Nat}  {d' : Nat} {P : gM → Prop} {a1 a2 a3 : Value} (hm : gSm own index y cy nLy (none) 3) (hd : decode cc pc = .ok (.invokestatic index, 3)) (hC : gC d' 0 0 y cy nLy (none) Z.1 Z.1 [a1, a2, a3] M (gV P)) (hdd : d' + 1 ≤ d) (hc : Z.2.1 ≤ mc ∧ Z.2.2 ≤ ms) (hst : (st.map fun v => v.category).sum ≤ 8) (kk : ∀ (M' : gM), P M' → G Z (pc + 3) L st M') : G Z pc L (a3 :: a2 :: a1 :: st) M := r_callS hG [a1, a2, a3] hm hd rfl hdd hc hst hC (fun r M9 h9 => by obtain ⟨rfl, h⟩ := h9; exact kk M9 h)
theorem r_cSV4 {d mc ms : Nat} {own : String} {cc : ByteArray} {nL : Nat} {G : gJ} (hG : gS d mc ms own cc nL G) {Z : Nat × Nat × Nat} {pc : Nat} {L : List (Option Value)} {st : List Value} {M : gM} {index : Nat} {y : MethodName} {cy : ByteArray} {nLy : Nat}  {d' : Nat} {P : gM → Prop} {a1 a2 a3 a4 : Value} (hm : gSm own index y cy nLy (none) 4) (hd : decode cc pc = .ok (.invokestatic index, 3)) (hC : gC d' 0 0 y cy nLy (none) Z.1 Z.1 [a1, a2, a3, a4] M (gV P)) (hdd : d' + 1 ≤ d) (hc : Z.2.1 ≤ mc ∧ Z.2.2 ≤ ms) (hst : (st.map fun v => v.category).sum ≤ 8) (kk : ∀ (M' : gM), P M' → G Z (pc + 3) L st M') : G Z pc L (a4 :: a3 :: a2 :: a1 :: st) M := r_callS hG [a1, a2, a3, a4] hm hd rfl hdd hc hst hC (fun r M9 h9 => by obtain ⟨rfl, h⟩ := h9; exact kk M9 h)

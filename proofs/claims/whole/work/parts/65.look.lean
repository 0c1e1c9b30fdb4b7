set_option maxRecDepth 100000 in
set_option maxHeartbeats 400000 in
theorem ct_X8_look {M : gM} {b : Bool} (hR : M.2.2 = stdR b) {nv : Nat} (hnv : M.1 0 7 = nI nv) (lv : nv ≤ 12) {i : Nat} (hi : i < nv) {w : Nat} (hw : w < 9) : gC 2 0 0 yX8_look cX8_look 3 (some .int) 140 140 [.ref 0, .int (nI i), .int (nI w)] M (gI (fun r M9 => r = fTold M (2 * i + 42) w ∧ M9 = M)) := by
  refine gC_i rfl (Nat.le_of_ble_eq_true rfl) (fun G hG hE => ?_)
  change G (140, 0, 0) 0 [some (.ref 0), some (.int (nI i)), some (.int (nI w))] [] M
  refine r_aload_n hG dX8_look_0 rfl ?_
  refine r_iload_n hG dX8_look_1 rfl ?_
  refine r_cVI1 hG mk_X8_106 dX8_look_2 rfl (by decide) (ct_X8_isVillage (by exact hR) (c := nv) hnv (by omega) _) (by decide) ⟨Nat.le_refl _, Nat.le_refl _⟩ (Nat.le_of_ble_eq_true rfl) (fun x9 M9 h9 => ?_)
  obtain ⟨h8, e9⟩ := h9; rw [e9]; rcases h8 with ⟨e8, hw2⟩ | ⟨e8, hw2⟩; rotate_left; exact absurd ⟨i, hi, rfl⟩ hw2
  · rw [e8]
    refine r_if_eq hG 18 dX8_look_5 (by decide) (fun hc5 => absurd hc5 (by decide)) (fun hc5 => ?_)
    refine r_iload_n hG dX8_look_8 rfl ?_
    refine r_iconst hG (0) dX8_look_9 (by decide) ?_
    refine r_bipush hG (8) dX8_look_10 (by decide) ?_
    refine r_cSI3 hG mk_X8_55 dX8_look_12 (ct_X8_within _ _ _) (by decide) ⟨Nat.le_refl _, Nat.le_refl _⟩ (Nat.le_of_ble_eq_true rfl) (fun x9 M9 h9 => ?_)
    obtain ⟨h8, e9⟩ := h9; rw [e9]; rcases h8 with ⟨e8, hw12⟩ | ⟨e8, hw12⟩; rotate_left; exact absurd ⟨nI_pos' (by omega), nI_le (b := 8) (by omega) (by omega)⟩ hw12
    · rw [e8]
      refine r_if_ne hG 26 dX8_look_15 (by decide) (fun hc15 => ?_) (fun hc15 => absurd hc15 (by decide))
      refine r_aload_n hG dX8_look_26 rfl ?_
      refine r_getR hG 0 1 fk_X8_11 dX8_look_27 rfl (by decide) rfl (sr hR rfl) ?_
      refine r_iload_n hG dX8_look_30 rfl ?_
      refine r_aald4 hG i (2 * i + 42) dX8_look_31 rfl (by decide) rfl (by omega) (by decide) (sr hR rfl) ?_
      refine r_iload_n hG dX8_look_32 rfl ?_
      refine r_cVI1 hG mk_X8_216 dX8_look_33 (gkV (by omega)) (show (2 * i + 42) < 140 by omega) (ct_X7_told hR (i := i) (by omega) hw) (by decide) ⟨Nat.le_refl _, Nat.le_refl _⟩ (Nat.le_of_ble_eq_true rfl) (fun x9 M9 h9 => ?_)
      obtain ⟨e8, e9⟩ := h9
      rw [e8, e9]
      refine hE _ _ _ _ _ dX8_look_36 rfl (Nat.le_refl _) (Nat.le_refl _) rfl ?_
      exact ⟨rfl, rfl⟩

/-! a method that throws, and its catching -/
theorem xAt_good : ∀ w ∈ xAt.filter goodWord, w ∈ gT := fun w hw => gT_in ((by decide +kernel : ∀ w ∈ xAt.filter goodWord, w ∈ lw_tbl) w hw) (List.mem_filter.mp hw).2
theorem xAt_ot : ∀ w ∈ Cond.classLink RX8 213 xNs :: Cond.initialized xNs :: xAt, vx_ot w = true := by decide +kernel
theorem gXl_ot : ∀ w ∈ gXl, w.onTables = true := by decide +kernel
theorem xCl : Cond.classLink RX8 213 xNs ∈ gT := cl_X8_213
theorem xIn : Cond.initialized xNs ∈ gT := gT_at 19 (by decide +kernel) rfl
theorem xLk : Cond.classLink RL 13 xNs ∈ gT := cl_L_13
theorem xCa : Cond.castable xNs xNs ∈ gXl := by decide +kernel
def gXC (D : va_G) (dA : Nat → ClassId) (n : Nat) (ad : Nat → Nat) (sz : Nat) (M : gM) : String → State → State → Prop := fun E st t => E = xNs ∧ va_P D vwCl (gw dA ad n M) t.heap ∧ va_F (gA ad n sz) st t
def gCx (d : Nat) (y : MethodName) (cc : ByteArray) (nL : Nat) (ret : Option FieldType) (n : Nat) (As : List Value) (M : gM) : Prop :=
  ∀ (l : Launch), l.stackTraces = false → ∀ (D : va_G) (dA : Nat → ClassId) (ad : Nat → Nat) (sz : Nat), vx_Met l y (gWs y cc nL ret) (gRm d 1 6) (va_Pc (As.map (gtr ad)) (gPre D dA n ad sz M)) (fun _ _ _ _ => False) (gXC D dA n ad sz M) 1 6 (gA ad n sz)
def gEx (n : Nat) (cc : ByteArray) (M : gM) (G : gJ) : Prop := ∀ (pc : Nat) (L : List (Option Value)), decode cc pc = .ok (.new 213, 3) → decode cc (pc + 3) = .ok (.dup, 1) → decode cc (pc + 4) = .ok (.invokespecial 215, 3) → decode cc (pc + 7) = .ok (.athrow, 1) → G (n, 0, 0) pc L [] M
set_option maxHeartbeats 1000000 in
theorem gCx_i {d : Nat} {y : MethodName} {cc : ByteArray} {nL : Nat} {ret : Option FieldType} {n : Nat} {As : List Value} {M : gM} (hd : 6 ≤ d) (hyc : y.cls = RX8) (hy : plainName y.cls = true) (hlen : (gent As).length ≤ nL)
    (body : ∀ G, gS d 1 6 y.cls cc nL G → gEx n cc M G → G (n, 0, 0) 0 (gpad nL (gent As)) [] M) : gCx d y cc nL ret n As M := by
  intro l hl D dA ad sz
  refine vx_ofW (cc := cc) (maxL := nL) (ret := ret) hy rfl ?_
  intro p e s m args below meth c s₁ B hml hnt hv
  obtain ⟨rfl, hsz, hP, hD, hK, hX⟩ := hv
  subst hsz
  have hts := atoms_spec (ws := gWs y cc nL ret) B.pre
  have htg : ∀ w ∈ gT, w.before (As.map (gtr ad)).toArray s = true := fun w hw => hts w (List.mem_cons_of_mem _ hw)
  have hown : s.vm.findClass y.cls = some m.cls := findClass_of_methodNamed B.named
  have hlk := B.notSynchronized
  rw [lg_entry_eq]
  refine body (gG p l e (gRm d 1 6) s m (As.map (gtr ad)).toArray below meth c D dA n ad nL (vx_MQ below (fun _ _ _ _ => False) (gXC D dA n ad s.heap.size M) (As.map (gtr ad)).toArray s 1 6 (gA ad n s.heap.size))) ?_ ?_ ad s.heap [] _ gExt.rf hP (gD_self hD) va_S.rf (gl_entry hlen)
  · exact ⟨p, l, e, gRm d 1 6, s, m, _, below, meth, c, D, dA, n, ad, _, ⟨B.exec, B.bytes, hml, hown, htg, hK, hlk, Nat.le_refl _, Nat.le_refl _, hX⟩, rfl, rfl, rfl⟩
  · intro pc L d0 d3 d4 d7 ad' H locs ls he hP' hD' hS hl'
    obtain rfl : ad' = ad := he.2.2 rfl
    have hat : ∀ w ∈ xAt, w.before (As.map (gtr ad')).toArray s = true := vx_hat (L := xAt) (B := gXl) (fun w hw => htg w (xAt_good w hw)) (fun w hw => hw) (fun w hw => va_tabs (gXl_ot w hw) (u := s) rfl (hX.2.2.1.2.2.2.2 w hw))
    refine vx_throw0 (own := RX8) (cls := xNs) (names := ["java/lang/RuntimeException", "java/lang/Exception"]) (ik := 213) (ic := 215) (A := gA ad' n s.heap.size) (rest := []) B.exec B.bytes hl (by rw [← hyc]; exact hown) (by decide +kernel) (by decide +kernel) (htg _ xCl) (htg _ xIn) hat xAt_ot hX.2.2.1.2.2.1 hX.2.2.1.2.2.2.1 hS (by rw [hml]; exact hl'.2.1) d0 d3 d4 d7 (fun x hx => (hnt x hx).elim) ?_ ?_ (Nat.le_refl 1) (Nat.le_refl 6) hlk (fun t hal hsz hq => ⟨rfl, ?_, ?_⟩) hS.2.2 (Nat.le_refl 1) (Nat.le_refl 6)
    · show 2 + 3 < d
      omega
    · show 0 + (13 * (2 + 1) + 42) ≤ 40 * d
      omega
    · exact hP'.kept (fun k q hk => hq _ ((hP' k q hk).lt))
    · exact ⟨Nat.le_trans hS.1 hsz, fun q h1 h2 => by rw [hq q (Nat.lt_of_lt_of_le h1 hS.1)]; exact hS.2.1 q h1 h2⟩
set_option maxRecDepth 100000 in
set_option maxHeartbeats 1000000 in
theorem ct_X8_lookx {M : gM} {b : Bool} (hR : M.2.2 = stdR b) {nv : Nat} (hnv : M.1 0 7 = nI nv) (lv : nv ≤ 12) {v x : Int32} (hno : ¬ (vIn v nv ∧ 0 ≤ x ∧ x ≤ 8)) : gCx 6 yX8_look cX8_look 3 (some .int) 140 [.ref 0, .int v, .int x] M := by
  refine gCx_i (Nat.le_refl 6) rfl rfl (Nat.le_of_ble_eq_true rfl) (fun G hG hX => ?_)
  change G (140, 0, 0) 0 [some (.ref 0), some (.int v), some (.int x)] [] M
  refine r_aload_n hG dX8_look_0 rfl ?_
  refine r_iload_n hG dX8_look_1 rfl ?_
  refine r_cVI1 hG mk_X8_106 dX8_look_2 rfl (by decide) (ct_X8_isVillage (by exact hR) (c := nv) hnv (by omega) _) (by decide) ⟨Nat.zero_le _, Nat.zero_le _⟩ (Nat.le_of_ble_eq_true rfl) (fun x9 M9 h9 => ?_)
  obtain ⟨h8, e9⟩ := h9; rw [e9]; rcases h8 with ⟨e8, hw2⟩ | ⟨e8, hw2⟩
  · rw [e8]
    refine r_if_eq hG 18 dX8_look_5 (by decide) (fun hc5 => absurd hc5 (by decide)) (fun hc5 => ?_)
    refine r_iload_n hG dX8_look_8 rfl ?_
    refine r_iconst hG (0) dX8_look_9 (by decide) ?_
    refine r_bipush hG (8) dX8_look_10 (by decide) ?_
    refine r_cSI3 hG mk_X8_55 dX8_look_12 (ct_X8_within _ _ _) (by decide) ⟨Nat.zero_le _, Nat.zero_le _⟩ (Nat.le_of_ble_eq_true rfl) (fun x9 M9 h9 => ?_)
    obtain ⟨h8, e9⟩ := h9; rw [e9]; rcases h8 with ⟨e8, hw12⟩ | ⟨e8, hw12⟩; exact absurd ⟨hw2, hw12⟩ hno
    · rw [e8]
      refine r_if_ne hG 26 dX8_look_15 (by decide) (fun hc15 => absurd hc15 (by decide)) (fun hc15 => ?_)
      exact hX 18 _ dX8_look_18 dX8_look_21 dX8_look_22 dX8_look_25
  · rw [e8]
    refine r_if_eq hG 18 dX8_look_5 (by decide) (fun hc5 => ?_) (fun hc5 => absurd hc5 (by decide))
    exact hX 18 _ dX8_look_18 dX8_look_21 dX8_look_22 dX8_look_25

/-- a method with a handler -/
def gSh (d mc ms : Nat) (own : String) (cc : ByteArray) (nL : Nat) (hh : List (Nat × Nat × Nat × Nat)) (G : gJ) : Prop :=
  ∃ (p : Program) (l : Launch) (e : Env) (R : Room) (s : State) (m : MethodId) (args : Array Value) (below : List Frame) (meth : Method) (c : Code) (D : va_G) (dA : Nat → ClassId) (n0 : Nat) (ad0 : Nat → Nat) (Q : State → Prop),
    gF p l R s m args meth c D dA n0 ad0 d own cc nL ∧ R.cells = mc ∧ R.slots = ms ∧ c.exceptionTable.toList = tableOf hh ∧ l.stackTraces = false ∧ G = gG p l e R s m args below meth c D dA n0 ad0 nL Q
def gCw (d mc ms : Nat) (y : MethodName) (cc : ByteArray) (nL : Nat) (ret : Option FieldType) (hh : List (Nat × Nat × Nat × Nat)) (n n' : Nat) (As : List Value) (M : gM) (P : Option Value → gM → Prop) : Prop :=
  ∀ (l : Launch), l.stackTraces = false → ∀ (D : va_G) (dA : Nat → ClassId) (ad : Nat → Nat) (sz : Nat), Met l y (.codeWith y cc nL ret hh :: gT) (gRm d mc ms) (va_Pc (As.map (gtr ad)) (gPre D dA n ad sz M)) (gQ D dA n n' ad sz P) mc ms (gA ad n sz)
set_option maxHeartbeats 1000000 in
theorem gCw_i {d mc ms : Nat} {y : MethodName} {cc : ByteArray} {nL : Nat} {ty : FieldType} {hh : List (Nat × Nat × Nat × Nat)} {n n' : Nat} {As : List Value} {M : gM} {P : Int32 → gM → Prop} (hy : plainName y.cls = true) (hlen : (gent As).length ≤ nL)
    (body : ∀ G, gSh d mc ms y.cls cc nL hh G → gS d mc ms y.cls cc nL G → gEi n' mc ms cc ty P G → G (n, 0, 0) 0 (gpad nL (gent As)) [] M) : gCw d mc ms y cc nL (some ty) hh n n' As M (gI P) := by
  intro l hl D dA ad sz
  refine va_MetW (cc := cc) (maxL := nL) (ret := some ty) (hh := hh) hy rfl ?_
  intro p e s m args below meth c s₁ B hml hv
  obtain ⟨rfl, hsz, hP, hD, hK, hX⟩ := hv
  subst hsz
  have hts := atoms_spec (ws := Cond.codeWith y cc nL (some ty) hh :: gT) B.pre
  have hown : s.vm.findClass y.cls = some m.cls := findClass_of_methodNamed B.named
  have htb : c.exceptionTable.toList = tableOf hh := vx_table (x := y) B (hts _ List.mem_cons_self)
  have hlk := B.notSynchronized
  rw [lg_entry_eq]
  refine body (gG p l e (gRm d mc ms) s m (As.map (gtr ad)).toArray below meth c D dA n ad nL (MQ below (gQ D dA n n' ad s.heap.size (gI P)) (As.map (gtr ad)).toArray s mc ms (gA ad n s.heap.size))) ?_ ?_ ?_ ad s.heap [] _ gExt.rf hP (gD_self hD) va_S.rf (gl_entry hlen)
  · exact ⟨p, l, e, gRm d mc ms, s, m, _, below, meth, c, D, dA, n, ad, _, ⟨B.exec, B.bytes, hml, hown, fun w hw => hts w (List.mem_cons_of_mem _ hw), hK, hlk, Nat.le_refl _, Nat.le_refl _, hX⟩, rfl, rfl, htb, hl, rfl⟩
  · exact ⟨p, l, e, gRm d mc ms, s, m, _, below, meth, c, D, dA, n, ad, _, ⟨B.exec, B.bytes, hml, hown, fun w hw => hts w (List.mem_cons_of_mem _ hw), hK, hlk, Nat.le_refl _, Nat.le_refl _, hX⟩, rfl, rfl, rfl⟩
  · intro Z pc L x M' hd hz h1 h2 hn hp ad' H locs ls he hP' hD' hS hl
    subst hz
    refine W.widen (k := mc) (n := ms) h1 h2 ?_
    exact W.zret B.exec B.bytes B.returns hn (fun t ht hW => ⟨⟨some (.int x), ad', M', rfl, ⟨x, rfl, hp⟩, he, by rw [ht]; exact hP', hD'⟩, hS.F ht⟩) hS.2.2 hd hlk
set_option maxHeartbeats 1000000 in
theorem r_lookx {d mc ms : Nat} {G : gJ} (hH : gSh d mc ms RL cL_look 5 [(0, 10, 13, 13)] G) {Z : Nat × Nat × Nat} {M : gM} {v w : Int32} {d' : Nat} (hC : gCx d' yX8_look cX8_look 3 (some .int) Z.1 [.ref 0, .int v, .int w] M) (hk : 0 < Z.1) (hdd : d' + 1 ≤ d) (hc : Z.2.1 + 1 ≤ mc ∧ Z.2.2 + 6 ≤ ms)
    (kk : G (Z.1, Z.2.1 + 1, Z.2.2 + 6) 15 [some (.ref 0), some (.int v), some (.int w), some (.ref 139), none] [] M) : G Z 5 [some (.ref 0), some (.int v), some (.int w), some (.ref 139), none] [.int w, .int v, .ref 0, .int 0, .ref 139] M := by
  obtain ⟨p, l, e, R, s, m, args, below, meth, c, D, dA, n0, ad0, Q, ⟨hx, hb, hml, hown, hts, hK, hlk, hfr, hlo, hX⟩, hmc, hms, htb, hst, rfl⟩ := hH
  intro ad H locs ls he hP hD hS hl
  obtain ⟨⟨h1, h2, h3, h4, h5⟩, h6, h7, T8, h8⟩ := mk_L_7
  have hcw : CallW R s args RL yX8_look.cls 7 yX8_look cX8_look 3 (some .int) (gWs yX8_look cX8_look 3 (some .int)) (gRm d' 1 6) 1 6 2 := ⟨callB_of 2 hts (gT_good h2) rfl rfl rfl (hts _ h3) (hts _ h1) h4 ⟨Nat.le_trans hdd hfr, by show 8 + (3 + 11) + 40 * d' ≤ R.locals; omega⟩, hts _ h6, hts _ h7⟩
  have hrecv := va_recv hK hP h8 (by rw [gw_at hk, ge_obj (show gK 0 = (0, 8, 0) from rfl)] : (gw dA ad Z.1 M)[0]? = some (ad 0, .inr (8, gfs ad M 0 8)))
  have hrun := vx_runV (e := e) (below := below) (meth := meth) (locs := locs) (g := F0 m 5 ls [.int w, .int v, .ref (ad 0), .int 0, .ref (ad 139)]) (As := [.int v, .int w]) (rest := [.int 0, .ref (ad 139)]) ⟨hx, hb, hml, hown, hts⟩ (hC l hst D dA ad H.size) hcw ⟨gPre_blind, hrecv, fun U hU hW => ⟨rfl, by rw [hU], by rw [hU]; exact hP, hD.weaken (fun _ _ _ _ => trivial), va_K.moved hW.alike hK, by rw [hU]; exact gX.warm hW (gX_at he hX hD hS)⟩⟩ rfl rfl hl.2.1 rfl (lv_room (Nat.le_of_ble_eq_true rfl)) dL_look_5 ⟨by rw [hmc]; exact hc.1, by rw [hms]; exact hc.2⟩
  intro T hT X
  rcases hrun T hT X with ⟨v', st₀, t, T', Lc, g0, g1, g2, g3, g4, hF, g5⟩ | ⟨q, st₀, t, T', Lc, E, ce, h0, X', hL, e1, e2, hXC, hq, hv, hcl, stp⟩
  · exact hF.elim
  · obtain ⟨rfl, hP1, hz, hkp⟩ := hXC
    rw [h0] at hz hkp
    have hsub := gA_sub hD hS
    have hS' : va_S (gA ad0 n0 s.heap.size) s.heap T'.heap (locs ++ Lc) := by
      refine ⟨Nat.le_trans hS.1 (by rw [e1]; exact hz), fun q h1 h2 => ?_, fun q hq => ?_⟩
      · rw [e1, hkp q (Nat.lt_of_lt_of_le h1 hS.1) (fun z => h2 (hsub q z))]
        exact hS.2.1 q h1 h2
      · rcases List.mem_append.mp hq with h | h
        · exact hS.2.2 q h
        · exact hsub _ (hL q h)
    have hl' : gl (adn ad 999 q) 5 [some (.ref 0), some (.int v), some (.int w), some (.ref 139), none] ls := gl_ad hl (fun i k e => adn_n (by
      rcases (show i = 0 ∨ i = 1 ∨ i = 2 ∨ i = 3 ∨ i = 4 ∨ 5 ≤ i by omega) with rfl | rfl | rfl | rfl | rfl | h
      · cases e; decide
      · cases e
      · cases e
      · cases e; decide
      · cases e
      · rw [List.getElem?_eq_none (by simpa using h)] at e; cases e))
    have hW : vx_W p l e R s m args below meth c T'.heap (locs ++ Lc) (Z.2.1 + 1) (Z.2.2 + 6) Q (F0 m 5 ls [.int 0, .ref (ad 139)]) q := by
      refine vx_catch (own := RL) (name := xNs) (E := xNs) (ce := ce) hown [] { startPc := 0, endPc := 10, handlerPc := 13, catchType := 13 } [] (by rw [htb]; rfl) (fun z hz => nomatch hz) (by decide) (by decide) (hts _ xLk) (va_tabs (gXl_ot _ xCa) (u := s) rfl (hX.2.2.1.2.2.2.2 _ xCa)) (by rw [e1]; exact hq) hv hcl ?_
      show W p l e R s m args below meth c T'.heap (locs ++ Lc) (Z.2.1 + 1) (Z.2.2 + 6) Q (F0 m 13 ls (gtr (adn ad 999 q) (.ref 999) :: []))
      refine lv_astore hx hb dL_look_13 (gl_has hl') (by decide) rfl (fun ls9 hl9 => ?_)
      have g := gl_s1 (v := .ref 999) hl' hl9
      refine kk ad T'.heap (locs ++ Lc) ls9 he (by rw [e1]; exact hP1) hD hS' ⟨rfl, g.2.1, g.2.2.1, fun i v9 h9 => ?_⟩
      rcases (show i = 0 ∨ i = 1 ∨ i = 2 ∨ i = 3 ∨ i = 4 ∨ 5 ≤ i by omega) with rfl | rfl | rfl | rfl | rfl | h
      · cases h9; exact g.2.2.2 0 _ rfl
      · cases h9; exact g.2.2.2 1 _ rfl
      · cases h9; exact g.2.2.2 2 _ rfl
      · cases h9; exact g.2.2.2 3 _ rfl
      · cases h9
      · rw [List.getElem?_eq_none (by simpa using h)] at h9; cases h9
    obtain ⟨t2, a1, b1⟩ := hW T' rfl X'
    exact ⟨t2, stp.trans a1, b1⟩
set_option maxRecDepth 100000 in
set_option maxHeartbeats 1000000 in
theorem ct_L_look {M : gM} {b : Bool} (hR : M.2.2 = stdR b) {nv : Nat} (hnv : M.1 0 7 = nI nv) (lv : nv ≤ 12) (v x : Int32) : gCw 7 1 6 yL_look cL_look 5 (some .int) [(0, 10, 13, 13)] 140 140 [.ref 0, .int v, .int x, .ref 139] M (gI (fun r M9 => (∃ i w, i < nv ∧ v = nI i ∧ w < 9 ∧ x = nI w ∧ r = 0 ∧ M9 = gwL M 139 0 (fTold M (2 * i + 42) w).toInt64) ∨ (¬ (vIn v nv ∧ 0 ≤ x ∧ x ≤ 8) ∧ r = 1 ∧ M9 = M))) := by
  refine gCw_i rfl (Nat.le_of_ble_eq_true rfl) (fun G hH hG hE => ?_)
  change G (140, 0, 0) 0 [some (.ref 0), some (.int v), some (.int x), some (.ref 139), none] [] M
  refine r_aload_n hG dL_look_0 rfl ?_
  refine r_iconst hG (0) dL_look_1 (by decide) ?_
  refine r_aload_n hG dL_look_2 rfl ?_
  refine r_iload_n hG dL_look_3 rfl ?_
  refine r_iload_n hG dL_look_4 rfl ?_
  by_cases hv : vIn v nv ∧ 0 ≤ x ∧ x ≤ 8
  · obtain ⟨⟨i, hi, rfl⟩, h0, h8⟩ := hv
    obtain ⟨w, hw, rfl⟩ := nI_of (Int32.not_lt.mpr h0)
    have hw9 : w < 9 := by
      have := nle_t (a := w) (b := 8) hw (by omega) h8
      omega
    refine r_cVI2 hG mk_L_7 dL_look_5 rfl (by decide) (ct_X8_look hR hnv lv hi hw9) (by decide) ⟨Nat.zero_le _, Nat.zero_le _⟩ (Nat.le_of_ble_eq_true rfl) (fun x9 M9 h9 => ?_)
    obtain ⟨e8, e9⟩ := h9
    rw [e8, e9]
    refine r_i2l hG dL_look_8 ?_
    refine r_last hG 0 dL_look_9 rfl (by decide) rfl (by decide) (by decide) ?_
    refine r_goto hG 17 dL_look_10 (by decide) ?_
    refine r_iconst hG (0) dL_look_17 (by decide) ?_
    exact hE _ _ _ _ _ dL_look_18 rfl (Nat.zero_le _) (Nat.zero_le _) rfl (Or.inl ⟨i, w, hi, rfl, hw9, rfl, rfl, rfl⟩)
  · refine r_lookx hH (ct_X8_lookx hR hnv lv hv) (by decide) (by decide) ⟨by decide, by decide⟩ ?_
    refine r_iconst hG (1) dL_look_15 (by decide) ?_
    exact hE _ _ _ _ _ dL_look_16 rfl (Nat.le_refl _) (Nat.le_refl _) rfl (Or.inr ⟨hv, rfl, rfl⟩)

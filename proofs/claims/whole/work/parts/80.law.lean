/-! THE CLAIM OUT OF ONE WALK OF THE LAW'S BODY. Your part is whole_start (and what it stands on); all else here is the same for every law, but numbers. -/
def R_law : String := "WaterCartsLaw"
def lw_P (b : Addr) (xs : List Int32) (args : Array Value) (s : State) : Prop := args = #[.ref b] ∧ s.IntsAt b xs ∧ xs.length ≤ 3584 ∧ (Jvm.Cond.and given_1 narrow_1).before args s = true
def lw_Q (_ : Array Value) (s : State) (o : Outcome) (t : State) : Prop := o = .returned (some (.int 1)) ∧ Framed s o t [] 601024 7293034
def lw_Z (below : List Frame) (a : Array Value) (s : State) : State → Prop := fun t => ∃ o, t.status = .running ∧ Ended t below o ∧ lw_Q a s o t
/-- the law's own end, with 1 on the stack, nothing written that was there before, its room as the claim has it -/
theorem lw_ret {p : Program} {l : Launch} {e : Env} {s : State} {m : MethodId} {below : List Frame} {meth : Method} {c : Code} {b : Nat} (hx : p.tables.exec = Jvm.exec) (hb : c.code = code) (hr : meth.sig.returnType = ret) (hlocks : meth.locks = false) {pc : Nat} {H : Heap} {ls : Array Slot} (hdg : decode code pc = .ok (.ireturn, 1)) : W p l e room_1 s m #[Value.ref b] below meth c H [] 601024 7293034 (lw_Z below #[Value.ref b] s) (F0 m pc ls [.int 1]) := by
  intro T hT X
  obtain ⟨fs, hret, hrun, hended, hW, hframe⟩ := X.leave (v := some (.int 1)) (hlocks := hlocks) (fun h => by rw [hr] at h; cases h)
  have hmeth' : T.vm.method? m = some meth := X.method'
  refine ⟨T.setFrames fs, ?_, .returned (some (.int 1)), hrun, hended, rfl, ⟨_, rfl⟩, hW, hframe⟩
  jvm_step X.here [X.here.top, hx, hb, hdg, hmeth', hr, ret, narrow_b1]
  (try refine ⟨rfl, ?_⟩); (try refine ⟨rfl, ?_⟩)
  first | (intro acts; rw [hret _ acts rfl rfl rfl]) | rw [hret _ _ rfl rfl rfl]
  exact Steps.refl _
/-- what holds at the law's entry: the machine, the code, the tables' words (any of lw_tbl by 'hts w (by decide +kernel)'), the script of L ints xs at the cell b, what the Statement gives of the start (any of its parts by flat_of_before) -/
def lw_At (p : Program) (s : State) (m : MethodId) (meth : Method) (c : Code) (b L : Nat) (xs : Nat → Int32) : Prop :=
  p.tables.exec = Jvm.exec ∧ c.code = code ∧ meth.sig.returnType = ret ∧ c.maxLocals = 7 ∧ s.vm.findClass R_law = some m.cls ∧ (∀ w ∈ lw_tbl, w.before #[Value.ref b] s = true) ∧ va_X b L xs s s.heap ∧ b < s.heap.size ∧ meth.locks = false ∧ (Jvm.Cond.and given_1 narrow_1).before #[Value.ref b] s = true
/-! the law's own walk -/
def gSl (b L : Nat) (xs : Nat → Int32) (G : gJ) : Prop := ∃ (p : Program) (l : Launch) (e : Env) (s : State) (m : MethodId) (below : List Frame) (meth : Method) (c : Code) (D : va_G) (dA : Nat → ClassId) (ad0 : Nat → Nat),
  gF p l room_1 s m #[Value.ref b] meth c D dA 0 ad0 60 RL cL_law 7 ∧ l.stackTraces = false ∧ ad0 3000 = b ∧ va_X b L xs s s.heap ∧ b < s.heap.size ∧ meth.sig.returnType = ret ∧ G = gG p l e room_1 s m #[Value.ref b] below meth c D dA 0 ad0 7 (lw_Z below #[Value.ref b] s)
theorem gSl.s {b L : Nat} {xs : Nat → Int32} {G : gJ} (h : gSl b L xs G) : gS 60 601024 7293034 RL cL_law 7 G := by
  obtain ⟨p, l, e, s, m, below, meth, c, D, dA, ad0, h1, -, -, -, -, -, h2⟩ := h
  exact ⟨p, l, e, room_1, s, m, _, below, meth, c, D, dA, 0, ad0, _, h1, rfl, rfl, h2⟩
theorem r_sld {b L : Nat} {xs : Nat → Int32} {G : gJ} (hG : gSl b L xs G) {Z : Nat × Nat × Nat} {pc : Nat} {Lc : List (Option Value)} {st : List Value} {M : gM} {i : Int32} (q : Nat) (hd : decode cL_law pc = .ok (.iaload, 1)) (hi : i = nI q) (hq : q < L) (hL : L ≤ 3584) (k : G Z (pc + 1) Lc (.int (xs q) :: st) M) : G Z pc Lc (.int i :: .ref 3000 :: st) M := by
  obtain ⟨p, l, e, s, m, below, meth, c, D, dA, ad0, ⟨hx, hb, hml, hown, hts, hK, hlk, hfr, hlo, hX⟩, -, hb3, hXs, hbl, -, rfl⟩ := hG
  intro ad H locs ls he hP hD hS hl
  obtain ⟨h1, h2⟩ := gin hi hq (by omega)
  have e3 : ad 3000 = b := (he.2.1 3000 (Or.inr (by omega))).trans hb3
  show W p l e room_1 s m _ below meth c H locs Z.2.1 Z.2.2 _ (F0 m pc ls (.int i :: .ref (ad 3000) :: st.map (gtr ad)))
  rw [e3]
  refine va_sld (A := gA ad0 0 s.heap.size) hx hb hXs hbl (fun z => z.elim (fun ⟨k, hk, _⟩ => absurd hk (Nat.not_lt_zero k)) (fun z => absurd z (Nat.not_le.mpr hbl))) hS h1 hd ?_
  rw [h2]
  exact k ad H locs ls he hP hD hS hl
theorem r_slen {b L : Nat} {xs : Nat → Int32} {G : gJ} (hG : gSl b L xs G) {Z : Nat × Nat × Nat} {pc : Nat} {Lc : List (Option Value)} {st : List Value} {M : gM} (hd : decode cL_law pc = .ok (.arraylength, 1)) (k : G Z (pc + 1) Lc (.int (nI L) :: st) M) : G Z pc Lc (.ref 3000 :: st) M := by
  obtain ⟨p, l, e, s, m, below, meth, c, D, dA, ad0, ⟨hx, hb, hml, hown, hts, hK, hlk, hfr, hlo, hX⟩, -, hb3, hXs, hbl, -, rfl⟩ := hG
  intro ad H locs ls he hP hD hS hl
  have e3 : ad 3000 = b := (he.2.1 3000 (Or.inr (by omega))).trans hb3
  show W p l e room_1 s m _ below meth c H locs Z.2.1 Z.2.2 _ (F0 m pc ls (.ref (ad 3000) :: st.map (gtr ad)))
  rw [e3]
  exact va_slen (A := gA ad0 0 s.heap.size) hx hb hXs hbl (fun z => z.elim (fun ⟨k, hk, _⟩ => absurd hk (Nat.not_lt_zero k)) (fun z => absurd z (Nat.not_le.mpr hbl))) hS hd (k ad H locs ls he hP hD hS hl)
theorem r_lend {b L : Nat} {xs : Nat → Int32} {G : gJ} (hG : gSl b L xs G) {Z : Nat × Nat × Nat} {pc : Nat} {Lc : List (Option Value)} {M : gM} (hd : decode cL_law pc = .ok (.ireturn, 1)) (h1 : Z.2.1 ≤ 601024) (h2 : Z.2.2 ≤ 7293034) : G Z pc Lc [.int 1] M := by
  obtain ⟨p, l, e, s, m, below, meth, c, D, dA, ad0, ⟨hx, hb, hml, hown, hts, hK, hlk, hfr, hlo, hX⟩, -, hb3, hXs, hbl, hr, rfl⟩ := hG
  intro ad H locs ls he hP hD hS hl
  refine va_forget (fun q hq => ?_) ?_
  · rcases hS.2.2 q hq with ⟨k, hk, -⟩ | z
    · omega
    · exact z
  · refine W.widen (k := 601024) (n := 7293034) h1 h2 ?_
    exact lw_ret hx hb hr hlk hd
theorem lkG : GoodIn gT (va_wsS RL 96 yL_look (Cond.codeWith yL_look cL_look 5 (some .int) [(0, 10, 13, 13)] :: gT)) := by
  have hg : ∀ w ∈ gT, w ∈ gT ∧ ((w.onTables && w.keeps) = true ∨ ∃ ty, w = .arrayClass ty) := fun w hw => ⟨hw, good_of_word (List.mem_filter.mp hw).2⟩
  have h1 : Cond.methodLink RL 96 yL_look ∈ gT := gT_at 756 (by decide +kernel) rfl
  have h2 : Cond.static yL_look ∈ gT := gT_at 757 (by decide +kernel) rfl
  have h3 : Cond.initialized RL ∈ gT := gT_at 0 (by decide +kernel) rfl
  have h4 : Cond.codeWith yL_look cL_look 5 (some .int) [(0, 10, 13, 13)] ∈ gT := gT_at 758 (by decide +kernel) rfl
  intro w hw
  rcases List.mem_append.mp hw with hw | hw
  · rcases List.mem_cons.mp hw with e | hw
    · rw [e]; exact hg _ h1
    · rcases List.mem_cons.mp hw with e | hw
      · rw [e]; exact hg _ h2
      · rcases List.mem_cons.mp hw with e | hw
        · rw [e]; exact hg _ h3
        · cases hw
  · rcases List.mem_cons.mp hw with e | hw
    · rw [e]; exact hg _ h4
    · exact hg _ hw
set_option maxHeartbeats 1000000 in
theorem r_cLook {b L : Nat} {xs : Nat → Int32} {G : gJ} (hG : gSl b L xs G) {Z : Nat × Nat × Nat} {pc : Nat} {Lc : List (Option Value)} {M : gM} {v x : Int32} {P : Int32 → gM → Prop} (hd : decode cL_law pc = .ok (.invokestatic 96, 3)) (hC : gCw 7 1 6 yL_look cL_look 5 (some .int) [(0, 10, 13, 13)] Z.1 Z.1 [.ref 0, .int v, .int x, .ref 139] M (gI P)) (hc : Z.2.1 + 1 ≤ 601024 ∧ Z.2.2 + 6 ≤ 7293034)
    (kk : ∀ (r : Int32) (M' : gM), P r M' → G (Z.1, Z.2.1 + 1, Z.2.2 + 6) (pc + 3) Lc [.int r] M') : G Z pc Lc [.ref 139, .int x, .int v, .ref 0] M := by
  obtain ⟨p, l, e, s, m, below, meth, c, D, dA, ad0, ⟨hx, hb, hml, hown, hts, hK, hlk, hfr, hlo, hX⟩, hst, hb3, hXs, hbl, hr, rfl⟩ := hG
  intro ad H locs ls he hP hD hS hl
  have hcw : vx_CSW room_1 s #[Value.ref b] RL 96 yL_look cL_look 5 (some .int) [(0, 10, 13, 13)] (Cond.codeWith yL_look cL_look 5 (some .int) [(0, 10, 13, 13)] :: gT) (gRm 7 1 6) 1 6 4 := vx_cwSW 4 hts lkG rfl rfl rfl (by decide +kernel) ⟨by decide, by decide⟩
  refine g_back (n := Z.1) (n' := Z.1) (mc' := 1) (ms' := 6) (rest := []) (a := ([Value.ref 0, .int v, .int x, .ref 139].map (gtr ad)).toArray) (vx_runSW (As := [Value.ref 0, .int v, .int x, .ref 139].map (gtr ad)) ⟨hx, hb, hml, hown, hts⟩ (hC l hst D dA ad H.size) hcw ⟨gPre_blind, fun U hU hW => ⟨rfl, by rw [hU], by rw [hU]; exact hP, hD.weaken (fun _ _ _ _ => trivial), va_K.moved hW.alike hK, by rw [hU]; exact gX.warm hW (gX_at he hX hD hS)⟩⟩ rfl rfl (hl.2.1) rfl (lv_room (Nat.le_of_ble_eq_true rfl)) hd hc) he hD hS hl (Or.inl rfl) (fun r M' h => ?_)
  obtain ⟨y, rfl, h⟩ := h
  exact kk y M' h
theorem and31 (x : Int32) : ∃ q, q < 32 ∧ x &&& 31 = nI q := by
  have h1 : (x &&& 31).toBitVec.toNat ≤ 31 := by
    rw [Int32.toBitVec_and, BitVec.toNat_and]
    exact Nat.and_le_right
  refine ⟨(x &&& 31).toBitVec.toNat, by omega, ?_⟩
  apply Int32.toBitVec_inj.mp
  show _ = (Int32.ofNat _).toBitVec
  rw [Int32.toBitVec_ofNat', BitVec.ofNat_toNat, BitVec.setWidth_eq]

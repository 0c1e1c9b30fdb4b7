/-! the judgement: G Z pc L st M; Z = (cells of the world, cells made, slots made) -/
def gT : List Cond := lw_tbl.filter goodWord
theorem gT_in {w : Cond} (h : w ∈ lw_tbl) (hg : goodWord w = true) : w ∈ gT := List.mem_filter.mpr ⟨h, hg⟩
def gWs (y : MethodName) (cc : ByteArray) (nL : Nat) (ret : Option FieldType) : List Cond := .code y cc nL ret :: gT
theorem gWs_good {y y' : MethodName} {cc cc' : ByteArray} {nL nL' : Nat} {ret ret' : Option FieldType} (h : Cond.code y' cc' nL' ret' ∈ gT) : GoodIn (gWs y cc nL ret) (gWs y' cc' nL' ret') := by
  intro w hw
  have hm : w ∈ gT := by
    rcases List.mem_cons.mp hw with e | e
    · rw [e]; exact h
    · exact e
  exact ⟨List.mem_cons_of_mem _ hm, good_of_word (List.mem_filter.mp hm).2⟩
theorem gT_good {y' : MethodName} {cc' : ByteArray} {nL' : Nat} {ret' : Option FieldType} (h : Cond.code y' cc' nL' ret' ∈ gT) : GoodIn gT (gWs y' cc' nL' ret') := by
  intro w hw
  have hm : w ∈ gT := by
    rcases List.mem_cons.mp hw with e | e
    · rw [e]; exact h
    · exact e
  exact ⟨hm, good_of_word (List.mem_filter.mp hm).2⟩
def gRm (d mc ms : Nat) : Room := { frames := d, cells := mc, slots := ms, locals := 40 * d }
def gtys (dA : Nat → ClassId) : List (ClassId × FieldType) := [(dA 0, .int), (dA 1, .long), (dA 2, .char), (dA 3, .boolean), (dA 4, .object "WaterCarts$Village"), (dA 5, .object "WaterCarts$Spring"), (dA 6, .object "WaterCarts$Tanker"), (dA 7, .object "WaterCarts$Bore"), (dA 8, .array .int)]
/-- which cells may be written: the world's, and what is new -/
def gA (ad : Nat → Nat) (n sz : Nat) : Nat → Prop := fun q => (∃ k, k < n ∧ q = ad k) ∨ sz ≤ q
/-- the addresses go on: what was there stays -/
def gExt (n0 : Nat) (ad0 : Nat → Nat) (n : Nat) (ad : Nat → Nat) : Prop := n0 ≤ n ∧ (∀ k, k < n0 ∨ 1000 ≤ k → ad k = ad0 k) ∧ (n = n0 → ad = ad0)
theorem gExt.rf {n : Nat} {ad : Nat → Nat} : gExt n ad n ad := ⟨Nat.le_refl _, fun _ _ => rfl, fun _ => rfl⟩
theorem gExt.trans {n0 n n' : Nat} {ad0 ad ad' : Nat → Nat} (h : gExt n0 ad0 n ad) (h' : gExt n ad n' ad') : gExt n0 ad0 n' ad' := by
  refine ⟨Nat.le_trans h.1 h'.1, fun k hk => ?_, fun e => ?_⟩
  · rw [h'.2.1 k (hk.imp (fun q => Nat.lt_of_lt_of_le q h.1) id), h.2.1 k hk]
  · have e1 : n = n0 := Nat.le_antisymm (by rw [← e]; exact h'.1) h.1
    have e2 : n' = n := by omega
    rw [h'.2.2 e2, h.2.2 e1]
/-- what stands outside the world, for good: the String constants -/
def glen : List Nat := [4, 5, 4, 3, 3, 6, 6, 4, 4, 3]
def gbyt : List (List Int32) := [[104, 101, 97, 100], [98, 101, 97, 115, 116], [119, 104, 101, 110], [97, 110, 100], [100, 97, 121], [112, 101, 111, 112, 108, 101], [98, 101, 97, 115, 116, 115], [100, 97, 121, 115], [102, 117, 108, 108], [100, 114, 121]]
def gsx : List (Nat × String) := [(76, "head"), (82, "beast"), (84, "when"), (86, "and"), (88, "day"), (90, "people"), (92, "beasts"), (94, "days"), (96, "full"), (98, "dry")]
/-- words that a warming keeps, the nest's among them -/
def gNl : List Cond := lw_tbl.filter (fun w => w.onTables && w.keepsH)
theorem gNl_in {w : Cond} (h : w ∈ lw_tbl) (hg : (w.onTables && w.keepsH) = true) : w ∈ gNl := List.mem_filter.mpr ⟨h, hg⟩
def gOl : List String := ["WaterCarts$Village", "WaterCarts$Spring", "WaterCarts$Tanker", "WaterCarts$Bore"]
def gOA (U : State) : Prop := (Cond.arrayOver (.array .int)).before #[] U = true
theorem gOA_moved {u U : State} (hvm : u.vm.Alike U.vm) (h : gOA u) : gOA U := by
  unfold gOA at h ⊢
  simp only [Cond.before, Cond.holds, Cond.value, beq_iff_eq] at h ⊢
  rw [hvm.findClass]
  cases hc : u.vm.findClass (FieldType.array .int).toString with
  | none => rw [hc] at h; simp at h
  | some comp =>
    rw [hc] at h
    simp only [Option.bind_some, Option.bind_eq_some_iff, Option.map_eq_some_iff] at h ⊢
    obtain ⟨c, hi, k, hk, hb⟩ := h
    obtain ⟨k', hk', he⟩ := hvm.2.2 _ _ hk
    refine ⟨c, ?_, k', hk', ?_⟩
    · have h1 := va_idx_bare U.vm comp
      have h2 := va_idx_bare u.vm comp
      have e := hvm.bare_eq
      first
        | (rw [e] at h1; exact h1.symm.trans (h2.trans hi))
        | (rw [← e] at h1; exact h1.symm.trans (h2.trans hi))
    · rw [he]
      cases hkind : k.kind with
      | array a ty => rw [hkind] at hb; simpa [hvm.findClass] using hb
      | _ => rw [hkind] at hb; simp at hb
/-- statics that stand still: String's, and those of Throwable and Preconditions -/
def gFm : String := "Ljava/util/function/BiFunction;"
def gPc : String := "jdk/internal/util/Preconditions"
def xNs : String := "java/util/NoSuchElementException"
def xAt : List Cond := vx_at0 RX8 215 xNs ["java/lang/RuntimeException", "java/lang/Exception"]
/-- those of the throw's words that a warming keeps by the classes alone -/
def gXl : List Cond := xAt.filter (fun w => !goodWord w)
def gXf : Cond → Bool
  | .declares _ => true
  | .castable _ _ => true
  | _ => false
theorem gXl_f : ∀ w ∈ gXl, gXf w = true := by decide +kernel
def gXw (U : State) : Prop := ∀ w ∈ gXl, va_Nw w U
theorem gXw.moved {u U : State} (hvm : u.vm.Alike U.vm) (h : gXw u) : gXw U := fun w hw => by
  have hf := gXl_f w hw
  have h1 := h w hw
  cases w with
  | declares x => exact va_tabs rfl (rfl : (u.setVm U.vm).vm = U.vm) (by rw [Cond.declares_setVm hvm]; exact h1)
  | castable a b => exact va_tabs rfl (rfl : (u.setVm U.vm).vm = U.vm) (by rw [Cond.castable_setVm hvm]; exact h1)
  | _ => simp [gXf] at hf
def gZs (q : Nat) (A : Nat → Prop) (U : State) (H : Heap) : Prop := va_Z "java/lang/String" "COMPACT_STRINGS" "Z" (.int 1) A U H ∧ (va_Z gPc "SIOOBE_FORMATTER" gFm .null A U H ∨ va_Z gPc "SIOOBE_FORMATTER" gFm (.ref q) A U H) ∧ vx_Zq Bundle.tN "UNASSIGNED_STACK" Bundle.steD A U H ∧ vx_Zq Bundle.tN "SUPPRESSED_SENTINEL" Bundle.listD A U H ∧ gXw U
theorem gZs.moved {q : Nat} {A : Nat → Prop} {u U : State} {H : Heap} (hvm : u.vm.Alike U.vm) (h : gZs q A u H) : gZs q A U H := ⟨va_Z.moved hvm h.1, h.2.1.elim (fun h => Or.inl (va_Z.moved hvm h)) (fun h => Or.inr (va_Z.moved hvm h)), vx_Zq.moved hvm h.2.2.1, vx_Zq.moved hvm h.2.2.2.1, h.2.2.2.2.moved hvm⟩
theorem gZs.kept {q : Nat} {A : Nat → Prop} {U : State} {H H1 : Heap} (h : gZs q A U H) (hq : ∀ a : Nat, a < H.size → ¬ A a → H1[a]? = H[a]?) : gZs q A U H1 := ⟨h.1.kept hq, h.2.1.elim (fun h => Or.inl (h.kept hq)) (fun h => Or.inr (h.kept hq)), h.2.2.1.kept hq, h.2.2.2.1.kept hq, h.2.2.2.2⟩
theorem gZs.narrow {q : Nat} {A B : Nat → Prop} {U : State} {H : Heap} (h : gZs q A U H) (hAB : ∀ q, B q → A q) : gZs q B U H := ⟨h.1.narrow hAB, h.2.1.elim (fun h => Or.inl (h.narrow hAB)) (fun h => Or.inr (h.narrow hAB)), h.2.2.1.narrow hAB, h.2.2.2.1.narrow hAB, h.2.2.2.2⟩
def gX (ad : Nat → Nat) (A : Nat → Prop) (U : State) (H : Heap) : Prop :=
  vk_S 10 glen gbyt (fun i => ad (1000 + i)) (fun i => ad (2000 + i)) A U H ∧ (∀ i, i < 10 → vk_R "WaterCarts$Tape" (gsx.getD i (0, "")).1 (gsx.getD i (0, "")).2 (ad (1000 + i)) U) ∧ gZs (ad 4000) A U H ∧ (∀ w ∈ gNl, w.before #[] U = true) ∧ (∀ C ∈ gOl, va_AO C U) ∧ gOA U
theorem gX.warm {ad : Nat → Nat} {A : Nat → Prop} {s U : State} {H : Heap} (hW : s.WarmedH U.vm) (h : gX ad A s H) : gX ad A U H :=
  ⟨h.1.moved hW.alike, fun i hi => (h.2.1 i hi).warm hW, h.2.2.1.moved hW.alike, fun w hw => by
    have hm := (List.mem_filter.mp hw).2
    simp only [Bool.and_eq_true] at hm
    have h1 := Cond.onTables_warmH (T := U) (args' := #[]) hW hm.1 hm.2 (h.2.2.2.1 w hw)
    rwa [State.setVm_self] at h1, fun C hC => (h.2.2.2.2.1 C hC).moved hW.alike, gOA_moved hW.alike h.2.2.2.2.2⟩
theorem gX.kept {ad : Nat → Nat} {A : Nat → Prop} {U : State} {H H1 : Heap} (h : gX ad A U H) (hq : ∀ a : Nat, a < H.size → ¬ A a → H1[a]? = H[a]?) : gX ad A U H1 := ⟨h.1.kept hq, h.2.1, h.2.2.1.kept hq, h.2.2.2⟩
theorem gX.narrow {ad : Nat → Nat} {A B : Nat → Prop} {U : State} {H : Heap} (h : gX ad A U H) (hAB : ∀ q, B q → A q) : gX ad B U H := ⟨h.1.narrow hAB, h.2.1, h.2.2.1.narrow hAB, h.2.2.2⟩
theorem gX.calling {ad : Nat → Nat} {A : Nat → Prop} {U : State} {H : Heap} {g : JFrame} {mk : MethodId} {a : Array Value} (h : gX ad A U H) : gX ad A (U.calling g mk a) H :=
  ⟨vk_S.moved (u := U) (U := U.calling g mk a) (Vm.Alike.refl U.vm) h.1, fun i hi => vk_R.same (u := U) rfl (h.2.1 i hi), gZs.moved (u := U) (U := U.calling g mk a) (Vm.Alike.refl U.vm) h.2.2.1, fun w hw => by
    have hm := (List.mem_filter.mp hw).2
    simp only [Bool.and_eq_true] at hm
    exact va_tabs hm.1 (u := U) rfl (h.2.2.2.1 w hw), fun C hC => va_AO.moved (u := U) (U := U.calling g mk a) (Vm.Alike.refl U.vm) (h.2.2.2.2.1 C hC), gOA_moved (u := U) (U := U.calling g mk a) (Vm.Alike.refl U.vm) h.2.2.2.2.2⟩
theorem gX.adr {ad ad' : Nat → Nat} {A : Nat → Prop} {U : State} {H : Heap} (h : gX ad A U H) (e : ∀ k, 1000 ≤ k → ad' k = ad k) : gX ad' A U H := by
  have e1 : (fun i => ad' (1000 + i)) = (fun i => ad (1000 + i)) := funext fun i => e _ (by omega)
  have e2 : (fun i => ad' (2000 + i)) = (fun i => ad (2000 + i)) := funext fun i => e _ (by omega)
  refine ⟨by rw [e1, e2]; exact h.1, fun i hi => ?_, by rw [e 4000 (by omega)]; exact h.2.2.1, h.2.2.2⟩
  rw [e _ (by omega)]
  exact h.2.1 i hi
/-- the fixed facts of a walk -/
def gF (p : Program) (l : Launch) (R : Room) (s : State) (m : MethodId) (args : Array Value) (meth : Method) (c : Code) (D : va_G) (dA : Nat → ClassId) (n0 : Nat) (ad0 : Nat → Nat) (d : Nat) (own : String) (cc : ByteArray) (nL : Nat) : Prop :=
  p.tables.exec = Jvm.exec ∧ c.code = cc ∧ c.maxLocals = nL ∧ s.vm.findClass own = some m.cls ∧ (∀ w ∈ gT, w.before args s = true) ∧ va_K D vwCl (gtys dA) s ∧ meth.locks = false ∧ d ≤ R.frames ∧ 40 * d ≤ R.locals ∧ gX ad0 (gA ad0 n0 s.heap.size) s s.heap
def gG (p : Program) (l : Launch) (e : Env) (R : Room) (s : State) (m : MethodId) (args : Array Value) (below : List Frame) (meth : Method) (c : Code) (D : va_G) (dA : Nat → ClassId) (n0 : Nat) (ad0 : Nat → Nat) (nL : Nat) (Q : State → Prop) (Z : Nat × Nat × Nat) (pc : Nat) (L : List (Option Value)) (st : List Value) (M : gM) : Prop :=
  ∀ (ad : Nat → Nat) (H : Heap) (locs : List Loc) (ls : Array Slot), gExt n0 ad0 Z.1 ad → va_P D vwCl (gw dA ad Z.1 M) H → va_D (gA ad0 n0 s.heap.size) (gw dA ad Z.1 M) → va_S (gA ad0 n0 s.heap.size) s.heap H locs → gl ad nL L ls →
    W p l e R s m args below meth c H locs Z.2.1 Z.2.2 Q (F0 m pc ls (st.map (gtr ad)))
abbrev gJ : Type := Nat × Nat × Nat → Nat → List (Option Value) → List Value → gM → Prop
/-- G is the judgement of some walk of this code; mc, ms: the room that is left for cells and slots; d: frames -/
def gS (d mc ms : Nat) (own : String) (cc : ByteArray) (nL : Nat) (G : gJ) : Prop :=
  ∃ (p : Program) (l : Launch) (e : Env) (R : Room) (s : State) (m : MethodId) (args : Array Value) (below : List Frame) (meth : Method) (c : Code) (D : va_G) (dA : Nat → ClassId) (n0 : Nat) (ad0 : Nat → Nat) (Q : State → Prop),
    gF p l R s m args meth c D dA n0 ad0 d own cc nL ∧ R.cells = mc ∧ R.slots = ms ∧ G = gG p l e R s m args below meth c D dA n0 ad0 nL Q
theorem r_iconst {d mc ms : Nat} {own : String} {cc : ByteArray} {nL : Nat} {G : gJ} (hG : gS d mc ms own cc nL G) {Z : Nat × Nat × Nat} {pc : Nat} {L : List (Option Value)} {st : List Value} {M : gM} {n : Int} (v : Int32) (hd : decode cc pc = .ok (.iconst n, 1)) (hv : Int32.ofInt n = v) (k : G Z (pc + 1) L (.int v :: st) M) : G Z pc L (st) M := by
  obtain ⟨p, l, e, R, s, m, args, below, meth, c, D, dA, n0, ad0, Q, ⟨hx, hb, hml, hown, hts, hK, hlk, hfr, hlo, hX⟩, hmc, hms, rfl⟩ := hG
  intro ad H locs ls he hP hD hS hl
  exact lv_iconst hx hb hd hv (k ad H locs ls he hP hD hS hl)
theorem r_bipush {d mc ms : Nat} {own : String} {cc : ByteArray} {nL : Nat} {G : gJ} (hG : gS d mc ms own cc nL G) {Z : Nat × Nat × Nat} {pc : Nat} {L : List (Option Value)} {st : List Value} {M : gM} {n : Int} (v : Int32) (hd : decode cc pc = .ok (.bipush n, 2)) (hv : (Int8.ofInt n).toInt32 = v) (k : G Z (pc + 2) L (.int v :: st) M) : G Z pc L (st) M := by
  obtain ⟨p, l, e, R, s, m, args, below, meth, c, D, dA, n0, ad0, Q, ⟨hx, hb, hml, hown, hts, hK, hlk, hfr, hlo, hX⟩, hmc, hms, rfl⟩ := hG
  intro ad H locs ls he hP hD hS hl
  exact lv_bipush hx hb hd hv (k ad H locs ls he hP hD hS hl)
theorem r_sipush {d mc ms : Nat} {own : String} {cc : ByteArray} {nL : Nat} {G : gJ} (hG : gS d mc ms own cc nL G) {Z : Nat × Nat × Nat} {pc : Nat} {L : List (Option Value)} {st : List Value} {M : gM} {n : Int} (v : Int32) (hd : decode cc pc = .ok (.sipush n, 3)) (hv : (Int16.ofInt n).toInt32 = v) (k : G Z (pc + 3) L (.int v :: st) M) : G Z pc L (st) M := by
  obtain ⟨p, l, e, R, s, m, args, below, meth, c, D, dA, n0, ad0, Q, ⟨hx, hb, hml, hown, hts, hK, hlk, hfr, hlo, hX⟩, hmc, hms, rfl⟩ := hG
  intro ad H locs ls he hP hD hS hl
  exact lv_sipush hx hb hd hv (k ad H locs ls he hP hD hS hl)
theorem r_lconst {d mc ms : Nat} {own : String} {cc : ByteArray} {nL : Nat} {G : gJ} (hG : gS d mc ms own cc nL G) {Z : Nat × Nat × Nat} {pc : Nat} {L : List (Option Value)} {st : List Value} {M : gM} {n : Fin 2} (v : Int64) (hd : decode cc pc = .ok (.lconst n, 1)) (hv : Int64.ofNat (n : Nat) = v) (k : G Z (pc + 1) L (.long v :: st) M) : G Z pc L (st) M := by
  obtain ⟨p, l, e, R, s, m, args, below, meth, c, D, dA, n0, ad0, Q, ⟨hx, hb, hml, hown, hts, hK, hlk, hfr, hlo, hX⟩, hmc, hms, rfl⟩ := hG
  intro ad H locs ls he hP hD hS hl
  exact lv_lconst hx hb hd hv (k ad H locs ls he hP hD hS hl)
theorem r_iload_n {d mc ms : Nat} {own : String} {cc : ByteArray} {nL : Nat} {G : gJ} (hG : gS d mc ms own cc nL G) {Z : Nat × Nat × Nat} {pc : Nat} {L : List (Option Value)} {st : List Value} {M : gM} {i : Fin 4} {x : Int32} (hd : decode cc pc = .ok (.iload_n i, 1)) (hi : L[(i : Nat)]? = some (some (.int x))) (k : G Z (pc + 1) L (.int x :: st) M) : G Z pc L (st) M := by
  obtain ⟨p, l, e, R, s, m, args, below, meth, c, D, dA, n0, ad0, Q, ⟨hx, hb, hml, hown, hts, hK, hlk, hfr, hlo, hX⟩, hmc, hms, rfl⟩ := hG
  intro ad H locs ls he hP hD hS hl
  exact lv_iload_n hx hb hd rfl (gl_at hl hi) (k ad H locs ls he hP hD hS hl)
theorem r_iload {d mc ms : Nat} {own : String} {cc : ByteArray} {nL : Nat} {G : gJ} (hG : gS d mc ms own cc nL G) {Z : Nat × Nat × Nat} {pc : Nat} {L : List (Option Value)} {st : List Value} {M : gM} {i : Nat} {x : Int32} (hd : decode cc pc = .ok (.iload i, 2)) (hi : L[i]? = some (some (.int x))) (k : G Z (pc + 2) L (.int x :: st) M) : G Z pc L (st) M := by
  obtain ⟨p, l, e, R, s, m, args, below, meth, c, D, dA, n0, ad0, Q, ⟨hx, hb, hml, hown, hts, hK, hlk, hfr, hlo, hX⟩, hmc, hms, rfl⟩ := hG
  intro ad H locs ls he hP hD hS hl
  exact lv_iload hx hb hd (gl_at hl hi) (k ad H locs ls he hP hD hS hl)
theorem r_lload_n {d mc ms : Nat} {own : String} {cc : ByteArray} {nL : Nat} {G : gJ} (hG : gS d mc ms own cc nL G) {Z : Nat × Nat × Nat} {pc : Nat} {L : List (Option Value)} {st : List Value} {M : gM} {i : Fin 4} {x : Int64} (hd : decode cc pc = .ok (.lload_n i, 1)) (hi : L[(i : Nat)]? = some (some (.long x))) (k : G Z (pc + 1) L (.long x :: st) M) : G Z pc L (st) M := by
  obtain ⟨p, l, e, R, s, m, args, below, meth, c, D, dA, n0, ad0, Q, ⟨hx, hb, hml, hown, hts, hK, hlk, hfr, hlo, hX⟩, hmc, hms, rfl⟩ := hG
  intro ad H locs ls he hP hD hS hl
  exact lv_lload_n hx hb hd rfl (gl_at hl hi) (k ad H locs ls he hP hD hS hl)
theorem r_lload {d mc ms : Nat} {own : String} {cc : ByteArray} {nL : Nat} {G : gJ} (hG : gS d mc ms own cc nL G) {Z : Nat × Nat × Nat} {pc : Nat} {L : List (Option Value)} {st : List Value} {M : gM} {i : Nat} {x : Int64} (hd : decode cc pc = .ok (.lload i, 2)) (hi : L[i]? = some (some (.long x))) (k : G Z (pc + 2) L (.long x :: st) M) : G Z pc L (st) M := by
  obtain ⟨p, l, e, R, s, m, args, below, meth, c, D, dA, n0, ad0, Q, ⟨hx, hb, hml, hown, hts, hK, hlk, hfr, hlo, hX⟩, hmc, hms, rfl⟩ := hG
  intro ad H locs ls he hP hD hS hl
  exact lv_lload hx hb hd (gl_at hl hi) (k ad H locs ls he hP hD hS hl)
theorem r_aload_n {d mc ms : Nat} {own : String} {cc : ByteArray} {nL : Nat} {G : gJ} (hG : gS d mc ms own cc nL G) {Z : Nat × Nat × Nat} {pc : Nat} {L : List (Option Value)} {st : List Value} {M : gM} {i : Fin 4} {x : Nat} (hd : decode cc pc = .ok (.aload_n i, 1)) (hi : L[(i : Nat)]? = some (some (.ref x))) (k : G Z (pc + 1) L (.ref x :: st) M) : G Z pc L (st) M := by
  obtain ⟨p, l, e, R, s, m, args, below, meth, c, D, dA, n0, ad0, Q, ⟨hx, hb, hml, hown, hts, hK, hlk, hfr, hlo, hX⟩, hmc, hms, rfl⟩ := hG
  intro ad H locs ls he hP hD hS hl
  exact lv_aload_n hx hb hd rfl (gl_at hl hi) (k ad H locs ls he hP hD hS hl)
theorem r_aload {d mc ms : Nat} {own : String} {cc : ByteArray} {nL : Nat} {G : gJ} (hG : gS d mc ms own cc nL G) {Z : Nat × Nat × Nat} {pc : Nat} {L : List (Option Value)} {st : List Value} {M : gM} {i : Nat} {x : Nat} (hd : decode cc pc = .ok (.aload i, 2)) (hi : L[i]? = some (some (.ref x))) (k : G Z (pc + 2) L (.ref x :: st) M) : G Z pc L (st) M := by
  obtain ⟨p, l, e, R, s, m, args, below, meth, c, D, dA, n0, ad0, Q, ⟨hx, hb, hml, hown, hts, hK, hlk, hfr, hlo, hX⟩, hmc, hms, rfl⟩ := hG
  intro ad H locs ls he hP hD hS hl
  exact lv_aload hx hb hd (gl_at hl hi) (k ad H locs ls he hP hD hS hl)
theorem r_iadd {d mc ms : Nat} {own : String} {cc : ByteArray} {nL : Nat} {G : gJ} (hG : gS d mc ms own cc nL G) {Z : Nat × Nat × Nat} {pc : Nat} {L : List (Option Value)} {st : List Value} {M : gM} {x y : Int32} (hd : decode cc pc = .ok (.iadd, 1))  (k : G Z (pc + 1) L (.int (x + y) :: st) M) : G Z pc L (.int y :: .int x :: st) M := by
  obtain ⟨p, l, e, R, s, m, args, below, meth, c, D, dA, n0, ad0, Q, ⟨hx, hb, hml, hown, hts, hK, hlk, hfr, hlo, hX⟩, hmc, hms, rfl⟩ := hG
  intro ad H locs ls he hP hD hS hl
  exact lv_iadd hx hb hd (k ad H locs ls he hP hD hS hl)
theorem r_isub {d mc ms : Nat} {own : String} {cc : ByteArray} {nL : Nat} {G : gJ} (hG : gS d mc ms own cc nL G) {Z : Nat × Nat × Nat} {pc : Nat} {L : List (Option Value)} {st : List Value} {M : gM} {x y : Int32} (hd : decode cc pc = .ok (.isub, 1))  (k : G Z (pc + 1) L (.int (x - y) :: st) M) : G Z pc L (.int y :: .int x :: st) M := by
  obtain ⟨p, l, e, R, s, m, args, below, meth, c, D, dA, n0, ad0, Q, ⟨hx, hb, hml, hown, hts, hK, hlk, hfr, hlo, hX⟩, hmc, hms, rfl⟩ := hG
  intro ad H locs ls he hP hD hS hl
  exact lv_isub hx hb hd (k ad H locs ls he hP hD hS hl)
theorem r_imul {d mc ms : Nat} {own : String} {cc : ByteArray} {nL : Nat} {G : gJ} (hG : gS d mc ms own cc nL G) {Z : Nat × Nat × Nat} {pc : Nat} {L : List (Option Value)} {st : List Value} {M : gM} {x y : Int32} (hd : decode cc pc = .ok (.imul, 1))  (k : G Z (pc + 1) L (.int (x * y) :: st) M) : G Z pc L (.int y :: .int x :: st) M := by
  obtain ⟨p, l, e, R, s, m, args, below, meth, c, D, dA, n0, ad0, Q, ⟨hx, hb, hml, hown, hts, hK, hlk, hfr, hlo, hX⟩, hmc, hms, rfl⟩ := hG
  intro ad H locs ls he hP hD hS hl
  exact lv_imul hx hb hd (k ad H locs ls he hP hD hS hl)
theorem r_iand {d mc ms : Nat} {own : String} {cc : ByteArray} {nL : Nat} {G : gJ} (hG : gS d mc ms own cc nL G) {Z : Nat × Nat × Nat} {pc : Nat} {L : List (Option Value)} {st : List Value} {M : gM} {x y : Int32} (hd : decode cc pc = .ok (.iand, 1))  (k : G Z (pc + 1) L (.int (x &&& y) :: st) M) : G Z pc L (.int y :: .int x :: st) M := by
  obtain ⟨p, l, e, R, s, m, args, below, meth, c, D, dA, n0, ad0, Q, ⟨hx, hb, hml, hown, hts, hK, hlk, hfr, hlo, hX⟩, hmc, hms, rfl⟩ := hG
  intro ad H locs ls he hP hD hS hl
  exact lv_iand hx hb hd (k ad H locs ls he hP hD hS hl)
theorem r_ior {d mc ms : Nat} {own : String} {cc : ByteArray} {nL : Nat} {G : gJ} (hG : gS d mc ms own cc nL G) {Z : Nat × Nat × Nat} {pc : Nat} {L : List (Option Value)} {st : List Value} {M : gM} {x y : Int32} (hd : decode cc pc = .ok (.ior, 1))  (k : G Z (pc + 1) L (.int (x ||| y) :: st) M) : G Z pc L (.int y :: .int x :: st) M := by
  obtain ⟨p, l, e, R, s, m, args, below, meth, c, D, dA, n0, ad0, Q, ⟨hx, hb, hml, hown, hts, hK, hlk, hfr, hlo, hX⟩, hmc, hms, rfl⟩ := hG
  intro ad H locs ls he hP hD hS hl
  exact lv_ior hx hb hd (k ad H locs ls he hP hD hS hl)
theorem r_ixor {d mc ms : Nat} {own : String} {cc : ByteArray} {nL : Nat} {G : gJ} (hG : gS d mc ms own cc nL G) {Z : Nat × Nat × Nat} {pc : Nat} {L : List (Option Value)} {st : List Value} {M : gM} {x y : Int32} (hd : decode cc pc = .ok (.ixor, 1))  (k : G Z (pc + 1) L (.int (x ^^^ y) :: st) M) : G Z pc L (.int y :: .int x :: st) M := by
  obtain ⟨p, l, e, R, s, m, args, below, meth, c, D, dA, n0, ad0, Q, ⟨hx, hb, hml, hown, hts, hK, hlk, hfr, hlo, hX⟩, hmc, hms, rfl⟩ := hG
  intro ad H locs ls he hP hD hS hl
  exact lv_ixor hx hb hd (k ad H locs ls he hP hD hS hl)
theorem r_ishl {d mc ms : Nat} {own : String} {cc : ByteArray} {nL : Nat} {G : gJ} (hG : gS d mc ms own cc nL G) {Z : Nat × Nat × Nat} {pc : Nat} {L : List (Option Value)} {st : List Value} {M : gM} {x y : Int32} (hd : decode cc pc = .ok (.ishl, 1))  (k : G Z (pc + 1) L (.int (x <<< (y &&& 31)) :: st) M) : G Z pc L (.int y :: .int x :: st) M := by
  obtain ⟨p, l, e, R, s, m, args, below, meth, c, D, dA, n0, ad0, Q, ⟨hx, hb, hml, hown, hts, hK, hlk, hfr, hlo, hX⟩, hmc, hms, rfl⟩ := hG
  intro ad H locs ls he hP hD hS hl
  exact lv_ishl hx hb hd (k ad H locs ls he hP hD hS hl)
theorem r_ishr {d mc ms : Nat} {own : String} {cc : ByteArray} {nL : Nat} {G : gJ} (hG : gS d mc ms own cc nL G) {Z : Nat × Nat × Nat} {pc : Nat} {L : List (Option Value)} {st : List Value} {M : gM} {x y : Int32} (hd : decode cc pc = .ok (.ishr, 1))  (k : G Z (pc + 1) L (.int (x >>> (y &&& 31)) :: st) M) : G Z pc L (.int y :: .int x :: st) M := by
  obtain ⟨p, l, e, R, s, m, args, below, meth, c, D, dA, n0, ad0, Q, ⟨hx, hb, hml, hown, hts, hK, hlk, hfr, hlo, hX⟩, hmc, hms, rfl⟩ := hG
  intro ad H locs ls he hP hD hS hl
  exact lv_ishr hx hb hd (k ad H locs ls he hP hD hS hl)
theorem r_idiv {d mc ms : Nat} {own : String} {cc : ByteArray} {nL : Nat} {G : gJ} (hG : gS d mc ms own cc nL G) {Z : Nat × Nat × Nat} {pc : Nat} {L : List (Option Value)} {st : List Value} {M : gM} {x y : Int32} (hd : decode cc pc = .ok (.idiv, 1)) (hne : ¬ y = 0) (k : G Z (pc + 1) L (.int (x / y) :: st) M) : G Z pc L (.int y :: .int x :: st) M := by
  obtain ⟨p, l, e, R, s, m, args, below, meth, c, D, dA, n0, ad0, Q, ⟨hx, hb, hml, hown, hts, hK, hlk, hfr, hlo, hX⟩, hmc, hms, rfl⟩ := hG
  intro ad H locs ls he hP hD hS hl
  exact lv_idiv hx hb hd hne (k ad H locs ls he hP hD hS hl)
theorem r_irem {d mc ms : Nat} {own : String} {cc : ByteArray} {nL : Nat} {G : gJ} (hG : gS d mc ms own cc nL G) {Z : Nat × Nat × Nat} {pc : Nat} {L : List (Option Value)} {st : List Value} {M : gM} {x y : Int32} (hd : decode cc pc = .ok (.irem, 1)) (hne : ¬ y = 0) (k : G Z (pc + 1) L (.int (x - x / y * y) :: st) M) : G Z pc L (.int y :: .int x :: st) M := by
  obtain ⟨p, l, e, R, s, m, args, below, meth, c, D, dA, n0, ad0, Q, ⟨hx, hb, hml, hown, hts, hK, hlk, hfr, hlo, hX⟩, hmc, hms, rfl⟩ := hG
  intro ad H locs ls he hP hD hS hl
  exact lv_irem hx hb hd hne (k ad H locs ls he hP hD hS hl)
theorem r_ladd {d mc ms : Nat} {own : String} {cc : ByteArray} {nL : Nat} {G : gJ} (hG : gS d mc ms own cc nL G) {Z : Nat × Nat × Nat} {pc : Nat} {L : List (Option Value)} {st : List Value} {M : gM} {x y : Int64} (hd : decode cc pc = .ok (.ladd, 1))  (k : G Z (pc + 1) L (.long (x + y) :: st) M) : G Z pc L (.long y :: .long x :: st) M := by
  obtain ⟨p, l, e, R, s, m, args, below, meth, c, D, dA, n0, ad0, Q, ⟨hx, hb, hml, hown, hts, hK, hlk, hfr, hlo, hX⟩, hmc, hms, rfl⟩ := hG
  intro ad H locs ls he hP hD hS hl
  exact lv_ladd hx hb hd (k ad H locs ls he hP hD hS hl)
theorem r_lsub {d mc ms : Nat} {own : String} {cc : ByteArray} {nL : Nat} {G : gJ} (hG : gS d mc ms own cc nL G) {Z : Nat × Nat × Nat} {pc : Nat} {L : List (Option Value)} {st : List Value} {M : gM} {x y : Int64} (hd : decode cc pc = .ok (.lsub, 1))  (k : G Z (pc + 1) L (.long (x - y) :: st) M) : G Z pc L (.long y :: .long x :: st) M := by
  obtain ⟨p, l, e, R, s, m, args, below, meth, c, D, dA, n0, ad0, Q, ⟨hx, hb, hml, hown, hts, hK, hlk, hfr, hlo, hX⟩, hmc, hms, rfl⟩ := hG
  intro ad H locs ls he hP hD hS hl
  exact lv_lsub hx hb hd (k ad H locs ls he hP hD hS hl)
theorem r_lmul {d mc ms : Nat} {own : String} {cc : ByteArray} {nL : Nat} {G : gJ} (hG : gS d mc ms own cc nL G) {Z : Nat × Nat × Nat} {pc : Nat} {L : List (Option Value)} {st : List Value} {M : gM} {x y : Int64} (hd : decode cc pc = .ok (.lmul, 1))  (k : G Z (pc + 1) L (.long (x * y) :: st) M) : G Z pc L (.long y :: .long x :: st) M := by
  obtain ⟨p, l, e, R, s, m, args, below, meth, c, D, dA, n0, ad0, Q, ⟨hx, hb, hml, hown, hts, hK, hlk, hfr, hlo, hX⟩, hmc, hms, rfl⟩ := hG
  intro ad H locs ls he hP hD hS hl
  exact lv_lmul hx hb hd (k ad H locs ls he hP hD hS hl)
theorem r_land {d mc ms : Nat} {own : String} {cc : ByteArray} {nL : Nat} {G : gJ} (hG : gS d mc ms own cc nL G) {Z : Nat × Nat × Nat} {pc : Nat} {L : List (Option Value)} {st : List Value} {M : gM} {x y : Int64} (hd : decode cc pc = .ok (.land, 1))  (k : G Z (pc + 1) L (.long (x &&& y) :: st) M) : G Z pc L (.long y :: .long x :: st) M := by
  obtain ⟨p, l, e, R, s, m, args, below, meth, c, D, dA, n0, ad0, Q, ⟨hx, hb, hml, hown, hts, hK, hlk, hfr, hlo, hX⟩, hmc, hms, rfl⟩ := hG
  intro ad H locs ls he hP hD hS hl
  exact lv_land hx hb hd (k ad H locs ls he hP hD hS hl)
theorem r_lor {d mc ms : Nat} {own : String} {cc : ByteArray} {nL : Nat} {G : gJ} (hG : gS d mc ms own cc nL G) {Z : Nat × Nat × Nat} {pc : Nat} {L : List (Option Value)} {st : List Value} {M : gM} {x y : Int64} (hd : decode cc pc = .ok (.lor, 1))  (k : G Z (pc + 1) L (.long (x ||| y) :: st) M) : G Z pc L (.long y :: .long x :: st) M := by
  obtain ⟨p, l, e, R, s, m, args, below, meth, c, D, dA, n0, ad0, Q, ⟨hx, hb, hml, hown, hts, hK, hlk, hfr, hlo, hX⟩, hmc, hms, rfl⟩ := hG
  intro ad H locs ls he hP hD hS hl
  exact lv_lor hx hb hd (k ad H locs ls he hP hD hS hl)
theorem r_ldiv {d mc ms : Nat} {own : String} {cc : ByteArray} {nL : Nat} {G : gJ} (hG : gS d mc ms own cc nL G) {Z : Nat × Nat × Nat} {pc : Nat} {L : List (Option Value)} {st : List Value} {M : gM} {x y : Int64} (hd : decode cc pc = .ok (.ldiv, 1)) (hne : ¬ y = 0) (k : G Z (pc + 1) L (.long (x / y) :: st) M) : G Z pc L (.long y :: .long x :: st) M := by
  obtain ⟨p, l, e, R, s, m, args, below, meth, c, D, dA, n0, ad0, Q, ⟨hx, hb, hml, hown, hts, hK, hlk, hfr, hlo, hX⟩, hmc, hms, rfl⟩ := hG
  intro ad H locs ls he hP hD hS hl
  exact lv_ldiv hx hb hd hne (k ad H locs ls he hP hD hS hl)
theorem r_lcmp {d mc ms : Nat} {own : String} {cc : ByteArray} {nL : Nat} {G : gJ} (hG : gS d mc ms own cc nL G) {Z : Nat × Nat × Nat} {pc : Nat} {L : List (Option Value)} {st : List Value} {M : gM} {x y : Int64} (hd : decode cc pc = .ok (.lcmp, 1))  (k : G Z (pc + 1) L (.int (lg_cmp x y) :: st) M) : G Z pc L (.long y :: .long x :: st) M := by
  obtain ⟨p, l, e, R, s, m, args, below, meth, c, D, dA, n0, ad0, Q, ⟨hx, hb, hml, hown, hts, hK, hlk, hfr, hlo, hX⟩, hmc, hms, rfl⟩ := hG
  intro ad H locs ls he hP hD hS hl
  exact W.lcmp hx hb hd (k ad H locs ls he hP hD hS hl)
theorem r_lushr {d mc ms : Nat} {own : String} {cc : ByteArray} {nL : Nat} {G : gJ} (hG : gS d mc ms own cc nL G) {Z : Nat × Nat × Nat} {pc : Nat} {L : List (Option Value)} {st : List Value} {M : gM} {x : Int64} {y : Int32} (hd : decode cc pc = .ok (.lushr, 1))  (k : G Z (pc + 1) L (.long ((x.toUInt64 >>> (y.toInt64.toUInt64 &&& Int64.toUInt64 63)).toInt64) :: st) M) : G Z pc L (.int y :: .long x :: st) M := by
  obtain ⟨p, l, e, R, s, m, args, below, meth, c, D, dA, n0, ad0, Q, ⟨hx, hb, hml, hown, hts, hK, hlk, hfr, hlo, hX⟩, hmc, hms, rfl⟩ := hG
  intro ad H locs ls he hP hD hS hl
  exact lv_lushr hx hb hd rfl (k ad H locs ls he hP hD hS hl)
theorem r_lshl {d mc ms : Nat} {own : String} {cc : ByteArray} {nL : Nat} {G : gJ} (hG : gS d mc ms own cc nL G) {Z : Nat × Nat × Nat} {pc : Nat} {L : List (Option Value)} {st : List Value} {M : gM} {x : Int64} {y : Int32} (hd : decode cc pc = .ok (.lshl, 1))  (k : G Z (pc + 1) L (.long (x <<< (y.toInt64 &&& 63)) :: st) M) : G Z pc L (.int y :: .long x :: st) M := by
  obtain ⟨p, l, e, R, s, m, args, below, meth, c, D, dA, n0, ad0, Q, ⟨hx, hb, hml, hown, hts, hK, hlk, hfr, hlo, hX⟩, hmc, hms, rfl⟩ := hG
  intro ad H locs ls he hP hD hS hl
  exact lv_lshl hx hb hd rfl (k ad H locs ls he hP hD hS hl)
theorem r_lshr {d mc ms : Nat} {own : String} {cc : ByteArray} {nL : Nat} {G : gJ} (hG : gS d mc ms own cc nL G) {Z : Nat × Nat × Nat} {pc : Nat} {L : List (Option Value)} {st : List Value} {M : gM} {x : Int64} {y : Int32} (hd : decode cc pc = .ok (.lshr, 1))  (k : G Z (pc + 1) L (.long (x >>> (y.toInt64 &&& 63)) :: st) M) : G Z pc L (.int y :: .long x :: st) M := by
  obtain ⟨p, l, e, R, s, m, args, below, meth, c, D, dA, n0, ad0, Q, ⟨hx, hb, hml, hown, hts, hK, hlk, hfr, hlo, hX⟩, hmc, hms, rfl⟩ := hG
  intro ad H locs ls he hP hD hS hl
  exact lv_lshr hx hb hd rfl (k ad H locs ls he hP hD hS hl)
theorem r_i2l {d mc ms : Nat} {own : String} {cc : ByteArray} {nL : Nat} {G : gJ} (hG : gS d mc ms own cc nL G) {Z : Nat × Nat × Nat} {pc : Nat} {L : List (Option Value)} {st : List Value} {M : gM} {x : Int32} (hd : decode cc pc = .ok (.i2l, 1))  (k : G Z (pc + 1) L (.long x.toInt64 :: st) M) : G Z pc L (.int x :: st) M := by
  obtain ⟨p, l, e, R, s, m, args, below, meth, c, D, dA, n0, ad0, Q, ⟨hx, hb, hml, hown, hts, hK, hlk, hfr, hlo, hX⟩, hmc, hms, rfl⟩ := hG
  intro ad H locs ls he hP hD hS hl
  exact lv_i2l hx hb hd rfl (k ad H locs ls he hP hD hS hl)
theorem r_l2i {d mc ms : Nat} {own : String} {cc : ByteArray} {nL : Nat} {G : gJ} (hG : gS d mc ms own cc nL G) {Z : Nat × Nat × Nat} {pc : Nat} {L : List (Option Value)} {st : List Value} {M : gM} {x : Int64} (hd : decode cc pc = .ok (.l2i, 1))  (k : G Z (pc + 1) L (.int x.toInt32 :: st) M) : G Z pc L (.long x :: st) M := by
  obtain ⟨p, l, e, R, s, m, args, below, meth, c, D, dA, n0, ad0, Q, ⟨hx, hb, hml, hown, hts, hK, hlk, hfr, hlo, hX⟩, hmc, hms, rfl⟩ := hG
  intro ad H locs ls he hP hD hS hl
  exact lv_l2i hx hb hd rfl (k ad H locs ls he hP hD hS hl)
theorem r_i2c {d mc ms : Nat} {own : String} {cc : ByteArray} {nL : Nat} {G : gJ} (hG : gS d mc ms own cc nL G) {Z : Nat × Nat × Nat} {pc : Nat} {L : List (Option Value)} {st : List Value} {M : gM} {x : Int32} (hd : decode cc pc = .ok (.i2c, 1))  (k : G Z (pc + 1) L (.int (x.toUInt32 % 65536).toInt32 :: st) M) : G Z pc L (.int x :: st) M := by
  obtain ⟨p, l, e, R, s, m, args, below, meth, c, D, dA, n0, ad0, Q, ⟨hx, hb, hml, hown, hts, hK, hlk, hfr, hlo, hX⟩, hmc, hms, rfl⟩ := hG
  intro ad H locs ls he hP hD hS hl
  exact lv_i2c hx hb hd rfl (k ad H locs ls he hP hD hS hl)
theorem r_ineg {d mc ms : Nat} {own : String} {cc : ByteArray} {nL : Nat} {G : gJ} (hG : gS d mc ms own cc nL G) {Z : Nat × Nat × Nat} {pc : Nat} {L : List (Option Value)} {st : List Value} {M : gM} {x : Int32} (hd : decode cc pc = .ok (.ineg, 1))  (k : G Z (pc + 1) L (.int (-x) :: st) M) : G Z pc L (.int x :: st) M := by
  obtain ⟨p, l, e, R, s, m, args, below, meth, c, D, dA, n0, ad0, Q, ⟨hx, hb, hml, hown, hts, hK, hlk, hfr, hlo, hX⟩, hmc, hms, rfl⟩ := hG
  intro ad H locs ls he hP hD hS hl
  exact lv_ineg hx hb hd (k ad H locs ls he hP hD hS hl)
theorem r_dup {d mc ms : Nat} {own : String} {cc : ByteArray} {nL : Nat} {G : gJ} (hG : gS d mc ms own cc nL G) {Z : Nat × Nat × Nat} {pc : Nat} {L : List (Option Value)} {st : List Value} {M : gM} {va : Value} (hd : decode cc pc = .ok (.dup, 1)) (ha : va.category = 1) (k : G Z (pc + 1) L (va :: va :: st) M) : G Z pc L (va :: st) M := by
  obtain ⟨p, l, e, R, s, m, args, below, meth, c, D, dA, n0, ad0, Q, ⟨hx, hb, hml, hown, hts, hK, hlk, hfr, hlo, hX⟩, hmc, hms, rfl⟩ := hG
  intro ad H locs ls he hP hD hS hl
  exact lv_dup hx hb hd (by rw [gtr_cat]; exact ha) (k ad H locs ls he hP hD hS hl)
theorem r_pop {d mc ms : Nat} {own : String} {cc : ByteArray} {nL : Nat} {G : gJ} (hG : gS d mc ms own cc nL G) {Z : Nat × Nat × Nat} {pc : Nat} {L : List (Option Value)} {st : List Value} {M : gM} {va : Value} (hd : decode cc pc = .ok (.pop, 1)) (ha : va.category = 1) (k : G Z (pc + 1) L (st) M) : G Z pc L (va :: st) M := by
  obtain ⟨p, l, e, R, s, m, args, below, meth, c, D, dA, n0, ad0, Q, ⟨hx, hb, hml, hown, hts, hK, hlk, hfr, hlo, hX⟩, hmc, hms, rfl⟩ := hG
  intro ad H locs ls he hP hD hS hl
  exact lv_pop hx hb hd (by rw [gtr_cat]; exact ha) (k ad H locs ls he hP hD hS hl)
theorem r_dup_x1 {d mc ms : Nat} {own : String} {cc : ByteArray} {nL : Nat} {G : gJ} (hG : gS d mc ms own cc nL G) {Z : Nat × Nat × Nat} {pc : Nat} {L : List (Option Value)} {st : List Value} {M : gM} {va vb : Value} (hd : decode cc pc = .ok (.dup_x1, 1)) (ha : va.category = 1) (hb9 : vb.category = 1) (k : G Z (pc + 1) L (va :: vb :: va :: st) M) : G Z pc L (va :: vb :: st) M := by
  obtain ⟨p, l, e, R, s, m, args, below, meth, c, D, dA, n0, ad0, Q, ⟨hx, hb, hml, hown, hts, hK, hlk, hfr, hlo, hX⟩, hmc, hms, rfl⟩ := hG
  intro ad H locs ls he hP hD hS hl
  exact lv_dup_x1 hx hb hd (by rw [gtr_cat]; exact ha) (by rw [gtr_cat]; exact hb9) (k ad H locs ls he hP hD hS hl)
theorem r_dup2 {d mc ms : Nat} {own : String} {cc : ByteArray} {nL : Nat} {G : gJ} (hG : gS d mc ms own cc nL G) {Z : Nat × Nat × Nat} {pc : Nat} {L : List (Option Value)} {st : List Value} {M : gM} {va vb : Value} (hd : decode cc pc = .ok (.dup2, 1)) (ha : va.category = 1) (hb9 : vb.category = 1) (k : G Z (pc + 1) L (va :: vb :: va :: vb :: st) M) : G Z pc L (va :: vb :: st) M := by
  obtain ⟨p, l, e, R, s, m, args, below, meth, c, D, dA, n0, ad0, Q, ⟨hx, hb, hml, hown, hts, hK, hlk, hfr, hlo, hX⟩, hmc, hms, rfl⟩ := hG
  intro ad H locs ls he hP hD hS hl
  exact lv_dup2_11 hx hb hd (by rw [gtr_cat]; exact ha) (by rw [gtr_cat]; exact hb9) (k ad H locs ls he hP hD hS hl)
theorem r_istore_n {d mc ms : Nat} {own : String} {cc : ByteArray} {nL : Nat} {G : gJ} (hG : gS d mc ms own cc nL G) {Z : Nat × Nat × Nat} {pc : Nat} {L : List (Option Value)} {st : List Value} {M : gM} {i : Fin 4} {x : Int32} (hd : decode cc pc = .ok (.istore_n i, 1)) (hi : (i : Nat) < nL) (k : G Z (pc + 1) (gs1 L i (.int x)) st M) : G Z pc L (.int x :: st) M := by
  obtain ⟨p, l, e, R, s, m, args, below, meth, c, D, dA, n0, ad0, Q, ⟨hx, hb, hml, hown, hts, hK, hlk, hfr, hlo, hX⟩, hmc, hms, rfl⟩ := hG
  intro ad H locs ls he hP hD hS hl
  exact lv_istore_n hx hb hd rfl (gl_has hl) hi rfl (fun ls9 hl9 => k ad H locs ls9 he hP hD hS (gl_s1 (v := .int x) hl hl9))
theorem r_istore {d mc ms : Nat} {own : String} {cc : ByteArray} {nL : Nat} {G : gJ} (hG : gS d mc ms own cc nL G) {Z : Nat × Nat × Nat} {pc : Nat} {L : List (Option Value)} {st : List Value} {M : gM} {i : Nat} {x : Int32} (hd : decode cc pc = .ok (.istore i, 2)) (hi : i < nL) (k : G Z (pc + 2) (gs1 L i (.int x)) st M) : G Z pc L (.int x :: st) M := by
  obtain ⟨p, l, e, R, s, m, args, below, meth, c, D, dA, n0, ad0, Q, ⟨hx, hb, hml, hown, hts, hK, hlk, hfr, hlo, hX⟩, hmc, hms, rfl⟩ := hG
  intro ad H locs ls he hP hD hS hl
  exact lv_istore hx hb hd (gl_has hl) hi rfl (fun ls9 hl9 => k ad H locs ls9 he hP hD hS (gl_s1 (v := .int x) hl hl9))
theorem r_lstore_n {d mc ms : Nat} {own : String} {cc : ByteArray} {nL : Nat} {G : gJ} (hG : gS d mc ms own cc nL G) {Z : Nat × Nat × Nat} {pc : Nat} {L : List (Option Value)} {st : List Value} {M : gM} {i : Fin 4} {x : Int64} (hd : decode cc pc = .ok (.lstore_n i, 1)) (hi : (i : Nat) + 1 < nL) (k : G Z (pc + 1) (gs2 L i (.long x)) st M) : G Z pc L (.long x :: st) M := by
  obtain ⟨p, l, e, R, s, m, args, below, meth, c, D, dA, n0, ad0, Q, ⟨hx, hb, hml, hown, hts, hK, hlk, hfr, hlo, hX⟩, hmc, hms, rfl⟩ := hG
  intro ad H locs ls he hP hD hS hl
  exact lv_lstore_n hx hb hd rfl (gl_has hl) hi rfl (fun ls9 hl9 => k ad H locs ls9 he hP hD hS (gl_s2 (v := .long x) hl hl9))
theorem r_lstore {d mc ms : Nat} {own : String} {cc : ByteArray} {nL : Nat} {G : gJ} (hG : gS d mc ms own cc nL G) {Z : Nat × Nat × Nat} {pc : Nat} {L : List (Option Value)} {st : List Value} {M : gM} {i : Nat} {x : Int64} (hd : decode cc pc = .ok (.lstore i, 2)) (hi : i + 1 < nL) (k : G Z (pc + 2) (gs2 L i (.long x)) st M) : G Z pc L (.long x :: st) M := by
  obtain ⟨p, l, e, R, s, m, args, below, meth, c, D, dA, n0, ad0, Q, ⟨hx, hb, hml, hown, hts, hK, hlk, hfr, hlo, hX⟩, hmc, hms, rfl⟩ := hG
  intro ad H locs ls he hP hD hS hl
  exact lv_lstore hx hb hd (gl_has hl) hi rfl (fun ls9 hl9 => k ad H locs ls9 he hP hD hS (gl_s2 (v := .long x) hl hl9))
theorem r_astore_n {d mc ms : Nat} {own : String} {cc : ByteArray} {nL : Nat} {G : gJ} (hG : gS d mc ms own cc nL G) {Z : Nat × Nat × Nat} {pc : Nat} {L : List (Option Value)} {st : List Value} {M : gM} {i : Fin 4} {x : Nat} (hd : decode cc pc = .ok (.astore_n i, 1)) (hi : (i : Nat) < nL) (k : G Z (pc + 1) (gs1 L i (.ref x)) st M) : G Z pc L (.ref x :: st) M := by
  obtain ⟨p, l, e, R, s, m, args, below, meth, c, D, dA, n0, ad0, Q, ⟨hx, hb, hml, hown, hts, hK, hlk, hfr, hlo, hX⟩, hmc, hms, rfl⟩ := hG
  intro ad H locs ls he hP hD hS hl
  exact lv_astore_n hx hb hd rfl (gl_has hl) hi rfl (fun ls9 hl9 => k ad H locs ls9 he hP hD hS (gl_s1 (v := .ref x) hl hl9))
theorem r_astore {d mc ms : Nat} {own : String} {cc : ByteArray} {nL : Nat} {G : gJ} (hG : gS d mc ms own cc nL G) {Z : Nat × Nat × Nat} {pc : Nat} {L : List (Option Value)} {st : List Value} {M : gM} {i : Nat} {x : Nat} (hd : decode cc pc = .ok (.astore i, 2)) (hi : i < nL) (k : G Z (pc + 2) (gs1 L i (.ref x)) st M) : G Z pc L (.ref x :: st) M := by
  obtain ⟨p, l, e, R, s, m, args, below, meth, c, D, dA, n0, ad0, Q, ⟨hx, hb, hml, hown, hts, hK, hlk, hfr, hlo, hX⟩, hmc, hms, rfl⟩ := hG
  intro ad H locs ls he hP hD hS hl
  exact lv_astore hx hb hd (gl_has hl) hi rfl (fun ls9 hl9 => k ad H locs ls9 he hP hD hS (gl_s1 (v := .ref x) hl hl9))
theorem r_iinc {d mc ms : Nat} {own : String} {cc : ByteArray} {nL : Nat} {G : gJ} (hG : gS d mc ms own cc nL G) {Z : Nat × Nat × Nat} {pc : Nat} {L : List (Option Value)} {st : List Value} {M : gM} {i : Nat} {n : Int} {x : Int32} (v : Int32) (hd : decode cc pc = .ok (.iinc i n, 3)) (hv : Int32.ofInt n = v) (hi : L[i]? = some (some (.int x))) (k : G Z (pc + 3) (gs1 L i (.int (x + v))) st M) : G Z pc L (st) M := by
  obtain ⟨p, l, e, R, s, m, args, below, meth, c, D, dA, n0, ad0, Q, ⟨hx, hb, hml, hown, hts, hK, hlk, hfr, hlo, hX⟩, hmc, hms, rfl⟩ := hG
  intro ad H locs ls he hP hD hS hl
  obtain ⟨q, hq⟩ := List.getElem?_of_mem (glv_mem.mpr ⟨.int x, hi, rfl⟩ : (i, gtr ad (.int x)) ∈ glv ad L)
  have hin : i < nL := by
    rw [← hl.1]
    exact (List.getElem?_eq_some_iff.mp hi).1
  exact lv_iinc (k := q) (v := x + v) hx hb hd (gl_has hl) hq (by rw [hv]) hin rfl (fun ls9 hl9 => k ad H locs ls9 he hP hD hS (gl_s1 (v := .int (x + v)) hl hl9))
theorem r_if_eq {d mc ms : Nat} {own : String} {cc : ByteArray} {nL : Nat} {G : gJ} (hG : gS d mc ms own cc nL G) {Z : Nat × Nat × Nat} {pc : Nat} {L : List (Option Value)} {st : List Value} {M : gM} {x : Int32} {off : Int} (tgt : Nat) (hd : decode cc pc = .ok (.ifCond .eq off, 3)) (ht : (pc : Int) + off = (tgt : Int)) (kt : x = 0 → G Z tgt L st M) (kf : ¬ x = 0 → G Z (pc + 3) L st M) : G Z pc L (.int x :: st) M := by
  obtain ⟨p, l, e, R, s, m, args, below, meth, c, D, dA, n0, ad0, Q, ⟨hx, hb, hml, hown, hts, hK, hlk, hfr, hlo, hX⟩, hmc, hms, rfl⟩ := hG
  intro ad H locs ls he hP hD hS hl
  exact lv_if_eq hx hb hd ht (fun q => kt q ad H locs ls he hP hD hS hl) (fun q => kf q ad H locs ls he hP hD hS hl)
theorem r_icmp_eq {d mc ms : Nat} {own : String} {cc : ByteArray} {nL : Nat} {G : gJ} (hG : gS d mc ms own cc nL G) {Z : Nat × Nat × Nat} {pc : Nat} {L : List (Option Value)} {st : List Value} {M : gM} {x y : Int32} {off : Int} (tgt : Nat) (hd : decode cc pc = .ok (.if_icmp .eq off, 3)) (ht : (pc : Int) + off = (tgt : Int)) (kt : x = y → G Z tgt L st M) (kf : ¬ x = y → G Z (pc + 3) L st M) : G Z pc L (.int y :: .int x :: st) M := by
  obtain ⟨p, l, e, R, s, m, args, below, meth, c, D, dA, n0, ad0, Q, ⟨hx, hb, hml, hown, hts, hK, hlk, hfr, hlo, hX⟩, hmc, hms, rfl⟩ := hG
  intro ad H locs ls he hP hD hS hl
  exact lv_icmp_eq hx hb hd ht (fun q => kt q ad H locs ls he hP hD hS hl) (fun q => kf q ad H locs ls he hP hD hS hl)
theorem r_if_ne {d mc ms : Nat} {own : String} {cc : ByteArray} {nL : Nat} {G : gJ} (hG : gS d mc ms own cc nL G) {Z : Nat × Nat × Nat} {pc : Nat} {L : List (Option Value)} {st : List Value} {M : gM} {x : Int32} {off : Int} (tgt : Nat) (hd : decode cc pc = .ok (.ifCond .ne off, 3)) (ht : (pc : Int) + off = (tgt : Int)) (kt : ¬ x = 0 → G Z tgt L st M) (kf : x = 0 → G Z (pc + 3) L st M) : G Z pc L (.int x :: st) M := by
  obtain ⟨p, l, e, R, s, m, args, below, meth, c, D, dA, n0, ad0, Q, ⟨hx, hb, hml, hown, hts, hK, hlk, hfr, hlo, hX⟩, hmc, hms, rfl⟩ := hG
  intro ad H locs ls he hP hD hS hl
  exact lv_if_ne hx hb hd ht (fun q => kt q ad H locs ls he hP hD hS hl) (fun q => kf q ad H locs ls he hP hD hS hl)
theorem r_icmp_ne {d mc ms : Nat} {own : String} {cc : ByteArray} {nL : Nat} {G : gJ} (hG : gS d mc ms own cc nL G) {Z : Nat × Nat × Nat} {pc : Nat} {L : List (Option Value)} {st : List Value} {M : gM} {x y : Int32} {off : Int} (tgt : Nat) (hd : decode cc pc = .ok (.if_icmp .ne off, 3)) (ht : (pc : Int) + off = (tgt : Int)) (kt : ¬ x = y → G Z tgt L st M) (kf : x = y → G Z (pc + 3) L st M) : G Z pc L (.int y :: .int x :: st) M := by
  obtain ⟨p, l, e, R, s, m, args, below, meth, c, D, dA, n0, ad0, Q, ⟨hx, hb, hml, hown, hts, hK, hlk, hfr, hlo, hX⟩, hmc, hms, rfl⟩ := hG
  intro ad H locs ls he hP hD hS hl
  exact lv_icmp_ne hx hb hd ht (fun q => kt q ad H locs ls he hP hD hS hl) (fun q => kf q ad H locs ls he hP hD hS hl)
theorem r_if_lt {d mc ms : Nat} {own : String} {cc : ByteArray} {nL : Nat} {G : gJ} (hG : gS d mc ms own cc nL G) {Z : Nat × Nat × Nat} {pc : Nat} {L : List (Option Value)} {st : List Value} {M : gM} {x : Int32} {off : Int} (tgt : Nat) (hd : decode cc pc = .ok (.ifCond .lt off, 3)) (ht : (pc : Int) + off = (tgt : Int)) (kt : x < 0 → G Z tgt L st M) (kf : ¬ x < 0 → G Z (pc + 3) L st M) : G Z pc L (.int x :: st) M := by
  obtain ⟨p, l, e, R, s, m, args, below, meth, c, D, dA, n0, ad0, Q, ⟨hx, hb, hml, hown, hts, hK, hlk, hfr, hlo, hX⟩, hmc, hms, rfl⟩ := hG
  intro ad H locs ls he hP hD hS hl
  exact lv_if_lt hx hb hd ht (fun q => kt q ad H locs ls he hP hD hS hl) (fun q => kf q ad H locs ls he hP hD hS hl)
theorem r_icmp_lt {d mc ms : Nat} {own : String} {cc : ByteArray} {nL : Nat} {G : gJ} (hG : gS d mc ms own cc nL G) {Z : Nat × Nat × Nat} {pc : Nat} {L : List (Option Value)} {st : List Value} {M : gM} {x y : Int32} {off : Int} (tgt : Nat) (hd : decode cc pc = .ok (.if_icmp .lt off, 3)) (ht : (pc : Int) + off = (tgt : Int)) (kt : x < y → G Z tgt L st M) (kf : ¬ x < y → G Z (pc + 3) L st M) : G Z pc L (.int y :: .int x :: st) M := by
  obtain ⟨p, l, e, R, s, m, args, below, meth, c, D, dA, n0, ad0, Q, ⟨hx, hb, hml, hown, hts, hK, hlk, hfr, hlo, hX⟩, hmc, hms, rfl⟩ := hG
  intro ad H locs ls he hP hD hS hl
  exact lv_icmp_lt hx hb hd ht (fun q => kt q ad H locs ls he hP hD hS hl) (fun q => kf q ad H locs ls he hP hD hS hl)
theorem r_if_ge {d mc ms : Nat} {own : String} {cc : ByteArray} {nL : Nat} {G : gJ} (hG : gS d mc ms own cc nL G) {Z : Nat × Nat × Nat} {pc : Nat} {L : List (Option Value)} {st : List Value} {M : gM} {x : Int32} {off : Int} (tgt : Nat) (hd : decode cc pc = .ok (.ifCond .ge off, 3)) (ht : (pc : Int) + off = (tgt : Int)) (kt : 0 ≤ x → G Z tgt L st M) (kf : ¬ 0 ≤ x → G Z (pc + 3) L st M) : G Z pc L (.int x :: st) M := by
  obtain ⟨p, l, e, R, s, m, args, below, meth, c, D, dA, n0, ad0, Q, ⟨hx, hb, hml, hown, hts, hK, hlk, hfr, hlo, hX⟩, hmc, hms, rfl⟩ := hG
  intro ad H locs ls he hP hD hS hl
  exact lv_if_ge hx hb hd ht (fun q => kt q ad H locs ls he hP hD hS hl) (fun q => kf q ad H locs ls he hP hD hS hl)
theorem r_icmp_ge {d mc ms : Nat} {own : String} {cc : ByteArray} {nL : Nat} {G : gJ} (hG : gS d mc ms own cc nL G) {Z : Nat × Nat × Nat} {pc : Nat} {L : List (Option Value)} {st : List Value} {M : gM} {x y : Int32} {off : Int} (tgt : Nat) (hd : decode cc pc = .ok (.if_icmp .ge off, 3)) (ht : (pc : Int) + off = (tgt : Int)) (kt : y ≤ x → G Z tgt L st M) (kf : ¬ y ≤ x → G Z (pc + 3) L st M) : G Z pc L (.int y :: .int x :: st) M := by
  obtain ⟨p, l, e, R, s, m, args, below, meth, c, D, dA, n0, ad0, Q, ⟨hx, hb, hml, hown, hts, hK, hlk, hfr, hlo, hX⟩, hmc, hms, rfl⟩ := hG
  intro ad H locs ls he hP hD hS hl
  exact lv_icmp_ge hx hb hd ht (fun q => kt q ad H locs ls he hP hD hS hl) (fun q => kf q ad H locs ls he hP hD hS hl)
theorem r_if_gt {d mc ms : Nat} {own : String} {cc : ByteArray} {nL : Nat} {G : gJ} (hG : gS d mc ms own cc nL G) {Z : Nat × Nat × Nat} {pc : Nat} {L : List (Option Value)} {st : List Value} {M : gM} {x : Int32} {off : Int} (tgt : Nat) (hd : decode cc pc = .ok (.ifCond .gt off, 3)) (ht : (pc : Int) + off = (tgt : Int)) (kt : 0 < x → G Z tgt L st M) (kf : ¬ 0 < x → G Z (pc + 3) L st M) : G Z pc L (.int x :: st) M := by
  obtain ⟨p, l, e, R, s, m, args, below, meth, c, D, dA, n0, ad0, Q, ⟨hx, hb, hml, hown, hts, hK, hlk, hfr, hlo, hX⟩, hmc, hms, rfl⟩ := hG
  intro ad H locs ls he hP hD hS hl
  exact lv_if_gt hx hb hd ht (fun q => kt q ad H locs ls he hP hD hS hl) (fun q => kf q ad H locs ls he hP hD hS hl)
theorem r_icmp_gt {d mc ms : Nat} {own : String} {cc : ByteArray} {nL : Nat} {G : gJ} (hG : gS d mc ms own cc nL G) {Z : Nat × Nat × Nat} {pc : Nat} {L : List (Option Value)} {st : List Value} {M : gM} {x y : Int32} {off : Int} (tgt : Nat) (hd : decode cc pc = .ok (.if_icmp .gt off, 3)) (ht : (pc : Int) + off = (tgt : Int)) (kt : y < x → G Z tgt L st M) (kf : ¬ y < x → G Z (pc + 3) L st M) : G Z pc L (.int y :: .int x :: st) M := by
  obtain ⟨p, l, e, R, s, m, args, below, meth, c, D, dA, n0, ad0, Q, ⟨hx, hb, hml, hown, hts, hK, hlk, hfr, hlo, hX⟩, hmc, hms, rfl⟩ := hG
  intro ad H locs ls he hP hD hS hl
  exact lv_icmp_gt hx hb hd ht (fun q => kt q ad H locs ls he hP hD hS hl) (fun q => kf q ad H locs ls he hP hD hS hl)
theorem r_if_le {d mc ms : Nat} {own : String} {cc : ByteArray} {nL : Nat} {G : gJ} (hG : gS d mc ms own cc nL G) {Z : Nat × Nat × Nat} {pc : Nat} {L : List (Option Value)} {st : List Value} {M : gM} {x : Int32} {off : Int} (tgt : Nat) (hd : decode cc pc = .ok (.ifCond .le off, 3)) (ht : (pc : Int) + off = (tgt : Int)) (kt : x ≤ 0 → G Z tgt L st M) (kf : ¬ x ≤ 0 → G Z (pc + 3) L st M) : G Z pc L (.int x :: st) M := by
  obtain ⟨p, l, e, R, s, m, args, below, meth, c, D, dA, n0, ad0, Q, ⟨hx, hb, hml, hown, hts, hK, hlk, hfr, hlo, hX⟩, hmc, hms, rfl⟩ := hG
  intro ad H locs ls he hP hD hS hl
  exact lv_if_le hx hb hd ht (fun q => kt q ad H locs ls he hP hD hS hl) (fun q => kf q ad H locs ls he hP hD hS hl)
theorem r_icmp_le {d mc ms : Nat} {own : String} {cc : ByteArray} {nL : Nat} {G : gJ} (hG : gS d mc ms own cc nL G) {Z : Nat × Nat × Nat} {pc : Nat} {L : List (Option Value)} {st : List Value} {M : gM} {x y : Int32} {off : Int} (tgt : Nat) (hd : decode cc pc = .ok (.if_icmp .le off, 3)) (ht : (pc : Int) + off = (tgt : Int)) (kt : x ≤ y → G Z tgt L st M) (kf : ¬ x ≤ y → G Z (pc + 3) L st M) : G Z pc L (.int y :: .int x :: st) M := by
  obtain ⟨p, l, e, R, s, m, args, below, meth, c, D, dA, n0, ad0, Q, ⟨hx, hb, hml, hown, hts, hK, hlk, hfr, hlo, hX⟩, hmc, hms, rfl⟩ := hG
  intro ad H locs ls he hP hD hS hl
  exact lv_icmp_le hx hb hd ht (fun q => kt q ad H locs ls he hP hD hS hl) (fun q => kf q ad H locs ls he hP hD hS hl)
theorem r_goto {d mc ms : Nat} {own : String} {cc : ByteArray} {nL : Nat} {G : gJ} (hG : gS d mc ms own cc nL G) {Z : Nat × Nat × Nat} {pc : Nat} {L : List (Option Value)} {st : List Value} {M : gM} {off : Int} (tgt : Nat) (hd : decode cc pc = .ok (.goto off, 3)) (ht : (pc : Int) + off = (tgt : Int)) (k : G Z tgt L st M) : G Z pc L st M := by
  obtain ⟨p, l, e, R, s, m, args, below, meth, c, D, dA, n0, ad0, Q, ⟨hx, hb, hml, hown, hts, hK, hlk, hfr, hlo, hX⟩, hmc, hms, rfl⟩ := hG
  intro ad H locs ls he hP hD hS hl
  exact lv_goto hx hb hd ht (k ad H locs ls he hP hD hS hl)
theorem r_tableOut {d mc ms : Nat} {own : String} {cc : ByteArray} {nL : Nat} {G : gJ} (hG : gS d mc ms own cc nL G) {Z : Nat × Nat × Nat} {pc : Nat} {L : List (Option Value)} {st : List Value} {M : gM} {x : Int32} {df lo hi : Int} {offs : Array Int} {len : Nat} (tgt : Nat) (hd : decode cc pc = .ok (.tableswitch df lo hi offs, len)) (h : x.toInt < lo ∨ hi < x.toInt) (ht : (pc : Int) + df = (tgt : Int)) (k : G Z tgt L st M) : G Z pc L (.int x :: st) M := by
  obtain ⟨p, l, e, R, s, m, args, below, meth, c, D, dA, n0, ad0, Q, ⟨hx, hb, hml, hown, hts, hK, hlk, hfr, hlo, hX⟩, hmc, hms, rfl⟩ := hG
  intro ad H locs ls he hP hD hS hl
  exact lv_tableOut hx hb hd h ht (k ad H locs ls he hP hD hS hl)
theorem r_tableIn {d mc ms : Nat} {own : String} {cc : ByteArray} {nL : Nat} {G : gJ} (hG : gS d mc ms own cc nL G) {Z : Nat × Nat × Nat} {pc : Nat} {L : List (Option Value)} {st : List Value} {M : gM} {x : Int32} {df lo hi off : Int} {offs : Array Int} {len : Nat} (tgt : Nat) (hd : decode cc pc = .ok (.tableswitch df lo hi offs, len)) (h1 : ¬ x.toInt < lo) (h2 : ¬ hi < x.toInt) (ho : offs[(x.toInt - lo).toNat]? = some off) (ht : (pc : Int) + off = (tgt : Int)) (k : G Z tgt L st M) : G Z pc L (.int x :: st) M := by
  obtain ⟨p, l, e, R, s, m, args, below, meth, c, D, dA, n0, ad0, Q, ⟨hx, hb, hml, hown, hts, hK, hlk, hfr, hlo, hX⟩, hmc, hms, rfl⟩ := hG
  intro ad H locs ls he hP hD hS hl
  exact lv_tableIn hx hb hd h1 h2 ho ht (k ad H locs ls he hP hD hS hl)
theorem r_lookup {d mc ms : Nat} {own : String} {cc : ByteArray} {nL : Nat} {G : gJ} (hG : gS d mc ms own cc nL G) {Z : Nat × Nat × Nat} {pc : Nat} {L : List (Option Value)} {st : List Value} {M : gM} {x : Int32} {df off : Int} {ps : Array (Int × Int)} {len : Nat} (tgt : Nat) (hd : decode cc pc = .ok (.lookupswitch df ps, len)) (hp : (ps.toList.zip (ps.toList.drop 1)).all (fun (a, next) => a.1 < next.1) = true) (ho : Op.lookupswitch.offset ps.toList df x.toInt = off) (ht : (pc : Int) + off = (tgt : Int)) (k : G Z tgt L st M) : G Z pc L (.int x :: st) M := by
  obtain ⟨p, l, e, R, s, m, args, below, meth, c, D, dA, n0, ad0, Q, ⟨hx, hb, hml, hown, hts, hK, hlk, hfr, hlo, hX⟩, hmc, hms, rfl⟩ := hG
  intro ad H locs ls he hP hD hS hl
  exact lv_lookup hx hb hd hp ho ht (k ad H locs ls he hP hD hS hl)
theorem r_ldc {d mc ms : Nat} {own : String} {cc : ByteArray} {nL : Nat} {G : gJ} (hG : gS d mc ms own cc nL G) {Z : Nat × Nat × Nat} {pc : Nat} {L : List (Option Value)} {st : List Value} {M : gM} {index : Nat} (v : Int32) (hd : decode cc pc = .ok (.ldc index, 2)) (hc : Cond.constant own index v ∈ gT) (k : G Z (pc + 2) L (.int v :: st) M) : G Z pc L (st) M := by
  obtain ⟨p, l, e, R, s, m, args, below, meth, c, D, dA, n0, ad0, Q, ⟨hx, hb, hml, hown, hts, hK, hlk, hfr, hlo, hX⟩, hmc, hms, rfl⟩ := hG
  intro ad H locs ls he hP hD hS hl
  exact lv_ldc hx hb hown (hts _ hc) hd (k ad H locs ls he hP hD hS hl)
theorem r_ldc2 {d mc ms : Nat} {own : String} {cc : ByteArray} {nL : Nat} {G : gJ} (hG : gS d mc ms own cc nL G) {Z : Nat × Nat × Nat} {pc : Nat} {L : List (Option Value)} {st : List Value} {M : gM} {index : Nat} (v : Int64) (hd : decode cc pc = .ok (.ldc2_w index, 3)) (hc : Cond.constantLong own index v ∈ gT) (k : G Z (pc + 3) L (.long v :: st) M) : G Z pc L (st) M := by
  obtain ⟨p, l, e, R, s, m, args, below, meth, c, D, dA, n0, ad0, Q, ⟨hx, hb, hml, hown, hts, hK, hlk, hfr, hlo, hX⟩, hmc, hms, rfl⟩ := hG
  intro ad H locs ls he hP hD hS hl
  exact lv_ldc2 hx hb hown (hts _ hc) hd (k ad H locs ls he hP hD hS hl)

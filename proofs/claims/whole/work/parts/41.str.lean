set_option maxHeartbeats 1000000 in
theorem gC_vF {d mc ms : Nat} {y : MethodName} {cc : ByteArray} {nL : Nat} {n n' : Nat} {As : List Value} {M : gM} {P : gM → Prop} (hy : plainFor y = true) (hlen : (gent As).length ≤ nL)
    (body : ∀ G, gS d mc ms y.cls cc nL G → gEv n' mc ms cc P G → G (n, 0, 0) 0 (gpad nL (gent As)) [] M) : gC d mc ms y cc nL none n n' As M (gV P) := by
  intro l D dA ad sz
  refine va_MetF (cc := cc) (maxL := nL) (ret := none) hy rfl ?_
  intro p e s m args below meth c s₁ B hml hv
  obtain ⟨rfl, hsz, hP, hD, hK, hX⟩ := hv
  subst hsz
  have hts := atoms_spec (ws := gWs y cc nL none) B.pre
  have hown : s.vm.findClass y.cls = some m.cls := findClass_of_methodNamed B.named
  have hlk := B.notSynchronized
  rw [lg_entry_eq]
  refine body (gG p l e (gRm d mc ms) s m (As.map (gtr ad)).toArray below meth c D dA n ad nL (MQ below (gQ D dA n n' ad s.heap.size (gV P)) (As.map (gtr ad)).toArray s mc ms (gA ad n s.heap.size))) ?_ ?_ ad s.heap [] _ gExt.rf hP (gD_self hD) va_S.rf (gl_entry hlen)
  · exact ⟨p, l, e, gRm d mc ms, s, m, _, below, meth, c, D, dA, n, ad, _, ⟨B.exec, B.bytes, hml, hown, fun w hw => hts w (List.mem_cons_of_mem _ hw), hK, hlk, Nat.le_refl _, Nat.le_refl _, hX⟩, rfl, rfl, rfl⟩
  · intro Z pc L M' hd hz h1 h2 hp ad' H locs ls he hP' hD' hS hl
    subst hz
    refine W.widen (k := mc) (n := ms) h1 h2 ?_
    exact W.vret B.exec B.bytes B.returns (fun t ht hW => ⟨⟨none, ad', M', rfl, ⟨rfl, hp⟩, he, by rw [ht]; exact hP', hD'⟩, hS.F ht⟩) hS.2.2 hd hlk
/-! String constants: 1000 + i the String, 2000 + i its bytes -/
theorem r_ldcS {d mc ms : Nat} {cc : ByteArray} {nL : Nat} {G : gJ} (hG : gS d mc ms "WaterCarts$Tape" cc nL G) {Z : Nat × Nat × Nat} {pc : Nat} {L : List (Option Value)} {st : List Value} {M : gM} (i : Nat) (hi : i < 10) {index : Nat} (hix : (gsx.getD i (0, "")).1 = index) (hd : decode cc pc = .ok (.ldc index, 2)) (k : G Z (pc + 2) L (.ref (1000 + i) :: st) M) : G Z pc L st M := by
  obtain ⟨p, l, e, R, s, m, args, below, meth, c, D, dA, n0, ad0, Q, ⟨hx, hb, hml, hown, hts, hK, hlk, hfr, hlo, hX⟩, hmc, hms, rfl⟩ := hG
  intro ad H locs ls he hP hD hS hl
  subst hix
  have e1 : ad (1000 + i) = ad0 (1000 + i) := he.2.1 _ (Or.inr (by omega))
  have k1 := k ad H locs ls he hP hD hS hl
  refine va_ldcS hx hb hown (hX.2.1 i hi) hd ?_
  rw [← e1]
  exact k1
theorem r_strV {d mc ms : Nat} {own : String} {cc : ByteArray} {nL : Nat} {G : gJ} (hG : gS d mc ms own cc nL G) {Z : Nat × Nat × Nat} {pc : Nat} {L : List (Option Value)} {st : List Value} {M : gM} (i : Nat) (hi : i < 10) {index : Nat} (hf : Cond.fieldLink own index "java/lang/String" "value" "[B" ∈ gT) (hd : decode cc pc = .ok (.getfield index, 3)) (k : G Z (pc + 3) L (.ref (2000 + i) :: st) M) : G Z pc L (.ref (1000 + i) :: st) M := by
  obtain ⟨p, l, e, R, s, m, args, below, meth, c, D, dA, n0, ad0, Q, ⟨hx, hb, hml, hown, hts, hK, hlk, hfr, hlo, hX⟩, hmc, hms, rfl⟩ := hG
  intro ad H locs ls he hP hD hS hl
  have e1 : ad (1000 + i) = ad0 (1000 + i) := he.2.1 _ (Or.inr (by omega))
  have e2 : ad (2000 + i) = ad0 (2000 + i) := he.2.1 _ (Or.inr (by omega))
  have k1 := k ad H locs ls he hP hD hS hl
  show W p l e R s m args below meth c H locs Z.2.1 Z.2.2 Q (F0 m pc ls (.ref (ad (1000 + i)) :: st.map (gtr ad)))
  rw [e1]
  refine vk_getf hx hb (hX.1.1 i hi).2.2.1 hS hown (hts _ hf) (fun _ h => h) hd ?_
  show W p l e R s m args below meth c H locs Z.2.1 Z.2.2 Q (F0 m (pc + 3) ls (.ref (ad0 (2000 + i)) :: st.map (gtr ad)))
  rw [← e2]
  exact k1
theorem r_strC {d mc ms : Nat} {own : String} {cc : ByteArray} {nL : Nat} {G : gJ} (hG : gS d mc ms own cc nL G) {Z : Nat × Nat × Nat} {pc : Nat} {L : List (Option Value)} {st : List Value} {M : gM} (i : Nat) (hi : i < 10) {index : Nat} (hf : Cond.fieldLink own index "java/lang/String" "coder" "B" ∈ gT) (hd : decode cc pc = .ok (.getfield index, 3)) (k : G Z (pc + 3) L (.int 0 :: st) M) : G Z pc L (.ref (1000 + i) :: st) M := by
  obtain ⟨p, l, e, R, s, m, args, below, meth, c, D, dA, n0, ad0, Q, ⟨hx, hb, hml, hown, hts, hK, hlk, hfr, hlo, hX⟩, hmc, hms, rfl⟩ := hG
  intro ad H locs ls he hP hD hS hl
  have e1 : ad (1000 + i) = ad0 (1000 + i) := he.2.1 _ (Or.inr (by omega))
  have k1 := k ad H locs ls he hP hD hS hl
  show W p l e R s m args below meth c H locs Z.2.1 Z.2.2 Q (F0 m pc ls (.ref (ad (1000 + i)) :: st.map (gtr ad)))
  rw [e1]
  exact vk_getf hx hb (hX.1.1 i hi).2.1 hS hown (hts _ hf) (fun _ h => h) hd k1
theorem r_strL {d mc ms : Nat} {own : String} {cc : ByteArray} {nL : Nat} {G : gJ} (hG : gS d mc ms own cc nL G) {Z : Nat × Nat × Nat} {pc : Nat} {L : List (Option Value)} {st : List Value} {M : gM} (i : Nat) (hi : i < 10) (hd : decode cc pc = .ok (.arraylength, 1)) (k : G Z (pc + 1) L (.int (nI (glen.getD i 0)) :: st) M) : G Z pc L (.ref (2000 + i) :: st) M := by
  obtain ⟨p, l, e, R, s, m, args, below, meth, c, D, dA, n0, ad0, Q, ⟨hx, hb, hml, hown, hts, hK, hlk, hfr, hlo, hX⟩, hmc, hms, rfl⟩ := hG
  intro ad H locs ls he hP hD hS hl
  have e2 : ad (2000 + i) = ad0 (2000 + i) := he.2.1 _ (Or.inr (by omega))
  have k1 := k ad H locs ls he hP hD hS hl
  show W p l e R s m args below meth c H locs Z.2.1 Z.2.2 Q (F0 m pc ls (.ref (ad (2000 + i)) :: st.map (gtr ad)))
  rw [e2]
  exact va_tlen hx hb (hX.1.1 i hi).2.2.2 hS rfl hd k1
theorem r_strB {d mc ms : Nat} {own : String} {cc : ByteArray} {nL : Nat} {G : gJ} (hG : gS d mc ms own cc nL G) {Z : Nat × Nat × Nat} {pc : Nat} {L : List (Option Value)} {st : List Value} {M : gM} (i q : Nat) (hi : i < 10) (hq : q < glen.getD i 0) (hd : decode cc pc = .ok (.baload, 1)) (k : G Z (pc + 1) L (.int ((gbyt.getD i []).getD q 0) :: st) M) : G Z pc L (.int (nI q) :: .ref (2000 + i) :: st) M := by
  obtain ⟨p, l, e, R, s, m, args, below, meth, c, D, dA, n0, ad0, Q, ⟨hx, hb, hml, hown, hts, hK, hlk, hfr, hlo, hX⟩, hmc, hms, rfl⟩ := hG
  intro ad H locs ls he hP hD hS hl
  have e2 : ad (2000 + i) = ad0 (2000 + i) := he.2.1 _ (Or.inr (by omega))
  have k1 := k ad H locs ls he hP hD hS hl
  show W p l e R s m args below meth c H locs Z.2.1 Z.2.2 Q (F0 m pc ls (.int (nI q) :: .ref (ad (2000 + i)) :: st.map (gtr ad)))
  rw [e2]
  have h7 : glen.getD i 0 ≤ 6 := (by decide : ∀ i, i < 10 → glen.getD i 0 ≤ 6) i hi
  exact va_tb hx hb (hX.1.1 i hi).2.2.2 hS (vp_in_nI hq (by omega)) (by rw [nI_clamp (by omega)]; rfl) hd k1
theorem r_compact {d mc ms : Nat} {own : String} {cc : ByteArray} {nL : Nat} {G : gJ} (hG : gS d mc ms own cc nL G) {Z : Nat × Nat × Nat} {pc : Nat} {L : List (Option Value)} {st : List Value} {M : gM} {index : Nat} (hf : Cond.fieldLink own index "java/lang/String" "COMPACT_STRINGS" "Z" ∈ gT) (hd : decode cc pc = .ok (.getstatic index, 3)) (k : G Z (pc + 3) L (.int 1 :: st) M) : G Z pc L st M := by
  obtain ⟨p, l, e, R, s, m, args, below, meth, c, D, dA, n0, ad0, Q, ⟨hx, hb, hml, hown, hts, hK, hlk, hfr, hlo, hX⟩, hmc, hms, rfl⟩ := hG
  intro ad H locs ls he hP hD hS hl
  exact va_gets hx hb hX.2.2.1.1 hS hown (hts _ hf) (fun _ h => h) hd (k ad H locs ls he hP hD hS hl)
theorem r_fmt {d mc ms : Nat} {own : String} {cc : ByteArray} {nL : Nat} {G : gJ} (hG : gS d mc ms own cc nL G) {Z : Nat × Nat × Nat} {pc : Nat} {L : List (Option Value)} {st : List Value} {M : gM} {index : Nat} (hf : Cond.fieldLink own index gPc "SIOOBE_FORMATTER" gFm ∈ gT) (hd : decode cc pc = .ok (.getstatic index, 3)) (k : ∀ v, v = .null ∨ v = .ref 4000 → G Z (pc + 3) L (v :: st) M) : G Z pc L st M := by
  obtain ⟨p, l, e, R, s, m, args, below, meth, c, D, dA, n0, ad0, Q, ⟨hx, hb, hml, hown, hts, hK, hlk, hfr, hlo, hX⟩, hmc, hms, rfl⟩ := hG
  intro ad H locs ls he hP hD hS hl
  rcases hX.2.2.1.2.1 with hZ | hZ
  · exact va_gets hx hb hZ hS hown (hts _ hf) (fun _ h => h) hd (k .null (Or.inl rfl) ad H locs ls he hP hD hS hl)
  · have e1 : ad 4000 = ad0 4000 := he.2.1 _ (Or.inr (by omega))
    have k1 := k (.ref 4000) (Or.inr rfl) ad H locs ls he hP hD hS hl
    refine va_gets hx hb hZ hS hown (hts _ hf) (fun _ h => h) hd ?_
    rw [← e1]
    exact k1
def gVs (own : String) (index : Nat) (y : MethodName) (cy : ByteArray) (nLy : Nat) (ret : Option FieldType) (na : Nat) : Prop := gLk own index y cy nLy ret na ∧ Cond.instanceMethod y ∈ gT ∧ Cond.selects y.cls y y ∈ gT ∧ y.cls = "java/lang/String"
set_option maxHeartbeats 1000000 in
theorem r_callT {d mc ms : Nat} {own : String} {cc : ByteArray} {nL : Nat} {G : gJ} (hG : gS d mc ms own cc nL G) {Z : Nat × Nat × Nat} {pc : Nat} {L : List (Option Value)} {st : List Value} {M : gM} {index : Nat} {y : MethodName} {cy : ByteArray} {nLy : Nat} {ret : Option FieldType} {na d' i : Nat} {P : Option Value → gM → Prop} (As : List Value) (hm : gVs own index y cy nLy ret na) (hd : decode cc pc = .ok (.invokevirtual index, 3)) (hi : i < 10) (hna : As.length = na) (hdd : d' + 1 ≤ d) (hc : Z.2.1 ≤ mc ∧ Z.2.2 ≤ ms) (hst : (st.map fun v => v.category).sum ≤ 8)
    (hC : gC d' 0 0 y cy nLy ret Z.1 Z.1 (.ref (1000 + i) :: As) M P) (kk : ∀ (r : Option Value) (M' : gM), P r M' → G Z (pc + 3) L (r.toList ++ st) M') : G Z pc L (As.reverse ++ .ref (1000 + i) :: st) M := by
  obtain ⟨p, l, e, R, s, m, args, below, meth, c, D, dA, n0, ad0, Q, ⟨hx, hb, hml, hown, hts, hK, hlk, hfr, hlo, hX⟩, hmc, hms, rfl⟩ := hG
  intro ad H locs ls he hP hD hS hl
  obtain ⟨⟨h1, h2, h3, h4, h5⟩, h6, h7, h8⟩ := hm
  have hcw : CallW R s args own y.cls index y cy nLy ret (gWs y cy nLy ret) (gRm d' 0 0) 0 0 na := ⟨callB_of na hts (gT_good h2) rfl rfl rfl (hts _ h3) (hts _ h1) h4 ⟨Nat.le_trans hdd hfr, by show 8 + (nLy + 11) + 40 * d' ≤ R.locals; omega⟩, hts _ h6, hts _ h7⟩
  have e1 : ad (1000 + i) = ad0 (1000 + i) := he.2.1 _ (Or.inr (by omega))
  have hrecv : ∃ cell : Cell, H[ad (1000 + i)]? = some cell ∧ cell.vm.isStatics = false ∧ s.vm.findClass y.cls = some cell.cls := by
    rw [e1, h8]
    exact vk_recv (adK := fun i => ad0 (1000 + i)) (i := i) hX.1 hi hS
  have hcat : (st.map (gtr ad)).map (fun v => v.category) = st.map (fun v => v.category) := by
    rw [List.map_map]
    exact List.map_congr_left (fun v _ => gtr_cat ad v)
  refine g_back (n := Z.1) (n' := Z.1) (mc' := 0) (ms' := 0) (rest := st) (a := (Value.ref (ad (1000 + i)) :: As.map (gtr ad)).toArray) (va_runV (As := As.map (gtr ad)) ⟨hx, hb, hml, hown, hts⟩ (hC l D dA ad H.size) hcw ⟨gPre_blind, hrecv, fun U hU hW => ⟨rfl, by rw [hU], by rw [hU]; exact hP, hD.weaken (fun _ _ _ _ => trivial), va_K.moved hW.alike hK, by rw [hU]; exact gX.warm hW (gX_at he hX hD hS)⟩⟩ rfl (by rw [List.length_map]; exact hna) (hl.2.1) ?_ ?_ hd ⟨by rw [hmc]; exact hc.1, by rw [hms]; exact hc.2⟩) he hD hS hl (Or.inl rfl) kk
  · show (As.reverse ++ Value.ref (1000 + i) :: st).map (gtr ad) = _
    rw [List.map_append, List.map_reverse]
    rfl
  · refine lv_room ?_
    rw [hcat]
    exact hst
theorem sk_v : Cond.fieldLink RJ0 9 "java/lang/String" "value" "[B" ∈ gT := gT_at 1293 (by decide +kernel) rfl
theorem sk_c : Cond.fieldLink RJ0 15 "java/lang/String" "coder" "B" ∈ gT := gT_at 1294 (by decide +kernel) rfl
theorem sk_z : Cond.fieldLink RJ0 38 "java/lang/String" "COMPACT_STRINGS" "Z" ∈ gT := gT_at 451 (by decide +kernel) rfl
theorem sk_f : Cond.fieldLink RJ0 1053 gPc "SIOOBE_FORMATTER" gFm ∈ gT := gT_at 467 (by decide +kernel) rfl
theorem mk_J0_335 : gVs RJ0 335 yJ0_coder_7d493 cJ0_coder_7d493 1 (some .byte) 0 := ⟨⟨gT_at 447 (by decide +kernel) rfl, gT_at 450 (by decide +kernel) rfl, gT_at 11 (by decide +kernel) rfl, by decide +kernel, by decide⟩, gT_at 448 (by decide +kernel) rfl, gT_at 449 (by decide +kernel) rfl, rfl⟩
theorem mk_J0_492 : gVs RJ0 492 yJ0_isLatin1_aae02 cJ0_isLatin1_aae02 1 (some .boolean) 0 := ⟨⟨gT_at 457 (by decide +kernel) rfl, gT_at 460 (by decide +kernel) rfl, gT_at 11 (by decide +kernel) rfl, by decide +kernel, by decide⟩, gT_at 458 (by decide +kernel) rfl, gT_at 459 (by decide +kernel) rfl, rfl⟩
theorem mk_X6_100 : gVs RX6 100 yJ0_length_8abf5 cJ0_length_8abf5 1 (some .int) 0 := ⟨⟨gT_at 443 (by decide +kernel) rfl, gT_at 446 (by decide +kernel) rfl, gT_at 11 (by decide +kernel) rfl, by decide +kernel, by decide⟩, gT_at 444 (by decide +kernel) rfl, gT_at 445 (by decide +kernel) rfl, rfl⟩
theorem mk_X6_105 : gVs RX6 105 yJ0_charAt_5068e cJ0_charAt_5068e 2 (some .char) 1 := ⟨⟨gT_at 453 (by decide +kernel) rfl, gT_at 456 (by decide +kernel) rfl, gT_at 11 (by decide +kernel) rfl, by decide +kernel, by decide⟩, gT_at 454 (by decide +kernel) rfl, gT_at 455 (by decide +kernel) rfl, rfl⟩
set_option maxRecDepth 100000 in
set_option maxHeartbeats 400000 in
theorem ct_J0_coder_7d493 {M : gM} {i : Nat} (hi : i < 10) : gC 0 0 0 yJ0_coder_7d493 cJ0_coder_7d493 1 (some .byte) 140 140 [.ref (1000 + i)] M (gI (fun r M9 => r = 0 ∧ M9 = M)) := by
  refine gC_iF (by decide +kernel) (Nat.le_of_ble_eq_true rfl) (fun G hG hE => ?_)
  change G (140, 0, 0) 0 [some (.ref (1000 + i))] [] M
  refine r_compact hG sk_z dJ0_coder_7d493_0 ?_
  refine r_if_eq hG 13 dJ0_coder_7d493_3 (by decide) (fun hc => absurd hc (by decide)) (fun hc => ?_)
  refine r_aload_n hG dJ0_coder_7d493_6 rfl ?_
  refine r_strC hG i hi sk_c dJ0_coder_7d493_7 ?_
  refine r_goto hG 14 dJ0_coder_7d493_10 (by decide) ?_
  refine hE _ _ _ _ _ dJ0_coder_7d493_14 rfl (Nat.le_refl _) (Nat.le_refl _) rfl ⟨rfl, rfl⟩
set_option maxRecDepth 100000 in
set_option maxHeartbeats 400000 in
theorem ct_J0_isLatin1_aae02 {M : gM} {i : Nat} (hi : i < 10) : gC 0 0 0 yJ0_isLatin1_aae02 cJ0_isLatin1_aae02 1 (some .boolean) 140 140 [.ref (1000 + i)] M (gI (fun r M9 => r = 1 ∧ M9 = M)) := by
  refine gC_iF (by decide +kernel) (Nat.le_of_ble_eq_true rfl) (fun G hG hE => ?_)
  change G (140, 0, 0) 0 [some (.ref (1000 + i))] [] M
  refine r_compact hG sk_z dJ0_isLatin1_aae02_0 ?_
  refine r_if_eq hG 17 dJ0_isLatin1_aae02_3 (by decide) (fun hc => absurd hc (by decide)) (fun hc => ?_)
  refine r_aload_n hG dJ0_isLatin1_aae02_6 rfl ?_
  refine r_strC hG i hi sk_c dJ0_isLatin1_aae02_7 ?_
  refine r_if_ne hG 17 dJ0_isLatin1_aae02_10 (by decide) (fun hc => absurd rfl hc) (fun hc => ?_)
  refine r_iconst hG (1) dJ0_isLatin1_aae02_13 (by decide) ?_
  refine r_goto hG 18 dJ0_isLatin1_aae02_14 (by decide) ?_
  refine hE _ _ _ _ _ dJ0_isLatin1_aae02_18 rfl (Nat.le_refl _) (Nat.le_refl _) rfl ⟨rfl, rfl⟩
set_option maxRecDepth 100000 in
set_option maxHeartbeats 400000 in
theorem ct_J0_length_8abf5 {M : gM} {i : Nat} (hi : i < 10) : gC 1 0 0 yJ0_length_8abf5 cJ0_length_8abf5 1 (some .int) 140 140 [.ref (1000 + i)] M (gI (fun r M9 => r = nI (glen.getD i 0) ∧ M9 = M)) := by
  refine gC_iF (by decide +kernel) (Nat.le_of_ble_eq_true rfl) (fun G hG hE => ?_)
  change G (140, 0, 0) 0 [some (.ref (1000 + i))] [] M
  refine r_aload_n hG dJ0_length_8abf5_0 rfl ?_
  refine r_strV hG i hi sk_v dJ0_length_8abf5_1 ?_
  refine r_strL hG i hi dJ0_length_8abf5_4 ?_
  refine r_aload_n hG dJ0_length_8abf5_5 rfl ?_
  refine r_callT (i := i) hG [] mk_J0_335 dJ0_length_8abf5_6 hi rfl (by decide) ⟨Nat.le_refl _, Nat.le_refl _⟩ (Nat.le_of_ble_eq_true rfl) (ct_J0_coder_7d493 hi) (fun r M9 h9 => ?_)
  obtain ⟨x, rfl, rfl, rfl⟩ := h9
  refine r_ishr hG dJ0_length_8abf5_9 ?_
  refine hE _ _ _ _ _ dJ0_length_8abf5_10 rfl (Nat.le_refl _) (Nat.le_refl _) rfl ⟨?_, rfl⟩
  exact (by decide : ∀ i, i < 10 → nI (glen.getD i 0) >>> ((0 : Int32) &&& 31) = nI (glen.getD i 0)) i hi
set_option maxRecDepth 100000 in
set_option maxHeartbeats 400000 in
theorem ct_J3_checkIndex_8e157a {M : gM} {q n : Nat} (hq : q < n) (hn : n < 1000) : gC 0 0 0 yJ3_checkIndex_8e157 cJ3_checkIndex_8e157 3 (some .int) 140 140 [.int (nI q), .int (nI n), .null] M (gI (fun r M9 => r = nI q ∧ M9 = M)) := by
  refine gC_iF (by decide +kernel) (Nat.le_of_ble_eq_true rfl) (fun G hG hE => ?_)
  change G (140, 0, 0) 0 [some (.int (nI q)), some (.int (nI n)), some (.null)] [] M
  skip
  refine r_iload_n hG dJ3_checkIndex_8e157_0 rfl ?_
  refine r_if_lt hG 9 dJ3_checkIndex_8e157_1 (by decide) (fun hc => absurd hc (nI_pos (by omega))) (fun hc => ?_)
  refine r_iload_n hG dJ3_checkIndex_8e157_4 rfl ?_
  refine r_iload_n hG dJ3_checkIndex_8e157_5 rfl ?_
  refine r_icmp_lt hG 16 dJ3_checkIndex_8e157_6 (by decide) (fun hc => ?_) (fun hc => absurd (nI_lt hq (by omega)) hc)
  refine r_iload_n hG dJ3_checkIndex_8e157_16 rfl ?_
  refine hE _ _ _ _ _ dJ3_checkIndex_8e157_17 rfl (Nat.le_refl _) (Nat.le_refl _) rfl ⟨rfl, rfl⟩
set_option maxRecDepth 100000 in
set_option maxHeartbeats 400000 in
theorem ct_J3_checkIndex_8e157b {M : gM} {q n : Nat} (hq : q < n) (hn : n < 1000) : gC 0 0 0 yJ3_checkIndex_8e157 cJ3_checkIndex_8e157 3 (some .int) 140 140 [.int (nI q), .int (nI n), .ref 4000] M (gI (fun r M9 => r = nI q ∧ M9 = M)) := by
  refine gC_iF (by decide +kernel) (Nat.le_of_ble_eq_true rfl) (fun G hG hE => ?_)
  change G (140, 0, 0) 0 [some (.int (nI q)), some (.int (nI n)), some (.ref 4000)] [] M
  skip
  refine r_iload_n hG dJ3_checkIndex_8e157_0 rfl ?_
  refine r_if_lt hG 9 dJ3_checkIndex_8e157_1 (by decide) (fun hc => absurd hc (nI_pos (by omega))) (fun hc => ?_)
  refine r_iload_n hG dJ3_checkIndex_8e157_4 rfl ?_
  refine r_iload_n hG dJ3_checkIndex_8e157_5 rfl ?_
  refine r_icmp_lt hG 16 dJ3_checkIndex_8e157_6 (by decide) (fun hc => ?_) (fun hc => absurd (nI_lt hq (by omega)) hc)
  refine r_iload_n hG dJ3_checkIndex_8e157_16 rfl ?_
  refine hE _ _ _ _ _ dJ3_checkIndex_8e157_17 rfl (Nat.le_refl _) (Nat.le_refl _) rfl ⟨rfl, rfl⟩
set_option maxRecDepth 100000 in
set_option maxHeartbeats 400000 in
theorem ct_J0_checkIndex_df160 {M : gM} {q n : Nat} (hq : q < n) (hn : n < 1000) : gC 1 0 0 yJ0_checkIndex_df160 cJ0_checkIndex_df160 2 none 140 140 [.int (nI q), .int (nI n)] M (gV (fun M9 => M9 = M)) := by
  refine gC_vF (by decide +kernel) (Nat.le_of_ble_eq_true rfl) (fun G hG hE => ?_)
  change G (140, 0, 0) 0 [some (.int (nI q)), some (.int (nI n))] [] M
  refine r_iload_n hG dJ0_checkIndex_df160_0 rfl ?_
  refine r_iload_n hG dJ0_checkIndex_df160_1 rfl ?_
  refine r_fmt hG sk_f dJ0_checkIndex_df160_2 (fun v hv => ?_)
  rcases hv with rfl | rfl
  · refine r_callS hG [.int (nI q), .int (nI n), .null] mk_J0_1059 dJ0_checkIndex_df160_5 rfl (by decide) ⟨Nat.le_refl _, Nat.le_refl _⟩ (Nat.le_of_ble_eq_true rfl) (ct_J3_checkIndex_8e157a hq hn) (fun r M9 h9 => ?_)
    obtain ⟨x, rfl, rfl, rfl⟩ := h9
    refine r_pop hG dJ0_checkIndex_df160_8 rfl ?_
    refine hE _ _ _ _ dJ0_checkIndex_df160_9 rfl (Nat.le_refl _) (Nat.le_refl _) rfl
  · refine r_callS hG [.int (nI q), .int (nI n), .ref 4000] mk_J0_1059 dJ0_checkIndex_df160_5 rfl (by decide) ⟨Nat.le_refl _, Nat.le_refl _⟩ (Nat.le_of_ble_eq_true rfl) (ct_J3_checkIndex_8e157b hq hn) (fun r M9 h9 => ?_)
    obtain ⟨x, rfl, rfl, rfl⟩ := h9
    refine r_pop hG dJ0_checkIndex_df160_8 rfl ?_
    refine hE _ _ _ _ dJ0_checkIndex_df160_9 rfl (Nat.le_refl _) (Nat.le_refl _) rfl
set_option maxRecDepth 100000 in
set_option maxHeartbeats 400000 in
theorem ct_J1_charAt_3b067 {M : gM} {i q : Nat} (hi : i < 10) (hq : q < glen.getD i 0) : gC 2 0 0 yJ1_charAt_3b067 cJ1_charAt_3b067 2 (some .char) 140 140 [.ref (2000 + i), .int (nI q)] M (gI (fun r M9 => r = (gbyt.getD i []).getD q 0 ∧ M9 = M)) := by
  refine gC_iF (by decide +kernel) (Nat.le_of_ble_eq_true rfl) (fun G hG hE => ?_)
  change G (140, 0, 0) 0 [some (.ref (2000 + i)), some (.int (nI q))] [] M
  have h7 : glen.getD i 0 ≤ 6 := (by decide : ∀ i, i < 10 → glen.getD i 0 ≤ 6) i hi
  have hb : ∀ q, q < 6 → q < glen.getD i 0 → (((gbyt.getD i []).getD q 0 &&& 255).toUInt32 % 65536).toInt32 = (gbyt.getD i []).getD q 0 := (by decide : ∀ i, i < 10 → ∀ q, q < 6 → q < glen.getD i 0 → (((gbyt.getD i []).getD q 0 &&& 255).toUInt32 % 65536).toInt32 = (gbyt.getD i []).getD q 0) i hi
  have hn : ∀ q, q < 6 → q < glen.getD i 0 → narrow .char (.int ((gbyt.getD i []).getD q 0)) = .int ((gbyt.getD i []).getD q 0) := fun q h1 h2 => by rw [← hb q h1 h2]; exact pk_nc _
  refine r_iload_n hG dJ1_charAt_3b067_0 rfl ?_
  refine r_aload_n hG dJ1_charAt_3b067_1 rfl ?_
  refine r_strL hG i hi dJ1_charAt_3b067_2 ?_
  refine r_callS hG [.int (nI q), .int (nI (glen.getD i 0))] mk_J1_9 dJ1_charAt_3b067_3 rfl (by decide) ⟨Nat.le_refl _, Nat.le_refl _⟩ (Nat.le_of_ble_eq_true rfl) (ct_J0_checkIndex_df160 hq (by omega)) (fun r M9 h9 => ?_)
  obtain ⟨rfl, rfl⟩ := h9
  refine r_aload_n hG dJ1_charAt_3b067_6 rfl ?_
  refine r_iload_n hG dJ1_charAt_3b067_7 rfl ?_
  refine r_strB hG i q hi hq dJ1_charAt_3b067_8 ?_
  refine r_sipush hG (255) dJ1_charAt_3b067_9 (by decide) ?_
  refine r_iand hG dJ1_charAt_3b067_12 ?_
  refine r_i2c hG dJ1_charAt_3b067_13 ?_
  refine r_top _ (hb q (by omega) hq) ?_
  refine hE _ _ _ _ _ dJ1_charAt_3b067_14 rfl (Nat.le_refl _) (Nat.le_refl _) (hn q (by omega) hq) ⟨rfl, rfl⟩
set_option maxRecDepth 100000 in
set_option maxHeartbeats 400000 in
theorem ct_J0_charAt_5068e {M : gM} {i q : Nat} (hi : i < 10) (hq : q < glen.getD i 0) : gC 3 0 0 yJ0_charAt_5068e cJ0_charAt_5068e 2 (some .char) 140 140 [.ref (1000 + i), .int (nI q)] M (gI (fun r M9 => r = (gbyt.getD i []).getD q 0 ∧ M9 = M)) := by
  refine gC_iF (by decide +kernel) (Nat.le_of_ble_eq_true rfl) (fun G hG hE => ?_)
  change G (140, 0, 0) 0 [some (.ref (1000 + i)), some (.int (nI q))] [] M
  have h7 : glen.getD i 0 ≤ 6 := (by decide : ∀ i, i < 10 → glen.getD i 0 ≤ 6) i hi
  have hn : ∀ q, q < 6 → q < glen.getD i 0 → narrow .char (.int ((gbyt.getD i []).getD q 0)) = .int ((gbyt.getD i []).getD q 0) := fun q h1 h2 => by
    rw [← (by decide : ∀ i, i < 10 → ∀ q, q < 6 → q < glen.getD i 0 → (((gbyt.getD i []).getD q 0 &&& 255).toUInt32 % 65536).toInt32 = (gbyt.getD i []).getD q 0) i hi q h1 h2]
    exact pk_nc _
  refine r_aload_n hG dJ0_charAt_5068e_0 rfl ?_
  refine r_callT (i := i) hG [] mk_J0_492 dJ0_charAt_5068e_1 hi rfl (by decide) ⟨Nat.le_refl _, Nat.le_refl _⟩ (Nat.le_of_ble_eq_true rfl) (ct_J0_isLatin1_aae02 hi) (fun r M9 h9 => ?_)
  obtain ⟨x, rfl, rfl, rfl⟩ := h9
  refine r_if_eq hG 16 dJ0_charAt_5068e_4 (by decide) (fun hc => absurd hc (by decide)) (fun hc => ?_)
  refine r_aload_n hG dJ0_charAt_5068e_7 rfl ?_
  refine r_strV hG i hi sk_v dJ0_charAt_5068e_8 ?_
  refine r_iload_n hG dJ0_charAt_5068e_11 rfl ?_
  refine r_callS hG [.ref (2000 + i), .int (nI q)] mk_J0_495 dJ0_charAt_5068e_12 rfl (by decide) ⟨Nat.le_refl _, Nat.le_refl _⟩ (Nat.le_of_ble_eq_true rfl) (ct_J1_charAt_3b067 hi hq) (fun r M9 h9 => ?_)
  obtain ⟨x, rfl, rfl, rfl⟩ := h9
  refine hE _ _ _ _ _ dJ0_charAt_5068e_15 rfl (Nat.le_refl _) (Nat.le_refl _) (hn q (by omega) hq) ⟨rfl, rfl⟩

/-! the law from its entry -/
def stm (i : Nat) : Term := .string "WaterCarts$Tape" (gsx.getD i (0, "")).1
def gvF : List Cond := flatC (Jvm.Cond.and given_1 narrow_1)
theorem gv_ex : ∀ i, i < 10 → Cond.exactly (stm i) "java/lang/String" ∈ gvF := by decide +kernel
theorem gv_co : ∀ i, i < 10 → Cond.eq (.field (stm i) "java/lang/String" "coder" "B") (.int 0) ∈ gvF := by decide +kernel
theorem gv_ar : ∀ i, i < 10 → Cond.arrayOf (.field (stm i) "java/lang/String" "value" "[B") .byte ∈ gvF := by decide +kernel
theorem gv_le : ∀ i, i < 10 → Cond.eq (.length (.field (stm i) "java/lang/String" "value" "[B")) (.int (Int32.ofNat (glen.getD i 0))) ∈ gvF := by decide +kernel
theorem gv_el : ∀ i, i < 10 → ∀ j, j < glen.getD i 0 → Cond.eq (.elem (.field (stm i) "java/lang/String" "value" "[B") (.int (Int32.ofNat j))) (.int ((gbyt.getD i []).getD j 0)) ∈ gvF := by decide +kernel
theorem gv_ne : ∀ i, i < 10 → ∀ j, j < 10 → (i ≠ j → Cond.not (Cond.eq (stm i) (stm j)) ∈ gvF ∨ Cond.not (Cond.eq (stm j) (stm i)) ∈ gvF) := by decide +kernel
theorem gv_sr : ∀ i, i < 10 → Cond.stringRef "WaterCarts$Tape" (gsx.getD i (0, "")).1 (gsx.getD i (0, "")).2 ∈ lw_tbl := by decide +kernel
theorem gXl_in : ∀ w ∈ gXl, w ∈ lw_tbl := by decide +kernel
theorem isRef_v {args : Array Value} {s : State} {t : Term} (h : (Cond.isRef t).before args s = true) : t.eval args s none [] s = some .null ∨ ∃ a, t.eval args s none [] s = some (.ref a) := by
  simp only [Cond.before, Cond.holds, Cond.value] at h
  cases e : t.eval args s none [] s with
  | none => rw [e] at h; simp at h
  | some v =>
    rw [e] at h
    cases v <;> first | exact Or.inl rfl | exact Or.inr ⟨_, rfl⟩ | (simp [Value.isRef] at h)
set_option maxRecDepth 100000 in
set_option maxHeartbeats 4000000 in
theorem law_walk {b L : Nat} {xs : Nat → Int32} {G : gJ} (hG : gSl b L xs G) (hL : L ≤ 3584) (hO : OpenH) : G (0, 0, 0) 0 [some (.ref 3000), none, none, none, none, none, none] [] Mz := by
  have hS := hG.s
  refine r_new hS nw_L_8 dL_law_0 rfl Mz_f (by decide) (by decide) (by decide) (by simp [gRs]) (by simp [gRs]) ?_
  refine r_Z (1, 1, 15) rfl ?_
  refine r_dup hS dL_law_3 rfl ?_
  refine r_cIP hS in_L_15 dL_law_4 (ct_X8_init Mz_f.up) (by decide) ⟨by decide, by decide⟩ (Nat.le_of_ble_eq_true rfl) (by simp [gRs]) (by simp [gRs]) (fun M9 h9 => ?_)
  rw [h9]
  refine r_Z (88, 88, 3706) rfl ?_
  refine r_astore_n hS dL_law_7 (by decide) ?_
  refine r_loc [some (.ref 3000), some (.ref 0), none, none, none, none, none] rfl ?_
  have f1 := carM_f Mz_f.up
  refine r_new hS nw_L_16 dL_law_8 rfl f1 (by decide) (by decide) (by decide) (by simp [gRs]) (by simp [gRs]) ?_
  refine r_Z (89, 89, 3777) rfl ?_
  refine r_dup hS dL_law_11 rfl ?_
  refine r_cIP hS in_L_18 dL_law_12 (ct_X9_init f1.up) (by decide) ⟨by decide, by decide⟩ (Nat.le_of_ble_eq_true rfl) (by simp [gRs]) (by simp [gRs]) (fun M9 h9 => ?_)
  rw [h9]
  refine r_Z (139, 139, 14698) rfl ?_
  refine r_astore_n hS dL_law_15 (by decide) ?_
  refine r_loc [some (.ref 3000), some (.ref 0), some (.ref 88), none, none, none, none] rfl ?_
  refine r_iconst hS (1) dL_law_16 (by decide) ?_
  refine r_newaJ hS 1 arr_J dL_law_17 rfl Mfin_f (by decide) rfl (by decide) (by decide) (by decide) (by simp [gRs]) (by simp [gRs]) ?_
  refine r_Z (140, 140, 14699) rfl ?_
  refine r_astore_n hS dL_law_19 (by decide) ?_
  refine r_loc [some (.ref 3000), some (.ref 0), some (.ref 88), some (.ref 139), none, none, none] rfl ?_
  refine r_iconst hS (0) dL_law_20 (by decide) ?_
  refine r_istore hS dL_law_21 (by decide) ?_
  refine r_loc [some (.ref 3000), some (.ref 0), some (.ref 88), some (.ref 139), some (.int (nI 0)), none, none] rfl ?_
  refine r_memP hS (stdR false) ref_0 ?_
  exact lp_law hG hL hO L 0 Mst 140 14699 none none Inv_0 (Nat.zero_le _) (by omega) (by omega) (by omega)
set_option maxRecDepth 100000 in
set_option maxHeartbeats 4000000 in
theorem whole_open (hO : OpenH) {p : Program} {e : Env} {s : State} {m : MethodId} {below : List Frame} {meth : Method} {c : Code} (l : Launch) (hfl : l.stackTraces = false) {b L : Nat} {xs : Nat → Int32} (hL : L ≤ 3584) (C0 : lw_At p s m meth c b L xs) : W p l e room_1 s m #[Value.ref b] below meth c s.heap [] 0 0 (lw_Z below #[Value.ref b] s) (entryFrame m ([Value.ref b] : List Value).toArray 7) := by
  obtain ⟨hx, hb, hr, hml, hown, hts, hX, hbl, hlocks, hgv⟩ := C0
  have hgf : ∀ w ∈ gvF, w.before #[Value.ref b] s = true := flat_of_before _ hgv
  have hcl : ∀ k : Nat, ∃ (cC : ClassId) (iS : Nat → Nat), ∀ q : vw_C, vwCl[k]? = some q → u_Kn s q.1 q.2.1 q.2.2 cC iS := fun k => match k with
    | 0 => by
      obtain ⟨cC, iS, h⟩ := u_known (C := RX0) (T := TX0) (N := 4) (n := 4) hts inX0 (hts (.instantiable RX0 4) (by decide +kernel))
      exact ⟨cC, iS, fun q hq => by cases hq; exact h⟩
    | 1 => by
      obtain ⟨cC, iS, h⟩ := u_known (C := RX1) (T := TX1) (N := 8) (n := 8) hts inX1 (hts (.instantiable RX1 8) (by decide +kernel))
      exact ⟨cC, iS, fun q hq => by cases hq; exact h⟩
    | 2 => by
      obtain ⟨cC, iS, h⟩ := u_known (C := RX2) (T := TX2) (N := 17) (n := 17) hts inX2 (hts (.instantiable RX2 17) (by decide +kernel))
      exact ⟨cC, iS, fun q hq => by cases hq; exact h⟩
    | 3 => by
      obtain ⟨cC, iS, h⟩ := u_known (C := RX3) (T := TX3) (N := 5) (n := 5) hts inX3 (hts (.instantiable RX3 5) (by decide +kernel))
      exact ⟨cC, iS, fun q hq => by cases hq; exact h⟩
    | 4 => by
      obtain ⟨cC, iS, h⟩ := u_known (C := RX4) (T := TX4) (N := 5) (n := 5) hts inX4 (hts (.instantiable RX4 5) (by decide +kernel))
      exact ⟨cC, iS, fun q hq => by cases hq; exact h⟩
    | 5 => by
      obtain ⟨cC, iS, h⟩ := u_known (C := RX5) (T := TX5) (N := 9) (n := 9) hts inX5 (hts (.instantiable RX5 9) (by decide +kernel))
      exact ⟨cC, iS, fun q hq => by cases hq; exact h⟩
    | 6 => by
      obtain ⟨cC, iS, h⟩ := u_known (C := RX6) (T := TX6) (N := 5) (n := 5) hts inX6 (hts (.instantiable RX6 5) (by decide +kernel))
      exact ⟨cC, iS, fun q hq => by cases hq; exact h⟩
    | 7 => by
      obtain ⟨cC, iS, h⟩ := u_known (C := RX7) (T := TX7) (N := 11) (n := 11) hts inX7 (hts (.instantiable RX7 11) (by decide +kernel))
      exact ⟨cC, iS, fun q hq => by cases hq; exact h⟩
    | 8 => by
      obtain ⟨cC, iS, h⟩ := u_known (C := RX8) (T := TX8) (N := 15) (n := 15) hts inX8 (hts (.instantiable RX8 15) (by decide +kernel))
      exact ⟨cC, iS, fun q hq => by cases hq; exact h⟩
    | 9 => by
      obtain ⟨cC, iS, h⟩ := u_known (C := RX9) (T := TX9) (N := 71) (n := 71) hts inX9 (hts (.instantiable RX9 71) (by decide +kernel))
      exact ⟨cC, iS, fun q hq => by cases hq; exact h⟩
    | k + 10 => ⟨0, fun _ => 0, fun q hq => by simp [vwCl] at hq⟩
  obtain ⟨cI, kI, mI, aI1, aI2, aI3⟩ := Cond.arrayClass_spec (hts (.arrayClass .int) (by decide +kernel))
  have KI : ArrOfT s cI .int ∧ va_RA s cI .int := ⟨fun n z => ⟨(fun k e => nomatch e), kI, aI2, mI, aI3⟩, aI1⟩
  obtain ⟨cJ, kJ, mJ, aJ1, aJ2, aJ3⟩ := Cond.arrayClass_spec (hts (.arrayClass .long) (by decide +kernel))
  have KJ : ArrOfT s cJ .long ∧ va_RA s cJ .long := ⟨fun n z => ⟨(fun k e => nomatch e), kJ, aJ2, mJ, aJ3⟩, aJ1⟩
  obtain ⟨cC, kC, mC, aC1, aC2, aC3⟩ := Cond.arrayClass_spec (hts (.arrayClass .char) (by decide +kernel))
  have KC : ArrOfT s cC .char ∧ va_RA s cC .char := ⟨fun n z => ⟨(fun k e => nomatch e), kC, aC2, mC, aC3⟩, aC1⟩
  obtain ⟨cZ, kZ, mZ, aZ1, aZ2, aZ3⟩ := Cond.arrayClass_spec (hts (.arrayClass .boolean) (by decide +kernel))
  have KZ : ArrOfT s cZ .boolean ∧ va_RA s cZ .boolean := ⟨fun n z => ⟨(fun k e => nomatch e), kZ, aZ2, mZ, aZ3⟩, aZ1⟩
  obtain ⟨mVillage, cVillage, kVillage, aVillage1, -, aVillage2, aVillage3, aVillage4⟩ := Cond.arrayOver_spec (hts (.arrayOver (.object "WaterCarts$Village")) (by decide +kernel))
  have KVillage : ArrOfT s cVillage (.object "WaterCarts$Village") ∧ va_RA s cVillage (.object "WaterCarts$Village") := ⟨fun n z => ⟨(fun k e => nomatch e), kVillage, aVillage2, mVillage, aVillage3⟩, kVillage, mVillage, aVillage2, aVillage3, aVillage1, aVillage4⟩
  obtain ⟨mSpring, cSpring, kSpring, aSpring1, -, aSpring2, aSpring3, aSpring4⟩ := Cond.arrayOver_spec (hts (.arrayOver (.object "WaterCarts$Spring")) (by decide +kernel))
  have KSpring : ArrOfT s cSpring (.object "WaterCarts$Spring") ∧ va_RA s cSpring (.object "WaterCarts$Spring") := ⟨fun n z => ⟨(fun k e => nomatch e), kSpring, aSpring2, mSpring, aSpring3⟩, kSpring, mSpring, aSpring2, aSpring3, aSpring1, aSpring4⟩
  obtain ⟨mTanker, cTanker, kTanker, aTanker1, -, aTanker2, aTanker3, aTanker4⟩ := Cond.arrayOver_spec (hts (.arrayOver (.object "WaterCarts$Tanker")) (by decide +kernel))
  have KTanker : ArrOfT s cTanker (.object "WaterCarts$Tanker") ∧ va_RA s cTanker (.object "WaterCarts$Tanker") := ⟨fun n z => ⟨(fun k e => nomatch e), kTanker, aTanker2, mTanker, aTanker3⟩, kTanker, mTanker, aTanker2, aTanker3, aTanker1, aTanker4⟩
  obtain ⟨mBore, cBore, kBore, aBore1, -, aBore2, aBore3, aBore4⟩ := Cond.arrayOver_spec (hts (.arrayOver (.object "WaterCarts$Bore")) (by decide +kernel))
  have KBore : ArrOfT s cBore (.object "WaterCarts$Bore") ∧ va_RA s cBore (.object "WaterCarts$Bore") := ⟨fun n z => ⟨(fun k e => nomatch e), kBore, aBore2, mBore, aBore3⟩, kBore, mBore, aBore2, aBore3, aBore1, aBore4⟩
  obtain ⟨m8, c8, k8, a81, a82, a83, a84⟩ := Cond.arrayOver_specA (t := .int) (hts (.arrayOver (.array .int)) (by decide +kernel))
  have K8 : ArrOfT s c8 (.array .int) ∧ va_RA s c8 (.array .int) := ⟨fun n z => ⟨(fun k e => nomatch e), k8, a82, m8, a83⟩, a84⟩
  obtain ⟨dC, dI, hKc⟩ : ∃ (dC : Nat → ClassId) (dI : Nat → Nat → Nat), ∀ (k : Nat) (q : vw_C), vwCl[k]? = some q → u_Kn s q.1 q.2.1 q.2.2 (dC k) (dI k) := ⟨fun k => Classical.choose (hcl k), fun k => Classical.choose (Classical.choose_spec (hcl k)), fun k => Classical.choose_spec (Classical.choose_spec (hcl k))⟩
  obtain ⟨dA, hdA⟩ : ∃ dA : Nat → ClassId, dA 0 = cI ∧ dA 1 = cJ ∧ dA 2 = cC ∧ dA 3 = cZ ∧ dA 4 = cVillage ∧ dA 5 = cSpring ∧ dA 6 = cTanker ∧ dA 7 = cBore ∧ dA 8 = c8 := ⟨fun t => [cI, cJ, cC, cZ, cVillage, cSpring, cTanker, cBore, c8].getD t 0, rfl, rfl, rfl, rfl, rfl, rfl, rfl, rfl, rfl⟩
  have hK : va_K (dC, dI) vwCl (gtys dA) s := by
    refine ⟨hKc, fun k q hk => ?_⟩
    obtain ⟨d0, d1, d2, d3, d4, d5, d6, d7, d8⟩ := hdA
    unfold gtys at hk
    rw [d0, d1, d2, d3, d4, d5, d6, d7, d8] at hk
    match k, hk with
    | 0, hk => cases hk; exact KI
    | 1, hk => cases hk; exact KJ
    | 2, hk => cases hk; exact KC
    | 3, hk => cases hk; exact KZ
    | 4, hk => cases hk; exact KVillage
    | 5, hk => cases hk; exact KSpring
    | 6, hk => cases hk; exact KTanker
    | 7, hk => cases hk; exact KBore
    | 8, hk => cases hk; exact K8
    | k + 9, hk => simp at hk
  have hA0 : ∀ a : Nat, a < s.heap.size → ¬ (fun q : Nat => s.heap.size ≤ q) a := fun a h z => absurd h (Nat.not_lt.mpr z)
  obtain ⟨adK, adV, hvk, hev⟩ := vk_Sof (args := #[Value.ref b]) (s := s) (N := 10) (tm := stm) (len := glen) (byt := gbyt) (A := fun q : Nat => s.heap.size ≤ q) (by decide) (fun i hi => hgf _ (gv_ex i hi)) (fun i hi => hgf _ (gv_co i hi)) (fun i hi => hgf _ (gv_ar i hi)) (fun i hi => hgf _ (gv_le i hi)) (fun i hi j hj => hgf _ (gv_el i hi j hj)) (fun i j hi hj hn => (gv_ne i hi j hj hn).imp (hgf _) (hgf _)) hA0
  have hZ1 : va_Z "java/lang/String" "COMPACT_STRINGS" "Z" (.int 1) (fun q : Nat => s.heap.size ≤ q) s s.heap := va_Zof (hts _ (by decide +kernel)) (hts _ (by decide +kernel)) (va_eqi (hgf _ (by decide +kernel))) hA0
  have hZ2 : ∃ aF : Nat, va_Z gPc "SIOOBE_FORMATTER" gFm .null (fun q : Nat => s.heap.size ≤ q) s s.heap ∨ va_Z gPc "SIOOBE_FORMATTER" gFm (.ref aF) (fun q : Nat => s.heap.size ≤ q) s s.heap := by
    rcases isRef_v (hgf (.isRef (.static gPc "SIOOBE_FORMATTER" gFm)) (by decide +kernel)) with h | ⟨a, h⟩
    · exact ⟨0, Or.inl (va_Zof (hts _ (by decide +kernel)) (hts _ (by decide +kernel)) h hA0)⟩
    · exact ⟨a, Or.inr (va_Zof (hts _ (by decide +kernel)) (hts _ (by decide +kernel)) h hA0)⟩
  obtain ⟨aF, hZ2⟩ := hZ2
  have hZ3 : vx_Zq Bundle.tN "UNASSIGNED_STACK" Bundle.steD (fun q : Nat => s.heap.size ≤ q) s s.heap := vx_Zqof (hts _ (by decide +kernel)) (hts _ (by decide +kernel)) (hgf _ (by decide +kernel)) hA0
  have hZ4 : vx_Zq Bundle.tN "SUPPRESSED_SENTINEL" Bundle.listD (fun q : Nat => s.heap.size ≤ q) s s.heap := vx_Zqof (hts _ (by decide +kernel)) (hts _ (by decide +kernel)) (hgf _ (by decide +kernel)) hA0
  obtain ⟨ad0, e3, e4, eK, eV⟩ : ∃ ad0 : Nat → Nat, ad0 3000 = b ∧ ad0 4000 = aF ∧ (∀ i, i < 10 → ad0 (1000 + i) = adK i) ∧ ∀ i, i < 10 → ad0 (2000 + i) = adV i := ⟨fun k => if k = 3000 then b else if k = 4000 then aF else if k < 1500 then adK (k - 1000) else adV (k - 2000), rfl, rfl, fun i hi => by
    show (if 1000 + i = 3000 then b else if 1000 + i = 4000 then aF else if 1000 + i < 1500 then adK (1000 + i - 1000) else _) = _
    rw [if_neg (by omega), if_neg (by omega), if_pos (by omega), show 1000 + i - 1000 = i by omega], fun i hi => by
    show (if 2000 + i = 3000 then b else if 2000 + i = 4000 then aF else if 2000 + i < 1500 then _ else adV (2000 + i - 2000)) = _
    rw [if_neg (by omega), if_neg (by omega), if_neg (by omega), show 2000 + i - 2000 = i by omega]⟩
  have hAn : ∀ q, gA ad0 0 s.heap.size q → (fun q : Nat => s.heap.size ≤ q) q := fun q z => z.elim (fun ⟨k, hk, _⟩ => absurd hk (Nat.not_lt_zero k)) id
  have hXg : gX ad0 (gA ad0 0 s.heap.size) s s.heap := by
    refine ⟨⟨fun i hi => ?_, fun i j hi hj e => ?_⟩, fun i hi => ?_, ⟨hZ1.narrow hAn, ?_, hZ3.narrow hAn, hZ4.narrow hAn, fun w hw => va_tabs (gXl_ot w hw) (u := s) rfl (hts w (gXl_in w hw))⟩, fun w hw => ?_, fun C hC => ?_, ?_⟩
    · have h := (hvk.narrow hAn).1 i hi
      show va_O _ (ad0 (1000 + i)) _ _ _ ∧ va_OF _ _ _ _ (ad0 (1000 + i)) _ _ _ ∧ va_OF _ _ _ (.ref (ad0 (2000 + i))) (ad0 (1000 + i)) _ _ _ ∧ va_T _ (ad0 (2000 + i)) _ _ _ _ _
      rw [eK i hi, eV i hi]
      exact h
    · refine hvk.2 i j hi hj ?_
      rw [← eK i hi, ← eK j hj]
      exact e
    · rw [eK i hi]
      exact vk_R.of (hts _ (gv_sr i hi)) (hev i hi)
    · rw [e4]
      exact hZ2.imp (fun h => h.narrow hAn) (fun h => h.narrow hAn)
    · have hm := List.mem_filter.mp hw
      have h2 := hm.2
      simp only [Bool.and_eq_true] at h2
      exact va_tabs h2.1 (u := s) rfl (hts w hm.1)
    · have : C = "WaterCarts$Village" ∨ C = "WaterCarts$Spring" ∨ C = "WaterCarts$Tanker" ∨ C = "WaterCarts$Bore" := by simpa [gOl] using hC
      rcases this with rfl | rfl | rfl | rfl
      · exact va_AO.of (hts (.arrayOver (.object "WaterCarts$Village")) (by decide +kernel))
      · exact va_AO.of (hts (.arrayOver (.object "WaterCarts$Spring")) (by decide +kernel))
      · exact va_AO.of (hts (.arrayOver (.object "WaterCarts$Tanker")) (by decide +kernel))
      · exact va_AO.of (hts (.arrayOver (.object "WaterCarts$Bore")) (by decide +kernel))
    · exact hts (.arrayOver (.array .int)) (by decide +kernel)
  have hGl : gSl b L xs (gG p l e room_1 s m #[Value.ref b] below meth c (dC, dI) dA 0 ad0 7 (lw_Z below #[Value.ref b] s)) := ⟨p, l, e, s, m, below, meth, c, (dC, dI), dA, ad0, ⟨hx, hb, hml, hown, fun w hw => hts w (List.mem_filter.mp hw).1, hK, hlocks, by decide, by decide, hXg⟩, hfl, e3, hX, hbl, hr, rfl⟩
  have hl0 := gl_entry (ad := ad0) (nL := 7) (As := [.ref 3000]) (Nat.le_of_ble_eq_true rfl)
  rw [lg_entry_eq]
  have e5 : [Value.ref 3000].map (gtr ad0) = [Value.ref b] := by
    show [Value.ref (ad0 3000)] = _
    rw [e3]
  rw [e5] at hl0
  exact law_walk hGl hL hO ad0 s.heap [] _ gExt.rf (fun k q h => by simp [gw] at h) ⟨fun i j p q h => by simp [gw] at h, fun k q h => by simp [gw] at h⟩ va_S.rf hl0

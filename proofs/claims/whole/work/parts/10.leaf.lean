set_option maxHeartbeats 1000000 in
theorem gC_iF {d mc ms : Nat} {y : MethodName} {cc : ByteArray} {nL : Nat} {ty : FieldType} {n n' : Nat} {As : List Value} {M : gM} {P : Int32 → gM → Prop} (hy : plainFor y = true) (hlen : (gent As).length ≤ nL)
    (body : ∀ G, gS d mc ms y.cls cc nL G → gEi n' mc ms cc ty P G → G (n, 0, 0) 0 (gpad nL (gent As)) [] M) : gC d mc ms y cc nL (some ty) n n' As M (gI P) := by
  intro l D dA ad sz
  refine va_MetF (cc := cc) (maxL := nL) (ret := some ty) hy rfl ?_
  intro p e s m args below meth c s₁ B hml hv
  obtain ⟨rfl, hsz, hP, hD, hK, hX⟩ := hv
  subst hsz
  have hts := atoms_spec (ws := gWs y cc nL (some ty)) B.pre
  have hown : s.vm.findClass y.cls = some m.cls := findClass_of_methodNamed B.named
  have hlk := B.notSynchronized
  rw [lg_entry_eq]
  refine body (gG p l e (gRm d mc ms) s m (As.map (gtr ad)).toArray below meth c D dA n ad nL (MQ below (gQ D dA n n' ad s.heap.size (gI P)) (As.map (gtr ad)).toArray s mc ms (gA ad n s.heap.size))) ?_ ?_ ad s.heap [] _ gExt.rf hP (gD_self hD) va_S.rf (gl_entry hlen)
  · exact ⟨p, l, e, gRm d mc ms, s, m, _, below, meth, c, D, dA, n, ad, _, ⟨B.exec, B.bytes, hml, hown, fun w hw => hts w (List.mem_cons_of_mem _ hw), hK, hlk, Nat.le_refl _, Nat.le_refl _, hX⟩, rfl, rfl, rfl⟩
  · intro Z pc L x M' hd hz h1 h2 hn hp ad' H locs ls he hP' hD' hS hl
    subst hz
    refine W.widen (k := mc) (n := ms) h1 h2 ?_
    exact W.zret B.exec B.bytes B.returns hn (fun t ht hW => ⟨⟨some (.int x), ad', M', rfl, ⟨x, rfl, hp⟩, he, by rw [ht]; exact hP', hD'⟩, hS.F ht⟩) hS.2.2 hd hlk

def vIn (v : Int32) (n : Nat) : Prop := ∃ q : Nat, q < n ∧ v = nI q
theorem wi_iff {v : Int32} {n : Nat} (hn : n < 1000000) : (0 ≤ v ∧ v ≤ nI n - 1) ↔ vIn v n := by
  have h1 : (nI n - 1).toInt = (n : Int) - 1 := by
    have := pk_sub_toInt (a := n) (b := 1) (by omega) (by omega)
    exact this
  constructor
  · rintro ⟨h, h2⟩
    have h3 : ¬ v < 0 := Int32.not_lt.mpr h
    obtain ⟨j, hj, rfl⟩ := nI_of h3
    refine ⟨j, ?_, rfl⟩
    rw [Int32.le_iff_toInt_le, h1, nI_toInt hj] at h2
    omega
  · rintro ⟨q, hq, rfl⟩
    refine ⟨nI_pos' (by omega), ?_⟩
    rw [Int32.le_iff_toInt_le, h1, nI_toInt (by omega)]
    omega
def sumI (f : Nat → Int32) : Nat → Int32
  | 0 => 0
  | n + 1 => sumI f n + f n
theorem bI_iff {A B : Prop} {x : Int32} (h : A ↔ B) (hb : bI A x) : bI B x := hb.imp (fun q => ⟨q.1, h.mp q.2⟩) (fun q => ⟨q.1, fun z => q.2 (h.mpr z)⟩)
theorem nI_self {x : Int32} (h : ¬ x < 0) : x = nI x.toNatClampNeg := by
  obtain ⟨j, hj, rfl⟩ := nI_of h
  rw [nI_clamp hj]
theorem nI_ltn {x : Int32} {n : Nat} (hn : n < 2147483648) (h : ¬ x < 0) (h2 : ¬ nI n ≤ x) : x.toNatClampNeg < n := by
  obtain ⟨j, hj, rfl⟩ := nI_of h
  rw [nI_clamp hj]
  exact Nat.not_le.mp fun q => h2 (nI_le q hj)
theorem nI_lt7 {x : Int32} (h : ¬ x < 0) (h2 : ¬ 7 ≤ x) : x.toNatClampNeg < 7 := nI_ltn (by decide) h h2
theorem bI_nar {A : Prop} {x : Int32} (hb : bI A x) : narrow .boolean (.int x) = .int x := by
  rcases hb with ⟨rfl, -⟩ | ⟨rfl, -⟩ <;> rfl
theorem bI_fit {A : Prop} {x : Int32} (hb : bI A x) : fits .boolean (.int x) = true := by
  rcases hb with ⟨rfl, -⟩ | ⟨rfl, -⟩ <;> rfl
set_option maxRecDepth 100000 in
set_option maxHeartbeats 1000000 in
theorem ct_J9_min_7cf53 {M : gM} (x y : Int32) : gC 0 0 0 yJ9_min_7cf53 cJ9_min_7cf53 2 (some .int) 140 140 [.int x, .int y] M (gI (fun r M9 => r = mmin x y ∧ M9 = M)) := by
  refine gC_iF (by decide +kernel) (Nat.le_of_ble_eq_true rfl) (fun G hG hE => ?_)
  change G (140, 0, 0) 0 [some (.int x), some (.int y)] [] M
  refine r_iload_n hG dJ9_min_7cf53_0 rfl ?_
  refine r_iload_n hG dJ9_min_7cf53_1 rfl ?_
  refine r_icmp_gt hG 9 dJ9_min_7cf53_2 (by decide) (fun hc2 => ?_) (fun hc2 => ?_)
  · refine r_iload_n hG dJ9_min_7cf53_9 rfl ?_
    refine hE _ _ _ _ _ dJ9_min_7cf53_10 rfl (Nat.le_refl _) (Nat.le_refl _) rfl ?_
    exact ⟨by simp [mmin, hc2], rfl⟩
  · refine r_iload_n hG dJ9_min_7cf53_5 rfl ?_
    refine r_goto hG 10 dJ9_min_7cf53_6 (by decide) ?_
    refine hE _ _ _ _ _ dJ9_min_7cf53_10 rfl (Nat.le_refl _) (Nat.le_refl _) rfl ?_
    exact ⟨by simp [mmin, hc2], rfl⟩

set_option maxRecDepth 100000 in
set_option maxHeartbeats 1000000 in
theorem ct_J9_max_7cf53 {M : gM} (x y : Int32) : gC 0 0 0 yJ9_max_7cf53 cJ9_max_7cf53 2 (some .int) 140 140 [.int x, .int y] M (gI (fun r M9 => r = mmax x y ∧ M9 = M)) := by
  refine gC_iF (by decide +kernel) (Nat.le_of_ble_eq_true rfl) (fun G hG hE => ?_)
  change G (140, 0, 0) 0 [some (.int x), some (.int y)] [] M
  refine r_iload_n hG dJ9_max_7cf53_0 rfl ?_
  refine r_iload_n hG dJ9_max_7cf53_1 rfl ?_
  refine r_icmp_lt hG 9 dJ9_max_7cf53_2 (by decide) (fun hc2 => ?_) (fun hc2 => ?_)
  · refine r_iload_n hG dJ9_max_7cf53_9 rfl ?_
    refine hE _ _ _ _ _ dJ9_max_7cf53_10 rfl (Nat.le_refl _) (Nat.le_refl _) rfl ?_
    exact ⟨by simp [mmax, hc2], rfl⟩
  · refine r_iload_n hG dJ9_max_7cf53_5 rfl ?_
    refine r_goto hG 10 dJ9_max_7cf53_6 (by decide) ?_
    refine hE _ _ _ _ _ dJ9_max_7cf53_10 rfl (Nat.le_refl _) (Nat.le_refl _) rfl ?_
    exact ⟨by simp [mmax, hc2], rfl⟩

set_option maxRecDepth 100000 in
set_option maxHeartbeats 1000000 in
theorem ct_X8_within {M : gM} (n lo hi : Int32) : gC 0 0 0 yX8_within cX8_within 3 (some .boolean) 140 140 [.int n, .int lo, .int hi] M (gI (fun r M9 => bI (lo ≤ n ∧ n ≤ hi) r ∧ M9 = M)) := by
  refine gC_i rfl (Nat.le_of_ble_eq_true rfl) (fun G hG hE => ?_)
  change G (140, 0, 0) 0 [some (.int n), some (.int lo), some (.int hi)] [] M
  refine r_iload_n hG dX8_within_0 rfl ?_
  refine r_iload_n hG dX8_within_1 rfl ?_
  refine r_icmp_lt hG 14 dX8_within_2 (by decide) (fun hc2 => ?_) (fun hc2 => ?_)
  · refine r_iconst hG (0) dX8_within_14 (by decide) ?_
    refine hE _ _ _ _ _ dX8_within_15 rfl (Nat.le_refl _) (Nat.le_refl _) rfl ?_
    exact ⟨Or.inr ⟨rfl, fun q => absurd q.1 (Int32.not_le.mpr hc2)⟩, rfl⟩
  · refine r_iload_n hG dX8_within_5 rfl ?_
    refine r_iload_n hG dX8_within_6 rfl ?_
    refine r_icmp_gt hG 14 dX8_within_7 (by decide) (fun hc7 => ?_) (fun hc7 => ?_)
    · refine r_iconst hG (0) dX8_within_14 (by decide) ?_
      refine hE _ _ _ _ _ dX8_within_15 rfl (Nat.le_refl _) (Nat.le_refl _) rfl ?_
      exact ⟨Or.inr ⟨rfl, fun q => absurd q.2 (Int32.not_le.mpr hc7)⟩, rfl⟩
    · refine r_iconst hG (1) dX8_within_10 (by decide) ?_
      refine r_goto hG 15 dX8_within_11 (by decide) ?_
      refine hE _ _ _ _ _ dX8_within_15 rfl (Nat.le_refl _) (Nat.le_refl _) rfl ?_
      exact ⟨Or.inl ⟨rfl, Int32.not_lt.mp hc2, Int32.not_lt.mp hc7⟩, rfl⟩

set_option maxRecDepth 100000 in
set_option maxHeartbeats 1000000 in
theorem ct_X9_within {M : gM} (n lo hi : Int32) : gC 0 0 0 yX9_within cX9_within 3 (some .boolean) 140 140 [.int n, .int lo, .int hi] M (gI (fun r M9 => bI (lo ≤ n ∧ n ≤ hi) r ∧ M9 = M)) := by
  refine gC_i rfl (Nat.le_of_ble_eq_true rfl) (fun G hG hE => ?_)
  change G (140, 0, 0) 0 [some (.int n), some (.int lo), some (.int hi)] [] M
  refine r_iload_n hG dX9_within_0 rfl ?_
  refine r_iload_n hG dX9_within_1 rfl ?_
  refine r_icmp_lt hG 14 dX9_within_2 (by decide) (fun hc2 => ?_) (fun hc2 => ?_)
  · refine r_iconst hG (0) dX9_within_14 (by decide) ?_
    refine hE _ _ _ _ _ dX9_within_15 rfl (Nat.le_refl _) (Nat.le_refl _) rfl ?_
    exact ⟨Or.inr ⟨rfl, fun q => absurd q.1 (Int32.not_le.mpr hc2)⟩, rfl⟩
  · refine r_iload_n hG dX9_within_5 rfl ?_
    refine r_iload_n hG dX9_within_6 rfl ?_
    refine r_icmp_gt hG 14 dX9_within_7 (by decide) (fun hc7 => ?_) (fun hc7 => ?_)
    · refine r_iconst hG (0) dX9_within_14 (by decide) ?_
      refine hE _ _ _ _ _ dX9_within_15 rfl (Nat.le_refl _) (Nat.le_refl _) rfl ?_
      exact ⟨Or.inr ⟨rfl, fun q => absurd q.2 (Int32.not_le.mpr hc7)⟩, rfl⟩
    · refine r_iconst hG (1) dX9_within_10 (by decide) ?_
      refine r_goto hG 15 dX9_within_11 (by decide) ?_
      refine hE _ _ _ _ _ dX9_within_15 rfl (Nat.le_refl _) (Nat.le_refl _) rfl ?_
      exact ⟨Or.inl ⟨rfl, Int32.not_lt.mp hc2, Int32.not_lt.mp hc7⟩, rfl⟩

set_option maxRecDepth 100000 in
set_option maxHeartbeats 1000000 in
theorem ct_X8_isVillage {M : gM} {b : Bool} (hR : M.2.2 = stdR b) {c : Nat} (hc : M.1 0 7 = nI c) (hl : c < 1000) (v : Int32) : gC 1 0 0 yX8_isVillage cX8_isVillage 2 (some .boolean) 140 140 [.ref 0, .int v] M (gI (fun r M9 => bI (vIn v c) r ∧ M9 = M)) := by
  refine gC_i rfl (Nat.le_of_ble_eq_true rfl) (fun G hG hE => ?_)
  change G (140, 0, 0) 0 [some (.ref 0), some (.int v)] [] M
  refine r_iload_n hG dX8_isVillage_0 rfl ?_
  refine r_iconst hG (0) dX8_isVillage_1 (by decide) ?_
  refine r_aload_n hG dX8_isVillage_2 rfl ?_
  refine r_getIv hG 7 (nI c) fk_X8_60 dX8_isVillage_3 rfl (by decide) rfl hc ?_
  refine r_iconst hG (1) dX8_isVillage_6 (by decide) ?_
  refine r_isub hG dX8_isVillage_7 ?_
  refine r_cSI3 hG mk_X8_55 dX8_isVillage_8 (ct_X8_within _ _ _) (by decide) ⟨Nat.le_refl _, Nat.le_refl _⟩ (Nat.le_of_ble_eq_true rfl) (fun x9 M9 h9 => ?_)
  obtain ⟨h8, e9⟩ := h9
  rw [e9]
  refine hE _ _ _ _ _ dX8_isVillage_11 rfl (Nat.le_refl _) (Nat.le_refl _) (bI_nar h8) ?_
  exact ⟨bI_iff (wi_iff (by omega)) h8, rfl⟩

set_option maxRecDepth 100000 in
set_option maxHeartbeats 1000000 in
theorem ct_X8_isSpring {M : gM} {b : Bool} (hR : M.2.2 = stdR b) {c : Nat} (hc : M.1 0 8 = nI c) (hl : c < 1000) (v : Int32) : gC 1 0 0 yX8_isSpring cX8_isSpring 2 (some .boolean) 140 140 [.ref 0, .int v] M (gI (fun r M9 => bI (vIn v c) r ∧ M9 = M)) := by
  refine gC_i rfl (Nat.le_of_ble_eq_true rfl) (fun G hG hE => ?_)
  change G (140, 0, 0) 0 [some (.ref 0), some (.int v)] [] M
  refine r_iload_n hG dX8_isSpring_0 rfl ?_
  refine r_iconst hG (0) dX8_isSpring_1 (by decide) ?_
  refine r_aload_n hG dX8_isSpring_2 rfl ?_
  refine r_getIv hG 8 (nI c) fk_X8_77 dX8_isSpring_3 rfl (by decide) rfl hc ?_
  refine r_iconst hG (1) dX8_isSpring_6 (by decide) ?_
  refine r_isub hG dX8_isSpring_7 ?_
  refine r_cSI3 hG mk_X8_55 dX8_isSpring_8 (ct_X8_within _ _ _) (by decide) ⟨Nat.le_refl _, Nat.le_refl _⟩ (Nat.le_of_ble_eq_true rfl) (fun x9 M9 h9 => ?_)
  obtain ⟨h8, e9⟩ := h9
  rw [e9]
  refine hE _ _ _ _ _ dX8_isSpring_11 rfl (Nat.le_refl _) (Nat.le_refl _) (bI_nar h8) ?_
  exact ⟨bI_iff (wi_iff (by omega)) h8, rfl⟩

set_option maxRecDepth 100000 in
set_option maxHeartbeats 1000000 in
theorem ct_X8_isTanker {M : gM} {b : Bool} (hR : M.2.2 = stdR b) {c : Nat} (hc : M.1 0 9 = nI c) (hl : c < 1000) (v : Int32) : gC 1 0 0 yX8_isTanker cX8_isTanker 2 (some .boolean) 140 140 [.ref 0, .int v] M (gI (fun r M9 => bI (vIn v c) r ∧ M9 = M)) := by
  refine gC_i rfl (Nat.le_of_ble_eq_true rfl) (fun G hG hE => ?_)
  change G (140, 0, 0) 0 [some (.ref 0), some (.int v)] [] M
  refine r_iload_n hG dX8_isTanker_0 rfl ?_
  refine r_iconst hG (0) dX8_isTanker_1 (by decide) ?_
  refine r_aload_n hG dX8_isTanker_2 rfl ?_
  refine r_getIv hG 9 (nI c) fk_X8_94 dX8_isTanker_3 rfl (by decide) rfl hc ?_
  refine r_iconst hG (1) dX8_isTanker_6 (by decide) ?_
  refine r_isub hG dX8_isTanker_7 ?_
  refine r_cSI3 hG mk_X8_55 dX8_isTanker_8 (ct_X8_within _ _ _) (by decide) ⟨Nat.le_refl _, Nat.le_refl _⟩ (Nat.le_of_ble_eq_true rfl) (fun x9 M9 h9 => ?_)
  obtain ⟨h8, e9⟩ := h9
  rw [e9]
  refine hE _ _ _ _ _ dX8_isTanker_11 rfl (Nat.le_refl _) (Nat.le_refl _) (bI_nar h8) ?_
  exact ⟨bI_iff (wi_iff (by omega)) h8, rfl⟩

set_option maxRecDepth 100000 in
set_option maxHeartbeats 1000000 in
theorem ct_X7_room {M : gM} {b : Bool} (hR : M.2.2 = stdR b) {i : Nat} (hi : i < 12) : gC 0 0 0 yX7_room cX7_room 1 (some .int) 140 140 [.ref (2 * i + 42)] M (gI (fun r M9 => r = M.1 (2 * i + 42) 2 - M.1 (2 * i + 42) 3 ∧ M9 = M)) := by
  refine gC_i rfl (Nat.le_of_ble_eq_true rfl) (fun G hG hE => ?_)
  change G (140, 0, 0) 0 [some (.ref (2 * i + 42))] [] M
  refine r_aload_n hG dX7_room_0 rfl ?_
  refine r_getI hG 2 fk_X7_15 dX7_room_1 (gkV (by omega)) (show (2 * i + 42) < 140 by omega) rfl ?_
  refine r_aload_n hG dX7_room_4 rfl ?_
  refine r_getI hG 3 fk_X7_19 dX7_room_5 (gkV (by omega)) (show (2 * i + 42) < 140 by omega) rfl ?_
  refine r_isub hG dX7_room_8 ?_
  refine hE _ _ _ _ _ dX7_room_9 rfl (Nat.le_refl _) (Nat.le_refl _) rfl ?_
  exact ⟨rfl, rfl⟩

def hund (M : gM) (k : Nat) : Int32 := if M.1 k 2 ≤ 0 then 0 else M.1 k 3 * 100 / M.1 k 2
set_option maxRecDepth 100000 in
set_option maxHeartbeats 1000000 in
theorem ct_X7_hundredths {M : gM} {b : Bool} (hR : M.2.2 = stdR b) {i : Nat} (hi : i < 12) : gC 0 0 0 yX7_hundredths cX7_hundredths 1 (some .int) 140 140 [.ref (2 * i + 42)] M (gI (fun r M9 => r = hund M (2 * i + 42) ∧ M9 = M)) := by
  refine gC_i rfl (Nat.le_of_ble_eq_true rfl) (fun G hG hE => ?_)
  change G (140, 0, 0) 0 [some (.ref (2 * i + 42))] [] M
  refine r_aload_n hG dX7_hundredths_0 rfl ?_
  refine r_getI hG 2 fk_X7_15 dX7_hundredths_1 (gkV (by omega)) (show (2 * i + 42) < 140 by omega) rfl ?_
  refine r_if_le hG 22 dX7_hundredths_4 (by decide) (fun hc4 => ?_) (fun hc4 => ?_)
  · refine r_iconst hG (0) dX7_hundredths_22 (by decide) ?_
    refine hE _ _ _ _ _ dX7_hundredths_23 rfl (Nat.le_refl _) (Nat.le_refl _) rfl ?_
    exact ⟨by simp [hund, hc4], rfl⟩
  · refine r_aload_n hG dX7_hundredths_7 rfl ?_
    refine r_getI hG 3 fk_X7_19 dX7_hundredths_8 (gkV (by omega)) (show (2 * i + 42) < 140 by omega) rfl ?_
    refine r_bipush hG (100) dX7_hundredths_11 (by decide) ?_
    refine r_imul hG dX7_hundredths_13 ?_
    refine r_aload_n hG dX7_hundredths_14 rfl ?_
    refine r_getI hG 2 fk_X7_15 dX7_hundredths_15 (gkV (by omega)) (show (2 * i + 42) < 140 by omega) rfl ?_
    refine r_idiv hG dX7_hundredths_18 (fun q => hc4 (by rw [q]; decide)) ?_
    refine r_goto hG 23 dX7_hundredths_19 (by decide) ?_
    refine hE _ _ _ _ _ dX7_hundredths_23 rfl (Nat.le_refl _) (Nat.le_refl _) rfl ?_
    exact ⟨by simp [hund, hc4], rfl⟩

set_option maxRecDepth 100000 in
set_option maxHeartbeats 1000000 in
theorem ct_X7_fill {M : gM} {b : Bool} (hR : M.2.2 = stdR b) {i : Nat} (hi : i < 12) (x : Int32) : gC 1 0 0 yX7_fill cX7_fill 2 none 140 140 [.ref (2 * i + 42), .int x] M (gV (fun M9 => M9 = gwI M (2 * i + 42) 3 (mmin (M.1 (2 * i + 42) 3 + x) (M.1 (2 * i + 42) 2)))) := by
  refine gC_v rfl (Nat.le_of_ble_eq_true rfl) (fun G hG hE => ?_)
  change G (140, 0, 0) 0 [some (.ref (2 * i + 42)), some (.int x)] [] M
  refine r_aload_n hG dX7_fill_0 rfl ?_
  refine r_aload_n hG dX7_fill_1 rfl ?_
  refine r_getI hG 3 fk_X7_19 dX7_fill_2 (gkV (by omega)) (show (2 * i + 42) < 140 by omega) rfl ?_
  refine r_iload_n hG dX7_fill_5 rfl ?_
  refine r_iadd hG dX7_fill_6 ?_
  refine r_aload_n hG dX7_fill_7 rfl ?_
  refine r_getI hG 2 fk_X7_15 dX7_fill_8 (gkV (by omega)) (show (2 * i + 42) < 140 by omega) rfl ?_
  refine r_cSI2 hG mk_X7_22 dX7_fill_11 (ct_J9_min_7cf53 _ _) (by decide) ⟨Nat.le_refl _, Nat.le_refl _⟩ (Nat.le_of_ble_eq_true rfl) (fun x9 M9 h9 => ?_)
  obtain ⟨e8, e9⟩ := h9
  rw [e8, e9]
  refine r_putI hG 3 fp_X7_19 dX7_fill_14 (gkV (by omega)) (show (2 * i + 42) < 140 by omega) rfl rfl rfl ?_
  refine hE _ _ _ _ dX7_fill_17 rfl (Nat.le_refl _) (Nat.le_refl _) ?_
  rfl

/-- a day's giving: cell k, its week w -/
def fGive (M : gM) (k w : Nat) (x sl : Int32) : gM :=
  let dr : Int32 := if x ≤ M.1 k 3 then 0 else 1
  let g := mmin (M.1 k 3) x
  let M5 := gwI (gwI (gwI (gwI (gwI M k 6 dr) k 5 g) k 3 (M.1 k 3 - g)) k 7 (if x ≤ M.1 k 3 then 0 else M.1 k 7 + 1)) k 8 (M.1 k 8 + dr)
  if 0 ≤ sl ∧ ¬ 7 ≤ sl then gwI M5 w sl.toNatClampNeg g else M5
set_option maxRecDepth 100000 in
set_option maxHeartbeats 1000000 in
theorem ct_X7_give {M : gM} {b : Bool} (hR : M.2.2 = stdR b) {i : Nat} (hi : i < 12) (x sl : Int32) : gC 1 0 0 yX7_give cX7_give 3 none 140 140 [.ref (2 * i + 42), .int x, .int sl] M (gV (fun M9 => M9 = fGive M (2 * i + 42) (2 * i + 43) x sl)) := by
  refine gC_v rfl (Nat.le_of_ble_eq_true rfl) (fun G hG hE => ?_)
  change G (140, 0, 0) 0 [some (.ref (2 * i + 42)), some (.int x), some (.int sl)] [] M
  refine r_aload_n hG dX7_give_0 rfl ?_
  refine r_aload_n hG dX7_give_1 rfl ?_
  refine r_getI hG 3 fk_X7_19 dX7_give_2 (gkV (by omega)) (show (2 * i + 42) < 140 by omega) rfl ?_
  refine r_iload_n hG dX7_give_5 rfl ?_
  refine r_icmp_ge hG 13 dX7_give_6 (by decide) (fun hc6 => ?_) (fun hc6 => ?_)
  · refine r_iconst hG (0) dX7_give_13 (by decide) ?_
    refine r_putI hG 6 fp_X7_28 dX7_give_14 (gkV (by omega)) (show (2 * i + 42) < 140 by omega) rfl rfl rfl ?_
    refine r_aload_n hG dX7_give_17 rfl ?_
    refine r_aload_n hG dX7_give_18 rfl ?_
    refine r_getIv hG 3 (M.1 (2 * i + 42) 3) fk_X7_19 dX7_give_19 (gkV (by omega)) (show (2 * i + 42) < 140 by omega) rfl (gwI_n (by omega)) ?_
    refine r_iload_n hG dX7_give_22 rfl ?_
    refine r_cSI2 hG mk_X7_22 dX7_give_23 (ct_J9_min_7cf53 _ _) (by decide) ⟨Nat.le_refl _, Nat.le_refl _⟩ (Nat.le_of_ble_eq_true rfl) (fun x9 M9 h9 => ?_)
    obtain ⟨e8, e9⟩ := h9
    rw [e8, e9]
    refine r_putI hG 5 fp_X7_32 dX7_give_26 (gkV (by omega)) (show (2 * i + 42) < 140 by omega) rfl rfl rfl ?_
    refine r_aload_n hG dX7_give_29 rfl ?_
    refine r_dup hG dX7_give_30 rfl ?_
    refine r_getIv hG 3 (M.1 (2 * i + 42) 3) fk_X7_19 dX7_give_31 (gkV (by omega)) (show (2 * i + 42) < 140 by omega) rfl ((gwI_n (by omega)).trans (gwI_n (by omega))) ?_
    refine r_aload_n hG dX7_give_34 rfl ?_
    refine r_getIv hG 5 (mmin (M.1 (2 * i + 42) 3) x) fk_X7_32 dX7_give_35 (gkV (by omega)) (show (2 * i + 42) < 140 by omega) rfl gwI_s ?_
    refine r_isub hG dX7_give_38 ?_
    refine r_putI hG 3 fp_X7_19 dX7_give_39 (gkV (by omega)) (show (2 * i + 42) < 140 by omega) rfl rfl rfl ?_
    refine r_aload_n hG dX7_give_42 rfl ?_
    refine r_aload_n hG dX7_give_43 rfl ?_
    refine r_getIv hG 6 (0) fk_X7_28 dX7_give_44 (gkV (by omega)) (show (2 * i + 42) < 140 by omega) rfl ((gwI_n (by omega)).trans ((gwI_n (by omega)).trans gwI_s)) ?_
    refine r_if_eq hG 59 dX7_give_47 (by decide) (fun hc47 => ?_) (fun hc47 => absurd hc47 (by decide))
    refine r_iconst hG (0) dX7_give_59 (by decide) ?_
    refine r_putI hG 7 fp_X7_35 dX7_give_60 (gkV (by omega)) (show (2 * i + 42) < 140 by omega) rfl rfl rfl ?_
    refine r_aload_n hG dX7_give_63 rfl ?_
    refine r_dup hG dX7_give_64 rfl ?_
    refine r_getIv hG 8 (M.1 (2 * i + 42) 8) fk_X7_38 dX7_give_65 (gkV (by omega)) (show (2 * i + 42) < 140 by omega) rfl ((gwI_n (by omega)).trans ((gwI_n (by omega)).trans ((gwI_n (by omega)).trans (gwI_n (by omega))))) ?_
    refine r_aload_n hG dX7_give_68 rfl ?_
    refine r_getIv hG 6 (0) fk_X7_28 dX7_give_69 (gkV (by omega)) (show (2 * i + 42) < 140 by omega) rfl ((gwI_n (by omega)).trans ((gwI_n (by omega)).trans ((gwI_n (by omega)).trans gwI_s))) ?_
    refine r_if_eq hG 79 dX7_give_72 (by decide) (fun hc72 => ?_) (fun hc72 => absurd hc72 (by decide))
    refine r_iconst hG (0) dX7_give_79 (by decide) ?_
    refine r_iadd hG dX7_give_80 ?_
    refine r_putI hG 8 fp_X7_38 dX7_give_81 (gkV (by omega)) (show (2 * i + 42) < 140 by omega) rfl rfl rfl ?_
    refine r_iload_n hG dX7_give_84 rfl ?_
    refine r_if_lt hG 104 dX7_give_85 (by decide) (fun hc85 => ?_) (fun hc85 => ?_)
    · refine hE _ _ _ _ dX7_give_104 rfl (Nat.le_refl _) (Nat.le_refl _) ?_
      simp [fGive, hc6, Int32.not_le.mpr hc85]
    · refine r_iload_n hG dX7_give_88 rfl ?_
      refine r_bipush hG (7) dX7_give_89 (by decide) ?_
      refine r_icmp_ge hG 104 dX7_give_91 (by decide) (fun hc91 => ?_) (fun hc91 => ?_)
      · refine hE _ _ _ _ dX7_give_104 rfl (Nat.le_refl _) (Nat.le_refl _) ?_
        simp [fGive, hc6, hc91]
      · refine r_aload_n hG dX7_give_94 rfl ?_
        refine r_getR hG 10 (2 * i + 43) fk_X7_9 dX7_give_95 (gkV (by omega)) (show (2 * i + 42) < 140 by omega) rfl (sr hR (sRw (by omega))) ?_
        refine r_iload_n hG dX7_give_98 rfl ?_
        refine r_aload_n hG dX7_give_99 rfl ?_
        refine r_getIv hG 5 (mmin (M.1 (2 * i + 42) 3) x) fk_X7_32 dX7_give_100 (gkV (by omega)) (show (2 * i + 42) < 140 by omega) rfl ((gwI_n (by omega)).trans ((gwI_n (by omega)).trans ((gwI_n (by omega)).trans gwI_s))) ?_
        refine r_iast hG sl.toNatClampNeg dX7_give_103 (gkW (by omega)) (show (2 * i + 43) < 140 by omega) (nI_self hc85) (nI_lt7 hc85 hc91) (by decide) ?_
        refine hE _ _ _ _ dX7_give_104 rfl (Nat.le_refl _) (Nat.le_refl _) ?_
        simp [fGive, hc6, hc85, hc91, Int32.not_lt.mp hc85]
  · refine r_iconst hG (1) dX7_give_9 (by decide) ?_
    refine r_goto hG 14 dX7_give_10 (by decide) ?_
    refine r_putI hG 6 fp_X7_28 dX7_give_14 (gkV (by omega)) (show (2 * i + 42) < 140 by omega) rfl rfl rfl ?_
    refine r_aload_n hG dX7_give_17 rfl ?_
    refine r_aload_n hG dX7_give_18 rfl ?_
    refine r_getIv hG 3 (M.1 (2 * i + 42) 3) fk_X7_19 dX7_give_19 (gkV (by omega)) (show (2 * i + 42) < 140 by omega) rfl (gwI_n (by omega)) ?_
    refine r_iload_n hG dX7_give_22 rfl ?_
    refine r_cSI2 hG mk_X7_22 dX7_give_23 (ct_J9_min_7cf53 _ _) (by decide) ⟨Nat.le_refl _, Nat.le_refl _⟩ (Nat.le_of_ble_eq_true rfl) (fun x9 M9 h9 => ?_)
    obtain ⟨e8, e9⟩ := h9
    rw [e8, e9]
    refine r_putI hG 5 fp_X7_32 dX7_give_26 (gkV (by omega)) (show (2 * i + 42) < 140 by omega) rfl rfl rfl ?_
    refine r_aload_n hG dX7_give_29 rfl ?_
    refine r_dup hG dX7_give_30 rfl ?_
    refine r_getIv hG 3 (M.1 (2 * i + 42) 3) fk_X7_19 dX7_give_31 (gkV (by omega)) (show (2 * i + 42) < 140 by omega) rfl ((gwI_n (by omega)).trans (gwI_n (by omega))) ?_
    refine r_aload_n hG dX7_give_34 rfl ?_
    refine r_getIv hG 5 (mmin (M.1 (2 * i + 42) 3) x) fk_X7_32 dX7_give_35 (gkV (by omega)) (show (2 * i + 42) < 140 by omega) rfl gwI_s ?_
    refine r_isub hG dX7_give_38 ?_
    refine r_putI hG 3 fp_X7_19 dX7_give_39 (gkV (by omega)) (show (2 * i + 42) < 140 by omega) rfl rfl rfl ?_
    refine r_aload_n hG dX7_give_42 rfl ?_
    refine r_aload_n hG dX7_give_43 rfl ?_
    refine r_getIv hG 6 (1) fk_X7_28 dX7_give_44 (gkV (by omega)) (show (2 * i + 42) < 140 by omega) rfl ((gwI_n (by omega)).trans ((gwI_n (by omega)).trans gwI_s)) ?_
    refine r_if_eq hG 59 dX7_give_47 (by decide) (fun hc47 => absurd hc47 (by decide)) (fun hc47 => ?_)
    refine r_aload_n hG dX7_give_50 rfl ?_
    refine r_getIv hG 7 (M.1 (2 * i + 42) 7) fk_X7_35 dX7_give_51 (gkV (by omega)) (show (2 * i + 42) < 140 by omega) rfl ((gwI_n (by omega)).trans ((gwI_n (by omega)).trans (gwI_n (by omega)))) ?_
    refine r_iconst hG (1) dX7_give_54 (by decide) ?_
    refine r_iadd hG dX7_give_55 ?_
    refine r_goto hG 60 dX7_give_56 (by decide) ?_
    refine r_putI hG 7 fp_X7_35 dX7_give_60 (gkV (by omega)) (show (2 * i + 42) < 140 by omega) rfl rfl rfl ?_
    refine r_aload_n hG dX7_give_63 rfl ?_
    refine r_dup hG dX7_give_64 rfl ?_
    refine r_getIv hG 8 (M.1 (2 * i + 42) 8) fk_X7_38 dX7_give_65 (gkV (by omega)) (show (2 * i + 42) < 140 by omega) rfl ((gwI_n (by omega)).trans ((gwI_n (by omega)).trans ((gwI_n (by omega)).trans (gwI_n (by omega))))) ?_
    refine r_aload_n hG dX7_give_68 rfl ?_
    refine r_getIv hG 6 (1) fk_X7_28 dX7_give_69 (gkV (by omega)) (show (2 * i + 42) < 140 by omega) rfl ((gwI_n (by omega)).trans ((gwI_n (by omega)).trans ((gwI_n (by omega)).trans gwI_s))) ?_
    refine r_if_eq hG 79 dX7_give_72 (by decide) (fun hc72 => absurd hc72 (by decide)) (fun hc72 => ?_)
    refine r_iconst hG (1) dX7_give_75 (by decide) ?_
    refine r_goto hG 80 dX7_give_76 (by decide) ?_
    refine r_iadd hG dX7_give_80 ?_
    refine r_putI hG 8 fp_X7_38 dX7_give_81 (gkV (by omega)) (show (2 * i + 42) < 140 by omega) rfl rfl rfl ?_
    refine r_iload_n hG dX7_give_84 rfl ?_
    refine r_if_lt hG 104 dX7_give_85 (by decide) (fun hc85 => ?_) (fun hc85 => ?_)
    · refine hE _ _ _ _ dX7_give_104 rfl (Nat.le_refl _) (Nat.le_refl _) ?_
      simp [fGive, hc6, Int32.not_le.mpr hc85]
    · refine r_iload_n hG dX7_give_88 rfl ?_
      refine r_bipush hG (7) dX7_give_89 (by decide) ?_
      refine r_icmp_ge hG 104 dX7_give_91 (by decide) (fun hc91 => ?_) (fun hc91 => ?_)
      · refine hE _ _ _ _ dX7_give_104 rfl (Nat.le_refl _) (Nat.le_refl _) ?_
        simp [fGive, hc6, hc91]
      · refine r_aload_n hG dX7_give_94 rfl ?_
        refine r_getR hG 10 (2 * i + 43) fk_X7_9 dX7_give_95 (gkV (by omega)) (show (2 * i + 42) < 140 by omega) rfl (sr hR (sRw (by omega))) ?_
        refine r_iload_n hG dX7_give_98 rfl ?_
        refine r_aload_n hG dX7_give_99 rfl ?_
        refine r_getIv hG 5 (mmin (M.1 (2 * i + 42) 3) x) fk_X7_32 dX7_give_100 (gkV (by omega)) (show (2 * i + 42) < 140 by omega) rfl ((gwI_n (by omega)).trans ((gwI_n (by omega)).trans ((gwI_n (by omega)).trans gwI_s))) ?_
        refine r_iast hG sl.toNatClampNeg dX7_give_103 (gkW (by omega)) (show (2 * i + 43) < 140 by omega) (nI_self hc85) (nI_lt7 hc85 hc91) (by decide) ?_
        refine hE _ _ _ _ dX7_give_104 rfl (Nat.le_refl _) (Nat.le_refl _) ?_
        simp [fGive, hc6, hc85, hc91, Int32.not_lt.mp hc85]


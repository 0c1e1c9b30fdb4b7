theorem svp {k j : Nat} (h : Sc k j) : Sp k j := Or.inl h
theorem fct_congr {M0 M : gM} {k : Nat} (hq : gEq Sp M0 M) (hk : 42 ≤ k) : fct M k = fct M0 k := by
  have e : ∀ j, M.1 k j = M0.1 k j := fun j => hq.2 k j (by unfold Sp Sc; omega)
  have e0 : ∀ j, M.1 0 j = M0.1 0 j := fun j => hq.2 0 j (by unfold Sp Sc; omega)
  funext w
  match w with
  | 0 => show M.1 0 12 + 1 = _; rw [e0]; rfl
  | 1 => exact e 0
  | 2 => exact e 1
  | 3 => exact e 7
  | 4 => show hund M k = hund M0 k; unfold hund; rw [e 2, e 3]
  | _ + 5 => exact e0 13
theorem wantV_congr {M0 M : gM} {k nl : Nat} {B : Nat → Bool} {A : Nat → Int32} {ST : Nat → Nat} {C : Nat → Nat × Int32} (hq : gEq Sp M0 M) (hk : 42 ≤ k) : wantV M k nl B A ST C = wantV M0 k nl B A ST C := by
  unfold wantV
  rw [fct_congr hq hk, hq.2 k 0 (by unfold Sp Sc; omega), hq.2 k 1 (by unfold Sp Sc; omega)]
/-- the planner holds the villages before i -/
def pN (M Mp : gM) (ns nt : Nat) (sp : Nat → Nat) (lk : Nat → Int32) (i : Nat) : Prop :=
  gEq Sp M Mp ∧ Mp.1 23 12 = nI nt ∧ Mp.1 23 13 = nI (ndc lk i) ∧ Mp.1 23 14 = nI (min6 (ndc lk i)) ∧ (∀ s, s < ns → Mp.1 24 s = M.1 (2 * s + 66) 2) ∧ (∀ t, t < nt → Mp.1 25 t = nI (sp t) ∧ Mp.1 26 t = M.1 (t + 74) 1 ∧ Mp.1 27 t = M.1 (t + 74) 2) ∧
  (∀ v, v < i → 0 < lk v → ndc lk v < 6 → Mp.1 28 (ndc lk v) = nI v ∧ Mp.1 29 (ndc lk v) = lk v ∧ Mp.1 30 (ndc lk v) = M.1 (2 * v + 42) 2 - M.1 (2 * v + 42) 3 ∧ ∀ t, t < nt → Mp.1 (ndc lk v + 32) t = 2 * M.1 (2 * sp t + 67) v)
theorem pN.sc {M Mp Mq : gM} {ns nt : Nat} {sp : Nat → Nat} {lk : Nat → Int32} {i : Nat} (h : pN M Mp ns nt sp lk i) (hns : ns ≤ 4) (hnt : nt ≤ 4) (hq : gEq Sc Mp Mq) : pN M Mq ns nt sp lk i := by
  obtain ⟨h1, h2, h3, h4, h5, h6, h7⟩ := h
  have g : ∀ k j, 23 ≤ k → k ≤ 41 → Mq.1 k j = Mp.1 k j := fun k j a b => hq.2 k j (by unfold Sc; omega)
  refine ⟨h1.trans (hq.mono (fun _ _ => svp)), by rw [g 23 12 (by omega) (by omega)]; exact h2, by rw [g 23 13 (by omega) (by omega)]; exact h3, by rw [g 23 14 (by omega) (by omega)]; exact h4, fun s hs => by rw [g 24 s (by omega) (by omega)]; exact h5 s hs, fun t ht => ?_, fun v hv hl hc => ?_⟩
  · rw [g 25 t (by omega) (by omega), g 26 t (by omega) (by omega), g 27 t (by omega) (by omega)]; exact h6 t ht
  · obtain ⟨a, b, c, d⟩ := h7 v hv hl hc
    rw [g 28 _ (by omega) (by omega), g 29 _ (by omega) (by omega), g 30 _ (by omega) (by omega)]
    exact ⟨a, b, c, fun t ht => by rw [g (ndc lk v + 32) t (by omega) (by omega)]; exact d t ht⟩
theorem ndc_s {lk : Nat → Int32} {i : Nat} : ndc lk (i + 1) = ndc lk i + (if 0 < lk i then 1 else 0) := rfl
theorem ndc_le (lk : Nat → Int32) : ∀ i, ndc lk i ≤ i
  | 0 => Nat.le_refl 0
  | i + 1 => by
    have := ndc_le lk i
    rw [ndc_s]
    split <;> omega
theorem ndc_mono {lk : Nat → Int32} {i : Nat} : ∀ {j}, i < j → 0 < lk i → ndc lk i < ndc lk j := by
  intro j
  induction j with
  | zero => intro h; omega
  | succ j ih =>
    intro h hl
    rw [ndc_s]
    by_cases e : i = j
    · subst e
      rw [if_pos hl]; omega
    · have := ih (by omega) hl
      split <;> omega
theorem pN.skip {M Mp : gM} {ns nt : Nat} {sp : Nat → Nat} {lk : Nat → Int32} {i : Nat} (h : pN M Mp ns nt sp lk i) (hl : lk i ≤ 0) : pN M Mp ns nt sp lk (i + 1) := by
  have e : ndc lk (i + 1) = ndc lk i := by rw [ndc_s, if_neg (Int32.not_lt.mpr hl)]; rfl
  obtain ⟨h1, h2, h3, h4, h5, h6, h7⟩ := h
  refine ⟨h1, h2, by rw [e]; exact h3, by rw [e]; exact h4, h5, h6, fun v hv hl2 hc => ?_⟩
  by_cases e2 : v = i
  · subst e2
    exact absurd hl2 (Int32.not_lt.mpr hl)
  · exact h7 v (by omega) hl2 hc
theorem pN.more {M Mp Mq : gM} {ns nt : Nat} {sp : Nat → Nat} {lk : Nat → Int32} {i : Nat} (h : pN M Mp ns nt sp lk i) (hns : ns ≤ 4) (hnt : nt ≤ 4) (hi : i < 12) (hl : 0 < lk i) (hsp : ∀ t, t < nt → sp t < 4)
    (hq : (6 ≤ ndc lk i ∧ Mq = gwI Mp 23 13 (nI (ndc lk i) + 1)) ∨ (ndc lk i < 6 ∧ gEq (Sq (ndc lk i)) Mp Mq ∧ Mq.1 23 13 = nI (ndc lk i + 1) ∧ Mq.1 23 14 = nI (ndc lk i + 1) ∧ Mq.1 28 (ndc lk i) = nI i ∧ Mq.1 29 (ndc lk i) = lk i ∧ Mq.1 30 (ndc lk i) = Mp.1 (2 * i + 42) 2 - Mp.1 (2 * i + 42) 3 ∧ ∀ t, t < nt → Mq.1 (ndc lk i + 32) t = 2 * Mp.1 (2 * sp t + 67) i)) : pN M Mq ns nt sp lk (i + 1) := by
  have e : ndc lk (i + 1) = ndc lk i + 1 := by rw [ndc_s, if_pos hl]
  obtain ⟨h1, h2, h3, h4, h5, h6, h7⟩ := h
  rcases hq with ⟨h6c, rfl⟩ | ⟨hc, g1, g2, g3, g4, g5, g6, g7⟩
  · refine ⟨h1.put (by unfold Sp; omega), by rw [gwI_n (by omega)]; exact h2, by rw [gwI_s, e, nI_1], ?_, fun s hs => by rw [gwI_n (by omega)]; exact h5 s hs, fun t ht => ?_, fun v hv hl2 hc => ?_⟩
    · rw [gwI_n (by omega), h4, e]
      unfold min6
      rw [if_neg (by omega), if_neg (by omega)]
    · rw [gwI_n (by omega), gwI_n (by omega), gwI_n (by omega)]; exact h6 t ht
    · have hv2 : v < i := by
        rcases Nat.lt_or_ge v i with q | q
        · exact q
        · rw [show v = i by omega] at hc; omega
      obtain ⟨a, b, c, d⟩ := h7 v hv2 hl2 hc
      rw [gwI_n (by omega), gwI_n (by omega), gwI_n (by omega)]
      exact ⟨a, b, c, fun t ht => by rw [gwI_n (by omega)]; exact d t ht⟩
  · refine ⟨⟨g1.1.trans h1.1, fun k j hs => (g1.2 k j (by unfold Sp at hs; unfold Sq; omega)).trans (h1.2 k j hs)⟩, by rw [g1.2 23 12 (by unfold Sq; omega)]; exact h2, by rw [g2, e], ?_, fun s hs => by rw [g1.2 24 s (by unfold Sq; omega)]; exact h5 s hs, fun t ht => ?_, fun v hv hl2 hc2 => ?_⟩
    · rw [g3, e]
      unfold min6
      by_cases q : ndc lk i + 1 < 6
      · rw [if_pos q]
      · rw [if_neg q, show ndc lk i + 1 = 6 by omega]
    · rw [g1.2 25 t (by unfold Sq; omega), g1.2 26 t (by unfold Sq; omega), g1.2 27 t (by unfold Sq; omega)]; exact h6 t ht
    · by_cases e2 : v = i
      · subst e2
        refine ⟨g4, g5, ?_, fun t ht => ?_⟩
        · rw [g6, h1.2 (2 * v + 42) 2 (by unfold Sp Sc; omega), h1.2 (2 * v + 42) 3 (by unfold Sp Sc; omega)]
        · have := hsp t ht
          rw [g7 t ht, h1.2 (2 * sp t + 67) v (by unfold Sp Sc; omega)]
      · have hv2 : v < i := by omega
        have hlt := ndc_mono (lk := lk) hv2 hl2
        obtain ⟨a, b, c, d⟩ := h7 v hv2 hl2 hc2
        rw [g1.2 28 _ (by unfold Sq; omega), g1.2 29 _ (by unfold Sq; omega), g1.2 30 _ (by unfold Sq; omega)]
        exact ⟨a, b, c, fun t ht => by rw [g1.2 (ndc lk v + 32) t (by unfold Sq; omega)]; exact d t ht⟩
set_option maxRecDepth 100000 in
set_option maxHeartbeats 400000 in
theorem lp_X8_makePlan3  {G : gJ} {P : gM → Prop} (hG : gS 17 0 0 yX8_makePlan.cls cX8_makePlan 3 G) (hE : gEv 140 0 0 cX8_makePlan P G) {M0 : gM} {b : Bool} (hR0 : M0.2.2 = stdR b) {nv ns nt nb : Nat} (hnv0 : M0.1 0 7 = nI nv) (lv : nv ≤ 12) (hns0 : M0.1 0 8 = nI ns) (ls : ns ≤ 4) (hnt0 : M0.1 0 9 = nI nt) (lt : nt ≤ 4) (hnb0 : M0.1 0 10 = nI nb) (lb : nb ≤ 10) {o : Nat} (hob : o = if b then 17 else 11) {nl : Nat} {B : Nat → Bool} {A : Nat → Int32} {ST : Nat → Nat} {C : Nat → Nat × Int32} (hO0 : ordC M0 o nl B A ST C) {sp : Nat → Nat} (hts0 : ∀ t, t < nt → M0.1 (t + 74) 0 = nI (sp t) ∧ sp t < ns) :
    ∀ (r i : Nat) (M : gM) (x2 : Option Value), i + r = nv → pN M0 M ns nt sp (fun v => wantV M0 (2 * v + 42) nl B A ST C - M0.1 (2 * v + 42) 3) i → (∀ M9, (∃ Mp M1, pN M0 Mp ns nt sp (fun v => wantV M0 (2 * v + 42) nl B A ST C - M0.1 (2 * v + 42) 3) nv ∧ gEq Sf Mp M1 ∧ (∀ j, j ≤ min6 (ndc (fun v => wantV M0 (2 * v + 42) nl B A ST C - M0.1 (2 * v + 42) 3) nv) → M1.1 40 j = lostN Mp sp nt (min6 (ndc (fun v => wantV M0 (2 * v + 42) nl B A ST C - M0.1 (2 * v + 42) 3) nv)) (min6 (ndc (fun v => wantV M0 (2 * v + 42) nl B A ST C - M0.1 (2 * v + 42) 3) nv) - j) ∧ M1.1 41 j = leastN Mp sp nt (min6 (ndc (fun v => wantV M0 (2 * v + 42) nl B A ST C - M0.1 (2 * v + 42) 3) nv)) (min6 (ndc (fun v => wantV M0 (2 * v + 42) nl B A ST C - M0.1 (2 * v + 42) 3) nv) - j)) ∧ M1.1 23 15 = nI (min6 (ndc (fun v => wantV M0 (2 * v + 42) nl B A ST C - M0.1 (2 * v + 42) 3) nv)) + 1 ∧ M1.1 23 16 = 0 ∧ M9 = setS M1 (srch M1 sp nt (min6 (ndc (fun v => wantV M0 (2 * v + 42) nl B A ST C - M0.1 (2 * v + 42) 3) nv)) (min6 (ndc (fun v => wantV M0 (2 * v + 42) nl B A ST C - M0.1 (2 * v + 42) 3) nv)) 0 0 0 (M1.1 24) (M1.1 27) (getS M1))) → P M9) → G (140, 0, 0) 93 [some (.ref 0), some (.int (nI i)), x2] [] M := by
  intro r
  induction r with
  | zero =>
    intro i M x2 hi hp hP
    obtain ⟨hq, p12, p13, p14, p24, p25, pv⟩ := id hp
    have hR : M.2.2 = stdR b := by rw [hq.1]; exact hR0
    have hnv : M.1 0 7 = nI nv := (hq.2 0 7 (by unfold Sp Sc; omega)).trans hnv0
    have hns : M.1 0 8 = nI ns := (hq.2 0 8 (by unfold Sp Sc; omega)).trans hns0
    have hnt : M.1 0 9 = nI nt := (hq.2 0 9 (by unfold Sp Sc; omega)).trans hnt0
    have hnb : M.1 0 10 = nI nb := (hq.2 0 10 (by unfold Sp Sc; omega)).trans hnb0
    have hts : ∀ t, t < nt → M.1 (t + 74) 0 = nI (sp t) ∧ sp t < ns := fun t h => ⟨(hq.2 (t + 74) 0 (by unfold Sp Sc; omega)).trans (hts0 t h).1, (hts0 t h).2⟩
    have ho : o = 11 ∨ o = 17 := by cases b <;> simp at hob <;> omega
    have hO : ordC M o nl B A ST C := by
      obtain ⟨a1, a2, a3, a4, a5, a6⟩ := hO0
      refine ⟨a1, (hq.2 o 5 (by unfold Sp Sc; omega)).trans a2, (hq.2 o 6 (by unfold Sp Sc; omega)).trans a3, a4, fun i hi => ?_, fun j hj => ?_⟩
      · obtain ⟨g1, g2, g3, g4, g5⟩ := a5 i hi
        exact ⟨g1, (hq.2 (o + 1) i (by unfold Sp Sc; omega)).trans g2, (hq.2 (o + 2) i (by unfold Sp Sc; omega)).trans g3, (hq.2 (o + 3) i (by unfold Sp Sc; omega)).trans g4, g5⟩
      · rw [hq.2 (o + 4) j (by unfold Sp Sc; omega)]; exact a6 j hj
    refine r_iload_n hG dX8_makePlan_93 rfl ?_
    refine r_aload_n hG dX8_makePlan_94 rfl ?_
    refine r_getIv hG 7 (nI nv) fk_X8_60 dX8_makePlan_95 rfl (by decide) rfl hnv ?_
    refine r_icmp_ge hG 138 dX8_makePlan_98 (by decide) (fun hc98 => ?_) (fun hc98 => absurd (nle_f (a := nv) (b := i) (by omega) (by omega) hc98) (by omega))
    refine r_aload_n hG dX8_makePlan_138 rfl ?_
    refine r_getR hG 6 23 fk_X8_47 dX8_makePlan_139 rfl (by decide) rfl (sr hR rfl) ?_
    refine r_cVV0 hG mk_X8_267 dX8_makePlan_142 rfl (by decide) (ct_X2_findBest hR p12 lt p14 (by unfold min6; split <;> omega) (fun t ht => ⟨(p25 t ht).1, by have := (hts t ht).2; omega⟩)) (by decide) ⟨Nat.le_refl _, Nat.le_refl _⟩ (Nat.le_of_ble_eq_true rfl) (fun M142 h9 => ?_)
    skip
    refine hE _ _ _ _ dX8_makePlan_145 rfl (Nat.le_refl _) (Nat.le_refl _) ?_
    rw [show i = nv by omega] at hp h9
    obtain ⟨M1, h9⟩ := h9
    exact hP M142 ⟨M, M1, hp, h9⟩
  | succ r ih =>
    intro i M x2 hi hp hP
    obtain ⟨hq, p12, p13, p14, p24, p25, pv⟩ := id hp
    have hR : M.2.2 = stdR b := by rw [hq.1]; exact hR0
    have hnv : M.1 0 7 = nI nv := (hq.2 0 7 (by unfold Sp Sc; omega)).trans hnv0
    have hns : M.1 0 8 = nI ns := (hq.2 0 8 (by unfold Sp Sc; omega)).trans hns0
    have hnt : M.1 0 9 = nI nt := (hq.2 0 9 (by unfold Sp Sc; omega)).trans hnt0
    have hnb : M.1 0 10 = nI nb := (hq.2 0 10 (by unfold Sp Sc; omega)).trans hnb0
    have hts : ∀ t, t < nt → M.1 (t + 74) 0 = nI (sp t) ∧ sp t < ns := fun t h => ⟨(hq.2 (t + 74) 0 (by unfold Sp Sc; omega)).trans (hts0 t h).1, (hts0 t h).2⟩
    have ho : o = 11 ∨ o = 17 := by cases b <;> simp at hob <;> omega
    have hO : ordC M o nl B A ST C := by
      obtain ⟨a1, a2, a3, a4, a5, a6⟩ := hO0
      refine ⟨a1, (hq.2 o 5 (by unfold Sp Sc; omega)).trans a2, (hq.2 o 6 (by unfold Sp Sc; omega)).trans a3, a4, fun i hi => ?_, fun j hj => ?_⟩
      · obtain ⟨g1, g2, g3, g4, g5⟩ := a5 i hi
        exact ⟨g1, (hq.2 (o + 1) i (by unfold Sp Sc; omega)).trans g2, (hq.2 (o + 2) i (by unfold Sp Sc; omega)).trans g3, (hq.2 (o + 3) i (by unfold Sp Sc; omega)).trans g4, g5⟩
      · rw [hq.2 (o + 4) j (by unfold Sp Sc; omega)]; exact a6 j hj
    refine r_iload_n hG dX8_makePlan_93 rfl ?_
    refine r_aload_n hG dX8_makePlan_94 rfl ?_
    refine r_getIv hG 7 (nI nv) fk_X8_60 dX8_makePlan_95 rfl (by decide) rfl hnv ?_
    refine r_icmp_ge hG 138 dX8_makePlan_98 (by decide) (fun hc98 => absurd (nle_t (a := nv) (b := i) (by omega) (by omega) hc98) (by omega)) (fun hc98 => ?_)
    refine r_aload_n hG dX8_makePlan_101 rfl ?_
    refine r_aload_n hG dX8_makePlan_102 rfl ?_
    refine r_getR hG 0 1 fk_X8_11 dX8_makePlan_103 rfl (by decide) rfl (sr hR rfl) ?_
    refine r_iload_n hG dX8_makePlan_106 rfl ?_
    refine r_aald4 hG i (2 * i + 42) dX8_makePlan_107 rfl (by decide) rfl (by omega) (by decide) (sr hR rfl) ?_
    refine r_cVI1 hG mk_X8_129 dX8_makePlan_108 rfl (by decide) (ct_X8_wantOf hR hob hO (i := i) (by omega)) (by decide) ⟨Nat.le_refl _, Nat.le_refl _⟩ (Nat.le_of_ble_eq_true rfl) (fun x9 M108 h9 => ?_)
    obtain ⟨e8, hq108⟩ := h9
    rw [e8, wantV_congr hq (by omega)]
    have hR : M108.2.2 = stdR b := by rw [hq108.1]; exact hR
    have hp8 := hp.sc ls lt hq108
    refine r_aload_n hG dX8_makePlan_111 rfl ?_
    refine r_getR hG 0 1 fk_X8_11 dX8_makePlan_112 rfl (by decide) rfl (sr hR rfl) ?_
    refine r_iload_n hG dX8_makePlan_115 rfl ?_
    refine r_aald4 hG i (2 * i + 42) dX8_makePlan_116 rfl (by decide) rfl (by omega) (by decide) (sr hR rfl) ?_
    refine r_getIv hG 3 (M0.1 (2 * i + 42) 3) fk_X8_73 dX8_makePlan_117 (gkV (by omega)) (show (2 * i + 42) < 140 by omega) rfl (hp8.1.2 (2 * i + 42) 3 (by unfold Sp Sc; omega)) ?_
    refine r_isub hG dX8_makePlan_120 ?_
    refine r_istore_n hG dX8_makePlan_121 (by decide) ?_
    refine r_loc [some (.ref 0), some (.int (nI i)), some (.int ((wantV M0 (2 * i + 42) nl B A ST C) - (M0.1 (2 * i + 42) 3)))] rfl ?_
    refine r_iload_n hG dX8_makePlan_122 rfl ?_
    refine r_if_le hG 132 dX8_makePlan_123 (by decide) (fun hc123 => ?_) (fun hc123 => ?_)
    · refine r_iinc hG (1) dX8_makePlan_132 (by decide) rfl ?_
      refine r_loc [some (.ref 0), some (.int ((nI i) + (1))), some (.int ((wantV M0 (2 * i + 42) nl B A ST C) - (M0.1 (2 * i + 42) 3)))] rfl ?_
      refine r_goto hG 93 dX8_makePlan_135 (by decide) ?_
      rw [nI_1]
      exact ih (i + 1) M108 _ (by omega) (hp8.skip hc123) hP
    · refine r_aload_n hG dX8_makePlan_126 rfl ?_
      refine r_iload_n hG dX8_makePlan_127 rfl ?_
      refine r_iload_n hG dX8_makePlan_128 rfl ?_
      refine r_cVV2 hG mk_X8_263 dX8_makePlan_129 rfl (by decide) (ct_X8_addNeedy (M := M108) hR (nv := nv) (ns := ns) (nt := nt) (nb := nb) ((hp8.1.2 0 7 (by unfold Sp Sc; omega)).trans hnv0) lv ((hp8.1.2 0 8 (by unfold Sp Sc; omega)).trans hns0) ls ((hp8.1.2 0 9 (by unfold Sp Sc; omega)).trans hnt0) lt ((hp8.1.2 0 10 (by unfold Sp Sc; omega)).trans hnb0) lb (sp := sp) (fun t h => ⟨(hp8.1.2 (t + 74) 0 (by unfold Sp Sc; omega)).trans (hts0 t h).1, (hts0 t h).2⟩) (c := ndc (fun v => wantV M0 (2 * v + 42) nl B A ST C - M0.1 (2 * v + 42) 3) i) (v := i) hp8.2.2.1 hp8.2.2.2.1 (by have := ndc_le (fun v => wantV M0 (2 * v + 42) nl B A ST C - M0.1 (2 * v + 42) 3) i; omega) (by omega) ((wantV M0 (2 * i + 42) nl B A ST C) - M0.1 (2 * i + 42) 3)) (by decide) ⟨Nat.le_refl _, Nat.le_refl _⟩ (Nat.le_of_ble_eq_true rfl) (fun M129 h9 => ?_)
      skip
      refine r_iinc hG (1) dX8_makePlan_132 (by decide) rfl ?_
      refine r_loc [some (.ref 0), some (.int ((nI i) + (1))), some (.int ((wantV M0 (2 * i + 42) nl B A ST C) - (M0.1 (2 * i + 42) 3)))] rfl ?_
      refine r_goto hG 93 dX8_makePlan_135 (by decide) ?_
      rw [nI_1]
      exact ih (i + 1) M129 _ (by omega) (hp8.more ls lt (by omega) (Int32.not_le.mp hc123) (fun t ht => by have := (hts0 t ht).2; omega) h9) hP

set_option maxRecDepth 100000 in
set_option maxHeartbeats 400000 in
theorem lp_X8_makePlan2  {G : gJ} {P : gM → Prop} (hG : gS 17 0 0 yX8_makePlan.cls cX8_makePlan 3 G) (hE : gEv 140 0 0 cX8_makePlan P G) {M0 : gM} {b : Bool} (hR0 : M0.2.2 = stdR b) {nv ns nt nb : Nat} (hnv0 : M0.1 0 7 = nI nv) (lv : nv ≤ 12) (hns0 : M0.1 0 8 = nI ns) (ls : ns ≤ 4) (hnt0 : M0.1 0 9 = nI nt) (lt : nt ≤ 4) (hnb0 : M0.1 0 10 = nI nb) (lb : nb ≤ 10) {o : Nat} (hob : o = if b then 17 else 11) {nl : Nat} {B : Nat → Bool} {A : Nat → Int32} {ST : Nat → Nat} {C : Nat → Nat × Int32} (hO0 : ordC M0 o nl B A ST C) {sp : Nat → Nat} (hts0 : ∀ t, t < nt → M0.1 (t + 74) 0 = nI (sp t) ∧ sp t < ns) :
    ∀ (r t : Nat) (M : gM), t + r = nt → gEq (fun k j => 23 ≤ k ∧ k ≤ 27) M0 M → M.1 23 12 = nI t → M.1 23 13 = nI 0 → M.1 23 14 = nI 0 → (∀ s, s < ns → M.1 24 s = M0.1 (2 * s + 66) 2) → (∀ t9, t9 < t → M.1 25 t9 = nI (sp t9) ∧ M.1 26 t9 = M0.1 (t9 + 74) 1 ∧ M.1 27 t9 = M0.1 (t9 + 74) 2) → (∀ M9, (∃ Mp M1, pN M0 Mp ns nt sp (fun v => wantV M0 (2 * v + 42) nl B A ST C - M0.1 (2 * v + 42) 3) nv ∧ gEq Sf Mp M1 ∧ (∀ j, j ≤ min6 (ndc (fun v => wantV M0 (2 * v + 42) nl B A ST C - M0.1 (2 * v + 42) 3) nv) → M1.1 40 j = lostN Mp sp nt (min6 (ndc (fun v => wantV M0 (2 * v + 42) nl B A ST C - M0.1 (2 * v + 42) 3) nv)) (min6 (ndc (fun v => wantV M0 (2 * v + 42) nl B A ST C - M0.1 (2 * v + 42) 3) nv) - j) ∧ M1.1 41 j = leastN Mp sp nt (min6 (ndc (fun v => wantV M0 (2 * v + 42) nl B A ST C - M0.1 (2 * v + 42) 3) nv)) (min6 (ndc (fun v => wantV M0 (2 * v + 42) nl B A ST C - M0.1 (2 * v + 42) 3) nv) - j)) ∧ M1.1 23 15 = nI (min6 (ndc (fun v => wantV M0 (2 * v + 42) nl B A ST C - M0.1 (2 * v + 42) 3) nv)) + 1 ∧ M1.1 23 16 = 0 ∧ M9 = setS M1 (srch M1 sp nt (min6 (ndc (fun v => wantV M0 (2 * v + 42) nl B A ST C - M0.1 (2 * v + 42) 3) nv)) (min6 (ndc (fun v => wantV M0 (2 * v + 42) nl B A ST C - M0.1 (2 * v + 42) 3) nv)) 0 0 0 (M1.1 24) (M1.1 27) (getS M1))) → P M9) → G (140, 0, 0) 43 [some (.ref 0), some (.int (nI t)), none] [] M := by
  intro r
  induction r with
  | zero =>
    intro t M ht hq a12 a13 a14 h24 hv hP
    have hR : M.2.2 = stdR b := by rw [hq.1]; exact hR0
    have hnv : M.1 0 7 = nI nv := (hq.2 0 7 (by omega)).trans hnv0
    have hns : M.1 0 8 = nI ns := (hq.2 0 8 (by omega)).trans hns0
    have hnt : M.1 0 9 = nI nt := (hq.2 0 9 (by omega)).trans hnt0
    have hnb : M.1 0 10 = nI nb := (hq.2 0 10 (by omega)).trans hnb0
    have hts : ∀ t, t < nt → M.1 (t + 74) 0 = nI (sp t) ∧ sp t < ns := fun t h => ⟨(hq.2 (t + 74) 0 (by omega)).trans (hts0 t h).1, (hts0 t h).2⟩
    refine r_iload_n hG dX8_makePlan_43 rfl ?_
    refine r_aload_n hG dX8_makePlan_44 rfl ?_
    refine r_getIv hG 9 (nI nt) fk_X8_94 dX8_makePlan_45 rfl (by decide) rfl hnt ?_
    refine r_icmp_ge hG 91 dX8_makePlan_48 (by decide) (fun hc48 => ?_) (fun hc48 => absurd (nle_f (a := nt) (b := t) (by omega) (by omega) hc48) (by omega))
    refine r_iconst hG (0) dX8_makePlan_91 (by decide) ?_
    refine r_istore_n hG dX8_makePlan_92 (by decide) ?_
    refine r_loc [some (.ref 0), some (.int (0)), none] rfl ?_
    refine lp_X8_makePlan3 hG hE hR0 hnv0 lv hns0 ls hnt0 lt hnb0 lb hob hO0 hts0 nv 0 M _ (by omega) ⟨hq.mono (fun k j h => by unfold Sp; omega), ?_, a13, a14, h24, fun t ht => hv t (by omega), fun v hv => absurd hv (by omega)⟩ hP
    rw [a12, show t = nt by omega]
  | succ r ih =>
    intro t M ht hq a12 a13 a14 h24 hv hP
    have hR : M.2.2 = stdR b := by rw [hq.1]; exact hR0
    have hnv : M.1 0 7 = nI nv := (hq.2 0 7 (by omega)).trans hnv0
    have hns : M.1 0 8 = nI ns := (hq.2 0 8 (by omega)).trans hns0
    have hnt : M.1 0 9 = nI nt := (hq.2 0 9 (by omega)).trans hnt0
    have hnb : M.1 0 10 = nI nb := (hq.2 0 10 (by omega)).trans hnb0
    have hts : ∀ t, t < nt → M.1 (t + 74) 0 = nI (sp t) ∧ sp t < ns := fun t h => ⟨(hq.2 (t + 74) 0 (by omega)).trans (hts0 t h).1, (hts0 t h).2⟩
    refine r_iload_n hG dX8_makePlan_43 rfl ?_
    refine r_aload_n hG dX8_makePlan_44 rfl ?_
    refine r_getIv hG 9 (nI nt) fk_X8_94 dX8_makePlan_45 rfl (by decide) rfl hnt ?_
    refine r_icmp_ge hG 91 dX8_makePlan_48 (by decide) (fun hc48 => absurd (nle_t (a := nt) (b := t) (by omega) (by omega) hc48) (by omega)) (fun hc48 => ?_)
    refine r_aload_n hG dX8_makePlan_51 rfl ?_
    refine r_getR hG 6 23 fk_X8_47 dX8_makePlan_52 rfl (by decide) rfl (sr hR rfl) ?_
    refine r_aload_n hG dX8_makePlan_55 rfl ?_
    refine r_getR hG 2 3 fk_X8_23 dX8_makePlan_56 rfl (by decide) rfl (sr hR rfl) ?_
    refine r_iload_n hG dX8_makePlan_59 rfl ?_
    refine r_aald6 hG t (t + 74) dX8_makePlan_60 rfl (by decide) rfl (by omega) (by decide) (sr hR rfl) ?_
    refine r_getIv hG 0 (nI (sp t)) fk_X8_97 dX8_makePlan_61 (gkT (by omega)) (show (t + 74) < 140 by omega) rfl (hts t (by omega)).1 ?_
    refine r_aload_n hG dX8_makePlan_64 rfl ?_
    refine r_getR hG 2 3 fk_X8_23 dX8_makePlan_65 rfl (by decide) rfl (sr hR rfl) ?_
    refine r_iload_n hG dX8_makePlan_68 rfl ?_
    refine r_aald6 hG t (t + 74) dX8_makePlan_69 rfl (by decide) rfl (by omega) (by decide) (sr hR rfl) ?_
    refine r_getIv hG 1 (M0.1 (t + 74) 1) fk_X8_100 dX8_makePlan_70 (gkT (by omega)) (show (t + 74) < 140 by omega) rfl (hq.2 (t + 74) 1 (by omega)) ?_
    refine r_aload_n hG dX8_makePlan_73 rfl ?_
    refine r_getR hG 2 3 fk_X8_23 dX8_makePlan_74 rfl (by decide) rfl (sr hR rfl) ?_
    refine r_iload_n hG dX8_makePlan_77 rfl ?_
    refine r_aald6 hG t (t + 74) dX8_makePlan_78 rfl (by decide) rfl (by omega) (by decide) (sr hR rfl) ?_
    refine r_getIv hG 2 (M0.1 (t + 74) 2) fk_X8_103 dX8_makePlan_79 (gkT (by omega)) (show (t + 74) < 140 by omega) rfl (hq.2 (t + 74) 2 (by omega)) ?_
    refine r_cVV3 hG mk_X8_259 dX8_makePlan_82 rfl (by decide) (ct_X2_addTanker hR (T := t) a12 (by omega) (s := sp t) (by have := (hts t (by omega)).2; omega) _ _) (by decide) ⟨Nat.le_refl _, Nat.le_refl _⟩ (Nat.le_of_ble_eq_true rfl) (fun M9 h9 => ?_)
    rw [h9]
    refine r_iinc hG (1) dX8_makePlan_85 (by decide) rfl ?_
    refine r_loc [some (.ref 0), some (.int ((nI t) + (1))), none] rfl ?_
    refine r_goto hG 43 dX8_makePlan_88 (by decide) ?_
    rw [nI_1]
    refine ih (t + 1) _ (by omega) ((((hq.put (by omega)).put (by omega)).put (by omega)).put (by omega)) gwI_s ?_ ?_ (fun s hs => ?_) (fun t9 h9 => ?_) hP
    · rw [gwI_n (by omega), gwI_n (by omega), gwI_n (by omega), gwI_n (by omega)]; exact a13
    · rw [gwI_n (by omega), gwI_n (by omega), gwI_n (by omega), gwI_n (by omega)]; exact a14
    · rw [gwI_n (by omega), gwI_n (by omega), gwI_n (by omega), gwI_n (by omega)]; exact h24 s hs
    · by_cases e : t9 = t
      · subst e
        exact ⟨by rw [gwI_n (by omega), gwI_n (by omega), gwI_n (by omega), gwI_s], by rw [gwI_n (by omega), gwI_n (by omega), gwI_s], by rw [gwI_n (by omega), gwI_s]⟩
      · obtain ⟨b1, b2, b3⟩ := hv t9 (by omega)
        refine ⟨?_, ?_, ?_⟩
        · rw [gwI_n (by omega), gwI_n (by omega), gwI_n (by omega), gwI_n (by omega)]; exact b1
        · rw [gwI_n (by omega), gwI_n (by omega), gwI_n (by omega), gwI_n (by omega)]; exact b2
        · rw [gwI_n (by omega), gwI_n (by omega), gwI_n (by omega), gwI_n (by omega)]; exact b3

set_option maxRecDepth 100000 in
set_option maxHeartbeats 400000 in
theorem lp_X8_makePlan1  {G : gJ} {P : gM → Prop} (hG : gS 17 0 0 yX8_makePlan.cls cX8_makePlan 3 G) (hE : gEv 140 0 0 cX8_makePlan P G) {M0 : gM} {b : Bool} (hR0 : M0.2.2 = stdR b) {nv ns nt nb : Nat} (hnv0 : M0.1 0 7 = nI nv) (lv : nv ≤ 12) (hns0 : M0.1 0 8 = nI ns) (ls : ns ≤ 4) (hnt0 : M0.1 0 9 = nI nt) (lt : nt ≤ 4) (hnb0 : M0.1 0 10 = nI nb) (lb : nb ≤ 10) {o : Nat} (hob : o = if b then 17 else 11) {nl : Nat} {B : Nat → Bool} {A : Nat → Int32} {ST : Nat → Nat} {C : Nat → Nat × Int32} (hO0 : ordC M0 o nl B A ST C) {sp : Nat → Nat} (hts0 : ∀ t, t < nt → M0.1 (t + 74) 0 = nI (sp t) ∧ sp t < ns) :
    ∀ (r s : Nat) (M : gM), s + r = ns → gEq (fun k j => k = 23 ∨ k = 24) M0 M → M.1 23 12 = nI 0 → M.1 23 13 = nI 0 → M.1 23 14 = nI 0 → (∀ s9, s9 < s → M.1 24 s9 = M0.1 (2 * s9 + 66) 2) → (∀ M9, (∃ Mp M1, pN M0 Mp ns nt sp (fun v => wantV M0 (2 * v + 42) nl B A ST C - M0.1 (2 * v + 42) 3) nv ∧ gEq Sf Mp M1 ∧ (∀ j, j ≤ min6 (ndc (fun v => wantV M0 (2 * v + 42) nl B A ST C - M0.1 (2 * v + 42) 3) nv) → M1.1 40 j = lostN Mp sp nt (min6 (ndc (fun v => wantV M0 (2 * v + 42) nl B A ST C - M0.1 (2 * v + 42) 3) nv)) (min6 (ndc (fun v => wantV M0 (2 * v + 42) nl B A ST C - M0.1 (2 * v + 42) 3) nv) - j) ∧ M1.1 41 j = leastN Mp sp nt (min6 (ndc (fun v => wantV M0 (2 * v + 42) nl B A ST C - M0.1 (2 * v + 42) 3) nv)) (min6 (ndc (fun v => wantV M0 (2 * v + 42) nl B A ST C - M0.1 (2 * v + 42) 3) nv) - j)) ∧ M1.1 23 15 = nI (min6 (ndc (fun v => wantV M0 (2 * v + 42) nl B A ST C - M0.1 (2 * v + 42) 3) nv)) + 1 ∧ M1.1 23 16 = 0 ∧ M9 = setS M1 (srch M1 sp nt (min6 (ndc (fun v => wantV M0 (2 * v + 42) nl B A ST C - M0.1 (2 * v + 42) 3) nv)) (min6 (ndc (fun v => wantV M0 (2 * v + 42) nl B A ST C - M0.1 (2 * v + 42) 3) nv)) 0 0 0 (M1.1 24) (M1.1 27) (getS M1))) → P M9) → G (140, 0, 0) 9 [some (.ref 0), some (.int (nI s)), none] [] M := by
  intro r
  induction r with
  | zero =>
    intro s M hs hq a12 a13 a14 hv hP
    have hR : M.2.2 = stdR b := by rw [hq.1]; exact hR0
    have hnv : M.1 0 7 = nI nv := (hq.2 0 7 (by omega)).trans hnv0
    have hns : M.1 0 8 = nI ns := (hq.2 0 8 (by omega)).trans hns0
    have hnt : M.1 0 9 = nI nt := (hq.2 0 9 (by omega)).trans hnt0
    have hnb : M.1 0 10 = nI nb := (hq.2 0 10 (by omega)).trans hnb0
    refine r_iload_n hG dX8_makePlan_9 rfl ?_
    refine r_aload_n hG dX8_makePlan_10 rfl ?_
    refine r_getIv hG 8 (nI ns) fk_X8_77 dX8_makePlan_11 rfl (by decide) rfl hns ?_
    refine r_icmp_ge hG 41 dX8_makePlan_14 (by decide) (fun hc14 => ?_) (fun hc14 => absurd (nle_f (a := ns) (b := s) (by omega) (by omega) hc14) (by omega))
    refine r_iconst hG (0) dX8_makePlan_41 (by decide) ?_
    refine r_istore_n hG dX8_makePlan_42 (by decide) ?_
    refine r_loc [some (.ref 0), some (.int (0)), none] rfl ?_
    exact lp_X8_makePlan2 hG hE hR0 hnv0 lv hns0 ls hnt0 lt hnb0 lb hob hO0 hts0 nt 0 M (by omega) (hq.mono (fun k j h => by omega)) a12 a13 a14 (fun s9 h9 => hv s9 (by omega)) (fun t9 h9 => absurd h9 (by omega)) hP
  | succ r ih =>
    intro s M hs hq a12 a13 a14 hv hP
    have hR : M.2.2 = stdR b := by rw [hq.1]; exact hR0
    have hnv : M.1 0 7 = nI nv := (hq.2 0 7 (by omega)).trans hnv0
    have hns : M.1 0 8 = nI ns := (hq.2 0 8 (by omega)).trans hns0
    have hnt : M.1 0 9 = nI nt := (hq.2 0 9 (by omega)).trans hnt0
    have hnb : M.1 0 10 = nI nb := (hq.2 0 10 (by omega)).trans hnb0
    refine r_iload_n hG dX8_makePlan_9 rfl ?_
    refine r_aload_n hG dX8_makePlan_10 rfl ?_
    refine r_getIv hG 8 (nI ns) fk_X8_77 dX8_makePlan_11 rfl (by decide) rfl hns ?_
    refine r_icmp_ge hG 41 dX8_makePlan_14 (by decide) (fun hc14 => absurd (nle_t (a := ns) (b := s) (by omega) (by omega) hc14) (by omega)) (fun hc14 => ?_)
    refine r_aload_n hG dX8_makePlan_17 rfl ?_
    refine r_getR hG 6 23 fk_X8_47 dX8_makePlan_18 rfl (by decide) rfl (sr hR rfl) ?_
    refine r_getR hG 0 24 fk_X8_256 dX8_makePlan_21 rfl (by decide) rfl (sr hR rfl) ?_
    refine r_iload_n hG dX8_makePlan_24 rfl ?_
    refine r_aload_n hG dX8_makePlan_25 rfl ?_
    refine r_getR hG 1 2 fk_X8_17 dX8_makePlan_26 rfl (by decide) rfl (sr hR rfl) ?_
    refine r_iload_n hG dX8_makePlan_29 rfl ?_
    refine r_aald5 hG s (2 * s + 66) dX8_makePlan_30 rfl (by decide) rfl (by omega) (by decide) (sr hR rfl) ?_
    refine r_getIv hG 2 (M0.1 (2 * s + 66) 2) fk_X8_86 dX8_makePlan_31 (gkS (by omega)) (show (2 * s + 66) < 140 by omega) rfl (hq.2 (2 * s + 66) 2 (by omega)) ?_
    refine r_iast hG s dX8_makePlan_34 rfl (by decide) rfl (by omega) (by decide) ?_
    refine r_iinc hG (1) dX8_makePlan_35 (by decide) rfl ?_
    refine r_loc [some (.ref 0), some (.int ((nI s) + (1))), none] rfl ?_
    refine r_goto hG 9 dX8_makePlan_38 (by decide) ?_
    rw [nI_1]
    refine ih (s + 1) _ (by omega) (hq.put (by omega)) ?_ ?_ ?_ (fun s9 h9 => ?_) hP
    · rw [gwI_n (by omega)]; exact a12
    · rw [gwI_n (by omega)]; exact a13
    · rw [gwI_n (by omega)]; exact a14
    · by_cases e : s9 = s
      · subst e
        exact gwI_s
      · rw [gwI_n (by omega)]
        exact hv s9 (by omega)

set_option maxRecDepth 100000 in
set_option maxHeartbeats 400000 in
theorem ct_X8_makePlan {M : gM} {b : Bool} (hR : M.2.2 = stdR b) {nv ns nt nb : Nat} (hnv : M.1 0 7 = nI nv) (lv : nv ≤ 12) (hns : M.1 0 8 = nI ns) (ls : ns ≤ 4) (hnt : M.1 0 9 = nI nt) (lt : nt ≤ 4) (hnb : M.1 0 10 = nI nb) (lb : nb ≤ 10) {o : Nat} (hob : o = if b then 17 else 11) {nl : Nat} {B : Nat → Bool} {A : Nat → Int32} {ST : Nat → Nat} {C : Nat → Nat × Int32} (hO : ordC M o nl B A ST C) {sp : Nat → Nat} (hts : ∀ t, t < nt → M.1 (t + 74) 0 = nI (sp t) ∧ sp t < ns) : gC 17 0 0 yX8_makePlan cX8_makePlan 3 none 140 140 [.ref 0] M (gV (fun M9 => (∃ Mp M1, pN M Mp ns nt sp (fun v => wantV M (2 * v + 42) nl B A ST C - M.1 (2 * v + 42) 3) nv ∧ gEq Sf Mp M1 ∧ (∀ j, j ≤ min6 (ndc (fun v => wantV M (2 * v + 42) nl B A ST C - M.1 (2 * v + 42) 3) nv) → M1.1 40 j = lostN Mp sp nt (min6 (ndc (fun v => wantV M (2 * v + 42) nl B A ST C - M.1 (2 * v + 42) 3) nv)) (min6 (ndc (fun v => wantV M (2 * v + 42) nl B A ST C - M.1 (2 * v + 42) 3) nv) - j) ∧ M1.1 41 j = leastN Mp sp nt (min6 (ndc (fun v => wantV M (2 * v + 42) nl B A ST C - M.1 (2 * v + 42) 3) nv)) (min6 (ndc (fun v => wantV M (2 * v + 42) nl B A ST C - M.1 (2 * v + 42) 3) nv) - j)) ∧ M1.1 23 15 = nI (min6 (ndc (fun v => wantV M (2 * v + 42) nl B A ST C - M.1 (2 * v + 42) 3) nv)) + 1 ∧ M1.1 23 16 = 0 ∧ M9 = setS M1 (srch M1 sp nt (min6 (ndc (fun v => wantV M (2 * v + 42) nl B A ST C - M.1 (2 * v + 42) 3) nv)) (min6 (ndc (fun v => wantV M (2 * v + 42) nl B A ST C - M.1 (2 * v + 42) 3) nv)) 0 0 0 (M1.1 24) (M1.1 27) (getS M1))))) := by
  refine gC_v rfl (Nat.le_of_ble_eq_true rfl) (fun G hG hE => ?_)
  change G (140, 0, 0) 0 [some (.ref 0), none, none] [] M
  refine r_aload_n hG dX8_makePlan_0 rfl ?_
  refine r_getR hG 6 23 fk_X8_47 dX8_makePlan_1 rfl (by decide) rfl (sr hR rfl) ?_
  refine r_cVV0 hG mk_X8_253 dX8_makePlan_4 rfl (by decide) (ct_X2_clear hR) (by decide) ⟨Nat.le_refl _, Nat.le_refl _⟩ (Nat.le_of_ble_eq_true rfl) (fun M9 h9 => ?_)
  rw [h9]
  refine r_iconst hG (0) dX8_makePlan_7 (by decide) ?_
  refine r_istore_n hG dX8_makePlan_8 (by decide) ?_
  refine r_loc [some (.ref 0), some (.int (0)), none] rfl ?_
  exact lp_X8_makePlan1 hG hE hR hnv lv hns ls hnt lt hnb lb hob hO hts ns 0 _ (by omega) (((gEq.rf.put (by omega)).put (by omega)).put (by omega)) (by rw [gwI_n (by omega), gwI_n (by omega), gwI_s]; rfl) (by rw [gwI_n (by omega), gwI_s]; rfl) (by rw [gwI_s]; rfl) (fun s9 h9 => absurd h9 (by omega)) (fun M9 h9 => h9)


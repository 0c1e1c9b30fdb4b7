/-- what makePlan leaves: M9 from M -/
def mkP (M M9 : gM) (ns nt nv : Nat) (sp : Nat → Nat) (lk : Nat → Int32) : Prop := (∃ Mp M1, pN M Mp ns nt sp lk nv ∧ gEq Sf Mp M1 ∧ (∀ j, j ≤ min6 (ndc lk nv) → M1.1 40 j = lostN Mp sp nt (min6 (ndc lk nv)) (min6 (ndc lk nv) - j) ∧ M1.1 41 j = leastN Mp sp nt (min6 (ndc lk nv)) (min6 (ndc lk nv) - j)) ∧ M1.1 23 15 = nI (min6 (ndc lk nv)) + 1 ∧ M1.1 23 16 = 0 ∧ M9 = setS M1 (srch M1 sp nt (min6 (ndc lk nv)) (min6 (ndc lk nv)) 0 0 0 (M1.1 24) (M1.1 27) (getS M1)))
def lkF (M : gM) (nl : Nat) (B : Nat → Bool) (A : Nat → Int32) (ST : Nat → Nat) (C : Nat → Nat × Int32) : Nat → Int32 := fun v => wantV M (2 * v + 42) nl B A ST C - M.1 (2 * v + 42) 3
theorem mkP.eq {M M9 : gM} {ns nt nv : Nat} {sp : Nat → Nat} {lk : Nat → Int32} (h : mkP M M9 ns nt nv sp lk) : gEq Sp M M9 := by
  obtain ⟨Mp, M1, h1, h2, -, -, -, rfl⟩ := h
  refine h1.1.trans ⟨h2.1, fun k j hs => ?_⟩
  unfold Sp at hs
  rw [setS_n (by omega)]
  exact h2.2 k j (by unfold Sf; omega)
theorem mkP.n {M M9 : gM} {ns nt nv : Nat} {sp : Nat → Nat} {lk : Nat → Int32} (h : mkP M M9 ns nt nv sp lk) : M9.1 23 14 = nI (min6 (ndc lk nv)) ∧ M9.1 23 13 = nI (ndc lk nv) ∧ ∀ v, v < nv → 0 < lk v → ndc lk v < 6 → M9.1 28 (ndc lk v) = nI v := by
  obtain ⟨Mp, M1, ⟨h1, h2, h3, h4, h5, h6, h7⟩, g2, -, -, -, rfl⟩ := h
  refine ⟨?_, ?_, fun v hv hl hc => ?_⟩
  · rw [setS_n (by omega), g2.2 23 14 (by unfold Sf; omega)]; exact h4
  · rw [setS_n (by omega), g2.2 23 13 (by unfold Sf; omega)]; exact h3
  · rw [setS_n (by omega), g2.2 28 _ (by unfold Sf; omega)]; exact (h7 v hv hl hc).1
theorem min6_le (c : Nat) : min6 c ≤ 6 := by unfold min6; split <;> omega
/-- every place has its village -/
theorem ndc_has (lk : Nat → Int32) : ∀ (i p : Nat), p < ndc lk i → ∃ v, v < i ∧ 0 < lk v ∧ ndc lk v = p
  | 0, p, h => absurd h (Nat.not_lt_zero p)
  | i + 1, p, h => by
    rw [ndc_s] at h
    by_cases q : p < ndc lk i
    · obtain ⟨v, a, b, c⟩ := ndc_has lk i p q
      exact ⟨v, by omega, b, c⟩
    · by_cases l : 0 < lk i
      · rw [if_pos l] at h
        exact ⟨i, by omega, l, by omega⟩
      · rw [if_neg l] at h
        omega
theorem mkP.who {M M9 : gM} {ns nt nv : Nat} {sp : Nat → Nat} {lk : Nat → Int32} (h : mkP M M9 ns nt nv sp lk) {p : Nat} (hp : p < min6 (ndc lk nv)) : ∃ v, v < nv ∧ 0 < lk v ∧ ndc lk v = p ∧ M9.1 28 p = nI v := by
  have h6 : p < 6 ∧ p < ndc lk nv := by unfold min6 at hp; split at hp <;> omega
  obtain ⟨v, a, b, c⟩ := ndc_has lk nv p h6.2
  refine ⟨v, a, b, c, ?_⟩
  have := h.n.2.2 v a b (by omega)
  rw [c] at this
  exact this
set_option maxRecDepth 100000 in
set_option maxHeartbeats 400000 in
theorem ct_X8_plan {M : gM} {b : Bool} (hR : M.2.2 = stdR b) {nv ns nt nb : Nat} (hnv : M.1 0 7 = nI nv) (lv : nv ≤ 12) (hns : M.1 0 8 = nI ns) (ls : ns ≤ 4) (hnt : M.1 0 9 = nI nt) (lt : nt ≤ 4) (hnb : M.1 0 10 = nI nb) (lb : nb ≤ 10) {o : Nat} (hob : o = if b then 17 else 11) {nl : Nat} {B : Nat → Bool} {A : Nat → Int32} {ST : Nat → Nat} {C : Nat → Nat × Int32} (hO : ordC M o nl B A ST C) {sp : Nat → Nat} (hts : ∀ t, t < nt → M.1 (t + 74) 0 = nI (sp t) ∧ sp t < ns) (w : Int32) : gC 18 0 0 yX8_plan cX8_plan 2 (some .int) 140 140 [.ref 0, .int w] M (gI (fun r M9 => (¬ (0 ≤ w ∧ w ≤ 2) ∧ r = -1 ∧ M9 = M) ∨ ((0 ≤ w ∧ w ≤ 2) ∧ mkP M M9 ns nt nv sp (lkF M nl B A ST C) ∧ r = if w = 0 then M9.1 23 13 else if w = 1 then M9.1 23 15 else M9.1 23 16))) := by
  refine gC_i rfl (Nat.le_of_ble_eq_true rfl) (fun G hG hE => ?_)
  change G (140, 0, 0) 0 [some (.ref 0), some (.int w)] [] M
  refine r_iload_n hG dX8_plan_0 rfl ?_
  refine r_iconst hG (0) dX8_plan_1 (by decide) ?_
  refine r_iconst hG (2) dX8_plan_2 (by decide) ?_
  refine r_cSI3 hG mk_X8_55 dX8_plan_3 (ct_X8_within _ _ _) (by decide) ⟨Nat.le_refl _, Nat.le_refl _⟩ (Nat.le_of_ble_eq_true rfl) (fun x9 M9 h9 => ?_)
  obtain ⟨h8, e9⟩ := h9; rw [e9]; rcases h8 with ⟨e8, hw3⟩ | ⟨e8, hw3⟩
  · rw [e8]
    refine r_if_ne hG 11 dX8_plan_6 (by decide) (fun hc6 => ?_) (fun hc6 => absurd hc6 (by decide))
    refine r_aload_n hG dX8_plan_11 rfl ?_
    refine r_cVV0 hG mk_X8_133 dX8_plan_12 rfl (by decide) (ct_X8_makePlan hR hnv lv hns ls hnt lt hnb lb hob hO hts) (by decide) ⟨Nat.le_refl _, Nat.le_refl _⟩ (Nat.le_of_ble_eq_true rfl) (fun M12 h9 => ?_)
    have hk12 : mkP M M12 ns nt nv sp (lkF M nl B A ST C) := h9
    have hR : M12.2.2 = stdR b := by rw [hk12.eq.1]; exact hR
    refine r_iload_n hG dX8_plan_15 rfl ?_
    refine r_if_ne hG 27 dX8_plan_16 (by decide) (fun hc16 => ?_) (fun hc16 => ?_)
    · refine r_iload_n hG dX8_plan_27 rfl ?_
      refine r_iconst hG (1) dX8_plan_28 (by decide) ?_
      refine r_icmp_ne hG 42 dX8_plan_29 (by decide) (fun hc29 => ?_) (fun hc29 => ?_)
      · refine r_aload_n hG dX8_plan_42 rfl ?_
        refine r_getR hG 6 23 fk_X8_47 dX8_plan_43 rfl (by decide) rfl (sr hR rfl) ?_
        refine r_getI hG 16 fk_X8_142 dX8_plan_46 rfl (by decide) rfl ?_
        refine hE _ _ _ _ _ dX8_plan_49 rfl (Nat.le_refl _) (Nat.le_refl _) rfl ?_
        exact Or.inr ⟨hw3, hk12, by simp [hc16, hc29]⟩
      · refine r_aload_n hG dX8_plan_32 rfl ?_
        refine r_getR hG 6 23 fk_X8_47 dX8_plan_33 rfl (by decide) rfl (sr hR rfl) ?_
        refine r_getI hG 15 fk_X8_139 dX8_plan_36 rfl (by decide) rfl ?_
        refine r_goto hG 49 dX8_plan_39 (by decide) ?_
        refine hE _ _ _ _ _ dX8_plan_49 rfl (Nat.le_refl _) (Nat.le_refl _) rfl ?_
        exact Or.inr ⟨hw3, hk12, by simp [hc16, hc29]⟩
    · refine r_aload_n hG dX8_plan_19 rfl ?_
      refine r_getR hG 6 23 fk_X8_47 dX8_plan_20 rfl (by decide) rfl (sr hR rfl) ?_
      refine r_getI hG 13 fk_X8_136 dX8_plan_23 rfl (by decide) rfl ?_
      refine hE _ _ _ _ _ dX8_plan_26 rfl (Nat.le_refl _) (Nat.le_refl _) rfl ?_
      exact Or.inr ⟨hw3, hk12, by simp [hc16]⟩
  · rw [e8]
    refine r_if_ne hG 11 dX8_plan_6 (by decide) (fun hc6 => absurd hc6 (by decide)) (fun hc6 => ?_)
    refine r_iconst hG (-1) dX8_plan_9 (by decide) ?_
    refine hE _ _ _ _ _ dX8_plan_10 rfl (Nat.le_refl _) (Nat.le_refl _) rfl ?_
    exact Or.inl ⟨hw3, rfl, rfl⟩

def findP (M : gM) (v : Int32) : Nat → Nat → Int32
  | 0, _ => -1
  | n + 1, i => if M.1 28 i = v then M.1 39 i else findP M v n (i + 1)
set_option maxRecDepth 100000 in
set_option maxHeartbeats 400000 in
theorem lp_X8_planned  {G : gJ} {P : Int32 → gM → Prop} (hG : gS 18 0 0 yX8_planned.cls cX8_planned 3 G) (hE : gEi 140 0 0 cX8_planned .int P G) {M : gM} {b : Bool} (hR : M.2.2 = stdR b) {n : Nat} (hn : M.1 23 14 = nI n) (ln : n ≤ 6) {v : Int32} :
    ∀ (r i : Nat), i + r = n → P (findP M v r i) M → G (140, 0, 0) 16 [some (.ref 0), some (.int v), some (.int (nI i))] [] M := by
  intro r
  induction r with
  | zero =>
    intro i hi hP
    refine r_iload_n hG dX8_planned_16 rfl ?_
    refine r_aload_n hG dX8_planned_17 rfl ?_
    refine r_getR hG 6 23 fk_X8_47 dX8_planned_18 rfl (by decide) rfl (sr hR rfl) ?_
    refine r_getIv hG 14 (nI n) fk_X8_145 dX8_planned_21 rfl (by decide) rfl hn ?_
    refine r_icmp_ge hG 56 dX8_planned_24 (by decide) (fun hc24 => ?_) (fun hc24 => absurd (nle_f (a := n) (b := i) (by omega) (by omega) hc24) (by omega))
    refine r_iconst hG (-1) dX8_planned_56 (by decide) ?_
    refine hE _ _ _ _ _ dX8_planned_57 rfl (Nat.le_refl _) (Nat.le_refl _) rfl ?_
    exact hP
  | succ r ih =>
    intro i hi hP
    refine r_iload_n hG dX8_planned_16 rfl ?_
    refine r_aload_n hG dX8_planned_17 rfl ?_
    refine r_getR hG 6 23 fk_X8_47 dX8_planned_18 rfl (by decide) rfl (sr hR rfl) ?_
    refine r_getIv hG 14 (nI n) fk_X8_145 dX8_planned_21 rfl (by decide) rfl hn ?_
    refine r_icmp_ge hG 56 dX8_planned_24 (by decide) (fun hc24 => absurd (nle_t (a := n) (b := i) (by omega) (by omega) hc24) (by omega)) (fun hc24 => ?_)
    refine r_aload_n hG dX8_planned_27 rfl ?_
    refine r_getR hG 6 23 fk_X8_47 dX8_planned_28 rfl (by decide) rfl (sr hR rfl) ?_
    refine r_getR hG 4 28 fk_X8_148 dX8_planned_31 rfl (by decide) rfl (sr hR rfl) ?_
    refine r_iload_n hG dX8_planned_34 rfl ?_
    refine r_iald hG i dX8_planned_35 rfl (by decide) rfl (by omega) (by decide) ?_
    refine r_iload_n hG dX8_planned_36 rfl ?_
    refine r_icmp_ne hG 50 dX8_planned_37 (by decide) (fun hc37 => ?_) (fun hc37 => ?_)
    · refine r_iinc hG (1) dX8_planned_50 (by decide) rfl ?_
      refine r_loc [some (.ref 0), some (.int v), some (.int ((nI i) + (1)))] rfl ?_
      refine r_goto hG 16 dX8_planned_53 (by decide) ?_
      rw [nI_1]
      refine ih (i + 1) (by omega) ?_
      unfold findP at hP
      rw [if_neg hc37] at hP
      exact hP
    · refine r_aload_n hG dX8_planned_40 rfl ?_
      refine r_getR hG 6 23 fk_X8_47 dX8_planned_41 rfl (by decide) rfl (sr hR rfl) ?_
      refine r_getR hG 9 39 fk_X8_151 dX8_planned_44 rfl (by decide) rfl (sr hR rfl) ?_
      refine r_iload_n hG dX8_planned_47 rfl ?_
      refine r_iald hG i dX8_planned_48 rfl (by decide) rfl (by omega) (by decide) ?_
      refine hE _ _ _ _ _ dX8_planned_49 rfl (Nat.le_refl _) (Nat.le_refl _) rfl ?_
      unfold findP at hP
      rw [if_pos hc37] at hP
      exact hP

set_option maxRecDepth 100000 in
set_option maxHeartbeats 400000 in
theorem ct_X8_planned {M : gM} {b : Bool} (hR : M.2.2 = stdR b) {nv ns nt nb : Nat} (hnv : M.1 0 7 = nI nv) (lv : nv ≤ 12) (hns : M.1 0 8 = nI ns) (ls : ns ≤ 4) (hnt : M.1 0 9 = nI nt) (lt : nt ≤ 4) (hnb : M.1 0 10 = nI nb) (lb : nb ≤ 10) {o : Nat} (hob : o = if b then 17 else 11) {nl : Nat} {B : Nat → Bool} {A : Nat → Int32} {ST : Nat → Nat} {C : Nat → Nat × Int32} (hO : ordC M o nl B A ST C) {sp : Nat → Nat} (hts : ∀ t, t < nt → M.1 (t + 74) 0 = nI (sp t) ∧ sp t < ns) (v : Int32) : gC 18 0 0 yX8_planned cX8_planned 3 (some .int) 140 140 [.ref 0, .int v] M (gI (fun r M9 => (¬ vIn v nv ∧ r = -1 ∧ M9 = M) ∨ (∃ q, q < nv ∧ v = nI q ∧ mkP M M9 ns nt nv sp (lkF M nl B A ST C) ∧ r = findP M9 (nI q) (min6 (ndc (lkF M nl B A ST C) nv)) 0))) := by
  refine gC_i rfl (Nat.le_of_ble_eq_true rfl) (fun G hG hE => ?_)
  change G (140, 0, 0) 0 [some (.ref 0), some (.int v), none] [] M
  refine r_aload_n hG dX8_planned_0 rfl ?_
  refine r_iload_n hG dX8_planned_1 rfl ?_
  refine r_cVI1 hG mk_X8_106 dX8_planned_2 rfl (by decide) (ct_X8_isVillage (by exact hR) (c := nv) hnv (by omega) _) (by decide) ⟨Nat.le_refl _, Nat.le_refl _⟩ (Nat.le_of_ble_eq_true rfl) (fun x9 M9 h9 => ?_)
  obtain ⟨h8, e9⟩ := h9; rw [e9]; rcases h8 with ⟨e8, hw2⟩ | ⟨e8, hw2⟩
  · rw [e8]
    obtain ⟨q2, hq2, hv2⟩ := hw2
    subst hv2
    refine r_if_ne hG 10 dX8_planned_5 (by decide) (fun hc5 => ?_) (fun hc5 => absurd hc5 (by decide))
    refine r_aload_n hG dX8_planned_10 rfl ?_
    refine r_cVV0 hG mk_X8_133 dX8_planned_11 rfl (by decide) (ct_X8_makePlan hR hnv lv hns ls hnt lt hnb lb hob hO hts) (by decide) ⟨Nat.le_refl _, Nat.le_refl _⟩ (Nat.le_of_ble_eq_true rfl) (fun M11 h9 => ?_)
    have hk11 : mkP M M11 ns nt nv sp (lkF M nl B A ST C) := h9
    have hR : M11.2.2 = stdR b := by rw [hk11.eq.1]; exact hR
    refine r_iconst hG (0) dX8_planned_14 (by decide) ?_
    refine r_istore_n hG dX8_planned_15 (by decide) ?_
    refine r_loc [some (.ref 0), some (.int (nI q2)), some (.int (0))] rfl ?_
    exact lp_X8_planned hG hE hR hk11.n.1 (min6_le _) _ 0 (by omega) (Or.inr ⟨_, hq2, rfl, hk11, rfl⟩)
  · rw [e8]
    refine r_if_ne hG 10 dX8_planned_5 (by decide) (fun hc5 => absurd hc5 (by decide)) (fun hc5 => ?_)
    refine r_iconst hG (-1) dX8_planned_8 (by decide) ?_
    refine hE _ _ _ _ _ dX8_planned_9 rfl (Nat.le_refl _) (Nat.le_refl _) rfl ?_
    exact Or.inl ⟨hw2, rfl, rfl⟩

def dLoad (M : gM) (t s v : Nat) : Int32 := mmin (mmin (M.1 (t + 74) 1) (M.1 (2 * s + 66) 2)) (M.1 (2 * v + 42) 2 - M.1 (2 * v + 42) 3)
def fDrive (M : gM) (t s v : Nat) : gM :=
  gwI (gwI (gwI (gwI (gwI (gwI M (2 * s + 66) 2 (M.1 (2 * s + 66) 2 - dLoad M t s v)) (2 * v + 42) 3 (mmin (M.1 (2 * v + 42) 3 + dLoad M t s v) (M.1 (2 * v + 42) 2))) (2 * v + 42) 9 (M.1 (2 * v + 42) 9 + 1)) (t + 74) 5 (M.1 (t + 74) 5 + dLoad M t s v)) (t + 74) 3 (M.1 (t + 74) 3 + 2 * M.1 (2 * s + 67) v)) (t + 74) 4 (M.1 (t + 74) 4 + 2 * M.1 (2 * s + 67) v)
set_option maxRecDepth 100000 in
set_option maxHeartbeats 400000 in
theorem ct_X8_drive {M : gM} {b : Bool} (hR : M.2.2 = stdR b) {nv ns nt nb : Nat} (hnv : M.1 0 7 = nI nv) (lv : nv ≤ 12) (hns : M.1 0 8 = nI ns) (ls : ns ≤ 4) (hnt : M.1 0 9 = nI nt) (lt : nt ≤ 4) (hnb : M.1 0 10 = nI nb) (lb : nb ≤ 10) {sp : Nat → Nat} (hts : ∀ t, t < nt → M.1 (t + 74) 0 = nI (sp t) ∧ sp t < ns) {v : Nat} (hv : v < nv) (x : Int32) : gC 2 0 0 yX8_drive cX8_drive 7 none 140 140 [.ref 0, .int x, .int (nI v)] M (gV (fun M9 => (∃ t, t < nt ∧ x = nI t ∧ M9 = fDrive M t (sp t) v) ∨ (¬ vIn x nt ∧ M9 = M))) := by
  refine gC_v rfl (Nat.le_of_ble_eq_true rfl) (fun G hG hE => ?_)
  change G (140, 0, 0) 0 [some (.ref 0), some (.int x), some (.int (nI v)), none, none, none, none] [] M
  refine r_aload_n hG dX8_drive_0 rfl ?_
  refine r_iload_n hG dX8_drive_1 rfl ?_
  refine r_cVI1 hG mk_X8_195 dX8_drive_2 rfl (by decide) (ct_X8_isTanker (by exact hR) (c := nt) hnt (by omega) _) (by decide) ⟨Nat.le_refl _, Nat.le_refl _⟩ (Nat.le_of_ble_eq_true rfl) (fun x9 M9 h9 => ?_)
  obtain ⟨h8, e9⟩ := h9; rw [e9]; rcases h8 with ⟨e8, hw2⟩ | ⟨e8, hw2⟩
  · rw [e8]
    obtain ⟨q2, hq2, hv2⟩ := hw2
    subst hv2
    refine r_if_eq hG 32 dX8_drive_5 (by decide) (fun hc5 => absurd hc5 (by decide)) (fun hc5 => ?_)
    refine r_aload_n hG dX8_drive_8 rfl ?_
    refine r_iload_n hG dX8_drive_9 rfl ?_
    refine r_cVI1 hG mk_X8_106 dX8_drive_10 rfl (by decide) (ct_X8_isVillage (by exact hR) (c := nv) hnv (by omega) _) (by decide) ⟨Nat.le_refl _, Nat.le_refl _⟩ (Nat.le_of_ble_eq_true rfl) (fun x9 M9 h9 => ?_)
    obtain ⟨h8, e9⟩ := h9; rw [e9]; rcases h8 with ⟨e8, hw10⟩ | ⟨e8, hw10⟩; rotate_left; exact absurd ⟨_, hv, rfl⟩ hw10
    · rw [e8]
      refine r_if_eq hG 32 dX8_drive_13 (by decide) (fun hc13 => absurd hc13 (by decide)) (fun hc13 => ?_)
      refine r_aload_n hG dX8_drive_16 rfl ?_
      refine r_aload_n hG dX8_drive_17 rfl ?_
      refine r_getR hG 2 3 fk_X8_23 dX8_drive_18 rfl (by decide) rfl (sr hR rfl) ?_
      refine r_iload_n hG dX8_drive_21 rfl ?_
      refine r_aald6 hG q2 (q2 + 74) dX8_drive_22 rfl (by decide) rfl (by omega) (by decide) (sr hR rfl) ?_
      refine r_getIv hG 0 (nI (sp q2)) fk_X8_97 dX8_drive_23 (gkT (by omega)) (show (q2 + 74) < 140 by omega) rfl (hts q2 (by omega)).1 ?_
      refine r_cVI1 hG mk_X8_90 dX8_drive_26 rfl (by decide) (ct_X8_isSpring (by exact hR) (c := ns) hns (by omega) _) (by decide) ⟨Nat.le_refl _, Nat.le_refl _⟩ (Nat.le_of_ble_eq_true rfl) (fun x9 M9 h9 => ?_)
      obtain ⟨h8, e9⟩ := h9; rw [e9]; rcases h8 with ⟨e8, hw26⟩ | ⟨e8, hw26⟩; rotate_left; exact absurd ⟨_, (hts q2 hq2).2, rfl⟩ hw26
      · rw [e8]
        have hs4 := (hts q2 hq2).2
        refine r_if_ne hG 33 dX8_drive_29 (by decide) (fun hc29 => ?_) (fun hc29 => absurd hc29 (by decide))
        refine r_aload_n hG dX8_drive_33 rfl ?_
        refine r_getR hG 2 3 fk_X8_23 dX8_drive_34 rfl (by decide) rfl (sr hR rfl) ?_
        refine r_iload_n hG dX8_drive_37 rfl ?_
        refine r_aald6 hG q2 (q2 + 74) dX8_drive_38 rfl (by decide) rfl (by omega) (by decide) (sr hR rfl) ?_
        refine r_astore_n hG dX8_drive_39 (by decide) ?_
        refine r_loc [some (.ref 0), some (.int (nI q2)), some (.int (nI v)), some (.ref (q2 + 74)), none, none, none] rfl ?_
        refine r_aload_n hG dX8_drive_40 rfl ?_
        refine r_getR hG 1 2 fk_X8_17 dX8_drive_41 rfl (by decide) rfl (sr hR rfl) ?_
        refine r_aload_n hG dX8_drive_44 rfl ?_
        refine r_getIv hG 0 (nI (sp q2)) fk_X8_97 dX8_drive_45 (gkT (by omega)) (show (q2 + 74) < 140 by omega) rfl (hts q2 (by omega)).1 ?_
        refine r_aald5 hG (sp q2) (2 * (sp q2) + 66) dX8_drive_48 rfl (by decide) rfl (by omega) (by decide) (sr hR rfl) ?_
        refine r_astore hG dX8_drive_49 (by decide) ?_
        refine r_loc [some (.ref 0), some (.int (nI q2)), some (.int (nI v)), some (.ref (q2 + 74)), some (.ref (2 * (sp q2) + 66)), none, none] rfl ?_
        refine r_aload_n hG dX8_drive_51 rfl ?_
        refine r_getR hG 0 1 fk_X8_11 dX8_drive_52 rfl (by decide) rfl (sr hR rfl) ?_
        refine r_iload_n hG dX8_drive_55 rfl ?_
        refine r_aald4 hG v (2 * v + 42) dX8_drive_56 rfl (by decide) rfl (by omega) (by decide) (sr hR rfl) ?_
        refine r_astore hG dX8_drive_57 (by decide) ?_
        refine r_loc [some (.ref 0), some (.int (nI q2)), some (.int (nI v)), some (.ref (q2 + 74)), some (.ref (2 * (sp q2) + 66)), some (.ref (2 * v + 42)), none] rfl ?_
        refine r_aload_n hG dX8_drive_59 rfl ?_
        refine r_getI hG 1 fk_X8_100 dX8_drive_60 (gkT (by omega)) (show (q2 + 74) < 140 by omega) rfl ?_
        refine r_aload hG dX8_drive_63 rfl ?_
        refine r_getI hG 2 fk_X8_86 dX8_drive_65 (gkS (by omega)) (show (2 * (sp q2) + 66) < 140 by omega) rfl ?_
        refine r_cSI2 hG mk_X8_163 dX8_drive_68 (ct_J9_min_7cf53 _ _) (by decide) ⟨Nat.le_refl _, Nat.le_refl _⟩ (Nat.le_of_ble_eq_true rfl) (fun x9 M9 h9 => ?_)
        obtain ⟨e8, e9⟩ := h9
        rw [e8, e9]
        refine r_aload hG dX8_drive_71 rfl ?_
        refine r_cVI0 hG mk_X8_270 dX8_drive_73 (gkV (by omega)) (show (2 * v + 42) < 140 by omega) (ct_X7_room (by exact hR) (i := v) (by omega)) (by decide) ⟨Nat.le_refl _, Nat.le_refl _⟩ (Nat.le_of_ble_eq_true rfl) (fun x9 M9 h9 => ?_)
        obtain ⟨e8, e9⟩ := h9
        rw [e8, e9]
        refine r_cSI2 hG mk_X8_163 dX8_drive_76 (ct_J9_min_7cf53 _ _) (by decide) ⟨Nat.le_refl _, Nat.le_refl _⟩ (Nat.le_of_ble_eq_true rfl) (fun x9 M9 h9 => ?_)
        obtain ⟨e8, e9⟩ := h9
        rw [e8, e9]
        refine r_top ((dLoad M q2 (sp q2) v)) rfl ?_
        refine r_istore hG dX8_drive_79 (by decide) ?_
        refine r_loc [some (.ref 0), some (.int (nI q2)), some (.int (nI v)), some (.ref (q2 + 74)), some (.ref (2 * (sp q2) + 66)), some (.ref (2 * v + 42)), some (.int (dLoad M q2 (sp q2) v))] rfl ?_
        refine r_aload hG dX8_drive_81 rfl ?_
        refine r_dup hG dX8_drive_83 rfl ?_
        refine r_getI hG 2 fk_X8_86 dX8_drive_84 (gkS (by omega)) (show (2 * (sp q2) + 66) < 140 by omega) rfl ?_
        refine r_iload hG dX8_drive_87 rfl ?_
        refine r_isub hG dX8_drive_89 ?_
        refine r_putI hG 2 fp_X8_86 dX8_drive_90 (gkS (by omega)) (show (2 * (sp q2) + 66) < 140 by omega) rfl rfl rfl ?_
        refine r_aload hG dX8_drive_93 rfl ?_
        refine r_iload hG dX8_drive_95 rfl ?_
        refine r_cVV1 hG mk_X8_282 dX8_drive_97 (gkV (by omega)) (show (2 * v + 42) < 140 by omega) (ct_X7_fill (by exact hR) (i := v) (by omega) _) (by decide) ⟨Nat.le_refl _, Nat.le_refl _⟩ (Nat.le_of_ble_eq_true rfl) (fun M9 h9 => ?_)
        rw [h9]
        refine r_mem (gwI (gwI M (2 * (sp q2) + 66) 2 ((M.1 (2 * (sp q2) + 66) 2) - (dLoad M q2 (sp q2) v))) (2 * v + 42) 3 (mmin (M.1 (2 * v + 42) 3 + (dLoad M q2 (sp q2) v)) (M.1 (2 * v + 42) 2))) (by rw [gwI_n (by omega), gwI_n (by omega)]) ?_
        refine r_aload hG dX8_drive_100 rfl ?_
        refine r_dup hG dX8_drive_102 rfl ?_
        refine r_getIv hG 9 (M.1 (2 * v + 42) 9) fk_X8_292 dX8_drive_103 (gkV (by omega)) (show (2 * v + 42) < 140 by omega) rfl ((gwI_n (by omega)).trans (gwI_n (by omega))) ?_
        refine r_iconst hG (1) dX8_drive_106 (by decide) ?_
        refine r_iadd hG dX8_drive_107 ?_
        refine r_putI hG 9 fp_X8_292 dX8_drive_108 (gkV (by omega)) (show (2 * v + 42) < 140 by omega) rfl rfl rfl ?_
        refine r_aload_n hG dX8_drive_111 rfl ?_
        refine r_iload hG dX8_drive_112 rfl ?_
        refine r_iconst hG (2) dX8_drive_114 (by decide) ?_
        refine r_aload hG dX8_drive_115 rfl ?_
        refine r_getR hG 4 (2 * (sp q2) + 67) fk_X8_109 dX8_drive_117 (gkS (by omega)) (show (2 * (sp q2) + 66) < 140 by omega) rfl (sr hR (sRy (by omega))) ?_
        refine r_iload_n hG dX8_drive_120 rfl ?_
        refine r_ialdv hG v (M.1 (2 * (sp q2) + 67) v) dX8_drive_121 (gkY (by omega)) (show (2 * (sp q2) + 67) < 140 by omega) rfl (by omega) (by decide) ((gwI_n (by omega)).trans ((gwI_n (by omega)).trans (gwI_n (by omega)))) ?_
        refine r_imul hG dX8_drive_122 ?_
        refine r_cVV2 hG mk_X8_295 dX8_drive_123 (gkT (by omega)) (show (q2 + 74) < 140 by omega) (ct_X5_carried (by exact hR) (i := q2) (by omega) _ _) (by decide) ⟨Nat.le_refl _, Nat.le_refl _⟩ (Nat.le_of_ble_eq_true rfl) (fun M9 h9 => ?_)
        rw [h9]
        refine r_mem (gwI (gwI (gwI (gwI (gwI (gwI M (2 * (sp q2) + 66) 2 ((M.1 (2 * (sp q2) + 66) 2) - (dLoad M q2 (sp q2) v))) (2 * v + 42) 3 (mmin (M.1 (2 * v + 42) 3 + (dLoad M q2 (sp q2) v)) (M.1 (2 * v + 42) 2))) (2 * v + 42) 9 ((M.1 (2 * v + 42) 9) + (1))) (q2 + 74) 5 (M.1 (q2 + 74) 5 + (dLoad M q2 (sp q2) v))) (q2 + 74) 3 (M.1 (q2 + 74) 3 + (2 * M.1 (2 * (sp q2) + 67) v))) (q2 + 74) 4 (M.1 (q2 + 74) 4 + (2 * M.1 (2 * (sp q2) + 67) v))) (by rw [gwI_n (by omega), gwI_n (by omega), gwI_n (by omega), gwI_n (by omega), gwI_n (by omega), gwI_n (by omega), gwI_n (by omega), gwI_n (by omega), gwI_n (by omega)]) ?_
        refine hE _ _ _ _ dX8_drive_126 rfl (Nat.le_refl _) (Nat.le_refl _) ?_
        exact Or.inl ⟨q2, hq2, rfl, rfl⟩
  · rw [e8]
    refine r_if_eq hG 32 dX8_drive_5 (by decide) (fun hc5 => ?_) (fun hc5 => absurd hc5 (by decide))
    refine hE _ _ _ _ dX8_drive_32 rfl (Nat.le_refl _) (Nat.le_refl _) ?_
    exact Or.inr ⟨hw2, rfl⟩


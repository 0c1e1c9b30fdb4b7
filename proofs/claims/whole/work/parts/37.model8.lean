/-- what findPlan leaves -/
def fpR (M M9 : gM) (nt nv : Nat) (sp : Nat → Nat) (W lk : Nat → Int32) : Prop := ∃ M2, nN M M2 W lk nv ∧ bstR M2 M9 (whoN lk nv) sp nt (min6 (ndc lk nv)) ((nt + 1) ^ min6 (ndc lk nv))
def Sx (k j : Nat) : Prop := k = 103 ∨ k = 104 ∨ (126 ≤ k ∧ k ≤ 131) ∨ (k = 88 ∧ (j = 51 ∨ j = 52 ∨ j = 57 ∨ j = 58))
theorem fpR.eq {M M9 : gM} {nt nv : Nat} {sp : Nat → Nat} {W lk : Nat → Int32} (h : fpR M M9 nt nv sp W lk) : gEq Sx M M9 := by
  obtain ⟨M2, h1, h2⟩ := h
  exact (h1.1.mono (fun k j q => by unfold Sn at q; unfold Sx; omega)).trans (h2.1.mono (fun k j q => by unfold Sb at q; unfold Sx; omega))
theorem fpR.n {M M9 : gM} {nt nv : Nat} {sp : Nat → Nat} {W lk : Nat → Int32} (h : fpR M M9 nt nv sp W lk) : M9.1 88 52 = nI (min6 (ndc lk nv)) ∧ M9.1 88 51 = nI (ndc lk nv) ∧ ∀ k, k < min6 (ndc lk nv) → M9.1 126 k = nI (whoN lk nv k) ∧ whoN lk nv k < nv := by
  obtain ⟨M2, ⟨g1, g2, g3, g4⟩, h2⟩ := h
  refine ⟨(h2.1.2 88 52 (by unfold Sb; omega)).trans g3, (h2.1.2 88 51 (by unfold Sb; omega)).trans g2, fun k hk => ?_⟩
  have h6 : k < 6 ∧ k < ndc lk nv := by unfold min6 at hk; split at hk <;> omega
  obtain ⟨a, b, c⟩ := whoN_at lk nv k h6.2
  have := (g4 _ a b (by omega)).1
  rw [c] at this
  exact ⟨(h2.1.2 126 k (by unfold Sb; omega)).trans this, a⟩
theorem nN.who {M M9 : gM} {nv : Nat} {W lk : Nat → Int32} (h : nN M M9 W lk nv) (lv : nv ≤ 12) : ∀ k, k < min6 (ndc lk nv) → M9.1 126 k = nI (whoN lk nv k) ∧ whoN lk nv k < 12 := fun k hk => by
  have h6 : k < 6 ∧ k < ndc lk nv := by unfold min6 at hk; split at hk <;> omega
  obtain ⟨a, b, c⟩ := whoN_at lk nv k h6.2
  have := (h.2.2.2 _ a b (by omega)).1
  rw [c] at this
  exact ⟨this, by omega⟩
set_option maxRecDepth 100000 in
set_option maxHeartbeats 400000 in
theorem ct_X9_findPlan {M : gM} {b : Bool} (hR : M.2.2 = stdR b) {nv ns nt nb : Nat} (hnv : M.1 88 26 = nI nv) (lv : nv ≤ 12) (hns : M.1 88 38 = nI ns) (ls : ns ≤ 4) (hnt : M.1 88 43 = nI nt) (lt : nt ≤ 4) (hnb : M.1 88 62 = nI nb) (lb : nb ≤ 10) {hh nl : Nat} {B : Nat → Bool} {A : Nat → Int32} {ST : Nat → Nat} {C : Nat → Nat × Int32} (hO : ordM M hh nl B A ST C) (ht : ∀ v, v < nv → ¬ (M.1 107 v).toInt64 = 0) {sp : Nat → Nat} (hsp : ∀ t, t < nt → M.1 119 t = nI (sp t) ∧ sp t < ns) (dy : Int32) : gC 4 0 0 yX9_findPlan cX9_findPlan 8 none 140 140 [.ref 88, .int dy] M (gV (fun M9 => fpR M M9 nt nv sp (fun v => mwantV M v dy nl B A ST C) (mlk M dy nl B A ST C))) := by
  refine gC_v rfl (Nat.le_of_ble_eq_true rfl) (fun G hG hE => ?_)
  change G (140, 0, 0) 0 [some (.ref 88), some (.int dy), none, none, none, none, none, none] [] M
  refine r_aload_n hG dX9_findPlan_0 rfl ?_
  refine r_iload_n hG dX9_findPlan_1 rfl ?_
  refine r_cVV1 hG mk_X9_328 dX9_findPlan_2 rfl (by decide) (ct_X9_findNeedy hR hnv lv hO ht dy) (by decide) ⟨Nat.le_refl _, Nat.le_refl _⟩ (Nat.le_of_ble_eq_true rfl) (fun M2 h9 => ?_)
  skip
  refine r_iconst hG (1) dX9_findPlan_5 (by decide) ?_
  refine r_istore_n hG dX9_findPlan_6 (by decide) ?_
  refine r_loc [some (.ref 88), some (.int dy), some (.int (1)), none, none, none, none, none] rfl ?_
  refine r_iconst hG (0) dX9_findPlan_7 (by decide) ?_
  refine r_istore_n hG dX9_findPlan_8 (by decide) ?_
  refine r_loc [some (.ref 88), some (.int dy), some (.int (1)), some (.int (0)), none, none, none, none] rfl ?_
  have n9 : nN M M2 (fun v => mwantV M v dy nl B A ST C) (mlk M dy nl B A ST C) nv := h9
  have hw9 := n9.who lv
  have q2 := n9.1
  have hns2 : M2.1 88 38 = nI ns := (q2.2 88 38 (by unfold Sn; omega)).trans hns
  have hnt2 : M2.1 88 43 = nI nt := (q2.2 88 43 (by unfold Sn; omega)).trans hnt
  have hR2 : M2.2.2 = stdR b := by rw [q2.1]; exact hR
  have hsp2 : ∀ t, t < nt → M2.1 119 t = nI (sp t) ∧ sp t < 4 := fun t ht => ⟨(q2.2 119 t (by unfold Sn; omega)).trans (hsp t ht).1, by have := (hsp t ht).2; omega⟩
  have hsn : ∀ t, t < nt → sp t < ns := fun t ht => (hsp t ht).2
  refine lp_X9_findPlan1 hG hE hR2 hns2 ls hnt2 lt n9.2.2.1 (min6_le _) hw9 hsp2 hsn (min6 (ndc (mlk M dy nl B A ST C) nv)) 0 (by omega) ?_
  refine r_aload_n hG dX9_findPlan_32 rfl ?_
  refine r_iconst hG (-1) dX9_findPlan_33 (by decide) ?_
  refine r_putI hG 57 fp_X9_331 dX9_findPlan_34 rfl (by decide) rfl rfl rfl ?_
  refine r_iconst hG (0) dX9_findPlan_37 (by decide) ?_
  refine r_istore_n hG dX9_findPlan_38 (by decide) ?_
  refine r_loc [some (.ref 88), some (.int dy), some (.int (nI ((nt + 1) ^ min6 (ndc (mlk M dy nl B A ST C) nv)))), some (.int (nI 0)), none, none, none, none] rfl ?_
  exact lp_X9_findPlan3 hG hE hR2 hns2 ls hnt2 lt n9.2.2.1 (min6_le _) hw9 hsp2 hsn ((nt + 1) ^ min6 (ndc (mlk M dy nl B A ST C) nv)) 0 _ _ _ _ _ (by omega) ⟨gEq.rf.put (by unfold Sb; omega), gwI_s, gwI_n (by omega), fun k hk => gwI_n (by omega)⟩ (fun M9 h9 => ⟨M2, n9, h9⟩)

theorem mlk_c {M M' : gM} {nl : Nat} {dy : Int32} {B : Nat → Bool} {A : Nat → Int32} {ST : Nat → Nat} {C : Nat → Nat × Int32} (h : ∀ k j, (105 ≤ k ∧ k ≤ 110) ∨ (k = 88 ∧ j = 37) → M'.1 k j = M.1 k j) : mlk M' dy nl B A ST C = mlk M dy nl B A ST C := by
  funext v
  unfold mlk
  rw [mwantV_c (M := M) (fun k j q => h k j (by omega)), h 108 v (by omega)]
theorem mW_c {M M' : gM} {nl : Nat} {dy : Int32} {B : Nat → Bool} {A : Nat → Int32} {ST : Nat → Nat} {C : Nat → Nat × Int32} (h : ∀ k j, (105 ≤ k ∧ k ≤ 110) ∨ (k = 88 ∧ j = 37) → M'.1 k j = M.1 k j) : (fun v => mwantV M' v dy nl B A ST C) = (fun v => mwantV M v dy nl B A ST C) := by
  funext v
  rw [mwantV_c (M := M) (fun k j q => h k j (by omega))]
set_option maxRecDepth 100000 in
set_option maxHeartbeats 400000 in
theorem ct_X9_plan {M : gM} {b : Bool} (hR : M.2.2 = stdR b) {nv ns nt nb : Nat} (hnv : M.1 88 26 = nI nv) (lv : nv ≤ 12) (hns : M.1 88 38 = nI ns) (ls : ns ≤ 4) (hnt : M.1 88 43 = nI nt) (lt : nt ≤ 4) (hnb : M.1 88 62 = nI nb) (lb : nb ≤ 10) {hh nl : Nat} {B : Nat → Bool} {A : Nat → Int32} {ST : Nat → Nat} {C : Nat → Nat × Int32} (hO : ordM M hh nl B A ST C) (ht : ∀ v, v < nv → ¬ (M.1 107 v).toInt64 = 0) {sp : Nat → Nat} (hsp : ∀ t, t < nt → M.1 119 t = nI (sp t) ∧ sp t < ns) {nw : Nat} (hnw : M.1 88 25 = nI nw) (lw : nw < 400) (w : Int32) : gC 5 0 0 yX9_plan cX9_plan 2 (some .int) 140 140 [.ref 88, .int w] M (gI (fun r M9 => fpR (gwI M 88 0 0) M9 nt nv sp (fun v => mwantV M v (nI (nw + 1)) nl B A ST C) (mlk M (nI (nw + 1)) nl B A ST C) ∧ r = if w = 0 then M9.1 88 51 else if w = 1 then M9.1 88 57 else if w = 2 then M9.1 88 58 else -1)) := by
  refine gC_i rfl (Nat.le_of_ble_eq_true rfl) (fun G hG hE => ?_)
  change G (140, 0, 0) 0 [some (.ref 88), some (.int w)] [] M
  refine r_aload_n hG dX9_plan_0 rfl ?_
  refine r_iconst hG (0) dX9_plan_1 (by decide) ?_
  refine r_putI hG 0 fp_X9_1 dX9_plan_2 rfl (by decide) rfl rfl rfl ?_
  refine r_aload_n hG dX9_plan_5 rfl ?_
  refine r_aload_n hG dX9_plan_6 rfl ?_
  refine r_getIv hG 25 (nI nw) fk_X9_312 dX9_plan_7 rfl (by decide) rfl ((gwI_n (by omega)).trans hnw) ?_
  refine r_iconst hG (1) dX9_plan_10 (by decide) ?_
  refine r_iadd hG dX9_plan_11 ?_
  refine r_top (nI (nw + 1)) (nI_1 nw) ?_
  refine r_cVV1 hG mk_X9_343 dX9_plan_12 rfl (by decide) (ct_X9_findPlan (M := (gwI M 88 0 0)) (by exact hR) ((gwI_n (by omega)).trans hnv) lv ((gwI_n (by omega)).trans hns) ls ((gwI_n (by omega)).trans hnt) lt ((gwI_n (by omega)).trans hnb) lb hO.t (fun v hv => by rw [gwI_n (by omega)]; exact ht v hv) (fun t h => ⟨((gwI_n (by omega)).trans (hsp t h).1), (hsp t h).2⟩) (nI (nw + 1))) (by decide) ⟨Nat.le_refl _, Nat.le_refl _⟩ (Nat.le_of_ble_eq_true rfl) (fun M12 h9 => ?_)
  rw [mW_c (M := M) (fun k j h => gwI_n (by omega)), mlk_c (M := M) (fun k j h => gwI_n (by omega))] at h9
  have h12 : fpR (gwI M 88 0 0) M12 nt nv sp (fun v => mwantV M v (nI (nw + 1)) nl B A ST C) (mlk M (nI (nw + 1)) nl B A ST C) := h9
  have hR : M12.2.2 = stdR b := by rw [h12.eq.1]; exact hR
  refine r_iload_n hG dX9_plan_15 rfl ?_
  refine r_if_ne hG 26 dX9_plan_16 (by decide) (fun hc16 => ?_) (fun hc16 => ?_)
  · refine r_iload_n hG dX9_plan_26 rfl ?_
    refine r_iconst hG (1) dX9_plan_27 (by decide) ?_
    refine r_icmp_ne hG 38 dX9_plan_28 (by decide) (fun hc28 => ?_) (fun hc28 => ?_)
    · refine r_iload_n hG dX9_plan_38 rfl ?_
      refine r_iconst hG (2) dX9_plan_39 (by decide) ?_
      refine r_icmp_ne hG 50 dX9_plan_40 (by decide) (fun hc40 => ?_) (fun hc40 => ?_)
      · refine r_iconst hG (-1) dX9_plan_50 (by decide) ?_
        refine hE _ _ _ _ _ dX9_plan_51 rfl (Nat.le_refl _) (Nat.le_refl _) rfl ?_
        exact ⟨h12, by simp [hc16, hc28, hc40]⟩
      · refine r_aload_n hG dX9_plan_43 rfl ?_
        refine r_getI hG 58 fk_X9_340 dX9_plan_44 rfl (by decide) rfl ?_
        refine r_goto hG 51 dX9_plan_47 (by decide) ?_
        refine hE _ _ _ _ _ dX9_plan_51 rfl (Nat.le_refl _) (Nat.le_refl _) rfl ?_
        exact ⟨h12, by simp [hc16, hc28, hc40]⟩
    · refine r_aload_n hG dX9_plan_31 rfl ?_
      refine r_getI hG 57 fk_X9_331 dX9_plan_32 rfl (by decide) rfl ?_
      refine r_goto hG 51 dX9_plan_35 (by decide) ?_
      refine hE _ _ _ _ _ dX9_plan_51 rfl (Nat.le_refl _) (Nat.le_refl _) rfl ?_
      exact ⟨h12, by simp [hc16, hc28]⟩
  · refine r_aload_n hG dX9_plan_19 rfl ?_
    refine r_getI hG 51 fk_X9_319 dX9_plan_20 rfl (by decide) rfl ?_
    refine r_goto hG 51 dX9_plan_23 (by decide) ?_
    refine hE _ _ _ _ _ dX9_plan_51 rfl (Nat.le_refl _) (Nat.le_refl _) rfl ?_
    exact ⟨h12, by simp [hc16]⟩

def mfind (M : gM) (v : Int32) (nt : Nat) : Nat → Int32
  | 0 => -1
  | k + 1 => if M.1 126 k = v ∧ M.1 129 k < nI nt then M.1 129 k else mfind M v nt k
theorem mfind_n {M : gM} {v : Int32} {nt k : Nat} (h : ¬ (M.1 126 k = v ∧ M.1 129 k < nI nt)) : mfind M v nt (k + 1) = mfind M v nt k := if_neg h
theorem mfind_y {M : gM} {v : Int32} {nt k : Nat} (h : M.1 126 k = v ∧ M.1 129 k < nI nt) : mfind M v nt (k + 1) = M.1 129 k := if_pos h
set_option maxRecDepth 100000 in
set_option maxHeartbeats 400000 in
theorem lp_X9_planned  {G : gJ} {P : Int32 → gM → Prop} (hG : gS 5 0 0 yX9_planned.cls cX9_planned 4 G) (hE : gEi 140 0 0 cX9_planned .int P G) {M : gM} {b : Bool} (hR : M.2.2 = stdR b) {nt c : Nat} (hnt : M.1 88 43 = nI nt) (lt : nt ≤ 4) (hcn : M.1 88 52 = nI c) (lc : c ≤ 6) {v : Int32} :
    ∀ (r k : Nat), k + r = c → P (mfind M v nt c) M → G (140, 0, 0) 19 [some (.ref 88), some (.int v), some (.int (mfind M v nt k)), some (.int (nI k))] [] M := by
  intro r
  induction r with
  | zero =>
    intro k hk hP
    refine r_iload_n hG dX9_planned_19 rfl ?_
    refine r_aload_n hG dX9_planned_20 rfl ?_
    refine r_getIv hG 52 (nI c) fk_X9_322 dX9_planned_21 rfl (by decide) rfl hcn ?_
    refine r_icmp_ge hG 67 dX9_planned_24 (by decide) (fun hc24 => ?_) (fun hc24 => absurd (nle_f (a := c) (b := k) (by omega) (by omega) hc24) (by omega))
    refine r_iload_n hG dX9_planned_67 rfl ?_
    refine hE _ _ _ _ _ dX9_planned_68 rfl (Nat.le_refl _) (Nat.le_refl _) rfl ?_
    rw [show k = c by omega]
    exact hP
  | succ r ih =>
    intro k hk hP
    refine r_iload_n hG dX9_planned_19 rfl ?_
    refine r_aload_n hG dX9_planned_20 rfl ?_
    refine r_getIv hG 52 (nI c) fk_X9_322 dX9_planned_21 rfl (by decide) rfl hcn ?_
    refine r_icmp_ge hG 67 dX9_planned_24 (by decide) (fun hc24 => absurd (nle_t (a := c) (b := k) (by omega) (by omega) hc24) (by omega)) (fun hc24 => ?_)
    refine r_aload_n hG dX9_planned_27 rfl ?_
    refine r_getR hG 53 126 fk_X9_154 dX9_planned_28 rfl (by decide) rfl (sr hR rfl) ?_
    refine r_iload_n hG dX9_planned_31 rfl ?_
    refine r_iald hG k dX9_planned_32 rfl (by decide) rfl (by omega) (by decide) ?_
    refine r_iload_n hG dX9_planned_33 rfl ?_
    refine r_icmp_ne hG 59 dX9_planned_34 (by decide) (fun hc34 => ?_) (fun hc34 => ?_)
    · refine r_iload_n hG dX9_planned_59 rfl ?_
      refine r_istore_n hG dX9_planned_60 (by decide) ?_
      refine r_loc [some (.ref 88), some (.int v), some (.int (mfind M v nt k)), some (.int (nI k))] rfl ?_
      refine r_iinc hG (1) dX9_planned_61 (by decide) rfl ?_
      refine r_loc [some (.ref 88), some (.int v), some (.int (mfind M v nt k)), some (.int ((nI k) + (1)))] rfl ?_
      refine r_goto hG 19 dX9_planned_64 (by decide) ?_
      rw [nI_1]
      refine r_loc [some (.ref 88), some (.int v), some (.int (mfind M v nt (k + 1))), some (.int (nI (k + 1)))] (by rw [mfind_n (fun q => hc34 q.1)]) ?_
      exact ih (k + 1) (by omega) hP
    · refine r_aload_n hG dX9_planned_37 rfl ?_
      refine r_getR hG 56 129 fk_X9_163 dX9_planned_38 rfl (by decide) rfl (sr hR rfl) ?_
      refine r_iload_n hG dX9_planned_41 rfl ?_
      refine r_iald hG k dX9_planned_42 rfl (by decide) rfl (by omega) (by decide) ?_
      refine r_aload_n hG dX9_planned_43 rfl ?_
      refine r_getIv hG 43 (nI nt) fk_X9_294 dX9_planned_44 rfl (by decide) rfl hnt ?_
      refine r_icmp_ge hG 59 dX9_planned_47 (by decide) (fun hc47 => ?_) (fun hc47 => ?_)
      · refine r_iload_n hG dX9_planned_59 rfl ?_
        refine r_istore_n hG dX9_planned_60 (by decide) ?_
        refine r_loc [some (.ref 88), some (.int v), some (.int (mfind M v nt k)), some (.int (nI k))] rfl ?_
        refine r_iinc hG (1) dX9_planned_61 (by decide) rfl ?_
        refine r_loc [some (.ref 88), some (.int v), some (.int (mfind M v nt k)), some (.int ((nI k) + (1)))] rfl ?_
        refine r_goto hG 19 dX9_planned_64 (by decide) ?_
        rw [nI_1]
        refine r_loc [some (.ref 88), some (.int v), some (.int (mfind M v nt (k + 1))), some (.int (nI (k + 1)))] (by rw [mfind_n (fun q => absurd q.2 (Int32.not_lt.mpr hc47))]) ?_
        exact ih (k + 1) (by omega) hP
      · refine r_aload_n hG dX9_planned_50 rfl ?_
        refine r_getR hG 56 129 fk_X9_163 dX9_planned_51 rfl (by decide) rfl (sr hR rfl) ?_
        refine r_iload_n hG dX9_planned_54 rfl ?_
        refine r_iald hG k dX9_planned_55 rfl (by decide) rfl (by omega) (by decide) ?_
        refine r_goto hG 60 dX9_planned_56 (by decide) ?_
        refine r_istore_n hG dX9_planned_60 (by decide) ?_
        refine r_loc [some (.ref 88), some (.int v), some (.int (M.1 129 k)), some (.int (nI k))] rfl ?_
        refine r_iinc hG (1) dX9_planned_61 (by decide) rfl ?_
        refine r_loc [some (.ref 88), some (.int v), some (.int (M.1 129 k)), some (.int ((nI k) + (1)))] rfl ?_
        refine r_goto hG 19 dX9_planned_64 (by decide) ?_
        rw [nI_1]
        refine r_loc [some (.ref 88), some (.int v), some (.int (mfind M v nt (k + 1))), some (.int (nI (k + 1)))] (by rw [mfind_y ⟨hc34, Int32.not_le.mp hc47⟩]) ?_
        exact ih (k + 1) (by omega) hP

set_option maxRecDepth 100000 in
set_option maxHeartbeats 400000 in
theorem ct_X9_planned {M : gM} {b : Bool} (hR : M.2.2 = stdR b) {nv ns nt nb : Nat} (hnv : M.1 88 26 = nI nv) (lv : nv ≤ 12) (hns : M.1 88 38 = nI ns) (ls : ns ≤ 4) (hnt : M.1 88 43 = nI nt) (lt : nt ≤ 4) (hnb : M.1 88 62 = nI nb) (lb : nb ≤ 10) {hh nl : Nat} {B : Nat → Bool} {A : Nat → Int32} {ST : Nat → Nat} {C : Nat → Nat × Int32} (hO : ordM M hh nl B A ST C) (ht : ∀ v, v < nv → ¬ (M.1 107 v).toInt64 = 0) {sp : Nat → Nat} (hsp : ∀ t, t < nt → M.1 119 t = nI (sp t) ∧ sp t < ns) {nw : Nat} (hnw : M.1 88 25 = nI nw) (lw : nw < 400) (v : Int32) : gC 5 0 0 yX9_planned cX9_planned 4 (some .int) 140 140 [.ref 88, .int v] M (gI (fun r M9 => fpR (gwI M 88 0 0) M9 nt nv sp (fun v => mwantV M v (nI (nw + 1)) nl B A ST C) (mlk M (nI (nw + 1)) nl B A ST C) ∧ r = mfind M9 v nt (min6 (ndc (mlk M (nI (nw + 1)) nl B A ST C) nv)))) := by
  refine gC_i rfl (Nat.le_of_ble_eq_true rfl) (fun G hG hE => ?_)
  change G (140, 0, 0) 0 [some (.ref 88), some (.int v), none, none] [] M
  refine r_aload_n hG dX9_planned_0 rfl ?_
  refine r_iconst hG (0) dX9_planned_1 (by decide) ?_
  refine r_putI hG 0 fp_X9_1 dX9_planned_2 rfl (by decide) rfl rfl rfl ?_
  refine r_aload_n hG dX9_planned_5 rfl ?_
  refine r_aload_n hG dX9_planned_6 rfl ?_
  refine r_getIv hG 25 (nI nw) fk_X9_312 dX9_planned_7 rfl (by decide) rfl ((gwI_n (by omega)).trans hnw) ?_
  refine r_iconst hG (1) dX9_planned_10 (by decide) ?_
  refine r_iadd hG dX9_planned_11 ?_
  refine r_top (nI (nw + 1)) (nI_1 nw) ?_
  refine r_cVV1 hG mk_X9_343 dX9_planned_12 rfl (by decide) (ct_X9_findPlan (M := (gwI M 88 0 0)) (by exact hR) ((gwI_n (by omega)).trans hnv) lv ((gwI_n (by omega)).trans hns) ls ((gwI_n (by omega)).trans hnt) lt ((gwI_n (by omega)).trans hnb) lb hO.t (fun v hv => by rw [gwI_n (by omega)]; exact ht v hv) (fun t h => ⟨((gwI_n (by omega)).trans (hsp t h).1), (hsp t h).2⟩) (nI (nw + 1))) (by decide) ⟨Nat.le_refl _, Nat.le_refl _⟩ (Nat.le_of_ble_eq_true rfl) (fun M12 h9 => ?_)
  rw [mW_c (M := M) (fun k j h => gwI_n (by omega)), mlk_c (M := M) (fun k j h => gwI_n (by omega))] at h9
  have h12 : fpR (gwI M 88 0 0) M12 nt nv sp (fun v => mwantV M v (nI (nw + 1)) nl B A ST C) (mlk M (nI (nw + 1)) nl B A ST C) := h9
  have hR : M12.2.2 = stdR b := by rw [h12.eq.1]; exact hR
  refine r_iconst hG (-1) dX9_planned_15 (by decide) ?_
  refine r_istore_n hG dX9_planned_16 (by decide) ?_
  refine r_loc [some (.ref 88), some (.int v), some (.int (-1)), none] rfl ?_
  refine r_iconst hG (0) dX9_planned_17 (by decide) ?_
  refine r_istore_n hG dX9_planned_18 (by decide) ?_
  refine r_loc [some (.ref 88), some (.int v), some (.int (-1)), some (.int (0))] rfl ?_
  exact lp_X9_planned hG hE (by exact hR) ((h12.eq.2 88 43 (by unfold Sx; omega)).trans ((gwI_n (by omega)).trans hnt)) lt h12.n.1 (min6_le _) _ 0 (Nat.zero_add _) ⟨h12, rfl⟩

def fmRun (i : Nat) (M : gM) : gM := gwI (gwI M 117 i (mmin (M.1 117 i + M.1 115 i) (M.1 116 i))) 115 i (M.1 115 i - (((M.1 115 i).toInt64 * (M.1 118 i).toInt64 + 99) / 100).toInt32)
def fmWell (i : Nat) (M : gM) : gM := gwI M 108 i (mmin (M.1 108 i + M.1 109 i) (M.1 107 i))
def fmRest (i : Nat) (M : gM) : gM := gwI M 122 i 0
def mGrow (ns nv : Nat) (M : gM) : gM := itr fmWell nv (itr fmRun ns M)
def Sy (k j : Nat) : Prop := k = 117 ∨ k = 115 ∨ k = 108 ∨ k = 122 ∨ k = 123 ∨ k = 124 ∨ k = 112
theorem fmRun_eq {M : gM} {i : Nat} : gEq Sy M (fmRun i M) := (gEq.rf.put (by unfold Sy; omega)).put (by unfold Sy; omega)
theorem fmWell_eq {M : gM} {i : Nat} : gEq Sy M (fmWell i M) := gEq.rf.put (by unfold Sy; omega)
theorem fmRest_eq {M : gM} {i : Nat} : gEq Sy M (fmRest i M) := gEq.rf.put (by unfold Sy; omega)
theorem itr_e {S : Nat → Nat → Prop} {f : Nat → gM → gM} (hf : ∀ i M, gEq S M (f i M)) : ∀ n M, gEq S M (itr f n M)
  | 0, _ => gEq.rf
  | n + 1, M => (itr_e hf n M).trans (hf n _)
theorem mGrow_eq {M : gM} {ns nv : Nat} : gEq Sy M (mGrow ns nv M) := (itr_e (fun _ _ => fmRun_eq) ns M).trans (itr_e (fun _ _ => fmWell_eq) nv _)
set_option maxRecDepth 100000 in
set_option maxHeartbeats 400000 in
theorem lp_X9_grow2  {G : gJ} {P : gM → Prop} (hG : gS 1 0 0 yX9_springsGrow.cls cX9_springsGrow 2 G) (hE : gEv 140 0 0 cX9_springsGrow P G) {M0 : gM} {b : Bool} (hR0 : M0.2.2 = stdR b) {nv ns : Nat} (hnv0 : M0.1 88 26 = nI nv) (lv : nv ≤ 12) (hns0 : M0.1 88 38 = nI ns) (ls : ns ≤ 4) :
    ∀ (r i : Nat) (M : gM), i + r = nv → M = itr fmWell i (itr fmRun ns M0) → P (mGrow ns nv M0) → G (140, 0, 0) 79 [some (.ref 88), some (.int (nI i))] [] M := by
  intro r
  induction r with
  | zero =>
    intro i M hi hM hP
    have hq : gEq Sy M0 M := by rw [hM]; exact mGrow_eq
    have hR : M.2.2 = stdR b := by rw [hq.1]; exact hR0
    have hnv : M.1 88 26 = nI nv := (hq.2 88 26 (by unfold Sy; omega)).trans hnv0
    have hns : M.1 88 38 = nI ns := (hq.2 88 38 (by unfold Sy; omega)).trans hns0
    refine r_iload_n hG dX9_springsGrow_79 rfl ?_
    refine r_aload_n hG dX9_springsGrow_80 rfl ?_
    refine r_getIv hG 26 (nI nv) fk_X9_287 dX9_springsGrow_81 rfl (by decide) rfl hnv ?_
    refine r_icmp_ge hG 121 dX9_springsGrow_84 (by decide) (fun hc84 => ?_) (fun hc84 => absurd (nle_f (a := nv) (b := i) (by omega) (by omega) hc84) (by omega))
    refine hE _ _ _ _ dX9_springsGrow_121 rfl (Nat.le_refl _) (Nat.le_refl _) ?_
    rw [hM, show i = nv by omega]
    exact hP
  | succ r ih =>
    intro i M hi hM hP
    have hq : gEq Sy M0 M := by rw [hM]; exact mGrow_eq
    have hR : M.2.2 = stdR b := by rw [hq.1]; exact hR0
    have hnv : M.1 88 26 = nI nv := (hq.2 88 26 (by unfold Sy; omega)).trans hnv0
    have hns : M.1 88 38 = nI ns := (hq.2 88 38 (by unfold Sy; omega)).trans hns0
    refine r_iload_n hG dX9_springsGrow_79 rfl ?_
    refine r_aload_n hG dX9_springsGrow_80 rfl ?_
    refine r_getIv hG 26 (nI nv) fk_X9_287 dX9_springsGrow_81 rfl (by decide) rfl hnv ?_
    refine r_icmp_ge hG 121 dX9_springsGrow_84 (by decide) (fun hc84 => absurd (nle_t (a := nv) (b := i) (by omega) (by omega) hc84) (by omega)) (fun hc84 => ?_)
    refine r_aload_n hG dX9_springsGrow_87 rfl ?_
    refine r_getR hG 30 108 fk_X9_100 dX9_springsGrow_88 rfl (by decide) rfl (sr hR rfl) ?_
    refine r_iload_n hG dX9_springsGrow_91 rfl ?_
    refine r_aload_n hG dX9_springsGrow_92 rfl ?_
    refine r_getR hG 29 107 fk_X9_97 dX9_springsGrow_93 rfl (by decide) rfl (sr hR rfl) ?_
    refine r_iload_n hG dX9_springsGrow_96 rfl ?_
    refine r_iald hG i dX9_springsGrow_97 rfl (by decide) rfl (by omega) (by decide) ?_
    refine r_aload_n hG dX9_springsGrow_98 rfl ?_
    refine r_getR hG 30 108 fk_X9_100 dX9_springsGrow_99 rfl (by decide) rfl (sr hR rfl) ?_
    refine r_iload_n hG dX9_springsGrow_102 rfl ?_
    refine r_iald hG i dX9_springsGrow_103 rfl (by decide) rfl (by omega) (by decide) ?_
    refine r_aload_n hG dX9_springsGrow_104 rfl ?_
    refine r_getR hG 31 109 fk_X9_103 dX9_springsGrow_105 rfl (by decide) rfl (sr hR rfl) ?_
    refine r_iload_n hG dX9_springsGrow_108 rfl ?_
    refine r_iald hG i dX9_springsGrow_109 rfl (by decide) rfl (by omega) (by decide) ?_
    refine r_iadd hG dX9_springsGrow_110 ?_
    refine r_cSI2 hG mk_X9_325 dX9_springsGrow_111 (ct_X9_least _ _) (by decide) ⟨Nat.le_refl _, Nat.le_refl _⟩ (Nat.le_of_ble_eq_true rfl) (fun x9 M9 h9 => ?_)
    obtain ⟨e8, e9⟩ := h9
    rw [e8, e9]
    refine r_iast hG i dX9_springsGrow_114 rfl (by decide) rfl (by omega) (by decide) ?_
    refine r_iinc hG (1) dX9_springsGrow_115 (by decide) rfl ?_
    refine r_loc [some (.ref 88), some (.int ((nI i) + (1)))] rfl ?_
    refine r_goto hG 79 dX9_springsGrow_118 (by decide) ?_
    rw [nI_1]
    exact ih (i + 1) _ (by omega) (by rw [hM]; rfl) hP

set_option maxRecDepth 100000 in
set_option maxHeartbeats 400000 in
theorem lp_X9_grow1  {G : gJ} {P : gM → Prop} (hG : gS 1 0 0 yX9_springsGrow.cls cX9_springsGrow 2 G) (hE : gEv 140 0 0 cX9_springsGrow P G) {M0 : gM} {b : Bool} (hR0 : M0.2.2 = stdR b) {nv ns : Nat} (hnv0 : M0.1 88 26 = nI nv) (lv : nv ≤ 12) (hns0 : M0.1 88 38 = nI ns) (ls : ns ≤ 4) :
    ∀ (r i : Nat) (M : gM), i + r = ns → M = itr fmRun i M0 → P (mGrow ns nv M0) → G (140, 0, 0) 2 [some (.ref 88), some (.int (nI i))] [] M := by
  intro r
  induction r with
  | zero =>
    intro i M hi hM hP
    have hq : gEq Sy M0 M := by rw [hM]; exact itr_e (fun _ _ => fmRun_eq) _ _
    have hR : M.2.2 = stdR b := by rw [hq.1]; exact hR0
    have hnv : M.1 88 26 = nI nv := (hq.2 88 26 (by unfold Sy; omega)).trans hnv0
    have hns : M.1 88 38 = nI ns := (hq.2 88 38 (by unfold Sy; omega)).trans hns0
    refine r_iload_n hG dX9_springsGrow_2 rfl ?_
    refine r_aload_n hG dX9_springsGrow_3 rfl ?_
    refine r_getIv hG 38 (nI ns) fk_X9_291 dX9_springsGrow_4 rfl (by decide) rfl hns ?_
    refine r_icmp_ge hG 77 dX9_springsGrow_7 (by decide) (fun hc7 => ?_) (fun hc7 => absurd (nle_f (a := ns) (b := i) (by omega) (by omega) hc7) (by omega))
    refine r_iconst hG (0) dX9_springsGrow_77 (by decide) ?_
    refine r_istore_n hG dX9_springsGrow_78 (by decide) ?_
    refine r_loc [some (.ref 88), some (.int (0))] rfl ?_
    refine lp_X9_grow2 hG hE hR0 hnv0 lv hns0 ls nv 0 _ (by omega) ?_ hP
    rw [hM, show i = ns by omega]
    rfl
  | succ r ih =>
    intro i M hi hM hP
    have hq : gEq Sy M0 M := by rw [hM]; exact itr_e (fun _ _ => fmRun_eq) _ _
    have hR : M.2.2 = stdR b := by rw [hq.1]; exact hR0
    have hnv : M.1 88 26 = nI nv := (hq.2 88 26 (by unfold Sy; omega)).trans hnv0
    have hns : M.1 88 38 = nI ns := (hq.2 88 38 (by unfold Sy; omega)).trans hns0
    refine r_iload_n hG dX9_springsGrow_2 rfl ?_
    refine r_aload_n hG dX9_springsGrow_3 rfl ?_
    refine r_getIv hG 38 (nI ns) fk_X9_291 dX9_springsGrow_4 rfl (by decide) rfl hns ?_
    refine r_icmp_ge hG 77 dX9_springsGrow_7 (by decide) (fun hc7 => absurd (nle_t (a := ns) (b := i) (by omega) (by omega) hc7) (by omega)) (fun hc7 => ?_)
    refine r_aload_n hG dX9_springsGrow_10 rfl ?_
    refine r_getR hG 41 117 fk_X9_127 dX9_springsGrow_11 rfl (by decide) rfl (sr hR rfl) ?_
    refine r_iload_n hG dX9_springsGrow_14 rfl ?_
    refine r_aload_n hG dX9_springsGrow_15 rfl ?_
    refine r_getR hG 40 116 fk_X9_124 dX9_springsGrow_16 rfl (by decide) rfl (sr hR rfl) ?_
    refine r_iload_n hG dX9_springsGrow_19 rfl ?_
    refine r_iald hG i dX9_springsGrow_20 rfl (by decide) rfl (by omega) (by decide) ?_
    refine r_aload_n hG dX9_springsGrow_21 rfl ?_
    refine r_getR hG 41 117 fk_X9_127 dX9_springsGrow_22 rfl (by decide) rfl (sr hR rfl) ?_
    refine r_iload_n hG dX9_springsGrow_25 rfl ?_
    refine r_iald hG i dX9_springsGrow_26 rfl (by decide) rfl (by omega) (by decide) ?_
    refine r_aload_n hG dX9_springsGrow_27 rfl ?_
    refine r_getR hG 39 115 fk_X9_121 dX9_springsGrow_28 rfl (by decide) rfl (sr hR rfl) ?_
    refine r_iload_n hG dX9_springsGrow_31 rfl ?_
    refine r_iald hG i dX9_springsGrow_32 rfl (by decide) rfl (by omega) (by decide) ?_
    refine r_iadd hG dX9_springsGrow_33 ?_
    refine r_cSI2 hG mk_X9_325 dX9_springsGrow_34 (ct_X9_least _ _) (by decide) ⟨Nat.le_refl _, Nat.le_refl _⟩ (Nat.le_of_ble_eq_true rfl) (fun x9 M9 h9 => ?_)
    obtain ⟨e8, e9⟩ := h9
    rw [e8, e9]
    refine r_iast hG i dX9_springsGrow_37 rfl (by decide) rfl (by omega) (by decide) ?_
    refine r_aload_n hG dX9_springsGrow_38 rfl ?_
    refine r_getR hG 39 115 fk_X9_121 dX9_springsGrow_39 rfl (by decide) rfl (sr hR rfl) ?_
    refine r_iload_n hG dX9_springsGrow_42 rfl ?_
    refine r_dup2 hG dX9_springsGrow_43 rfl rfl ?_
    refine r_ialdv hG i (M.1 115 i) dX9_springsGrow_44 rfl (by decide) rfl (by omega) (by decide) (gwI_n (by omega)) ?_
    refine r_aload_n hG dX9_springsGrow_45 rfl ?_
    refine r_getR hG 39 115 fk_X9_121 dX9_springsGrow_46 rfl (by decide) rfl (sr hR rfl) ?_
    refine r_iload_n hG dX9_springsGrow_49 rfl ?_
    refine r_ialdv hG i (M.1 115 i) dX9_springsGrow_50 rfl (by decide) rfl (by omega) (by decide) (gwI_n (by omega)) ?_
    refine r_i2l hG dX9_springsGrow_51 ?_
    refine r_aload_n hG dX9_springsGrow_52 rfl ?_
    refine r_getR hG 42 118 fk_X9_130 dX9_springsGrow_53 rfl (by decide) rfl (sr hR rfl) ?_
    refine r_iload_n hG dX9_springsGrow_56 rfl ?_
    refine r_ialdv hG i (M.1 118 i) dX9_springsGrow_57 rfl (by decide) rfl (by omega) (by decide) (gwI_n (by omega)) ?_
    refine r_i2l hG dX9_springsGrow_58 ?_
    refine r_lmul hG dX9_springsGrow_59 ?_
    refine r_ldc2 hG (99) dX9_springsGrow_60 ck_X9_250 ?_
    refine r_ladd hG dX9_springsGrow_63 ?_
    refine r_ldc2 hG (100) dX9_springsGrow_64 ck_X9_303 ?_
    refine r_ldiv hG dX9_springsGrow_67 (by decide) ?_
    refine r_l2i hG dX9_springsGrow_68 ?_
    refine r_isub hG dX9_springsGrow_69 ?_
    refine r_iast hG i dX9_springsGrow_70 rfl (by decide) rfl (by omega) (by decide) ?_
    refine r_iinc hG (1) dX9_springsGrow_71 (by decide) rfl ?_
    refine r_loc [some (.ref 88), some (.int ((nI i) + (1)))] rfl ?_
    refine r_goto hG 2 dX9_springsGrow_74 (by decide) ?_
    rw [nI_1]
    exact ih (i + 1) _ (by omega) (by rw [hM]; rfl) hP

set_option maxRecDepth 100000 in
set_option maxHeartbeats 400000 in
theorem ct_X9_springsGrow {M : gM} {b : Bool} (hR : M.2.2 = stdR b) {nv ns : Nat} (hnv : M.1 88 26 = nI nv) (lv : nv ≤ 12) (hns : M.1 88 38 = nI ns) (ls : ns ≤ 4) : gC 1 0 0 yX9_springsGrow cX9_springsGrow 2 none 140 140 [.ref 88] M (gV (fun M9 => M9 = mGrow ns nv M)) := by
  refine gC_v rfl (Nat.le_of_ble_eq_true rfl) (fun G hG hE => ?_)
  change G (140, 0, 0) 0 [some (.ref 88), none] [] M
  refine r_iconst hG (0) dX9_springsGrow_0 (by decide) ?_
  refine r_istore_n hG dX9_springsGrow_1 (by decide) ?_
  refine r_loc [some (.ref 88), some (.int (0))] rfl ?_
  exact lp_X9_grow1 hG hE hR hnv lv hns ls ns 0 M (by omega) rfl rfl

def mLoad (M : gM) (t s v : Nat) : Int32 := mmin (mmin (M.1 107 v - M.1 108 v) (M.1 117 s)) (M.1 120 t)
def mDrive (M : gM) (t s v : Nat) : gM := gwI (gwI (gwI (gwI (gwI (gwI M 117 s (M.1 117 s - mLoad M t s v)) 108 v (M.1 108 v + mLoad M t s v)) 124 t (M.1 124 t + mLoad M t s v)) 122 t (M.1 122 t + 2 * M.1 125 (12 * s + v))) 123 t (M.1 123 t + 2 * M.1 125 (12 * s + v))) 112 v (M.1 112 v + 1)
def mstep (be wv sp : Nat → Nat) (nt k : Nat) (M : gM) : gM := if be k < nt then mDrive M (be k) (sp (be k)) (wv k) else M
theorem mDrive_eq {M : gM} {t s v : Nat} : gEq Sy M (mDrive M t s v) := (((((gEq.rf.put (by unfold Sy; omega)).put (by unfold Sy; omega)).put (by unfold Sy; omega)).put (by unfold Sy; omega)).put (by unfold Sy; omega)).put (by unfold Sy; omega)
theorem mstep_eq {M : gM} {be wv sp : Nat → Nat} {nt k : Nat} : gEq Sy M (mstep be wv sp nt k M) := by
  unfold mstep
  split
  · exact mDrive_eq
  · exact gEq.rf
set_option maxRecDepth 100000 in
set_option maxHeartbeats 400000 in
theorem lp_X9_brings2  {G : gJ} {P : gM → Prop} (hG : gS 1 0 0 yX9_brings.cls cX9_brings 6 G) (hE : gEv 140 0 0 cX9_brings P G) {M0 : gM} {b : Bool} (hR0 : M0.2.2 = stdR b) {nt c : Nat} (hnt0 : M0.1 88 43 = nI nt) (lt : nt ≤ 4) (hc0 : M0.1 88 52 = nI c) (lc : c ≤ 6) {wv sp be : Nat → Nat} (hwv0 : ∀ k, k < c → M0.1 126 k = nI (wv k) ∧ wv k < 12) (hsp0 : ∀ t, t < nt → M0.1 119 t = nI (sp t) ∧ sp t < 4) (hbe0 : ∀ k, k < c → M0.1 129 k = nI (be k) ∧ be k ≤ nt) :
    ∀ (r k : Nat) (M : gM) (x2 x3 x4 x5 : Option Value), k + r = c → M = itr (mstep be wv sp nt) k (itr fmRest nt M0) → P (itr (mstep be wv sp nt) c (itr fmRest nt M0)) → G (140, 0, 0) 25 [some (.ref 88), some (.int (nI k)), x2, x3, x4, x5] [] M := by
  intro r
  induction r with
  | zero =>
    intro k M x2 x3 x4 x5 hk hM hP
    have hq : gEq Sy M0 M := by rw [hM]; exact (itr_e (fun _ _ => fmRest_eq) _ _).trans (itr_e (fun _ _ => mstep_eq) _ _)
    have hR : M.2.2 = stdR b := by rw [hq.1]; exact hR0
    have hnt : M.1 88 43 = nI nt := (hq.2 88 43 (by unfold Sy; omega)).trans hnt0
    have hcn : M.1 88 52 = nI c := (hq.2 88 52 (by unfold Sy; omega)).trans hc0
    have hwv := fun k (h : k < c) => (hq.2 126 k (by unfold Sy; omega)).trans (hwv0 k h).1
    have hsp := fun t (h : t < nt) => (hq.2 119 t (by unfold Sy; omega)).trans (hsp0 t h).1
    have hbe := fun k (h : k < c) => (hq.2 129 k (by unfold Sy; omega)).trans (hbe0 k h).1
    refine r_iload_n hG dX9_brings_25 rfl ?_
    refine r_aload_n hG dX9_brings_26 rfl ?_
    refine r_getIv hG 52 (nI c) fk_X9_322 dX9_brings_27 rfl (by decide) rfl hcn ?_
    refine r_icmp_ge hG 200 dX9_brings_30 (by decide) (fun hc30 => ?_) (fun hc30 => absurd (nle_f (a := c) (b := k) (by omega) (by omega) hc30) (by omega))
    refine hE _ _ _ _ dX9_brings_200 rfl (Nat.le_refl _) (Nat.le_refl _) ?_
    rw [hM, show k = c by omega]
    exact hP
  | succ r ih =>
    intro k M x2 x3 x4 x5 hk hM hP
    have hq : gEq Sy M0 M := by rw [hM]; exact (itr_e (fun _ _ => fmRest_eq) _ _).trans (itr_e (fun _ _ => mstep_eq) _ _)
    have hR : M.2.2 = stdR b := by rw [hq.1]; exact hR0
    have hnt : M.1 88 43 = nI nt := (hq.2 88 43 (by unfold Sy; omega)).trans hnt0
    have hcn : M.1 88 52 = nI c := (hq.2 88 52 (by unfold Sy; omega)).trans hc0
    have hwv := fun k (h : k < c) => (hq.2 126 k (by unfold Sy; omega)).trans (hwv0 k h).1
    have hsp := fun t (h : t < nt) => (hq.2 119 t (by unfold Sy; omega)).trans (hsp0 t h).1
    have hbe := fun k (h : k < c) => (hq.2 129 k (by unfold Sy; omega)).trans (hbe0 k h).1
    have hw9 := (hwv0 k (by omega)).2
    have hb9 := (hbe0 k (by omega)).2
    refine r_iload_n hG dX9_brings_25 rfl ?_
    refine r_aload_n hG dX9_brings_26 rfl ?_
    refine r_getIv hG 52 (nI c) fk_X9_322 dX9_brings_27 rfl (by decide) rfl hcn ?_
    refine r_icmp_ge hG 200 dX9_brings_30 (by decide) (fun hc30 => absurd (nle_t (a := c) (b := k) (by omega) (by omega) hc30) (by omega)) (fun hc30 => ?_)
    refine r_aload_n hG dX9_brings_33 rfl ?_
    refine r_getR hG 56 129 fk_X9_163 dX9_brings_34 rfl (by decide) rfl (sr hR rfl) ?_
    refine r_iload_n hG dX9_brings_37 rfl ?_
    refine r_ialdv hG k (nI (be k)) dX9_brings_38 rfl (by decide) rfl (by omega) (by decide) (hbe k (by omega)) ?_
    refine r_aload_n hG dX9_brings_39 rfl ?_
    refine r_getIv hG 43 (nI nt) fk_X9_294 dX9_brings_40 rfl (by decide) rfl hnt ?_
    refine r_icmp_ge hG 194 dX9_brings_43 (by decide) (fun hc43 => ?_) (fun hc43 => ?_)
    · have hn43 := nle_t (a := nt) (b := (be k)) (by omega) (by omega) hc43
      refine r_iinc hG (1) dX9_brings_194 (by decide) rfl ?_
      refine r_loc [some (.ref 88), some (.int ((nI k) + (1))), x2, x3, x4, x5] rfl ?_
      refine r_goto hG 25 dX9_brings_197 (by decide) ?_
      rw [nI_1]
      refine ih (k + 1) _ _ _ _ _ (by omega) ?_ hP
      show _ = mstep be wv sp nt k (itr (mstep be wv sp nt) k (itr fmRest nt M0))
      rw [← hM]
      unfold mstep
      rw [if_neg (by omega)]
      
    · have hn43 := nle_f (a := nt) (b := (be k)) (by omega) (by omega) hc43
      refine r_aload_n hG dX9_brings_46 rfl ?_
      refine r_getR hG 56 129 fk_X9_163 dX9_brings_47 rfl (by decide) rfl (sr hR rfl) ?_
      refine r_iload_n hG dX9_brings_50 rfl ?_
      refine r_ialdv hG k (nI (be k)) dX9_brings_51 rfl (by decide) rfl (by omega) (by decide) (hbe k (by omega)) ?_
      refine r_istore_n hG dX9_brings_52 (by decide) ?_
      refine r_loc [some (.ref 88), some (.int (nI k)), some (.int (nI (be k))), x3, x4, x5] rfl ?_
      refine r_aload_n hG dX9_brings_53 rfl ?_
      refine r_getR hG 44 119 fk_X9_133 dX9_brings_54 rfl (by decide) rfl (sr hR rfl) ?_
      refine r_iload_n hG dX9_brings_57 rfl ?_
      refine r_ialdv hG (be k) (nI (sp (be k))) dX9_brings_58 rfl (by decide) rfl (by omega) (by decide) (hsp (be k) (by omega)) ?_
      refine r_istore_n hG dX9_brings_59 (by decide) ?_
      refine r_loc [some (.ref 88), some (.int (nI k)), some (.int (nI (be k))), some (.int (nI (sp (be k)))), x4, x5] rfl ?_
      have hs4 := (hsp0 (be k) (by omega)).2
      refine r_aload_n hG dX9_brings_60 rfl ?_
      refine r_getR hG 53 126 fk_X9_154 dX9_brings_61 rfl (by decide) rfl (sr hR rfl) ?_
      refine r_iload_n hG dX9_brings_64 rfl ?_
      refine r_ialdv hG k (nI (wv k)) dX9_brings_65 rfl (by decide) rfl (by omega) (by decide) (hwv k (by omega)) ?_
      refine r_istore hG dX9_brings_66 (by decide) ?_
      refine r_loc [some (.ref 88), some (.int (nI k)), some (.int (nI (be k))), some (.int (nI (sp (be k)))), some (.int (nI (wv k))), x5] rfl ?_
      refine r_aload_n hG dX9_brings_68 rfl ?_
      refine r_getR hG 45 120 fk_X9_136 dX9_brings_69 rfl (by decide) rfl (sr hR rfl) ?_
      refine r_iload_n hG dX9_brings_72 rfl ?_
      refine r_iald hG (be k) dX9_brings_73 rfl (by decide) rfl (by omega) (by decide) ?_
      refine r_aload_n hG dX9_brings_74 rfl ?_
      refine r_getR hG 41 117 fk_X9_127 dX9_brings_75 rfl (by decide) rfl (sr hR rfl) ?_
      refine r_iload_n hG dX9_brings_78 rfl ?_
      refine r_iald hG (sp (be k)) dX9_brings_79 rfl (by decide) rfl (by omega) (by decide) ?_
      refine r_aload_n hG dX9_brings_80 rfl ?_
      refine r_getR hG 29 107 fk_X9_97 dX9_brings_81 rfl (by decide) rfl (sr hR rfl) ?_
      refine r_iload hG dX9_brings_84 rfl ?_
      refine r_iald hG (wv k) dX9_brings_86 rfl (by decide) rfl (by omega) (by decide) ?_
      refine r_aload_n hG dX9_brings_87 rfl ?_
      refine r_getR hG 30 108 fk_X9_100 dX9_brings_88 rfl (by decide) rfl (sr hR rfl) ?_
      refine r_iload hG dX9_brings_91 rfl ?_
      refine r_iald hG (wv k) dX9_brings_93 rfl (by decide) rfl (by omega) (by decide) ?_
      refine r_isub hG dX9_brings_94 ?_
      refine r_cSI2 hG mk_X9_325 dX9_brings_95 (ct_X9_least _ _) (by decide) ⟨Nat.le_refl _, Nat.le_refl _⟩ (Nat.le_of_ble_eq_true rfl) (fun x9 M9 h9 => ?_)
      obtain ⟨e8, e9⟩ := h9
      rw [e8, e9]
      refine r_cSI2 hG mk_X9_325 dX9_brings_98 (ct_X9_least _ _) (by decide) ⟨Nat.le_refl _, Nat.le_refl _⟩ (Nat.le_of_ble_eq_true rfl) (fun x9 M9 h9 => ?_)
      obtain ⟨e8, e9⟩ := h9
      rw [e8, e9]
      refine r_top ((mLoad M (be k) (sp (be k)) (wv k))) rfl ?_
      refine r_istore hG dX9_brings_101 (by decide) ?_
      refine r_loc [some (.ref 88), some (.int (nI k)), some (.int (nI (be k))), some (.int (nI (sp (be k)))), some (.int (nI (wv k))), some (.int (mLoad M (be k) (sp (be k)) (wv k)))] rfl ?_
      refine r_aload_n hG dX9_brings_103 rfl ?_
      refine r_getR hG 41 117 fk_X9_127 dX9_brings_104 rfl (by decide) rfl (sr hR rfl) ?_
      refine r_iload_n hG dX9_brings_107 rfl ?_
      refine r_dup2 hG dX9_brings_108 rfl rfl ?_
      refine r_iald hG (sp (be k)) dX9_brings_109 rfl (by decide) rfl (by omega) (by decide) ?_
      refine r_iload hG dX9_brings_110 rfl ?_
      refine r_isub hG dX9_brings_112 ?_
      refine r_iast hG (sp (be k)) dX9_brings_113 rfl (by decide) rfl (by omega) (by decide) ?_
      refine r_aload_n hG dX9_brings_114 rfl ?_
      refine r_getR hG 30 108 fk_X9_100 dX9_brings_115 rfl (by decide) rfl (sr hR rfl) ?_
      refine r_iload hG dX9_brings_118 rfl ?_
      refine r_dup2 hG dX9_brings_120 rfl rfl ?_
      refine r_ialdv hG (wv k) (M.1 108 (wv k)) dX9_brings_121 rfl (by decide) rfl (by omega) (by decide) (gwI_n (by omega)) ?_
      refine r_iload hG dX9_brings_122 rfl ?_
      refine r_iadd hG dX9_brings_124 ?_
      refine r_iast hG (wv k) dX9_brings_125 rfl (by decide) rfl (by omega) (by decide) ?_
      refine r_aload_n hG dX9_brings_126 rfl ?_
      refine r_getR hG 49 124 fk_X9_148 dX9_brings_127 rfl (by decide) rfl (sr hR rfl) ?_
      refine r_iload_n hG dX9_brings_130 rfl ?_
      refine r_dup2 hG dX9_brings_131 rfl rfl ?_
      refine r_ialdv hG (be k) (M.1 124 (be k)) dX9_brings_132 rfl (by decide) rfl (by omega) (by decide) ((gwI_n (by omega)).trans (gwI_n (by omega))) ?_
      refine r_iload hG dX9_brings_133 rfl ?_
      refine r_iadd hG dX9_brings_135 ?_
      refine r_iast hG (be k) dX9_brings_136 rfl (by decide) rfl (by omega) (by decide) ?_
      refine r_aload_n hG dX9_brings_137 rfl ?_
      refine r_getR hG 47 122 fk_X9_142 dX9_brings_138 rfl (by decide) rfl (sr hR rfl) ?_
      refine r_iload_n hG dX9_brings_141 rfl ?_
      refine r_dup2 hG dX9_brings_142 rfl rfl ?_
      refine r_ialdv hG (be k) (M.1 122 (be k)) dX9_brings_143 rfl (by decide) rfl (by omega) (by decide) ((gwI_n (by omega)).trans ((gwI_n (by omega)).trans (gwI_n (by omega)))) ?_
      refine r_iconst hG (2) dX9_brings_144 (by decide) ?_
      refine r_aload_n hG dX9_brings_145 rfl ?_
      refine r_getR hG 50 125 fk_X9_151 dX9_brings_146 rfl (by decide) rfl (sr hR rfl) ?_
      refine r_bipush hG (12) dX9_brings_149 (by decide) ?_
      refine r_iload_n hG dX9_brings_151 rfl ?_
      refine r_imul hG dX9_brings_152 ?_
      refine r_iload hG dX9_brings_153 rfl ?_
      refine r_iadd hG dX9_brings_155 ?_
      refine r_ialdv hG (12 * sp (be k) + wv k) (M.1 125 (12 * sp (be k) + wv k)) dX9_brings_156 rfl (by decide) (mulAdd 12 (sp (be k)) (wv k)) (by omega) (by decide) ((gwI_n (by omega)).trans ((gwI_n (by omega)).trans (gwI_n (by omega)))) ?_
      refine r_imul hG dX9_brings_157 ?_
      refine r_iadd hG dX9_brings_158 ?_
      refine r_iast hG (be k) dX9_brings_159 rfl (by decide) rfl (by omega) (by decide) ?_
      refine r_aload_n hG dX9_brings_160 rfl ?_
      refine r_getR hG 48 123 fk_X9_145 dX9_brings_161 rfl (by decide) rfl (sr hR rfl) ?_
      refine r_iload_n hG dX9_brings_164 rfl ?_
      refine r_dup2 hG dX9_brings_165 rfl rfl ?_
      refine r_ialdv hG (be k) (M.1 123 (be k)) dX9_brings_166 rfl (by decide) rfl (by omega) (by decide) ((gwI_n (by omega)).trans ((gwI_n (by omega)).trans ((gwI_n (by omega)).trans (gwI_n (by omega))))) ?_
      refine r_iconst hG (2) dX9_brings_167 (by decide) ?_
      refine r_aload_n hG dX9_brings_168 rfl ?_
      refine r_getR hG 50 125 fk_X9_151 dX9_brings_169 rfl (by decide) rfl (sr hR rfl) ?_
      refine r_bipush hG (12) dX9_brings_172 (by decide) ?_
      refine r_iload_n hG dX9_brings_174 rfl ?_
      refine r_imul hG dX9_brings_175 ?_
      refine r_iload hG dX9_brings_176 rfl ?_
      refine r_iadd hG dX9_brings_178 ?_
      refine r_ialdv hG (12 * sp (be k) + wv k) (M.1 125 (12 * sp (be k) + wv k)) dX9_brings_179 rfl (by decide) (mulAdd 12 (sp (be k)) (wv k)) (by omega) (by decide) ((gwI_n (by omega)).trans ((gwI_n (by omega)).trans ((gwI_n (by omega)).trans (gwI_n (by omega))))) ?_
      refine r_imul hG dX9_brings_180 ?_
      refine r_iadd hG dX9_brings_181 ?_
      refine r_iast hG (be k) dX9_brings_182 rfl (by decide) rfl (by omega) (by decide) ?_
      refine r_aload_n hG dX9_brings_183 rfl ?_
      refine r_getR hG 34 112 fk_X9_112 dX9_brings_184 rfl (by decide) rfl (sr hR rfl) ?_
      refine r_iload hG dX9_brings_187 rfl ?_
      refine r_dup2 hG dX9_brings_189 rfl rfl ?_
      refine r_ialdv hG (wv k) (M.1 112 (wv k)) dX9_brings_190 rfl (by decide) rfl (by omega) (by decide) ((gwI_n (by omega)).trans ((gwI_n (by omega)).trans ((gwI_n (by omega)).trans ((gwI_n (by omega)).trans (gwI_n (by omega)))))) ?_
      refine r_iconst hG (1) dX9_brings_191 (by decide) ?_
      refine r_iadd hG dX9_brings_192 ?_
      refine r_iast hG (wv k) dX9_brings_193 rfl (by decide) rfl (by omega) (by decide) ?_
      refine r_iinc hG (1) dX9_brings_194 (by decide) rfl ?_
      refine r_loc [some (.ref 88), some (.int ((nI k) + (1))), some (.int (nI (be k))), some (.int (nI (sp (be k)))), some (.int (nI (wv k))), some (.int (mLoad M (be k) (sp (be k)) (wv k)))] rfl ?_
      refine r_goto hG 25 dX9_brings_197 (by decide) ?_
      rw [nI_1]
      refine ih (k + 1) _ _ _ _ _ (by omega) ?_ hP
      show _ = mstep be wv sp nt k (itr (mstep be wv sp nt) k (itr fmRest nt M0))
      rw [← hM]
      unfold mstep
      rw [if_pos (by omega)]
      rfl

set_option maxRecDepth 100000 in
set_option maxHeartbeats 400000 in
theorem lp_X9_brings1  {G : gJ} {P : gM → Prop} (hG : gS 1 0 0 yX9_brings.cls cX9_brings 6 G) (hE : gEv 140 0 0 cX9_brings P G) {M0 : gM} {b : Bool} (hR0 : M0.2.2 = stdR b) {nt c : Nat} (hnt0 : M0.1 88 43 = nI nt) (lt : nt ≤ 4) (hc0 : M0.1 88 52 = nI c) (lc : c ≤ 6) {wv sp be : Nat → Nat} (hwv0 : ∀ k, k < c → M0.1 126 k = nI (wv k) ∧ wv k < 12) (hsp0 : ∀ t, t < nt → M0.1 119 t = nI (sp t) ∧ sp t < 4) (hbe0 : ∀ k, k < c → M0.1 129 k = nI (be k) ∧ be k ≤ nt) :
    ∀ (r k : Nat) (M : gM), k + r = nt → M = itr fmRest k M0 → P (itr (mstep be wv sp nt) c (itr fmRest nt M0)) → G (140, 0, 0) 2 [some (.ref 88), some (.int (nI k)), none, none, none, none] [] M := by
  intro r
  induction r with
  | zero =>
    intro k M hk hM hP
    have hq : gEq Sy M0 M := by rw [hM]; exact (itr_e (fun _ _ => fmRest_eq) _ _)
    have hR : M.2.2 = stdR b := by rw [hq.1]; exact hR0
    have hnt : M.1 88 43 = nI nt := (hq.2 88 43 (by unfold Sy; omega)).trans hnt0
    have hcn : M.1 88 52 = nI c := (hq.2 88 52 (by unfold Sy; omega)).trans hc0
    have hwv := fun k (h : k < c) => (hq.2 126 k (by unfold Sy; omega)).trans (hwv0 k h).1
    have hsp := fun t (h : t < nt) => (hq.2 119 t (by unfold Sy; omega)).trans (hsp0 t h).1
    have hbe := fun k (h : k < c) => (hq.2 129 k (by unfold Sy; omega)).trans (hbe0 k h).1
    refine r_iload_n hG dX9_brings_2 rfl ?_
    refine r_aload_n hG dX9_brings_3 rfl ?_
    refine r_getIv hG 43 (nI nt) fk_X9_294 dX9_brings_4 rfl (by decide) rfl hnt ?_
    refine r_icmp_ge hG 23 dX9_brings_7 (by decide) (fun hc7 => ?_) (fun hc7 => absurd (nle_f (a := nt) (b := k) (by omega) (by omega) hc7) (by omega))
    refine r_iconst hG (0) dX9_brings_23 (by decide) ?_
    refine r_istore_n hG dX9_brings_24 (by decide) ?_
    refine r_loc [some (.ref 88), some (.int (0)), none, none, none, none] rfl ?_
    refine lp_X9_brings2 hG hE hR0 hnt0 lt hc0 lc hwv0 hsp0 hbe0 c 0 _ _ _ _ _ (by omega) ?_ hP
    rw [hM, show k = nt by omega]
    rfl
  | succ r ih =>
    intro k M hk hM hP
    have hq : gEq Sy M0 M := by rw [hM]; exact (itr_e (fun _ _ => fmRest_eq) _ _)
    have hR : M.2.2 = stdR b := by rw [hq.1]; exact hR0
    have hnt : M.1 88 43 = nI nt := (hq.2 88 43 (by unfold Sy; omega)).trans hnt0
    have hcn : M.1 88 52 = nI c := (hq.2 88 52 (by unfold Sy; omega)).trans hc0
    have hwv := fun k (h : k < c) => (hq.2 126 k (by unfold Sy; omega)).trans (hwv0 k h).1
    have hsp := fun t (h : t < nt) => (hq.2 119 t (by unfold Sy; omega)).trans (hsp0 t h).1
    have hbe := fun k (h : k < c) => (hq.2 129 k (by unfold Sy; omega)).trans (hbe0 k h).1
    refine r_iload_n hG dX9_brings_2 rfl ?_
    refine r_aload_n hG dX9_brings_3 rfl ?_
    refine r_getIv hG 43 (nI nt) fk_X9_294 dX9_brings_4 rfl (by decide) rfl hnt ?_
    refine r_icmp_ge hG 23 dX9_brings_7 (by decide) (fun hc7 => absurd (nle_t (a := nt) (b := k) (by omega) (by omega) hc7) (by omega)) (fun hc7 => ?_)
    refine r_aload_n hG dX9_brings_10 rfl ?_
    refine r_getR hG 47 122 fk_X9_142 dX9_brings_11 rfl (by decide) rfl (sr hR rfl) ?_
    refine r_iload_n hG dX9_brings_14 rfl ?_
    refine r_iconst hG (0) dX9_brings_15 (by decide) ?_
    refine r_iast hG k dX9_brings_16 rfl (by decide) rfl (by omega) (by decide) ?_
    refine r_iinc hG (1) dX9_brings_17 (by decide) rfl ?_
    refine r_loc [some (.ref 88), some (.int ((nI k) + (1))), none, none, none, none] rfl ?_
    refine r_goto hG 2 dX9_brings_20 (by decide) ?_
    rw [nI_1]
    exact ih (k + 1) _ (by omega) (by rw [hM]; rfl) hP

set_option maxRecDepth 100000 in
set_option maxHeartbeats 400000 in
theorem ct_X9_brings {M : gM} {b : Bool} (hR : M.2.2 = stdR b) {nt c : Nat} (hnt : M.1 88 43 = nI nt) (lt : nt ≤ 4) (hcn : M.1 88 52 = nI c) (lc : c ≤ 6) {wv sp be : Nat → Nat} (hwv : ∀ k, k < c → M.1 126 k = nI (wv k) ∧ wv k < 12) (hsp : ∀ t, t < nt → M.1 119 t = nI (sp t) ∧ sp t < 4) (hbe : ∀ k, k < c → M.1 129 k = nI (be k) ∧ be k ≤ nt) : gC 1 0 0 yX9_brings cX9_brings 6 none 140 140 [.ref 88] M (gV (fun M9 => M9 = itr (mstep be wv sp nt) c (itr fmRest nt M))) := by
  refine gC_v rfl (Nat.le_of_ble_eq_true rfl) (fun G hG hE => ?_)
  change G (140, 0, 0) 0 [some (.ref 88), none, none, none, none, none] [] M
  refine r_iconst hG (0) dX9_brings_0 (by decide) ?_
  refine r_istore_n hG dX9_brings_1 (by decide) ?_
  refine r_loc [some (.ref 88), some (.int (0)), none, none, none, none] rfl ?_
  exact lp_X9_brings1 hG hE hR hnt lt hcn lc hwv hsp hbe nt 0 M (by omega) rfl rfl


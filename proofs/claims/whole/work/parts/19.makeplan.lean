/-- scratch of the class with the planner -/
def Sp (k j : Nat) : Prop := Sc k j ∨ (23 ≤ k ∧ k ≤ 41)
/-- what addNeedy writes at place c -/
def Sq (c k j : Nat) : Prop := (k = 23 ∧ (j = 13 ∨ j = 14)) ∨ ((k = 28 ∨ k = 29 ∨ k = 30) ∧ j = c) ∨ k = c + 32
def min6 (c : Nat) : Nat := if c < 6 then c else 6
def ndc (lk : Nat → Int32) : Nat → Nat
  | 0 => 0
  | i + 1 => ndc lk i + (if 0 < lk i then 1 else 0)
set_option maxRecDepth 100000 in
set_option maxHeartbeats 400000 in
theorem lp_X8_addNeedy  {G : gJ} {P : gM → Prop} (hG : gS 2 0 0 yX8_addNeedy.cls cX8_addNeedy 4 G) (hE : gEv 140 0 0 cX8_addNeedy P G) {M0 : gM} {b : Bool} (hR0 : M0.2.2 = stdR b) {nv ns nt nb : Nat} (hnv0 : M0.1 0 7 = nI nv) (lv : nv ≤ 12) (hns0 : M0.1 0 8 = nI ns) (ls : ns ≤ 4) (hnt0 : M0.1 0 9 = nI nt) (lt : nt ≤ 4) (hnb0 : M0.1 0 10 = nI nb) (lb : nb ≤ 10) {sp : Nat → Nat} (hts0 : ∀ t, t < nt → M0.1 (t + 74) 0 = nI (sp t) ∧ sp t < ns) {c v : Nat} (hc : c < 6) (hn : M0.1 23 14 = nI (c + 1)) (hvv : v < nv) {l : Int32} :
    ∀ (r t : Nat) (M : gM), t + r = nt → gEq (fun k j => k = c + 32) M0 M → (∀ t9, t9 < t → M.1 (c + 32) t9 = 2 * M0.1 (2 * sp t9 + 67) v) → (∀ M9, gEq (fun k j => k = c + 32) M0 M9 → (∀ t9, t9 < nt → M9.1 (c + 32) t9 = 2 * M0.1 (2 * sp t9 + 67) v) → P M9) → G (140, 0, 0) 46 [some (.ref 0), some (.int (nI v)), some (.int l), some (.int (nI t))] [] M := by
  intro r
  induction r with
  | zero =>
    intro t M ht hq hv hP
    have hR : M.2.2 = stdR b := by rw [hq.1]; exact hR0
    have hnv : M.1 0 7 = nI nv := (hq.2 0 7 (by omega)).trans hnv0
    have hns : M.1 0 8 = nI ns := (hq.2 0 8 (by omega)).trans hns0
    have hnt : M.1 0 9 = nI nt := (hq.2 0 9 (by omega)).trans hnt0
    have hnb : M.1 0 10 = nI nb := (hq.2 0 10 (by omega)).trans hnb0
    have hts : ∀ t, t < nt → M.1 (t + 74) 0 = nI (sp t) ∧ sp t < ns := fun t h => ⟨(hq.2 (t + 74) 0 (by omega)).trans (hts0 t h).1, (hts0 t h).2⟩
    refine r_iload_n hG dX8_addNeedy_46 rfl ?_
    refine r_aload_n hG dX8_addNeedy_47 rfl ?_
    refine r_getIv hG 9 (nI nt) fk_X8_94 dX8_addNeedy_48 rfl (by decide) rfl hnt ?_
    refine r_icmp_ge hG 105 dX8_addNeedy_51 (by decide) (fun hc51 => ?_) (fun hc51 => absurd (nle_f (a := nt) (b := t) (by omega) (by omega) hc51) (by omega))
    refine hE _ _ _ _ dX8_addNeedy_105 rfl (Nat.le_refl _) (Nat.le_refl _) ?_
    exact hP M hq (fun t9 h9 => hv t9 (by omega))
  | succ r ih =>
    intro t M ht hq hv hP
    have hR : M.2.2 = stdR b := by rw [hq.1]; exact hR0
    have hnv : M.1 0 7 = nI nv := (hq.2 0 7 (by omega)).trans hnv0
    have hns : M.1 0 8 = nI ns := (hq.2 0 8 (by omega)).trans hns0
    have hnt : M.1 0 9 = nI nt := (hq.2 0 9 (by omega)).trans hnt0
    have hnb : M.1 0 10 = nI nb := (hq.2 0 10 (by omega)).trans hnb0
    have hts : ∀ t, t < nt → M.1 (t + 74) 0 = nI (sp t) ∧ sp t < ns := fun t h => ⟨(hq.2 (t + 74) 0 (by omega)).trans (hts0 t h).1, (hts0 t h).2⟩
    refine r_iload_n hG dX8_addNeedy_46 rfl ?_
    refine r_aload_n hG dX8_addNeedy_47 rfl ?_
    refine r_getIv hG 9 (nI nt) fk_X8_94 dX8_addNeedy_48 rfl (by decide) rfl hnt ?_
    refine r_icmp_ge hG 105 dX8_addNeedy_51 (by decide) (fun hc51 => absurd (nle_t (a := nt) (b := t) (by omega) (by omega) hc51) (by omega)) (fun hc51 => ?_)
    refine r_aload_n hG dX8_addNeedy_54 rfl ?_
    refine r_aload_n hG dX8_addNeedy_55 rfl ?_
    refine r_getR hG 2 3 fk_X8_23 dX8_addNeedy_56 rfl (by decide) rfl (sr hR rfl) ?_
    refine r_iload_n hG dX8_addNeedy_59 rfl ?_
    refine r_aald6 hG t (t + 74) dX8_addNeedy_60 rfl (by decide) rfl (by omega) (by decide) (sr hR rfl) ?_
    refine r_getIv hG 0 (nI (sp t)) fk_X8_97 dX8_addNeedy_61 (gkT (by omega)) (show (t + 74) < 140 by omega) rfl (hts t (by omega)).1 ?_
    refine r_cVI1 hG mk_X8_90 dX8_addNeedy_64 rfl (by decide) (ct_X8_isSpring (by exact hR) (c := ns) hns (by omega) _) (by decide) ⟨Nat.le_refl _, Nat.le_refl _⟩ (Nat.le_of_ble_eq_true rfl) (fun x9 M9 h9 => ?_)
    obtain ⟨h8, e9⟩ := h9; rw [e9]; rcases h8 with ⟨e8, hw64⟩ | ⟨e8, hw64⟩; rotate_left; exact absurd ⟨_, (hts t (by omega)).2, rfl⟩ hw64
    · rw [e8]
      refine r_if_eq hG 99 dX8_addNeedy_67 (by decide) (fun hc67 => absurd hc67 (by decide)) (fun hc67 => ?_)
      refine r_aload_n hG dX8_addNeedy_70 rfl ?_
      refine r_getR hG 6 23 fk_X8_47 dX8_addNeedy_71 rfl (by decide) rfl (sr hR rfl) ?_
      refine r_iload_n hG dX8_addNeedy_74 rfl ?_
      refine r_iconst hG (2) dX8_addNeedy_75 (by decide) ?_
      refine r_aload_n hG dX8_addNeedy_76 rfl ?_
      refine r_getR hG 1 2 fk_X8_17 dX8_addNeedy_77 rfl (by decide) rfl (sr hR rfl) ?_
      refine r_aload_n hG dX8_addNeedy_80 rfl ?_
      refine r_getR hG 2 3 fk_X8_23 dX8_addNeedy_81 rfl (by decide) rfl (sr hR rfl) ?_
      refine r_iload_n hG dX8_addNeedy_84 rfl ?_
      refine r_aald6 hG t (t + 74) dX8_addNeedy_85 rfl (by decide) rfl (by omega) (by decide) (sr hR rfl) ?_
      refine r_getIv hG 0 (nI (sp t)) fk_X8_97 dX8_addNeedy_86 (gkT (by omega)) (show (t + 74) < 140 by omega) rfl (hts t (by omega)).1 ?_
      have hs4 := (hts t (by omega)).2
      refine r_aald5 hG (sp t) (2 * (sp t) + 66) dX8_addNeedy_89 rfl (by decide) rfl (by have := (hts t (by omega)).2; omega) (by decide) (sr hR rfl) ?_
      refine r_getR hG 4 (2 * (sp t) + 67) fk_X8_109 dX8_addNeedy_90 (gkS (by omega)) (show (2 * (sp t) + 66) < 140 by omega) rfl (sr hR (sRy (by omega))) ?_
      refine r_iload_n hG dX8_addNeedy_93 rfl ?_
      refine r_ialdv hG v (M0.1 (2 * sp t + 67) v) dX8_addNeedy_94 (gkY (by omega)) (show (2 * (sp t) + 67) < 140 by omega) rfl (by omega) (by decide) (hq.2 (2 * sp t + 67) v (by omega)) ?_
      refine r_imul hG dX8_addNeedy_95 ?_
      refine r_cVV2 hG mk_X8_276 dX8_addNeedy_96 rfl (by decide) (ct_X2_setTrip (by exact hR) (n := c) (by rw [hq.2 23 14 (by omega)]; exact hn) hc (t := t) (by omega) _) (by decide) ⟨Nat.le_refl _, Nat.le_refl _⟩ (Nat.le_of_ble_eq_true rfl) (fun M9 h9 => ?_)
      rw [h9]
      refine r_iinc hG (1) dX8_addNeedy_99 (by decide) rfl ?_
      refine r_loc [some (.ref 0), some (.int (nI v)), some (.int l), some (.int ((nI t) + (1)))] rfl ?_
      refine r_goto hG 46 dX8_addNeedy_102 (by decide) ?_
      rw [nI_1]
      refine ih (t + 1) _ (by omega) (hq.put rfl) (fun t9 h9 => ?_) hP
      by_cases e : t9 = t
      · subst e
        exact gwI_s
      · rw [gwI_n (by omega)]
        exact hv t9 (by omega)

set_option maxRecDepth 100000 in
set_option maxHeartbeats 400000 in
theorem ct_X8_addNeedy {M : gM} {b : Bool} (hR : M.2.2 = stdR b) {nv ns nt nb : Nat} (hnv : M.1 0 7 = nI nv) (lv : nv ≤ 12) (hns : M.1 0 8 = nI ns) (ls : ns ≤ 4) (hnt : M.1 0 9 = nI nt) (lt : nt ≤ 4) (hnb : M.1 0 10 = nI nb) (lb : nb ≤ 10) {sp : Nat → Nat} (hts : ∀ t, t < nt → M.1 (t + 74) 0 = nI (sp t) ∧ sp t < ns) {c v : Nat} (hc0 : M.1 23 13 = nI c) (hn0 : M.1 23 14 = nI (min6 c)) (lc : c < 100) (hvv : v < nv) (l : Int32) : gC 2 0 0 yX8_addNeedy cX8_addNeedy 4 none 140 140 [.ref 0, .int (nI v), .int l] M (gV (fun M9 => (6 ≤ c ∧ M9 = gwI M 23 13 (nI c + 1)) ∨ (c < 6 ∧ gEq (Sq c) M M9 ∧ M9.1 23 13 = nI (c + 1) ∧ M9.1 23 14 = nI (c + 1) ∧ M9.1 28 c = nI v ∧ M9.1 29 c = l ∧ M9.1 30 c = M.1 (2 * v + 42) 2 - M.1 (2 * v + 42) 3 ∧ ∀ t, t < nt → M9.1 (c + 32) t = 2 * M.1 (2 * sp t + 67) v))) := by
  refine gC_v rfl (Nat.le_of_ble_eq_true rfl) (fun G hG hE => ?_)
  change G (140, 0, 0) 0 [some (.ref 0), some (.int (nI v)), some (.int l), none] [] M
  refine r_aload_n hG dX8_addNeedy_0 rfl ?_
  refine r_getR hG 6 23 fk_X8_47 dX8_addNeedy_1 rfl (by decide) rfl (sr hR rfl) ?_
  refine r_dup hG dX8_addNeedy_4 rfl ?_
  refine r_getIv hG 13 (nI c) fk_X8_136 dX8_addNeedy_5 rfl (by decide) rfl hc0 ?_
  refine r_iconst hG (1) dX8_addNeedy_8 (by decide) ?_
  refine r_iadd hG dX8_addNeedy_9 ?_
  refine r_putI hG 13 fp_X8_136 dX8_addNeedy_10 rfl (by decide) rfl rfl rfl ?_
  refine r_aload_n hG dX8_addNeedy_13 rfl ?_
  refine r_getR hG 6 23 fk_X8_47 dX8_addNeedy_14 rfl (by decide) rfl (sr hR rfl) ?_
  refine r_getIv hG 13 ((nI c) + (1)) fk_X8_136 dX8_addNeedy_17 rfl (by decide) rfl gwI_s ?_
  refine r_top (nI (c + 1)) (nI_1 c) ?_
  refine r_bipush hG (6) dX8_addNeedy_20 (by decide) ?_
  refine r_icmp_le hG 26 dX8_addNeedy_22 (by decide) (fun hc22 => ?_) (fun hc22 => ?_)
  · have hn22 := nle_t (a := (c + 1)) (b := 6) (by omega) (by omega) hc22
    refine r_aload_n hG dX8_addNeedy_26 rfl ?_
    refine r_getR hG 6 23 fk_X8_47 dX8_addNeedy_27 rfl (by decide) rfl (sr hR rfl) ?_
    refine r_iload_n hG dX8_addNeedy_30 rfl ?_
    refine r_iload_n hG dX8_addNeedy_31 rfl ?_
    refine r_aload_n hG dX8_addNeedy_32 rfl ?_
    refine r_getR hG 0 1 fk_X8_11 dX8_addNeedy_33 rfl (by decide) rfl (sr hR rfl) ?_
    refine r_iload_n hG dX8_addNeedy_36 rfl ?_
    refine r_aald4 hG v (2 * v + 42) dX8_addNeedy_37 rfl (by decide) rfl (by omega) (by decide) (sr hR rfl) ?_
    refine r_cVI0 hG mk_X8_270 dX8_addNeedy_38 (gkV (by omega)) (show (2 * v + 42) < 140 by omega) (ct_X7_room (by exact hR) (i := v) (by omega)) (by decide) ⟨Nat.le_refl _, Nat.le_refl _⟩ (Nat.le_of_ble_eq_true rfl) (fun x9 M9 h9 => ?_)
    obtain ⟨e8, e9⟩ := h9
    rw [e8, e9]
    refine r_top (M.1 (2 * v + 42) 2 - M.1 (2 * v + 42) 3) (by rw [gwI_n (by omega), gwI_n (by omega)]) ?_
    refine r_cVV3 hG mk_X8_273 dX8_addNeedy_41 rfl (by decide) (ct_X2_addPlace (by exact hR) (n := c) (by rw [gwI_n (by omega)]; rw [hn0]; unfold min6; rw [if_pos (by omega)]) (by omega) _ _ _) (by decide) ⟨Nat.le_refl _, Nat.le_refl _⟩ (Nat.le_of_ble_eq_true rfl) (fun M9 h9 => ?_)
    rw [h9]
    refine r_iconst hG (0) dX8_addNeedy_44 (by decide) ?_
    refine r_istore_n hG dX8_addNeedy_45 (by decide) ?_
    refine r_loc [some (.ref 0), some (.int (nI v)), some (.int l), some (.int (0))] rfl ?_
    refine lp_X8_addNeedy hG hE (M0 := (gwI (gwI (gwI (gwI (gwI M 23 13 (nI c + 1)) 28 c (nI v)) 29 c l) 30 c (M.1 (2 * v + 42) 2 - M.1 (2 * v + 42) 3)) 23 14 (nI c + 1))) (b := b) (by exact hR) (nv := nv) (ns := ns) (nt := nt) (nb := nb) (by exact hnv) lv (by exact hns) ls (by exact hnt) lt (by exact hnb) lb (sp := sp) (fun t h => ⟨by rw [gwI_n (by omega), gwI_n (by omega), gwI_n (by omega), gwI_n (by omega), gwI_n (by omega)]; exact (hts t h).1, (hts t h).2⟩) (c := c) (v := v) (by omega) (by rw [gwI_s, nI_1]) hvv nt 0 _ (by omega) gEq.rf (fun t9 h9 => absurd h9 (by omega)) (fun M9 hq hv => Or.inr ⟨by omega, ?_, ?_, ?_, ?_, ?_, ?_, ?_⟩)
    · have h5 : gEq (Sq c) M (gwI (gwI (gwI (gwI (gwI M 23 13 (nI c + 1)) 28 c (nI v)) 29 c l) 30 c (M.1 (2 * v + 42) 2 - M.1 (2 * v + 42) 3)) 23 14 (nI c + 1)) := ((((gEq.rf.put (by unfold Sq; omega)).put (by unfold Sq; omega)).put (by unfold Sq; omega)).put (by unfold Sq; omega)).put (by unfold Sq; omega)
      exact h5.trans (hq.mono (fun k j h => by unfold Sq; omega))
    · rw [hq.2 23 13 (by omega), gwI_n (by omega), gwI_n (by omega), gwI_n (by omega), gwI_n (by omega), gwI_s, nI_1]
    · rw [hq.2 23 14 (by omega), gwI_s, nI_1]
    · rw [hq.2 28 c (by omega), gwI_n (by omega), gwI_n (by omega), gwI_n (by omega), gwI_s]
    · rw [hq.2 29 c (by omega), gwI_n (by omega), gwI_n (by omega), gwI_s]
    · rw [hq.2 30 c (by omega), gwI_n (by omega), gwI_s]
    · intro t ht
      have hs4 := (hts t ht).2
      rw [hv t ht, gwI_n (by omega), gwI_n (by omega), gwI_n (by omega), gwI_n (by omega), gwI_n (by omega)]
  · have hn22 := nle_f (a := (c + 1)) (b := 6) (by omega) (by omega) hc22
    refine hE _ _ _ _ dX8_addNeedy_25 rfl (Nat.le_refl _) (Nat.le_refl _) ?_
    exact Or.inl ⟨by omega, rfl⟩


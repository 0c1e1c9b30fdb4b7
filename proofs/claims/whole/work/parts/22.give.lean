theorem fm_x : ∀ a, a < 400 → 0 ≤ nI a ^^^ 7 := by decide +kernel
set_option maxRecDepth 100000 in
set_option maxHeartbeats 400000 in
theorem ct_J9_floorMod_7cf53 {M : gM} {a : Nat} (ha : a < 400) : gC 0 0 0 yJ9_floorMod_7cf53 cJ9_floorMod_7cf53 3 (some .int) 140 140 [.int (nI a), .int (7)] M (gI (fun r M9 => r = nI (a % 7) ∧ M9 = M)) := by
  refine gC_iF (by decide +kernel) (Nat.le_of_ble_eq_true rfl) (fun G hG hE => ?_)
  change G (140, 0, 0) 0 [some (.int (nI a)), some (.int (7)), none] [] M
  refine r_iload_n hG dJ9_floorMod_7cf53_0 rfl ?_
  refine r_iload_n hG dJ9_floorMod_7cf53_1 rfl ?_
  refine r_irem hG dJ9_floorMod_7cf53_2 (by decide) ?_
  refine r_top (nI (a % 7)) (pk_rem (d := 7) (by omega) (by decide) (by decide)) ?_
  refine r_istore_n hG dJ9_floorMod_7cf53_3 (by decide) ?_
  refine r_loc [some (.int (nI a)), some (.int (7)), some (.int (nI (a % 7)))] rfl ?_
  refine r_iload_n hG dJ9_floorMod_7cf53_4 rfl ?_
  refine r_iload_n hG dJ9_floorMod_7cf53_5 rfl ?_
  refine r_ixor hG dJ9_floorMod_7cf53_6 ?_
  refine r_if_ge hG 18 dJ9_floorMod_7cf53_7 (by decide) (fun hc7 => ?_) (fun hc7 => absurd (fm_x a ha) hc7)
  refine r_iload_n hG dJ9_floorMod_7cf53_18 rfl ?_
  refine hE _ _ _ _ _ dJ9_floorMod_7cf53_19 rfl (Nat.le_refl _) (Nat.le_refl _) rfl ?_
  exact ⟨rfl, rfl⟩

theorem wantV_c2 {M0 M : gM} {k nl : Nat} {B : Nat → Bool} {A : Nat → Int32} {ST : Nat → Nat} {C : Nat → Nat × Int32} (hk : ∀ j, M.1 k j = M0.1 k j) (h12 : M.1 0 12 = M0.1 0 12) (h13 : M.1 0 13 = M0.1 0 13) : wantV M k nl B A ST C = wantV M0 k nl B A ST C := by
  have e : fct M k = fct M0 k := by
    funext w
    match w with
    | 0 => show M.1 0 12 + 1 = _; rw [h12]; rfl
    | 1 => exact hk 0
    | 2 => exact hk 1
    | 3 => exact hk 7
    | 4 => show hund M k = hund M0 k; unfold hund; rw [hk 2, hk 3]
    | _ + 5 => exact h13
  unfold wantV
  rw [e, hk 0, hk 1]
/-- what a day's giving writes -/
def Sg (k j : Nat) : Prop := Sc k j ∨ (k = 0 ∧ j = 14) ∨ (42 ≤ k ∧ k < 66 ∧ (k % 2 = 1 ∨ j = 3 ∨ j = 5 ∨ j = 6 ∨ j = 7 ∨ j = 8))
/-- village v has been given, when w was wanted -/
def gvn (M0 M : gM) (w : Int32) (sl v : Nat) : Prop :=
  M.1 (2 * v + 42) 3 = M0.1 (2 * v + 42) 3 - mmin (M0.1 (2 * v + 42) 3) w ∧ M.1 (2 * v + 42) 5 = mmin (M0.1 (2 * v + 42) 3) w ∧ M.1 (2 * v + 42) 6 = (if w ≤ M0.1 (2 * v + 42) 3 then 0 else 1) ∧ M.1 (2 * v + 42) 7 = (if w ≤ M0.1 (2 * v + 42) 3 then 0 else M0.1 (2 * v + 42) 7 + 1) ∧ M.1 (2 * v + 42) 8 = M0.1 (2 * v + 42) 8 + (if w ≤ M0.1 (2 * v + 42) 3 then 0 else 1) ∧ ∀ j, M.1 (2 * v + 43) j = if j = sl then mmin (M0.1 (2 * v + 42) 3) w else M0.1 (2 * v + 43) j
def gsum (M0 : gM) (W : Nat → Int32) : Nat → Int32
  | 0 => M0.1 0 14
  | i + 1 => gsum M0 W i + mmin (M0.1 (2 * i + 42) 3) (W i)
def dsum (M0 : gM) (W : Nat → Int32) : Nat → Int32
  | 0 => 0
  | i + 1 => dsum M0 W i + (if W i ≤ M0.1 (2 * i + 42) 3 then 0 else 1)
theorem fGive_eq {M : gM} {k w sl : Nat} {x : Int32} (hs : sl < 7) : fGive M k w x (nI sl) = gwI (gwI (gwI (gwI (gwI (gwI M k 6 (if x ≤ M.1 k 3 then 0 else 1)) k 5 (mmin (M.1 k 3) x)) k 3 (M.1 k 3 - mmin (M.1 k 3) x)) k 7 (if x ≤ M.1 k 3 then 0 else M.1 k 7 + 1)) k 8 (M.1 k 8 + (if x ≤ M.1 k 3 then 0 else 1))) w sl (mmin (M.1 k 3) x) := by
  unfold fGive
  have h1 : 0 ≤ nI sl ∧ ¬ 7 ≤ nI sl := ⟨nI_pos' (by omega), nI_ge (b := 7) hs (by decide)⟩
  simp only [h1, not_false_eq_true, and_self, if_true, nI_clamp (show sl < 2 ^ 31 by omega)]
/-- the giving as a whole -/
def gvR (M0 M9 : gM) (nv sl : Nat) (W : Nat → Int32) : Prop := gEq (fun k j => Sg k j ∨ (k = 0 ∧ j = 13)) M0 M9 ∧ (∀ v, v < nv → gvn M0 M9 (W v) sl v) ∧ (∀ v, nv ≤ v → v < 12 → ∀ j, M9.1 (2 * v + 42) j = M0.1 (2 * v + 42) j ∧ M9.1 (2 * v + 43) j = M0.1 (2 * v + 43) j) ∧ M9.1 0 14 = gsum M0 W nv ∧ M9.1 0 13 = dsum M0 W nv
set_option maxRecDepth 100000 in
set_option maxHeartbeats 400000 in
theorem lp_X8_giveToAll  {G : gJ} {P : gM → Prop} (hG : gS 4 0 0 yX8_giveToAll.cls cX8_giveToAll 4 G) (hE : gEv 140 0 0 cX8_giveToAll P G) {M0 : gM} {b : Bool} (hR0 : M0.2.2 = stdR b) {nv ns nt nb : Nat} (hnv0 : M0.1 0 7 = nI nv) (lv : nv ≤ 12) (hns0 : M0.1 0 8 = nI ns) (ls : ns ≤ 4) (hnt0 : M0.1 0 9 = nI nt) (lt : nt ≤ 4) (hnb0 : M0.1 0 10 = nI nb) (lb : nb ≤ 10) {o : Nat} (hob : o = if b then 17 else 11) {nl : Nat} {B : Nat → Bool} {A : Nat → Int32} {ST : Nat → Nat} {C : Nat → Nat × Int32} (hO0 : ordC M0 o nl B A ST C) {sl : Nat} (hsl : sl < 7) :
    ∀ (r i : Nat) (M : gM), i + r = nv → gEq Sg M0 M → (∀ v, v < i → gvn M0 M (wantV M0 (2 * v + 42) nl B A ST C) sl v) → (∀ v, i ≤ v → v < 12 → ∀ j, M.1 (2 * v + 42) j = M0.1 (2 * v + 42) j ∧ M.1 (2 * v + 43) j = M0.1 (2 * v + 43) j) → M.1 0 14 = gsum M0 (fun v => wantV M0 (2 * v + 42) nl B A ST C) i → (∀ M9, gvR M0 M9 nv sl (fun v => wantV M0 (2 * v + 42) nl B A ST C) → P M9) → G (140, 0, 0) 14 [some (.ref 0), some (.int (dsum M0 (fun v => wantV M0 (2 * v + 42) nl B A ST C) i)), some (.int (nI sl)), some (.int (nI i))] [] M := by
  intro r
  induction r with
  | zero =>
    intro i M hi hq hv hr h14 hP
    have hR : M.2.2 = stdR b := by rw [hq.1]; exact hR0
    have hnv : M.1 0 7 = nI nv := (hq.2 0 7 (by unfold Sg Sc; omega)).trans hnv0
    have hns : M.1 0 8 = nI ns := (hq.2 0 8 (by unfold Sg Sc; omega)).trans hns0
    have hnt : M.1 0 9 = nI nt := (hq.2 0 9 (by unfold Sg Sc; omega)).trans hnt0
    have hnb : M.1 0 10 = nI nb := (hq.2 0 10 (by unfold Sg Sc; omega)).trans hnb0
    have ho : o = 11 ∨ o = 17 := by cases b <;> simp at hob <;> omega
    have hO : ordC M o nl B A ST C := by
      obtain ⟨a1, a2, a3, a4, a5, a6⟩ := hO0
      refine ⟨a1, (hq.2 o 5 (by unfold Sg Sc; omega)).trans a2, (hq.2 o 6 (by unfold Sg Sc; omega)).trans a3, a4, fun i hi => ?_, fun j hj => ?_⟩
      · obtain ⟨g1, g2, g3, g4, g5⟩ := a5 i hi
        exact ⟨g1, (hq.2 (o + 1) i (by unfold Sg Sc; omega)).trans g2, (hq.2 (o + 2) i (by unfold Sg Sc; omega)).trans g3, (hq.2 (o + 3) i (by unfold Sg Sc; omega)).trans g4, g5⟩
      · rw [hq.2 (o + 4) j (by unfold Sg Sc; omega)]; exact a6 j hj
    refine r_iload_n hG dX8_giveToAll_14 rfl ?_
    refine r_aload_n hG dX8_giveToAll_15 rfl ?_
    refine r_getIv hG 7 (nI nv) fk_X8_60 dX8_giveToAll_16 rfl (by decide) rfl hnv ?_
    refine r_icmp_ge hG 86 dX8_giveToAll_19 (by decide) (fun hc19 => ?_) (fun hc19 => absurd (nle_f (a := nv) (b := i) (by omega) (by omega) hc19) (by omega))
    refine r_aload_n hG dX8_giveToAll_86 rfl ?_
    refine r_iload_n hG dX8_giveToAll_87 rfl ?_
    refine r_putI hG 13 fp_X8_228 dX8_giveToAll_88 rfl (by decide) rfl rfl rfl ?_
    refine hE _ _ _ _ dX8_giveToAll_91 rfl (Nat.le_refl _) (Nat.le_refl _) ?_
    have ei : i = nv := by omega
    subst ei
    refine hP _ ⟨(hq.mono (fun _ _ h => Or.inl h)).put (Or.inr ⟨rfl, rfl⟩), fun v hv9 => ?_, fun v h1 h2 j => ?_, ?_, gwI_s⟩
    · obtain ⟨a1, a2, a3, a4, a5, a6⟩ := hv v hv9
      unfold gvn
      rw [gwI_n (by omega), gwI_n (by omega), gwI_n (by omega), gwI_n (by omega), gwI_n (by omega)]
      exact ⟨a1, a2, a3, a4, a5, fun j => by rw [gwI_n (by omega)]; exact a6 j⟩
    · rw [gwI_n (by omega), gwI_n (by omega)]
      exact hr v h1 h2 j
    · rw [gwI_n (by omega)]
      exact h14
  | succ r ih =>
    intro i M hi hq hv hr h14 hP
    have hR : M.2.2 = stdR b := by rw [hq.1]; exact hR0
    have hnv : M.1 0 7 = nI nv := (hq.2 0 7 (by unfold Sg Sc; omega)).trans hnv0
    have hns : M.1 0 8 = nI ns := (hq.2 0 8 (by unfold Sg Sc; omega)).trans hns0
    have hnt : M.1 0 9 = nI nt := (hq.2 0 9 (by unfold Sg Sc; omega)).trans hnt0
    have hnb : M.1 0 10 = nI nb := (hq.2 0 10 (by unfold Sg Sc; omega)).trans hnb0
    have ho : o = 11 ∨ o = 17 := by cases b <;> simp at hob <;> omega
    have hO : ordC M o nl B A ST C := by
      obtain ⟨a1, a2, a3, a4, a5, a6⟩ := hO0
      refine ⟨a1, (hq.2 o 5 (by unfold Sg Sc; omega)).trans a2, (hq.2 o 6 (by unfold Sg Sc; omega)).trans a3, a4, fun i hi => ?_, fun j hj => ?_⟩
      · obtain ⟨g1, g2, g3, g4, g5⟩ := a5 i hi
        exact ⟨g1, (hq.2 (o + 1) i (by unfold Sg Sc; omega)).trans g2, (hq.2 (o + 2) i (by unfold Sg Sc; omega)).trans g3, (hq.2 (o + 3) i (by unfold Sg Sc; omega)).trans g4, g5⟩
      · rw [hq.2 (o + 4) j (by unfold Sg Sc; omega)]; exact a6 j hj
    refine r_iload_n hG dX8_giveToAll_14 rfl ?_
    refine r_aload_n hG dX8_giveToAll_15 rfl ?_
    refine r_getIv hG 7 (nI nv) fk_X8_60 dX8_giveToAll_16 rfl (by decide) rfl hnv ?_
    refine r_icmp_ge hG 86 dX8_giveToAll_19 (by decide) (fun hc19 => absurd (nle_t (a := nv) (b := i) (by omega) (by omega) hc19) (by omega)) (fun hc19 => ?_)
    refine r_aload_n hG dX8_giveToAll_22 rfl ?_
    refine r_getR hG 0 1 fk_X8_11 dX8_giveToAll_23 rfl (by decide) rfl (sr hR rfl) ?_
    refine r_iload_n hG dX8_giveToAll_26 rfl ?_
    refine r_aald4 hG i (2 * i + 42) dX8_giveToAll_27 rfl (by decide) rfl (by omega) (by decide) (sr hR rfl) ?_
    refine r_aload_n hG dX8_giveToAll_28 rfl ?_
    refine r_aload_n hG dX8_giveToAll_29 rfl ?_
    refine r_getR hG 0 1 fk_X8_11 dX8_giveToAll_30 rfl (by decide) rfl (sr hR rfl) ?_
    refine r_iload_n hG dX8_giveToAll_33 rfl ?_
    refine r_aald4 hG i (2 * i + 42) dX8_giveToAll_34 rfl (by decide) rfl (by omega) (by decide) (sr hR rfl) ?_
    refine r_cVI1 hG mk_X8_129 dX8_giveToAll_35 rfl (by decide) (ct_X8_wantOf hR hob hO (i := i) (by omega)) (by decide) ⟨Nat.le_refl _, Nat.le_refl _⟩ (Nat.le_of_ble_eq_true rfl) (fun x9 M35 h9 => ?_)
    obtain ⟨e8, hq35⟩ := h9
    have e42 : ∀ j, M.1 (2 * i + 42) j = M0.1 (2 * i + 42) j := fun j => (hr i (by omega) (by omega) j).1
    rw [e8, wantV_c2 (M0 := M0) e42 (hq.2 0 12 (by unfold Sg Sc; omega)) (hq.2 0 13 (by unfold Sg Sc; omega))]
    have hR : M35.2.2 = stdR b := by rw [hq35.1]; exact hR
    have f42 : ∀ j, M35.1 (2 * i + 42) j = M0.1 (2 * i + 42) j := fun j => (hq35.2 (2 * i + 42) j (by unfold Sc; omega)).trans (e42 j)
    have f14 : M35.1 0 14 = gsum M0 (fun v => wantV M0 (2 * v + 42) nl B A ST C) i := (hq35.2 0 14 (by unfold Sc; omega)).trans h14
    refine r_iload_n hG dX8_giveToAll_38 rfl ?_
    refine r_cVV2 hG mk_X8_301 dX8_giveToAll_39 (gkV (by omega)) (show (2 * i + 42) < 140 by omega) (ct_X7_give hR (i := i) (by omega) _ _) (by decide) ⟨Nat.le_refl _, Nat.le_refl _⟩ (Nat.le_of_ble_eq_true rfl) (fun M9 h9 => ?_)
    rw [h9, fGive_eq hsl]
    refine r_mem (gwI (gwI (gwI (gwI (gwI (gwI M35 (2 * i + 42) 6 (if (wantV M0 (2 * i + 42) nl B A ST C) ≤ M0.1 (2 * i + 42) 3 then (0 : Int32) else 1)) (2 * i + 42) 5 (mmin (M0.1 (2 * i + 42) 3) (wantV M0 (2 * i + 42) nl B A ST C))) (2 * i + 42) 3 (M0.1 (2 * i + 42) 3 - (mmin (M0.1 (2 * i + 42) 3) (wantV M0 (2 * i + 42) nl B A ST C)))) (2 * i + 42) 7 (if (wantV M0 (2 * i + 42) nl B A ST C) ≤ M0.1 (2 * i + 42) 3 then (0 : Int32) else M0.1 (2 * i + 42) 7 + 1)) (2 * i + 42) 8 (M0.1 (2 * i + 42) 8 + (if (wantV M0 (2 * i + 42) nl B A ST C) ≤ M0.1 (2 * i + 42) 3 then (0 : Int32) else 1))) (2 * i + 43) sl (mmin (M0.1 (2 * i + 42) 3) (wantV M0 (2 * i + 42) nl B A ST C))) (by rw [f42 3, f42 7, f42 8]) ?_
    refine r_aload_n hG dX8_giveToAll_42 rfl ?_
    refine r_dup hG dX8_giveToAll_43 rfl ?_
    refine r_getIv hG 14 (gsum M0 (fun v => wantV M0 (2 * v + 42) nl B A ST C) i) fk_X8_231 dX8_giveToAll_44 rfl (by decide) rfl (((gwI_n (by omega)).trans ((gwI_n (by omega)).trans ((gwI_n (by omega)).trans ((gwI_n (by omega)).trans ((gwI_n (by omega)).trans (gwI_n (by omega))))))).trans f14) ?_
    refine r_aload_n hG dX8_giveToAll_47 rfl ?_
    refine r_getR hG 0 1 fk_X8_11 dX8_giveToAll_48 rfl (by decide) rfl (sr hR rfl) ?_
    refine r_iload_n hG dX8_giveToAll_51 rfl ?_
    refine r_aald4 hG i (2 * i + 42) dX8_giveToAll_52 rfl (by decide) rfl (by omega) (by decide) (sr hR rfl) ?_
    refine r_getIv hG 5 (mmin (M0.1 (2 * i + 42) 3) (wantV M0 (2 * i + 42) nl B A ST C)) fk_X8_304 dX8_giveToAll_53 (gkV (by omega)) (show (2 * i + 42) < 140 by omega) rfl ((gwI_n (by omega)).trans ((gwI_n (by omega)).trans ((gwI_n (by omega)).trans ((gwI_n (by omega)).trans gwI_s)))) ?_
    refine r_iadd hG dX8_giveToAll_56 ?_
    refine r_putI hG 14 fp_X8_231 dX8_giveToAll_57 rfl (by decide) rfl rfl rfl ?_
    refine r_iload_n hG dX8_giveToAll_60 rfl ?_
    refine r_aload_n hG dX8_giveToAll_61 rfl ?_
    refine r_getR hG 0 1 fk_X8_11 dX8_giveToAll_62 rfl (by decide) rfl (sr hR rfl) ?_
    refine r_iload_n hG dX8_giveToAll_65 rfl ?_
    refine r_aald4 hG i (2 * i + 42) dX8_giveToAll_66 rfl (by decide) rfl (by omega) (by decide) (sr hR rfl) ?_
    refine r_getIv hG 6 (if (wantV M0 (2 * i + 42) nl B A ST C) ≤ M0.1 (2 * i + 42) 3 then (0 : Int32) else 1) fk_X8_307 dX8_giveToAll_67 (gkV (by omega)) (show (2 * i + 42) < 140 by omega) rfl ((gwI_n (by omega)).trans ((gwI_n (by omega)).trans ((gwI_n (by omega)).trans ((gwI_n (by omega)).trans ((gwI_n (by omega)).trans ((gwI_n (by omega)).trans gwI_s)))))) ?_
    refine r_if_eq hG 77 dX8_giveToAll_70 (by decide) (fun hc70 => ?_) (fun hc70 => ?_)
    · refine r_iconst hG (0) dX8_giveToAll_77 (by decide) ?_
      refine r_iadd hG dX8_giveToAll_78 ?_
      refine r_istore_n hG dX8_giveToAll_79 (by decide) ?_
      refine r_loc [some (.ref 0), some (.int ((dsum M0 (fun v => wantV M0 (2 * v + 42) nl B A ST C) i) + (0))), some (.int (nI sl)), some (.int (nI i))] rfl ?_
      refine r_iinc hG (1) dX8_giveToAll_80 (by decide) rfl ?_
      refine r_loc [some (.ref 0), some (.int ((dsum M0 (fun v => wantV M0 (2 * v + 42) nl B A ST C) i) + (0))), some (.int (nI sl)), some (.int ((nI i) + (1)))] rfl ?_
      refine r_goto hG 14 dX8_giveToAll_83 (by decide) ?_
      rw [nI_1]
      have e70 : (if (wantV M0 (2 * i + 42) nl B A ST C) ≤ M0.1 (2 * i + 42) 3 then (0 : Int32) else 1) = 0 := hc70
      have hq5 : gEq Sg M0 M35 := hq.trans (hq35.mono (fun k j h => by unfold Sg; exact Or.inl h))
      have ed : dsum M0 (fun v => wantV M0 (2 * v + 42) nl B A ST C) i + 0 = dsum M0 (fun v => wantV M0 (2 * v + 42) nl B A ST C) (i + 1) := by
        show _ = dsum M0 (fun v => wantV M0 (2 * v + 42) nl B A ST C) i + (if (wantV M0 (2 * i + 42) nl B A ST C) ≤ M0.1 (2 * i + 42) 3 then (0 : Int32) else 1)
        rw [e70]
      rw [ed]
      refine ih (i + 1) _ (by omega) (((((((hq5.put (by unfold Sg; omega)).put (by unfold Sg; omega)).put (by unfold Sg; omega)).put (by unfold Sg; omega)).put (by unfold Sg; omega)).put (by unfold Sg; omega)).put (by unfold Sg; omega)) (fun v hv9 => ?_) (fun v h1 h2 j => ?_) gwI_s hP
      · by_cases e : v = i
        · subst e
          refine ⟨?_, ?_, ?_, ?_, ?_, fun j => ?_⟩
          · rw [gwI_n (by omega), gwI_n (by omega), gwI_n (by omega), gwI_n (by omega), gwI_s]
          · rw [gwI_n (by omega), gwI_n (by omega), gwI_n (by omega), gwI_n (by omega), gwI_n (by omega), gwI_s]
          · rw [gwI_n (by omega), gwI_n (by omega), gwI_n (by omega), gwI_n (by omega), gwI_n (by omega), gwI_n (by omega), gwI_s]
          · rw [gwI_n (by omega), gwI_n (by omega), gwI_n (by omega), gwI_s]
          · rw [gwI_n (by omega), gwI_n (by omega), gwI_s]
          · rw [gwI_n (by omega)]
            by_cases ej : j = sl
            · subst ej
              rw [gwI_s, if_pos rfl]
            · rw [gwI_n (by omega), gwI_n (by omega), gwI_n (by omega), gwI_n (by omega), gwI_n (by omega), gwI_n (by omega), if_neg ej, hq35.2 _ _ (by unfold Sc; omega)]
              exact (hr v (by omega) (by omega) j).2
        · obtain ⟨a1, a2, a3, a4, a5, a6⟩ := hv v (by omega)
          have hz : ∀ c j, (c = 2 * v + 42 ∨ c = 2 * v + 43) → (gwI (gwI (gwI (gwI (gwI (gwI (gwI M35 (2 * i + 42) 6 (if (wantV M0 (2 * i + 42) nl B A ST C) ≤ M0.1 (2 * i + 42) 3 then (0 : Int32) else 1)) (2 * i + 42) 5 (mmin (M0.1 (2 * i + 42) 3) (wantV M0 (2 * i + 42) nl B A ST C))) (2 * i + 42) 3 (M0.1 (2 * i + 42) 3 - (mmin (M0.1 (2 * i + 42) 3) (wantV M0 (2 * i + 42) nl B A ST C)))) (2 * i + 42) 7 (if (wantV M0 (2 * i + 42) nl B A ST C) ≤ M0.1 (2 * i + 42) 3 then (0 : Int32) else M0.1 (2 * i + 42) 7 + 1)) (2 * i + 42) 8 (M0.1 (2 * i + 42) 8 + (if (wantV M0 (2 * i + 42) nl B A ST C) ≤ M0.1 (2 * i + 42) 3 then (0 : Int32) else 1))) (2 * i + 43) sl (mmin (M0.1 (2 * i + 42) 3) (wantV M0 (2 * i + 42) nl B A ST C))) 0 14 ((gsum M0 (fun v => wantV M0 (2 * v + 42) nl B A ST C) i) + (mmin (M0.1 (2 * i + 42) 3) (wantV M0 (2 * i + 42) nl B A ST C)))).1 c j = M.1 c j := by
            intro c j hc
            rw [gwI_n (by omega), gwI_n (by omega), gwI_n (by omega), gwI_n (by omega), gwI_n (by omega), gwI_n (by omega), gwI_n (by omega)]
            exact hq35.2 c j (by unfold Sc; omega)
          unfold gvn
          rw [hz _ 3 (Or.inl rfl), hz _ 5 (Or.inl rfl), hz _ 6 (Or.inl rfl), hz _ 7 (Or.inl rfl), hz _ 8 (Or.inl rfl)]
          exact ⟨a1, a2, a3, a4, a5, fun j => by rw [hz _ j (Or.inr rfl)]; exact a6 j⟩
      · have hz : ∀ c j, (c = 2 * v + 42 ∨ c = 2 * v + 43) → (gwI (gwI (gwI (gwI (gwI (gwI (gwI M35 (2 * i + 42) 6 (if (wantV M0 (2 * i + 42) nl B A ST C) ≤ M0.1 (2 * i + 42) 3 then (0 : Int32) else 1)) (2 * i + 42) 5 (mmin (M0.1 (2 * i + 42) 3) (wantV M0 (2 * i + 42) nl B A ST C))) (2 * i + 42) 3 (M0.1 (2 * i + 42) 3 - (mmin (M0.1 (2 * i + 42) 3) (wantV M0 (2 * i + 42) nl B A ST C)))) (2 * i + 42) 7 (if (wantV M0 (2 * i + 42) nl B A ST C) ≤ M0.1 (2 * i + 42) 3 then (0 : Int32) else M0.1 (2 * i + 42) 7 + 1)) (2 * i + 42) 8 (M0.1 (2 * i + 42) 8 + (if (wantV M0 (2 * i + 42) nl B A ST C) ≤ M0.1 (2 * i + 42) 3 then (0 : Int32) else 1))) (2 * i + 43) sl (mmin (M0.1 (2 * i + 42) 3) (wantV M0 (2 * i + 42) nl B A ST C))) 0 14 ((gsum M0 (fun v => wantV M0 (2 * v + 42) nl B A ST C) i) + (mmin (M0.1 (2 * i + 42) 3) (wantV M0 (2 * i + 42) nl B A ST C)))).1 c j = M.1 c j := by
          intro c j hc
          rw [gwI_n (by omega), gwI_n (by omega), gwI_n (by omega), gwI_n (by omega), gwI_n (by omega), gwI_n (by omega), gwI_n (by omega)]
          exact hq35.2 c j (by unfold Sc; omega)
        rw [hz _ j (Or.inl rfl), hz _ j (Or.inr rfl)]
        exact hr v (by omega) h2 j
    · refine r_iconst hG (1) dX8_giveToAll_73 (by decide) ?_
      refine r_goto hG 78 dX8_giveToAll_74 (by decide) ?_
      refine r_iadd hG dX8_giveToAll_78 ?_
      refine r_istore_n hG dX8_giveToAll_79 (by decide) ?_
      refine r_loc [some (.ref 0), some (.int ((dsum M0 (fun v => wantV M0 (2 * v + 42) nl B A ST C) i) + (1))), some (.int (nI sl)), some (.int (nI i))] rfl ?_
      refine r_iinc hG (1) dX8_giveToAll_80 (by decide) rfl ?_
      refine r_loc [some (.ref 0), some (.int ((dsum M0 (fun v => wantV M0 (2 * v + 42) nl B A ST C) i) + (1))), some (.int (nI sl)), some (.int ((nI i) + (1)))] rfl ?_
      refine r_goto hG 14 dX8_giveToAll_83 (by decide) ?_
      rw [nI_1]
      have e70 : (if (wantV M0 (2 * i + 42) nl B A ST C) ≤ M0.1 (2 * i + 42) 3 then (0 : Int32) else 1) = 1 := by
        revert hc70
        split <;> intro q
        · exact absurd rfl q
        · rfl
      have hq5 : gEq Sg M0 M35 := hq.trans (hq35.mono (fun k j h => by unfold Sg; exact Or.inl h))
      have ed : dsum M0 (fun v => wantV M0 (2 * v + 42) nl B A ST C) i + 1 = dsum M0 (fun v => wantV M0 (2 * v + 42) nl B A ST C) (i + 1) := by
        show _ = dsum M0 (fun v => wantV M0 (2 * v + 42) nl B A ST C) i + (if (wantV M0 (2 * i + 42) nl B A ST C) ≤ M0.1 (2 * i + 42) 3 then (0 : Int32) else 1)
        rw [e70]
      rw [ed]
      refine ih (i + 1) _ (by omega) (((((((hq5.put (by unfold Sg; omega)).put (by unfold Sg; omega)).put (by unfold Sg; omega)).put (by unfold Sg; omega)).put (by unfold Sg; omega)).put (by unfold Sg; omega)).put (by unfold Sg; omega)) (fun v hv9 => ?_) (fun v h1 h2 j => ?_) gwI_s hP
      · by_cases e : v = i
        · subst e
          refine ⟨?_, ?_, ?_, ?_, ?_, fun j => ?_⟩
          · rw [gwI_n (by omega), gwI_n (by omega), gwI_n (by omega), gwI_n (by omega), gwI_s]
          · rw [gwI_n (by omega), gwI_n (by omega), gwI_n (by omega), gwI_n (by omega), gwI_n (by omega), gwI_s]
          · rw [gwI_n (by omega), gwI_n (by omega), gwI_n (by omega), gwI_n (by omega), gwI_n (by omega), gwI_n (by omega), gwI_s]
          · rw [gwI_n (by omega), gwI_n (by omega), gwI_n (by omega), gwI_s]
          · rw [gwI_n (by omega), gwI_n (by omega), gwI_s]
          · rw [gwI_n (by omega)]
            by_cases ej : j = sl
            · subst ej
              rw [gwI_s, if_pos rfl]
            · rw [gwI_n (by omega), gwI_n (by omega), gwI_n (by omega), gwI_n (by omega), gwI_n (by omega), gwI_n (by omega), if_neg ej, hq35.2 _ _ (by unfold Sc; omega)]
              exact (hr v (by omega) (by omega) j).2
        · obtain ⟨a1, a2, a3, a4, a5, a6⟩ := hv v (by omega)
          have hz : ∀ c j, (c = 2 * v + 42 ∨ c = 2 * v + 43) → (gwI (gwI (gwI (gwI (gwI (gwI (gwI M35 (2 * i + 42) 6 (if (wantV M0 (2 * i + 42) nl B A ST C) ≤ M0.1 (2 * i + 42) 3 then (0 : Int32) else 1)) (2 * i + 42) 5 (mmin (M0.1 (2 * i + 42) 3) (wantV M0 (2 * i + 42) nl B A ST C))) (2 * i + 42) 3 (M0.1 (2 * i + 42) 3 - (mmin (M0.1 (2 * i + 42) 3) (wantV M0 (2 * i + 42) nl B A ST C)))) (2 * i + 42) 7 (if (wantV M0 (2 * i + 42) nl B A ST C) ≤ M0.1 (2 * i + 42) 3 then (0 : Int32) else M0.1 (2 * i + 42) 7 + 1)) (2 * i + 42) 8 (M0.1 (2 * i + 42) 8 + (if (wantV M0 (2 * i + 42) nl B A ST C) ≤ M0.1 (2 * i + 42) 3 then (0 : Int32) else 1))) (2 * i + 43) sl (mmin (M0.1 (2 * i + 42) 3) (wantV M0 (2 * i + 42) nl B A ST C))) 0 14 ((gsum M0 (fun v => wantV M0 (2 * v + 42) nl B A ST C) i) + (mmin (M0.1 (2 * i + 42) 3) (wantV M0 (2 * i + 42) nl B A ST C)))).1 c j = M.1 c j := by
            intro c j hc
            rw [gwI_n (by omega), gwI_n (by omega), gwI_n (by omega), gwI_n (by omega), gwI_n (by omega), gwI_n (by omega), gwI_n (by omega)]
            exact hq35.2 c j (by unfold Sc; omega)
          unfold gvn
          rw [hz _ 3 (Or.inl rfl), hz _ 5 (Or.inl rfl), hz _ 6 (Or.inl rfl), hz _ 7 (Or.inl rfl), hz _ 8 (Or.inl rfl)]
          exact ⟨a1, a2, a3, a4, a5, fun j => by rw [hz _ j (Or.inr rfl)]; exact a6 j⟩
      · have hz : ∀ c j, (c = 2 * v + 42 ∨ c = 2 * v + 43) → (gwI (gwI (gwI (gwI (gwI (gwI (gwI M35 (2 * i + 42) 6 (if (wantV M0 (2 * i + 42) nl B A ST C) ≤ M0.1 (2 * i + 42) 3 then (0 : Int32) else 1)) (2 * i + 42) 5 (mmin (M0.1 (2 * i + 42) 3) (wantV M0 (2 * i + 42) nl B A ST C))) (2 * i + 42) 3 (M0.1 (2 * i + 42) 3 - (mmin (M0.1 (2 * i + 42) 3) (wantV M0 (2 * i + 42) nl B A ST C)))) (2 * i + 42) 7 (if (wantV M0 (2 * i + 42) nl B A ST C) ≤ M0.1 (2 * i + 42) 3 then (0 : Int32) else M0.1 (2 * i + 42) 7 + 1)) (2 * i + 42) 8 (M0.1 (2 * i + 42) 8 + (if (wantV M0 (2 * i + 42) nl B A ST C) ≤ M0.1 (2 * i + 42) 3 then (0 : Int32) else 1))) (2 * i + 43) sl (mmin (M0.1 (2 * i + 42) 3) (wantV M0 (2 * i + 42) nl B A ST C))) 0 14 ((gsum M0 (fun v => wantV M0 (2 * v + 42) nl B A ST C) i) + (mmin (M0.1 (2 * i + 42) 3) (wantV M0 (2 * i + 42) nl B A ST C)))).1 c j = M.1 c j := by
          intro c j hc
          rw [gwI_n (by omega), gwI_n (by omega), gwI_n (by omega), gwI_n (by omega), gwI_n (by omega), gwI_n (by omega), gwI_n (by omega)]
          exact hq35.2 c j (by unfold Sc; omega)
        rw [hz _ j (Or.inl rfl), hz _ j (Or.inr rfl)]
        exact hr v (by omega) h2 j

set_option maxRecDepth 100000 in
set_option maxHeartbeats 400000 in
theorem ct_X8_giveToAll {M : gM} {b : Bool} (hR : M.2.2 = stdR b) {nv ns nt nb : Nat} (hnv : M.1 0 7 = nI nv) (lv : nv ≤ 12) (hns : M.1 0 8 = nI ns) (ls : ns ≤ 4) (hnt : M.1 0 9 = nI nt) (lt : nt ≤ 4) (hnb : M.1 0 10 = nI nb) (lb : nb ≤ 10) {o : Nat} (hob : o = if b then 17 else 11) {nl : Nat} {B : Nat → Bool} {A : Nat → Int32} {ST : Nat → Nat} {C : Nat → Nat × Int32} (hO : ordC M o nl B A ST C) {nw : Nat} (hnw : M.1 0 12 = nI nw) (lw : nw < 400) : gC 4 0 0 yX8_giveToAll cX8_giveToAll 4 none 140 140 [.ref 0] M (gV (fun M9 => gvR M M9 nv (nw % 7) (fun v => wantV M (2 * v + 42) nl B A ST C))) := by
  refine gC_v rfl (Nat.le_of_ble_eq_true rfl) (fun G hG hE => ?_)
  change G (140, 0, 0) 0 [some (.ref 0), none, none, none] [] M
  refine r_iconst hG (0) dX8_giveToAll_0 (by decide) ?_
  refine r_istore_n hG dX8_giveToAll_1 (by decide) ?_
  refine r_loc [some (.ref 0), some (.int (0)), none, none] rfl ?_
  refine r_aload_n hG dX8_giveToAll_2 rfl ?_
  refine r_getIv hG 12 (nI nw) fk_X8_154 dX8_giveToAll_3 rfl (by decide) rfl hnw ?_
  refine r_bipush hG (7) dX8_giveToAll_6 (by decide) ?_
  refine r_cSI2 hG mk_X8_298 dX8_giveToAll_8 (ct_J9_floorMod_7cf53 lw) (by decide) ⟨Nat.le_refl _, Nat.le_refl _⟩ (Nat.le_of_ble_eq_true rfl) (fun x9 M9 h9 => ?_)
  obtain ⟨e8, e9⟩ := h9
  rw [e8, e9]
  refine r_istore_n hG dX8_giveToAll_11 (by decide) ?_
  refine r_loc [some (.ref 0), some (.int (0)), some (.int (nI (nw % 7))), none] rfl ?_
  refine r_iconst hG (0) dX8_giveToAll_12 (by decide) ?_
  refine r_istore_n hG dX8_giveToAll_13 (by decide) ?_
  refine r_loc [some (.ref 0), some (.int (0)), some (.int (nI (nw % 7))), some (.int (0))] rfl ?_
  exact lp_X8_giveToAll hG hE hR hnv lv hns ls hnt lt hnb lb hob hO (sl := nw % 7) (Nat.mod_lt _ (by decide)) nv 0 M (by omega) gEq.rf (fun v hv => absurd hv (by omega)) (fun v _ _ j => ⟨rfl, rfl⟩) rfl (fun M9 h9 => h9)


def St (k j : Nat) : Prop := Sm k j ∨ (k = 88 ∧ j = 0)
theorem mfct_c {M M' : gM} {v : Nat} {dy : Int32} (h : ∀ k j, (105 ≤ k ∧ k ≤ 110 ∧ j = v) ∨ (k = 88 ∧ j = 37) → M'.1 k j = M.1 k j) : mfct M' v dy = mfct M v dy := by
  funext w
  match w with
  | 0 => rfl
  | 1 => exact h 105 v (by omega)
  | 2 => exact h 106 v (by omega)
  | 3 => exact h 110 v (by omega)
  | 4 => show (100 * (M'.1 108 v).toInt64 / (M'.1 107 v).toInt64).toInt32 = _; rw [h 108 v (by omega), h 107 v (by omega)]; rfl
  | _ + 5 => exact h 88 37 (by omega)
theorem mwantV_c {M M' : gM} {v nl : Nat} {dy : Int32} {B : Nat → Bool} {A : Nat → Int32} {ST : Nat → Nat} {C : Nat → Nat × Int32} (h : ∀ k j, (105 ≤ k ∧ k ≤ 110 ∧ j = v) ∨ (k = 88 ∧ j = 37) → M'.1 k j = M.1 k j) : mwantV M' v dy nl B A ST C = mwantV M v dy nl B A ST C := by
  unfold mwantV
  rw [mfct_c h, h 105 v (by omega), h 106 v (by omega)]
theorem ordM.t {M : gM} {h nl : Nat} {B : Nat → Bool} {A : Nat → Int32} {ST : Nat → Nat} {C : Nat → Nat × Int32} (ho : ordM M h nl B A ST C) {x : Int32} : ordM (gwI M 88 0 x) h nl B A ST C := ho.sm (fun k j _ => gwI_n (by omega))
set_option maxRecDepth 100000 in
set_option maxHeartbeats 400000 in
theorem ct_X9_want {M : gM} {b : Bool} (hR : M.2.2 = stdR b) {nv ns nt nb : Nat} (hnv : M.1 88 26 = nI nv) (lv : nv ≤ 12) (hns : M.1 88 38 = nI ns) (ls : ns ≤ 4) (hnt : M.1 88 43 = nI nt) (lt : nt ≤ 4) (hnb : M.1 88 62 = nI nb) (lb : nb ≤ 10) {hh nl : Nat} {B : Nat → Bool} {A : Nat → Int32} {ST : Nat → Nat} {C : Nat → Nat × Int32} (hO : ordM M hh nl B A ST C) (ht : ∀ v, v < nv → ¬ (M.1 107 v).toInt64 = 0) (v : Int32) : gC 3 0 0 yX9_want cX9_want 2 (some .int) 140 140 [.ref 88, .int v] M (gI (fun r M9 => ((∃ q, q < nv ∧ v = nI q ∧ r = mwantV M q (M.1 88 25 + 1) nl B A ST C) ∨ (¬ vIn v nv ∧ r = -1)) ∧ gEq St M M9 ∧ M9.1 88 0 = 0)) := by
  refine gC_i rfl (Nat.le_of_ble_eq_true rfl) (fun G hG hE => ?_)
  change G (140, 0, 0) 0 [some (.ref 88), some (.int v)] [] M
  refine r_aload_n hG dX9_want_0 rfl ?_
  refine r_iconst hG (0) dX9_want_1 (by decide) ?_
  refine r_putI hG 0 fp_X9_1 dX9_want_2 rfl (by decide) rfl rfl rfl ?_
  refine r_aload_n hG dX9_want_5 rfl ?_
  refine r_iload_n hG dX9_want_6 rfl ?_
  refine r_cVI1 hG mk_X9_297 dX9_want_7 rfl (by decide) (ct_X9_isVillage (by exact hR) (c := nv) ((gwI_n (by omega)).trans hnv) (by omega) _) (by decide) ⟨Nat.le_refl _, Nat.le_refl _⟩ (Nat.le_of_ble_eq_true rfl) (fun x9 M9 h9 => ?_)
  obtain ⟨h8, e9⟩ := h9; rw [e9]; rcases h8 with ⟨e8, hw7⟩ | ⟨e8, hw7⟩
  · rw [e8]
    obtain ⟨q7, hq7, hv7⟩ := hw7
    subst hv7
    refine r_if_eq hG 27 dX9_want_10 (by decide) (fun hc10 => absurd hc10 (by decide)) (fun hc10 => ?_)
    refine r_aload_n hG dX9_want_13 rfl ?_
    refine r_iload_n hG dX9_want_14 rfl ?_
    refine r_aload_n hG dX9_want_15 rfl ?_
    refine r_getIv hG 25 (M.1 88 25) fk_X9_312 dX9_want_16 rfl (by decide) rfl (gwI_n (by omega)) ?_
    refine r_iconst hG (1) dX9_want_19 (by decide) ?_
    refine r_iadd hG dX9_want_20 ?_
    refine r_cVI2 hG mk_X9_315 dX9_want_21 rfl (by decide) (ct_X9_wantOf (M := (gwI M 88 0 0)) (by exact hR) hO.t (v := q7) (by omega) (by rw [gwI_n (by omega)]; exact ht q7 (by omega)) _) (by decide) ⟨Nat.le_refl _, Nat.le_refl _⟩ (Nat.le_of_ble_eq_true rfl) (fun x9 M21 h9 => ?_)
    obtain ⟨e8, hq21⟩ := h9
    rw [e8, mwantV_c (M := M) (fun k j h => gwI_n (by omega))]
    have hR : M21.2.2 = stdR b := by rw [hq21.1]; exact hR
    refine r_goto hG 28 dX9_want_24 (by decide) ?_
    refine hE _ _ _ _ _ dX9_want_28 rfl (Nat.le_refl _) (Nat.le_refl _) rfl ?_
    exact ⟨Or.inl ⟨_, hq7, rfl, rfl⟩, (gEq.rf.put (Or.inr ⟨rfl, rfl⟩)).trans (hq21.mono (fun _ _ h => Or.inl h)), (hq21.2 88 0 (by unfold Sm; omega)).trans gwI_s⟩
  · rw [e8]
    refine r_if_eq hG 27 dX9_want_10 (by decide) (fun hc10 => ?_) (fun hc10 => absurd hc10 (by decide))
    refine r_iconst hG (-1) dX9_want_27 (by decide) ?_
    refine hE _ _ _ _ _ dX9_want_28 rfl (Nat.le_refl _) (Nat.le_refl _) rfl ?_
    exact ⟨Or.inr ⟨hw7, rfl⟩, (gEq.rf.put (Or.inr ⟨rfl, rfl⟩)), gwI_s⟩

set_option maxRecDepth 100000 in
set_option maxHeartbeats 400000 in
theorem lp_X9_foretold  {G : gJ} {P : Int32 → gM → Prop} (hG : gS 3 0 0 yX9_foretold.cls cX9_foretold 5 G) (hE : gEi 140 0 0 cX9_foretold .int P G) {M : gM} {b : Bool} (hR : M.2.2 = stdR b) {nw : Nat} (hnw : M.1 88 25 = nI nw) (lw : nw < 400) {q : Nat} (hq : q < 12) {wn : Int32} :
    ∀ (n a : Nat) (left : Int32), a + n = 61 → P (fFore wn (M.1 109 q) (M.1 107 q) (nI nw) n a left) M → G (140, 0, 0) 42 [some (.ref 88), some (.int (nI q)), some (.int wn), some (.int left), some (.int (nI (nw + a)))] [] M := by
  intro n
  induction n with
  | zero =>
    intro a left ha hP
    refine r_iload hG dX9_foretold_42 rfl ?_
    refine r_aload_n hG dX9_foretold_44 rfl ?_
    refine r_getIv hG 25 (nI nw) fk_X9_312 dX9_foretold_45 rfl (by decide) rfl hnw ?_
    refine r_bipush hG (60) dX9_foretold_48 (by decide) ?_
    refine r_iadd hG dX9_foretold_50 ?_
    refine r_top (nI (nw + 60)) (nI_add nw 60) ?_
    refine r_icmp_gt hG 90 dX9_foretold_51 (by decide) (fun hc51 => ?_) (fun hc51 => absurd (nlt_f (a := (nw + 60)) (b := (nw + a)) (by omega) (by omega) hc51) (by omega))
    refine r_iconst hG (-1) dX9_foretold_90 (by decide) ?_
    refine hE _ _ _ _ _ dX9_foretold_91 rfl (Nat.le_refl _) (Nat.le_refl _) rfl ?_
    exact hP
  | succ n ih =>
    intro a left ha hP
    refine r_iload hG dX9_foretold_42 rfl ?_
    refine r_aload_n hG dX9_foretold_44 rfl ?_
    refine r_getIv hG 25 (nI nw) fk_X9_312 dX9_foretold_45 rfl (by decide) rfl hnw ?_
    refine r_bipush hG (60) dX9_foretold_48 (by decide) ?_
    refine r_iadd hG dX9_foretold_50 ?_
    refine r_top (nI (nw + 60)) (nI_add nw 60) ?_
    refine r_icmp_gt hG 90 dX9_foretold_51 (by decide) (fun hc51 => absurd (nlt_t (a := (nw + 60)) (b := (nw + a)) (by omega) (by omega) hc51) (by omega)) (fun hc51 => ?_)
    refine r_aload_n hG dX9_foretold_54 rfl ?_
    refine r_getR hG 29 107 fk_X9_97 dX9_foretold_55 rfl (by decide) rfl (sr hR rfl) ?_
    refine r_iload_n hG dX9_foretold_58 rfl ?_
    refine r_iald hG q dX9_foretold_59 rfl (by decide) rfl (by omega) (by decide) ?_
    refine r_iload_n hG dX9_foretold_60 rfl ?_
    refine r_aload_n hG dX9_foretold_61 rfl ?_
    refine r_getR hG 31 109 fk_X9_103 dX9_foretold_62 rfl (by decide) rfl (sr hR rfl) ?_
    refine r_iload_n hG dX9_foretold_65 rfl ?_
    refine r_iald hG q dX9_foretold_66 rfl (by decide) rfl (by omega) (by decide) ?_
    refine r_iadd hG dX9_foretold_67 ?_
    refine r_cSI2 hG mk_X9_325 dX9_foretold_68 (ct_X9_least _ _) (by decide) ⟨Nat.le_refl _, Nat.le_refl _⟩ (Nat.le_of_ble_eq_true rfl) (fun x9 M9 h9 => ?_)
    obtain ⟨e8, e9⟩ := h9
    rw [e8, e9]
    refine r_istore_n hG dX9_foretold_71 (by decide) ?_
    refine r_loc [some (.ref 88), some (.int (nI q)), some (.int wn), some (.int (mmin (left + (M.1 109 q)) (M.1 107 q))), some (.int (nI (nw + a)))] rfl ?_
    refine r_iload_n hG dX9_foretold_72 rfl ?_
    refine r_iload_n hG dX9_foretold_73 rfl ?_
    refine r_icmp_ge hG 80 dX9_foretold_74 (by decide) (fun hc74 => ?_) (fun hc74 => ?_)
    · refine r_iload_n hG dX9_foretold_80 rfl ?_
      refine r_iload_n hG dX9_foretold_81 rfl ?_
      refine r_isub hG dX9_foretold_82 ?_
      refine r_istore_n hG dX9_foretold_83 (by decide) ?_
      refine r_loc [some (.ref 88), some (.int (nI q)), some (.int wn), some (.int ((mmin (left + (M.1 109 q)) (M.1 107 q)) - wn)), some (.int (nI (nw + a)))] rfl ?_
      refine r_iinc hG (1) dX9_foretold_84 (by decide) rfl ?_
      refine r_loc [some (.ref 88), some (.int (nI q)), some (.int wn), some (.int ((mmin (left + (M.1 109 q)) (M.1 107 q)) - wn)), some (.int ((nI (nw + a)) + (1)))] rfl ?_
      refine r_goto hG 42 dX9_foretold_87 (by decide) ?_
      rw [nI_1]
      refine ih (a + 1) _ (by omega) ?_
      unfold fFore at hP
      rw [if_pos hc74] at hP
      exact hP
    · refine r_iload hG dX9_foretold_77 rfl ?_
      refine hE _ _ _ _ _ dX9_foretold_79 rfl (Nat.le_refl _) (Nat.le_refl _) rfl ?_
      unfold fFore at hP
      rw [if_neg hc74, nI_add] at hP
      exact hP

set_option maxRecDepth 100000 in
set_option maxHeartbeats 400000 in
theorem ct_X9_foretold {M : gM} {b : Bool} (hR : M.2.2 = stdR b) {nv ns nt nb : Nat} (hnv : M.1 88 26 = nI nv) (lv : nv ≤ 12) (hns : M.1 88 38 = nI ns) (ls : ns ≤ 4) (hnt : M.1 88 43 = nI nt) (lt : nt ≤ 4) (hnb : M.1 88 62 = nI nb) (lb : nb ≤ 10) {hh nl : Nat} {B : Nat → Bool} {A : Nat → Int32} {ST : Nat → Nat} {C : Nat → Nat × Int32} (hO : ordM M hh nl B A ST C) (ht : ∀ v, v < nv → ¬ (M.1 107 v).toInt64 = 0) {nw : Nat} (hnw : M.1 88 25 = nI nw) (lw : nw < 400) (v : Int32) : gC 3 0 0 yX9_foretold cX9_foretold 5 (some .int) 140 140 [.ref 88, .int v] M (gI (fun r M9 => ((∃ q, q < nv ∧ v = nI q ∧ r = fFore (mwantV M q (nI (nw + 1)) nl B A ST C) (M.1 109 q) (M.1 107 q) (nI nw) 60 1 (M.1 108 q)) ∨ (¬ vIn v nv ∧ r = -1)) ∧ gEq St M M9 ∧ M9.1 88 0 = 0)) := by
  refine gC_i rfl (Nat.le_of_ble_eq_true rfl) (fun G hG hE => ?_)
  change G (140, 0, 0) 0 [some (.ref 88), some (.int v), none, none, none] [] M
  refine r_aload_n hG dX9_foretold_0 rfl ?_
  refine r_iconst hG (0) dX9_foretold_1 (by decide) ?_
  refine r_putI hG 0 fp_X9_1 dX9_foretold_2 rfl (by decide) rfl rfl rfl ?_
  refine r_aload_n hG dX9_foretold_5 rfl ?_
  refine r_iload_n hG dX9_foretold_6 rfl ?_
  refine r_cVI1 hG mk_X9_297 dX9_foretold_7 rfl (by decide) (ct_X9_isVillage (by exact hR) (c := nv) ((gwI_n (by omega)).trans hnv) (by omega) _) (by decide) ⟨Nat.le_refl _, Nat.le_refl _⟩ (Nat.le_of_ble_eq_true rfl) (fun x9 M9 h9 => ?_)
  obtain ⟨h8, e9⟩ := h9; rw [e9]; rcases h8 with ⟨e8, hw7⟩ | ⟨e8, hw7⟩
  · rw [e8]
    obtain ⟨q7, hq7, hv7⟩ := hw7
    subst hv7
    refine r_if_ne hG 15 dX9_foretold_10 (by decide) (fun hc10 => ?_) (fun hc10 => absurd hc10 (by decide))
    refine r_aload_n hG dX9_foretold_15 rfl ?_
    refine r_iload_n hG dX9_foretold_16 rfl ?_
    refine r_aload_n hG dX9_foretold_17 rfl ?_
    refine r_getIv hG 25 (nI nw) fk_X9_312 dX9_foretold_18 rfl (by decide) rfl ((gwI_n (by omega)).trans hnw) ?_
    refine r_iconst hG (1) dX9_foretold_21 (by decide) ?_
    refine r_iadd hG dX9_foretold_22 ?_
    refine r_top (nI (nw + 1)) (nI_1 nw) ?_
    refine r_cVI2 hG mk_X9_315 dX9_foretold_23 rfl (by decide) (ct_X9_wantOf (M := (gwI M 88 0 0)) (by exact hR) hO.t (v := q7) (by omega) (by rw [gwI_n (by omega)]; exact ht q7 (by omega)) _) (by decide) ⟨Nat.le_refl _, Nat.le_refl _⟩ (Nat.le_of_ble_eq_true rfl) (fun x9 M23 h9 => ?_)
    obtain ⟨e8, hq23⟩ := h9
    rw [e8, mwantV_c (M := M) (fun k j h => gwI_n (by omega))]
    have hR : M23.2.2 = stdR b := by rw [hq23.1]; exact hR
    refine r_istore_n hG dX9_foretold_26 (by decide) ?_
    refine r_loc [some (.ref 88), some (.int (nI q7)), some (.int (mwantV M q7 (nI (nw + 1)) nl B A ST C)), none, none] rfl ?_
    refine r_aload_n hG dX9_foretold_27 rfl ?_
    refine r_getR hG 30 108 fk_X9_100 dX9_foretold_28 rfl (by decide) rfl (sr hR rfl) ?_
    refine r_iload_n hG dX9_foretold_31 rfl ?_
    refine r_ialdv hG q7 (M.1 108 q7) dX9_foretold_32 rfl (by decide) rfl (by omega) (by decide) ((hq23.2 108 q7 (by first | (unfold Sm; omega) | (unfold Sv; omega) | (unfold Sc; omega) | (unfold Sp; omega) | omega)).trans (gwI_n (by omega))) ?_
    refine r_istore_n hG dX9_foretold_33 (by decide) ?_
    refine r_loc [some (.ref 88), some (.int (nI q7)), some (.int (mwantV M q7 (nI (nw + 1)) nl B A ST C)), some (.int (M.1 108 q7)), none] rfl ?_
    refine r_aload_n hG dX9_foretold_34 rfl ?_
    refine r_getIv hG 25 (nI nw) fk_X9_312 dX9_foretold_35 rfl (by decide) rfl ((hq23.2 88 25 (by first | (unfold Sm; omega) | (unfold Sv; omega) | (unfold Sc; omega) | (unfold Sp; omega) | omega)).trans ((gwI_n (by omega)).trans hnw)) ?_
    refine r_iconst hG (1) dX9_foretold_38 (by decide) ?_
    refine r_iadd hG dX9_foretold_39 ?_
    refine r_top (nI (nw + 1)) (nI_1 nw) ?_
    refine r_istore hG dX9_foretold_40 (by decide) ?_
    refine r_loc [some (.ref 88), some (.int (nI q7)), some (.int (mwantV M q7 (nI (nw + 1)) nl B A ST C)), some (.int (M.1 108 q7)), some (.int (nI (nw + 1)))] rfl ?_
    refine lp_X9_foretold hG hE hR (nw := nw) ((hq23.2 88 25 (by unfold Sm; omega)).trans ((gwI_n (by omega)).trans hnw)) lw (q := q7) (by omega) 60 1 _ (by omega) ?_
    rw [hq23.2 109 q7 (by unfold Sm; omega), hq23.2 107 q7 (by unfold Sm; omega), gwI_n (by omega), gwI_n (by omega)]
    exact ⟨Or.inl ⟨_, hq7, rfl, rfl⟩, (gEq.rf.put (Or.inr ⟨rfl, rfl⟩)).trans (hq23.mono (fun _ _ h => Or.inl h)), (hq23.2 88 0 (by unfold Sm; omega)).trans gwI_s⟩
  · rw [e8]
    refine r_if_ne hG 15 dX9_foretold_10 (by decide) (fun hc10 => absurd hc10 (by decide)) (fun hc10 => ?_)
    refine r_iconst hG (-1) dX9_foretold_13 (by decide) ?_
    refine hE _ _ _ _ _ dX9_foretold_14 rfl (Nat.le_refl _) (Nat.le_refl _) rfl ?_
    exact ⟨Or.inr ⟨hw7, rfl⟩, (gEq.rf.put (Or.inr ⟨rfl, rfl⟩)), gwI_s⟩

def mCount (M : gM) (h w : Nat) : Int32 := match w with
  | 0 => M.1 88 26
  | 1 => M.1 88 38
  | 2 => M.1 88 43
  | 3 => M.1 88 25
  | 4 => M.1 88 37
  | 5 => M.1 88 61
  | 6 => M.1 88 62
  | 7 => M.1 88 67
  | 8 => M.1 94 h
  | _ => M.1 88 2
set_option maxRecDepth 100000 in
set_option maxHeartbeats 400000 in
theorem ct_X9_count {M : gM} {b : Bool} (hR : M.2.2 = stdR b) {hh : Nat} (hh0 : M.1 88 16 = nI hh) (lh : hh ≤ 1) (x : Int32) : gC 0 0 0 yX9_count cX9_count 2 (some .int) 140 140 [.ref 88, .int x] M (gI (fun r M9 => ((∃ w, w < 10 ∧ x = nI w ∧ r = mCount M hh w) ∨ ((x.toInt < 0 ∨ 9 < x.toInt) ∧ r = -1)) ∧ M9 = gwI M 88 0 0)) := by
  refine gC_i rfl (Nat.le_of_ble_eq_true rfl) (fun G hG hE => ?_)
  change G (140, 0, 0) 0 [some (.ref 88), some (.int x)] [] M
  refine r_aload_n hG dX9_count_0 rfl ?_
  refine r_iconst hG (0) dX9_count_1 (by decide) ?_
  refine r_putI hG 0 fp_X9_1 dX9_count_2 rfl (by decide) rfl rfl rfl ?_
  refine r_iload_n hG dX9_count_5 rfl ?_
  by_cases hx : x.toInt < 0 ∨ 9 < x.toInt; rotate_left; obtain ⟨w, hw, rfl⟩ : ∃ w : Nat, w < 10 ∧ x = nI w := cnt10 hx; rcases (show w = 0 ∨ w = 1 ∨ w = 2 ∨ w = 3 ∨ w = 4 ∨ w = 5 ∨ w = 6 ∨ w = 7 ∨ w = 8 ∨ w = 9 by omega) with rfl | rfl | rfl | rfl | rfl | rfl | rfl | rfl | rfl | rfl
  · show G _ _ _ _ _
    refine r_tableIn hG (off := 54) 60 dX9_count_6 (by decide) (by decide) (by decide) (by decide) ?_
    refine r_aload_n hG dX9_count_60 rfl ?_
    refine r_getIv hG 26 (M.1 88 26) fk_X9_287 dX9_count_61 rfl (by decide) rfl (gwI_n (by omega)) ?_
    refine hE _ _ _ _ _ dX9_count_64 rfl (Nat.le_refl _) (Nat.le_refl _) rfl ?_
    exact ⟨Or.inl ⟨0, by omega, rfl, rfl⟩, rfl⟩
  · show G _ _ _ _ _
    refine r_tableIn hG (off := 59) 65 dX9_count_6 (by decide) (by decide) (by decide) (by decide) ?_
    refine r_aload_n hG dX9_count_65 rfl ?_
    refine r_getIv hG 38 (M.1 88 38) fk_X9_291 dX9_count_66 rfl (by decide) rfl (gwI_n (by omega)) ?_
    refine hE _ _ _ _ _ dX9_count_69 rfl (Nat.le_refl _) (Nat.le_refl _) rfl ?_
    exact ⟨Or.inl ⟨1, by omega, rfl, rfl⟩, rfl⟩
  · show G _ _ _ _ _
    refine r_tableIn hG (off := 64) 70 dX9_count_6 (by decide) (by decide) (by decide) (by decide) ?_
    refine r_aload_n hG dX9_count_70 rfl ?_
    refine r_getIv hG 43 (M.1 88 43) fk_X9_294 dX9_count_71 rfl (by decide) rfl (gwI_n (by omega)) ?_
    refine hE _ _ _ _ _ dX9_count_74 rfl (Nat.le_refl _) (Nat.le_refl _) rfl ?_
    exact ⟨Or.inl ⟨2, by omega, rfl, rfl⟩, rfl⟩
  · show G _ _ _ _ _
    refine r_tableIn hG (off := 69) 75 dX9_count_6 (by decide) (by decide) (by decide) (by decide) ?_
    refine r_aload_n hG dX9_count_75 rfl ?_
    refine r_getIv hG 25 (M.1 88 25) fk_X9_312 dX9_count_76 rfl (by decide) rfl (gwI_n (by omega)) ?_
    refine hE _ _ _ _ _ dX9_count_79 rfl (Nat.le_refl _) (Nat.le_refl _) rfl ?_
    exact ⟨Or.inl ⟨3, by omega, rfl, rfl⟩, rfl⟩
  · show G _ _ _ _ _
    refine r_tableIn hG (off := 74) 80 dX9_count_6 (by decide) (by decide) (by decide) (by decide) ?_
    refine r_aload_n hG dX9_count_80 rfl ?_
    refine r_getIv hG 37 (M.1 88 37) fk_X9_305 dX9_count_81 rfl (by decide) rfl (gwI_n (by omega)) ?_
    refine hE _ _ _ _ _ dX9_count_84 rfl (Nat.le_refl _) (Nat.le_refl _) rfl ?_
    exact ⟨Or.inl ⟨4, by omega, rfl, rfl⟩, rfl⟩
  · show G _ _ _ _ _
    refine r_tableIn hG (off := 79) 85 dX9_count_6 (by decide) (by decide) (by decide) (by decide) ?_
    refine r_aload_n hG dX9_count_85 rfl ?_
    refine r_getIv hG 61 (M.1 88 61) fk_X9_346 dX9_count_86 rfl (by decide) rfl (gwI_n (by omega)) ?_
    refine hE _ _ _ _ _ dX9_count_89 rfl (Nat.le_refl _) (Nat.le_refl _) rfl ?_
    exact ⟨Or.inl ⟨5, by omega, rfl, rfl⟩, rfl⟩
  · show G _ _ _ _ _
    refine r_tableIn hG (off := 84) 90 dX9_count_6 (by decide) (by decide) (by decide) (by decide) ?_
    refine r_aload_n hG dX9_count_90 rfl ?_
    refine r_getIv hG 62 (M.1 88 62) fk_X9_358 dX9_count_91 rfl (by decide) rfl (gwI_n (by omega)) ?_
    refine hE _ _ _ _ _ dX9_count_94 rfl (Nat.le_refl _) (Nat.le_refl _) rfl ?_
    exact ⟨Or.inl ⟨6, by omega, rfl, rfl⟩, rfl⟩
  · show G _ _ _ _ _
    refine r_tableIn hG (off := 89) 95 dX9_count_6 (by decide) (by decide) (by decide) (by decide) ?_
    refine r_aload_n hG dX9_count_95 rfl ?_
    refine r_getIv hG 67 (M.1 88 67) fk_X9_361 dX9_count_96 rfl (by decide) rfl (gwI_n (by omega)) ?_
    refine hE _ _ _ _ _ dX9_count_99 rfl (Nat.le_refl _) (Nat.le_refl _) rfl ?_
    exact ⟨Or.inl ⟨7, by omega, rfl, rfl⟩, rfl⟩
  · show G _ _ _ _ _
    refine r_tableIn hG (off := 94) 100 dX9_count_6 (by decide) (by decide) (by decide) (by decide) ?_
    refine r_aload_n hG dX9_count_100 rfl ?_
    refine r_getR hG 10 94 fk_X9_57 dX9_count_101 rfl (by decide) rfl (sr hR rfl) ?_
    refine r_aload_n hG dX9_count_104 rfl ?_
    refine r_getIv hG 16 (nI hh) fk_X9_244 dX9_count_105 rfl (by decide) rfl ((gwI_n (by omega)).trans hh0) ?_
    refine r_ialdv hG hh (M.1 94 hh) dX9_count_108 rfl (by decide) rfl (by omega) (by decide) (gwI_n (by omega)) ?_
    refine hE _ _ _ _ _ dX9_count_109 rfl (Nat.le_refl _) (Nat.le_refl _) rfl ?_
    exact ⟨Or.inl ⟨8, by omega, rfl, rfl⟩, rfl⟩
  · show G _ _ _ _ _
    refine r_tableIn hG (off := 104) 110 dX9_count_6 (by decide) (by decide) (by decide) (by decide) ?_
    refine r_aload_n hG dX9_count_110 rfl ?_
    refine r_getIv hG 2 (M.1 88 2) fk_X9_11 dX9_count_111 rfl (by decide) rfl (gwI_n (by omega)) ?_
    refine hE _ _ _ _ _ dX9_count_114 rfl (Nat.le_refl _) (Nat.le_refl _) rfl ?_
    exact ⟨Or.inl ⟨9, by omega, rfl, rfl⟩, rfl⟩
  · show G _ _ _ _ _
    refine r_tableOut hG 115 dX9_count_6 (by first | assumption | omega) (by decide) ?_
    refine r_iconst hG (-1) dX9_count_115 (by decide) ?_
    refine hE _ _ _ _ _ dX9_count_116 rfl (Nat.le_refl _) (Nat.le_refl _) rfl ?_
    exact ⟨Or.inr ⟨hx, rfl⟩, rfl⟩

def mTold (M : gM) (v nw w : Nat) : Int32 := match w with
  | 0 => M.1 105 v
  | 1 => M.1 106 v
  | 2 => M.1 108 v
  | 3 => M.1 109 v
  | 4 => M.1 113 (400 * v + nw)
  | 5 => if M.1 114 v = 0 then 0 else 1
  | 6 => M.1 110 v
  | 7 => M.1 111 v
  | _ => M.1 112 v
set_option maxRecDepth 100000 in
set_option maxHeartbeats 400000 in
theorem ct_X9_look {M : gM} {b : Bool} (hR : M.2.2 = stdR b) {nv ns nt nb : Nat} (hnv : M.1 88 26 = nI nv) (lv : nv ≤ 12) (hns : M.1 88 38 = nI ns) (ls : ns ≤ 4) (hnt : M.1 88 43 = nI nt) (lt : nt ≤ 4) (hnb : M.1 88 62 = nI nb) (lb : nb ≤ 10) {nw : Nat} (hnw : M.1 88 25 = nI nw) (lw : nw < 400) (v x : Int32) : gC 1 0 0 yX9_look cX9_look 3 (some .int) 140 140 [.ref 88, .int v, .int x] M (gI (fun r M9 => (∃ q w, q < nv ∧ v = nI q ∧ w < 9 ∧ x = nI w ∧ r = mTold M q nw w ∧ M9 = gwI M 88 0 0) ∨ (¬ (∃ q w, q < nv ∧ v = nI q ∧ w < 9 ∧ x = nI w) ∧ r = 0 ∧ M9 = gwI M 88 0 1))) := by
  refine gC_i rfl (Nat.le_of_ble_eq_true rfl) (fun G hG hE => ?_)
  change G (140, 0, 0) 0 [some (.ref 88), some (.int v), some (.int x)] [] M
  refine r_aload_n hG dX9_look_0 rfl ?_
  refine r_aload_n hG dX9_look_1 rfl ?_
  refine r_iload_n hG dX9_look_2 rfl ?_
  refine r_cVI1 hG mk_X9_297 dX9_look_3 rfl (by decide) (ct_X9_isVillage (by exact hR) (c := nv) hnv (by omega) _) (by decide) ⟨Nat.le_refl _, Nat.le_refl _⟩ (Nat.le_of_ble_eq_true rfl) (fun x9 M9 h9 => ?_)
  obtain ⟨h8, e9⟩ := h9; rw [e9]; rcases h8 with ⟨e8, hw3⟩ | ⟨e8, hw3⟩
  · rw [e8]
    obtain ⟨q3, hq3, hv3⟩ := hw3
    subst hv3
    refine r_if_eq hG 23 dX9_look_6 (by decide) (fun hc6 => absurd hc6 (by decide)) (fun hc6 => ?_)
    refine r_iload_n hG dX9_look_9 rfl ?_
    refine r_if_lt hG 23 dX9_look_10 (by decide) (fun hc10 => ?_) (fun hc10 => ?_)
    · refine r_iconst hG (1) dX9_look_23 (by decide) ?_
      refine r_putI hG 0 fp_X9_1 dX9_look_24 rfl (by decide) rfl rfl rfl ?_
      refine r_aload_n hG dX9_look_27 rfl ?_
      refine r_getIv hG 0 (1) fk_X9_1 dX9_look_28 rfl (by decide) rfl gwI_s ?_
      refine r_if_le hG 36 dX9_look_31 (by decide) (fun hc31 => absurd hc31 (by decide)) (fun hc31 => ?_)
      refine r_iconst hG (0) dX9_look_34 (by decide) ?_
      refine hE _ _ _ _ _ dX9_look_35 rfl (Nat.le_refl _) (Nat.le_refl _) rfl ?_
      refine Or.inr ⟨?_, rfl, rfl⟩
      rintro ⟨q, w, q1, q2, q3, q4⟩
      exact absurd hc10 (by rw [q4]; exact nI_pos (by omega))
    · refine r_iload_n hG dX9_look_13 rfl ?_
      refine r_bipush hG (8) dX9_look_14 (by decide) ?_
      refine r_icmp_gt hG 23 dX9_look_16 (by decide) (fun hc16 => ?_) (fun hc16 => ?_)
      · refine r_iconst hG (1) dX9_look_23 (by decide) ?_
        refine r_putI hG 0 fp_X9_1 dX9_look_24 rfl (by decide) rfl rfl rfl ?_
        refine r_aload_n hG dX9_look_27 rfl ?_
        refine r_getIv hG 0 (1) fk_X9_1 dX9_look_28 rfl (by decide) rfl gwI_s ?_
        refine r_if_le hG 36 dX9_look_31 (by decide) (fun hc31 => absurd hc31 (by decide)) (fun hc31 => ?_)
        refine r_iconst hG (0) dX9_look_34 (by decide) ?_
        refine hE _ _ _ _ _ dX9_look_35 rfl (Nat.le_refl _) (Nat.le_refl _) rfl ?_
        refine Or.inr ⟨?_, rfl, rfl⟩
        rintro ⟨q, w, q1, q2, q3, q4⟩
        exact absurd hc16 (by rw [q4]; exact Int32.not_lt.mpr (nI_le (b := 8) (by omega) (by omega)))
      · refine r_iconst hG (0) dX9_look_19 (by decide) ?_
        refine r_goto hG 24 dX9_look_20 (by decide) ?_
        refine r_putI hG 0 fp_X9_1 dX9_look_24 rfl (by decide) rfl rfl rfl ?_
        refine r_aload_n hG dX9_look_27 rfl ?_
        refine r_getIv hG 0 (0) fk_X9_1 dX9_look_28 rfl (by decide) rfl gwI_s ?_
        refine r_if_le hG 36 dX9_look_31 (by decide) (fun hc31 => ?_) (fun hc31 => absurd hc31 (by decide))
        refine r_iload_n hG dX9_look_36 rfl ?_
        obtain ⟨w, hw8, rfl⟩ : ∃ w : Nat, w ≤ 8 ∧ x = nI w := nI_of2 (M := 8) (by decide) hc10 (Int32.not_lt.mp hc16); rcases (show w = 0 ∨ w = 1 ∨ w = 2 ∨ w = 3 ∨ w = 4 ∨ w = 5 ∨ w = 6 ∨ w = 7 ∨ w = 8 by omega) with rfl | rfl | rfl | rfl | rfl | rfl | rfl | rfl | rfl
        · show G _ _ _ _ _
          refine r_tableIn hG (off := 47) 84 dX9_look_37 (by decide) (by decide) (by decide) (by decide) ?_
          refine r_aload_n hG dX9_look_84 rfl ?_
          refine r_getR hG 27 105 fk_X9_91 dX9_look_85 rfl (by decide) rfl (sr hR rfl) ?_
          refine r_iload_n hG dX9_look_88 rfl ?_
          refine r_ialdv hG q3 (M.1 105 q3) dX9_look_89 rfl (by decide) rfl (by omega) (by decide) (gwI_n (by omega)) ?_
          refine hE _ _ _ _ _ dX9_look_90 rfl (Nat.le_refl _) (Nat.le_refl _) rfl ?_
          exact Or.inl ⟨_, 0, hq3, rfl, by omega, rfl, rfl, rfl⟩
        · show G _ _ _ _ _
          refine r_tableIn hG (off := 54) 91 dX9_look_37 (by decide) (by decide) (by decide) (by decide) ?_
          refine r_aload_n hG dX9_look_91 rfl ?_
          refine r_getR hG 28 106 fk_X9_94 dX9_look_92 rfl (by decide) rfl (sr hR rfl) ?_
          refine r_iload_n hG dX9_look_95 rfl ?_
          refine r_ialdv hG q3 (M.1 106 q3) dX9_look_96 rfl (by decide) rfl (by omega) (by decide) (gwI_n (by omega)) ?_
          refine hE _ _ _ _ _ dX9_look_97 rfl (Nat.le_refl _) (Nat.le_refl _) rfl ?_
          exact Or.inl ⟨_, 1, hq3, rfl, by omega, rfl, rfl, rfl⟩
        · show G _ _ _ _ _
          refine r_tableIn hG (off := 61) 98 dX9_look_37 (by decide) (by decide) (by decide) (by decide) ?_
          refine r_aload_n hG dX9_look_98 rfl ?_
          refine r_getR hG 30 108 fk_X9_100 dX9_look_99 rfl (by decide) rfl (sr hR rfl) ?_
          refine r_iload_n hG dX9_look_102 rfl ?_
          refine r_ialdv hG q3 (M.1 108 q3) dX9_look_103 rfl (by decide) rfl (by omega) (by decide) (gwI_n (by omega)) ?_
          refine hE _ _ _ _ _ dX9_look_104 rfl (Nat.le_refl _) (Nat.le_refl _) rfl ?_
          exact Or.inl ⟨_, 2, hq3, rfl, by omega, rfl, rfl, rfl⟩
        · show G _ _ _ _ _
          refine r_tableIn hG (off := 68) 105 dX9_look_37 (by decide) (by decide) (by decide) (by decide) ?_
          refine r_aload_n hG dX9_look_105 rfl ?_
          refine r_getR hG 31 109 fk_X9_103 dX9_look_106 rfl (by decide) rfl (sr hR rfl) ?_
          refine r_iload_n hG dX9_look_109 rfl ?_
          refine r_ialdv hG q3 (M.1 109 q3) dX9_look_110 rfl (by decide) rfl (by omega) (by decide) (gwI_n (by omega)) ?_
          refine hE _ _ _ _ _ dX9_look_111 rfl (Nat.le_refl _) (Nat.le_refl _) rfl ?_
          exact Or.inl ⟨_, 3, hq3, rfl, by omega, rfl, rfl, rfl⟩
        · show G _ _ _ _ _
          refine r_tableIn hG (off := 75) 112 dX9_look_37 (by decide) (by decide) (by decide) (by decide) ?_
          refine r_aload_n hG dX9_look_112 rfl ?_
          refine r_getR hG 35 113 fk_X9_115 dX9_look_113 rfl (by decide) rfl (sr hR rfl) ?_
          refine r_sipush hG (400) dX9_look_116 (by decide) ?_
          refine r_iload_n hG dX9_look_119 rfl ?_
          refine r_imul hG dX9_look_120 ?_
          refine r_aload_n hG dX9_look_121 rfl ?_
          refine r_getIv hG 25 (nI nw) fk_X9_312 dX9_look_122 rfl (by decide) rfl ((gwI_n (by omega)).trans hnw) ?_
          refine r_iadd hG dX9_look_125 ?_
          refine r_ialdv hG (400 * q3 + nw) (M.1 113 (400 * q3 + nw)) dX9_look_126 rfl (by decide) (mulAdd 400 q3 nw) (by omega) (by decide) (gwI_n (by omega)) ?_
          refine hE _ _ _ _ _ dX9_look_127 rfl (Nat.le_refl _) (Nat.le_refl _) rfl ?_
          exact Or.inl ⟨_, 4, hq3, rfl, by omega, rfl, rfl, rfl⟩
        · show G _ _ _ _ _
          refine r_tableIn hG (off := 91) 128 dX9_look_37 (by decide) (by decide) (by decide) (by decide) ?_
          refine r_aload_n hG dX9_look_128 rfl ?_
          refine r_getR hG 36 114 fk_X9_118 dX9_look_129 rfl (by decide) rfl (sr hR rfl) ?_
          refine r_iload_n hG dX9_look_132 rfl ?_
          refine r_zaldv hG q3 (M.1 114 q3) dX9_look_133 rfl (by decide) rfl (by omega) (by decide) (gwI_n (by omega)) ?_
          refine r_if_eq hG 141 dX9_look_134 (by decide) (fun hc134 => ?_) (fun hc134 => ?_)
          · refine r_iconst hG (0) dX9_look_141 (by decide) ?_
            refine hE _ _ _ _ _ dX9_look_142 rfl (Nat.le_refl _) (Nat.le_refl _) rfl ?_
            exact Or.inl ⟨_, 5, hq3, rfl, by omega, rfl, by simp [mTold, hc134], rfl⟩
          · refine r_iconst hG (1) dX9_look_137 (by decide) ?_
            refine r_goto hG 142 dX9_look_138 (by decide) ?_
            refine hE _ _ _ _ _ dX9_look_142 rfl (Nat.le_refl _) (Nat.le_refl _) rfl ?_
            exact Or.inl ⟨_, 5, hq3, rfl, by omega, rfl, by simp [mTold, hc134], rfl⟩
        · show G _ _ _ _ _
          refine r_tableIn hG (off := 106) 143 dX9_look_37 (by decide) (by decide) (by decide) (by decide) ?_
          refine r_aload_n hG dX9_look_143 rfl ?_
          refine r_getR hG 32 110 fk_X9_106 dX9_look_144 rfl (by decide) rfl (sr hR rfl) ?_
          refine r_iload_n hG dX9_look_147 rfl ?_
          refine r_ialdv hG q3 (M.1 110 q3) dX9_look_148 rfl (by decide) rfl (by omega) (by decide) (gwI_n (by omega)) ?_
          refine hE _ _ _ _ _ dX9_look_149 rfl (Nat.le_refl _) (Nat.le_refl _) rfl ?_
          exact Or.inl ⟨_, 6, hq3, rfl, by omega, rfl, rfl, rfl⟩
        · show G _ _ _ _ _
          refine r_tableIn hG (off := 113) 150 dX9_look_37 (by decide) (by decide) (by decide) (by decide) ?_
          refine r_aload_n hG dX9_look_150 rfl ?_
          refine r_getR hG 33 111 fk_X9_109 dX9_look_151 rfl (by decide) rfl (sr hR rfl) ?_
          refine r_iload_n hG dX9_look_154 rfl ?_
          refine r_ialdv hG q3 (M.1 111 q3) dX9_look_155 rfl (by decide) rfl (by omega) (by decide) (gwI_n (by omega)) ?_
          refine hE _ _ _ _ _ dX9_look_156 rfl (Nat.le_refl _) (Nat.le_refl _) rfl ?_
          exact Or.inl ⟨_, 7, hq3, rfl, by omega, rfl, rfl, rfl⟩
        · show G _ _ _ _ _
          refine r_tableOut hG 157 dX9_look_37 (by decide) (by decide) ?_
          refine r_aload_n hG dX9_look_157 rfl ?_
          refine r_getR hG 34 112 fk_X9_112 dX9_look_158 rfl (by decide) rfl (sr hR rfl) ?_
          refine r_iload_n hG dX9_look_161 rfl ?_
          refine r_ialdv hG q3 (M.1 112 q3) dX9_look_162 rfl (by decide) rfl (by omega) (by decide) (gwI_n (by omega)) ?_
          refine hE _ _ _ _ _ dX9_look_163 rfl (Nat.le_refl _) (Nat.le_refl _) rfl ?_
          exact Or.inl ⟨_, 8, hq3, rfl, by omega, rfl, rfl, rfl⟩
  · rw [e8]
    refine r_if_eq hG 23 dX9_look_6 (by decide) (fun hc6 => ?_) (fun hc6 => absurd hc6 (by decide))
    refine r_iconst hG (1) dX9_look_23 (by decide) ?_
    refine r_putI hG 0 fp_X9_1 dX9_look_24 rfl (by decide) rfl rfl rfl ?_
    refine r_aload_n hG dX9_look_27 rfl ?_
    refine r_getIv hG 0 (1) fk_X9_1 dX9_look_28 rfl (by decide) rfl gwI_s ?_
    refine r_if_le hG 36 dX9_look_31 (by decide) (fun hc31 => absurd hc31 (by decide)) (fun hc31 => ?_)
    refine r_iconst hG (0) dX9_look_34 (by decide) ?_
    refine hE _ _ _ _ _ dX9_look_35 rfl (Nat.le_refl _) (Nat.le_refl _) rfl ?_
    refine Or.inr ⟨?_, rfl, rfl⟩
    rintro ⟨q, w, q1, q2, q3, q4⟩
    exact hw3 ⟨q, q1, q2⟩

def sumL (f : Nat → Int32) : Nat → Int64
  | 0 => 0
  | n + 1 => sumL f n + (f n).toInt64
set_option maxRecDepth 100000 in
set_option maxHeartbeats 400000 in
theorem lp_X9_share  {G : gJ} {P : Int32 → gM → Prop} (hG : gS 1 0 0 yX9_share.cls cX9_share 6 G) (hE : gEi 140 0 0 cX9_share .int P G) {M : gM} {b : Bool} (hR : M.2.2 = stdR b) {nv ns nt nb : Nat} (hnv : M.1 88 26 = nI nv) (lv : nv ≤ 12) (hns : M.1 88 38 = nI ns) (ls : ns ≤ 4) (hnt : M.1 88 43 = nI nt) (lt : nt ≤ 4) (hnb : M.1 88 62 = nI nb) (lb : nb ≤ 10) {nw : Nat} (hnw : M.1 88 25 = nI nw) (lw : nw < 400) {q dd a0 : Nat} (hq : q < nv) (ha : a0 + dd = nw + 1) (hdd : dd ≤ 7) :
    ∀ (r i : Nat), i + r = dd → (dd = 0 → P 0 M) → (0 < dd → P ((sumL (fun j => M.1 113 (400 * q + (a0 + j))) dd * 100 / ((M.1 105 q).toInt64 * (nI dd).toInt64)).toInt32) M) → ¬ (0 < dd ∧ (M.1 105 q).toInt64 * (nI dd).toInt64 = 0) → G (140, 0, 0) 37 [some (.ref 88), some (.int (nI q)), some (.int (nI dd)), some (.long (sumL (fun j => M.1 113 (400 * q + (a0 + j))) i)), none, some (.int (nI (a0 + i)))] [] M := by
  intro r
  induction r with
  | zero =>
    intro i hi hP0 hP hne
    have ei : i = dd := by omega
    refine r_iload hG dX9_share_37 rfl ?_
    refine r_aload_n hG dX9_share_39 rfl ?_
    refine r_getIv hG 25 (nI nw) fk_X9_312 dX9_share_40 rfl (by decide) rfl hnw ?_
    refine r_icmp_gt hG 69 dX9_share_43 (by decide) (fun hc43 => ?_) (fun hc43 => absurd (nlt_f (a := nw) (b := (a0 + i)) (by omega) (by omega) hc43) (by omega))
    refine r_iload_n hG dX9_share_69 rfl ?_
    refine r_if_ne hG 77 dX9_share_70 (by decide) (fun hc70 => ?_) (fun hc70 => ?_)
    · have hn70 := neq_f (a := dd) (b := 0) (by omega) (by omega) hc70
      refine r_lload_n hG dX9_share_77 rfl ?_
      refine r_ldc2 hG (100) dX9_share_78 ck_X9_303 ?_
      refine r_lmul hG dX9_share_81 ?_
      refine r_aload_n hG dX9_share_82 rfl ?_
      refine r_getR hG 27 105 fk_X9_91 dX9_share_83 rfl (by decide) rfl (sr hR rfl) ?_
      refine r_iload_n hG dX9_share_86 rfl ?_
      refine r_iald hG q dX9_share_87 rfl (by decide) rfl (by omega) (by decide) ?_
      refine r_i2l hG dX9_share_88 ?_
      refine r_iload_n hG dX9_share_89 rfl ?_
      refine r_i2l hG dX9_share_90 ?_
      refine r_lmul hG dX9_share_91 ?_
      refine r_ldiv hG dX9_share_92 (fun z => hne ⟨by omega, z⟩) ?_
      refine r_l2i hG dX9_share_93 ?_
      refine hE _ _ _ _ _ dX9_share_94 rfl (Nat.le_refl _) (Nat.le_refl _) rfl ?_
      rw [ei]; exact hP (by omega)
    · have hn70 := neq_t (a := dd) (b := 0) (by omega) (by omega) hc70
      refine r_iconst hG (0) dX9_share_73 (by decide) ?_
      refine r_goto hG 94 dX9_share_74 (by decide) ?_
      refine hE _ _ _ _ _ dX9_share_94 rfl (Nat.le_refl _) (Nat.le_refl _) rfl ?_
      exact hP0 (by omega)
  | succ r ih =>
    intro i hi hP0 hP hne
    refine r_iload hG dX9_share_37 rfl ?_
    refine r_aload_n hG dX9_share_39 rfl ?_
    refine r_getIv hG 25 (nI nw) fk_X9_312 dX9_share_40 rfl (by decide) rfl hnw ?_
    refine r_icmp_gt hG 69 dX9_share_43 (by decide) (fun hc43 => absurd (nlt_t (a := nw) (b := (a0 + i)) (by omega) (by omega) hc43) (by omega)) (fun hc43 => ?_)
    refine r_lload_n hG dX9_share_46 rfl ?_
    refine r_aload_n hG dX9_share_47 rfl ?_
    refine r_getR hG 35 113 fk_X9_115 dX9_share_48 rfl (by decide) rfl (sr hR rfl) ?_
    refine r_sipush hG (400) dX9_share_51 (by decide) ?_
    refine r_iload_n hG dX9_share_54 rfl ?_
    refine r_imul hG dX9_share_55 ?_
    refine r_iload hG dX9_share_56 rfl ?_
    refine r_iadd hG dX9_share_58 ?_
    refine r_iald hG (400 * q + (a0 + i)) dX9_share_59 rfl (by decide) (mulAdd 400 q (a0 + i)) (by omega) (by decide) ?_
    refine r_i2l hG dX9_share_60 ?_
    refine r_ladd hG dX9_share_61 ?_
    refine r_lstore_n hG dX9_share_62 (by decide) ?_
    refine r_loc [some (.ref 88), some (.int (nI q)), some (.int (nI dd)), some (.long ((sumL (fun j => M.1 113 (400 * q + (a0 + j))) i) + (M.1 113 (400 * q + (a0 + i))).toInt64)), none, some (.int (nI (a0 + i)))] rfl ?_
    refine r_iinc hG (1) dX9_share_63 (by decide) rfl ?_
    refine r_loc [some (.ref 88), some (.int (nI q)), some (.int (nI dd)), some (.long ((sumL (fun j => M.1 113 (400 * q + (a0 + j))) i) + (M.1 113 (400 * q + (a0 + i))).toInt64)), none, some (.int ((nI (a0 + i)) + (1)))] rfl ?_
    refine r_goto hG 37 dX9_share_66 (by decide) ?_
    rw [nI_1]
    exact ih (i + 1) (by omega) hP0 hP hne


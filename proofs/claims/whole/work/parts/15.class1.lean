set_option maxRecDepth 100000 in
set_option maxHeartbeats 1000000 in
theorem lp_X7_givenInWeek {G : gJ} {P : Int32 → gM → Prop} (hG : gS 0 0 0 yX7_givenInWeek.cls cX7_givenInWeek 3 G) (hE : gEi 140 0 0 cX7_givenInWeek .int P G) {M : gM} {b : Bool} (hR : M.2.2 = stdR b) {i : Nat} (hi : i < 12) :
    ∀ (n q : Nat), q + n = 7 → P (sumI (M.1 (2 * i + 43)) 7) M → G (140, 0, 0) 4 [some (.ref (2 * i + 42)), some (.int (sumI (M.1 (2 * i + 43)) q)), some (.int (nI q))] [] M := by
  intro n
  induction n with
  | zero =>
    intro q hq hP
    refine r_iload_n hG dX7_givenInWeek_4 rfl ?_
    refine r_bipush hG (7) dX7_givenInWeek_5 (by decide) ?_
    refine r_icmp_ge hG 25 dX7_givenInWeek_7 (by decide) (fun hc7 => ?_) (fun hc7 => absurd (nle_f (a := 7) (b := q) (by omega) (by omega) hc7) (by omega))
    refine r_iload_n hG dX7_givenInWeek_25 rfl ?_
    refine hE _ _ _ _ _ dX7_givenInWeek_26 rfl (Nat.le_refl _) (Nat.le_refl _) rfl ?_
    rw [show q = 7 by omega]
    exact hP
  | succ n ih =>
    intro q hq hP
    refine r_iload_n hG dX7_givenInWeek_4 rfl ?_
    refine r_bipush hG (7) dX7_givenInWeek_5 (by decide) ?_
    refine r_icmp_ge hG 25 dX7_givenInWeek_7 (by decide) (fun hc7 => absurd (nle_t (a := 7) (b := q) (by omega) (by omega) hc7) (by omega)) (fun hc7 => ?_)
    refine r_iload_n hG dX7_givenInWeek_10 rfl ?_
    refine r_aload_n hG dX7_givenInWeek_11 rfl ?_
    refine r_getR hG 10 (2 * i + 43) fk_X7_9 dX7_givenInWeek_12 (gkV (by omega)) (show (2 * i + 42) < 140 by omega) rfl (sr hR (sRw (by omega))) ?_
    refine r_iload_n hG dX7_givenInWeek_15 rfl ?_
    refine r_iald hG q dX7_givenInWeek_16 (gkW (by omega)) (show (2 * i + 43) < 140 by omega) rfl (by omega) (by decide) ?_
    refine r_iadd hG dX7_givenInWeek_17 ?_
    refine r_istore_n hG dX7_givenInWeek_18 (by decide) ?_
    refine r_loc [some (.ref (2 * i + 42)), some (.int ((sumI (M.1 (2 * i + 43)) q) + (M.1 (2 * i + 43) q))), some (.int (nI q))] rfl ?_
    refine r_iinc hG (1) dX7_givenInWeek_19 (by decide) rfl ?_
    refine r_loc [some (.ref (2 * i + 42)), some (.int ((sumI (M.1 (2 * i + 43)) q) + (M.1 (2 * i + 43) q))), some (.int ((nI q) + (1)))] rfl ?_
    refine r_goto hG 4 dX7_givenInWeek_22 (by decide) ?_
    rw [nI_1]
    exact ih (q + 1) (by omega) hP

set_option maxRecDepth 100000 in
set_option maxHeartbeats 1000000 in
theorem ct_X7_givenInWeek {M : gM} {b : Bool} (hR : M.2.2 = stdR b) {i : Nat} (hi : i < 12) : gC 0 0 0 yX7_givenInWeek cX7_givenInWeek 3 (some .int) 140 140 [.ref (2 * i + 42)] M (gI (fun r M9 => r = sumI (M.1 (2 * i + 43)) 7 ∧ M9 = M)) := by
  refine gC_i rfl (Nat.le_of_ble_eq_true rfl) (fun G hG hE => ?_)
  change G (140, 0, 0) 0 [some (.ref (2 * i + 42)), none, none] [] M
  refine r_iconst hG (0) dX7_givenInWeek_0 (by decide) ?_
  refine r_istore_n hG dX7_givenInWeek_1 (by decide) ?_
  refine r_loc [some (.ref (2 * i + 42)), some (.int (0)), none] rfl ?_
  refine r_iconst hG (0) dX7_givenInWeek_2 (by decide) ?_
  refine r_istore_n hG dX7_givenInWeek_3 (by decide) ?_
  refine r_loc [some (.ref (2 * i + 42)), some (.int (0)), some (.int (0))] rfl ?_
  exact lp_X7_givenInWeek hG hE hR hi 7 0 (by omega) ⟨rfl, rfl⟩

def fTold (M : gM) (k w : Nat) : Int32 := match w with
  | 0 => M.1 k 0
  | 1 => M.1 k 1
  | 2 => M.1 k 3
  | 3 => M.1 k 4
  | 4 => M.1 k 5
  | 5 => if M.1 k 6 = 0 then 0 else 1
  | 6 => M.1 k 7
  | 7 => M.1 k 8
  | _ => M.1 k 9
set_option maxRecDepth 100000 in
set_option maxHeartbeats 1000000 in
theorem ct_X7_told {M : gM} {b : Bool} (hR : M.2.2 = stdR b) {i : Nat} (hi : i < 12) {w : Nat} (hw : w < 9) : gC 0 0 0 yX7_told cX7_told 2 (some .int) 140 140 [.ref (2 * i + 42), .int (nI w)] M (gI (fun r M9 => r = fTold M (2 * i + 42) w ∧ M9 = M)) := by
  refine gC_i rfl (Nat.le_of_ble_eq_true rfl) (fun G hG hE => ?_)
  change G (140, 0, 0) 0 [some (.ref (2 * i + 42)), some (.int (nI w))] [] M
  refine r_iload_n hG dX7_told_0 rfl ?_
  rcases (show w = 0 ∨ w = 1 ∨ w = 2 ∨ w = 3 ∨ w = 4 ∨ w = 5 ∨ w = 6 ∨ w = 7 ∨ w = 8 by omega) with rfl | rfl | rfl | rfl | rfl | rfl | rfl | rfl | rfl
  · show G _ _ _ _ _
    refine r_tableIn hG (off := 47) 48 dX7_told_1 (by decide) (by decide) (by decide) (by decide) ?_
    refine r_aload_n hG dX7_told_48 rfl ?_
    refine r_getI hG 0 fk_X7_41 dX7_told_49 (gkV (by omega)) (show (2 * i + 42) < 140 by omega) rfl ?_
    refine hE _ _ _ _ _ dX7_told_52 rfl (Nat.le_refl _) (Nat.le_refl _) rfl ?_
    exact ⟨rfl, rfl⟩
  · show G _ _ _ _ _
    refine r_tableIn hG (off := 52) 53 dX7_told_1 (by decide) (by decide) (by decide) (by decide) ?_
    refine r_aload_n hG dX7_told_53 rfl ?_
    refine r_getI hG 1 fk_X7_44 dX7_told_54 (gkV (by omega)) (show (2 * i + 42) < 140 by omega) rfl ?_
    refine hE _ _ _ _ _ dX7_told_57 rfl (Nat.le_refl _) (Nat.le_refl _) rfl ?_
    exact ⟨rfl, rfl⟩
  · show G _ _ _ _ _
    refine r_tableIn hG (off := 57) 58 dX7_told_1 (by decide) (by decide) (by decide) (by decide) ?_
    refine r_aload_n hG dX7_told_58 rfl ?_
    refine r_getI hG 3 fk_X7_19 dX7_told_59 (gkV (by omega)) (show (2 * i + 42) < 140 by omega) rfl ?_
    refine hE _ _ _ _ _ dX7_told_62 rfl (Nat.le_refl _) (Nat.le_refl _) rfl ?_
    exact ⟨rfl, rfl⟩
  · show G _ _ _ _ _
    refine r_tableIn hG (off := 62) 63 dX7_told_1 (by decide) (by decide) (by decide) (by decide) ?_
    refine r_aload_n hG dX7_told_63 rfl ?_
    refine r_getI hG 4 fk_X7_47 dX7_told_64 (gkV (by omega)) (show (2 * i + 42) < 140 by omega) rfl ?_
    refine hE _ _ _ _ _ dX7_told_67 rfl (Nat.le_refl _) (Nat.le_refl _) rfl ?_
    exact ⟨rfl, rfl⟩
  · show G _ _ _ _ _
    refine r_tableIn hG (off := 67) 68 dX7_told_1 (by decide) (by decide) (by decide) (by decide) ?_
    refine r_aload_n hG dX7_told_68 rfl ?_
    refine r_getI hG 5 fk_X7_32 dX7_told_69 (gkV (by omega)) (show (2 * i + 42) < 140 by omega) rfl ?_
    refine hE _ _ _ _ _ dX7_told_72 rfl (Nat.le_refl _) (Nat.le_refl _) rfl ?_
    exact ⟨rfl, rfl⟩
  · show G _ _ _ _ _
    refine r_tableIn hG (off := 72) 73 dX7_told_1 (by decide) (by decide) (by decide) (by decide) ?_
    refine r_aload_n hG dX7_told_73 rfl ?_
    refine r_getI hG 6 fk_X7_28 dX7_told_74 (gkV (by omega)) (show (2 * i + 42) < 140 by omega) rfl ?_
    refine r_if_eq hG 84 dX7_told_77 (by decide) (fun hc77 => ?_) (fun hc77 => ?_)
    · refine r_iconst hG (0) dX7_told_84 (by decide) ?_
      refine hE _ _ _ _ _ dX7_told_85 rfl (Nat.le_refl _) (Nat.le_refl _) rfl ?_
      exact ⟨by simp [fTold, hc77], rfl⟩
    · refine r_iconst hG (1) dX7_told_80 (by decide) ?_
      refine r_goto hG 85 dX7_told_81 (by decide) ?_
      refine hE _ _ _ _ _ dX7_told_85 rfl (Nat.le_refl _) (Nat.le_refl _) rfl ?_
      exact ⟨by simp [fTold, hc77], rfl⟩
  · show G _ _ _ _ _
    refine r_tableIn hG (off := 85) 86 dX7_told_1 (by decide) (by decide) (by decide) (by decide) ?_
    refine r_aload_n hG dX7_told_86 rfl ?_
    refine r_getI hG 7 fk_X7_35 dX7_told_87 (gkV (by omega)) (show (2 * i + 42) < 140 by omega) rfl ?_
    refine hE _ _ _ _ _ dX7_told_90 rfl (Nat.le_refl _) (Nat.le_refl _) rfl ?_
    exact ⟨rfl, rfl⟩
  · show G _ _ _ _ _
    refine r_tableIn hG (off := 90) 91 dX7_told_1 (by decide) (by decide) (by decide) (by decide) ?_
    refine r_aload_n hG dX7_told_91 rfl ?_
    refine r_getI hG 8 fk_X7_38 dX7_told_92 (gkV (by omega)) (show (2 * i + 42) < 140 by omega) rfl ?_
    refine hE _ _ _ _ _ dX7_told_95 rfl (Nat.le_refl _) (Nat.le_refl _) rfl ?_
    exact ⟨rfl, rfl⟩
  · show G _ _ _ _ _
    refine r_tableOut hG 96 dX7_told_1 (by decide) (by decide) ?_
    refine r_aload_n hG dX7_told_96 rfl ?_
    refine r_getI hG 9 fk_X7_50 dX7_told_97 (gkV (by omega)) (show (2 * i + 42) < 140 by omega) rfl ?_
    refine hE _ _ _ _ _ dX7_told_100 rfl (Nat.le_refl _) (Nat.le_refl _) rfl ?_
    exact ⟨rfl, rfl⟩

set_option maxRecDepth 100000 in
set_option maxHeartbeats 1000000 in
theorem ct_X4_run {M : gM} {b : Bool} (hR : M.2.2 = stdR b) {i : Nat} (hi : i < 4) : gC 1 0 0 yX4_run cX4_run 1 none 140 140 [.ref (2 * i + 66)] M (gV (fun M9 => M9 = gwI (gwI M (2 * i + 66) 2 (mmin (M.1 (2 * i + 66) 2 + M.1 (2 * i + 66) 0) (M.1 (2 * i + 66) 1))) (2 * i + 66) 0 (M.1 (2 * i + 66) 0 - (M.1 (2 * i + 66) 0 * M.1 (2 * i + 66) 3 + 99) / 100))) := by
  refine gC_v rfl (Nat.le_of_ble_eq_true rfl) (fun G hG hE => ?_)
  change G (140, 0, 0) 0 [some (.ref (2 * i + 66))] [] M
  refine r_aload_n hG dX4_run_0 rfl ?_
  refine r_aload_n hG dX4_run_1 rfl ?_
  refine r_getI hG 2 fk_X4_15 dX4_run_2 (gkS (by omega)) (show (2 * i + 66) < 140 by omega) rfl ?_
  refine r_aload_n hG dX4_run_5 rfl ?_
  refine r_getI hG 0 fk_X4_19 dX4_run_6 (gkS (by omega)) (show (2 * i + 66) < 140 by omega) rfl ?_
  refine r_iadd hG dX4_run_9 ?_
  refine r_aload_n hG dX4_run_10 rfl ?_
  refine r_getI hG 1 fk_X4_22 dX4_run_11 (gkS (by omega)) (show (2 * i + 66) < 140 by omega) rfl ?_
  refine r_cSI2 hG mk_X4_25 dX4_run_14 (ct_J9_min_7cf53 _ _) (by decide) ⟨Nat.le_refl _, Nat.le_refl _⟩ (Nat.le_of_ble_eq_true rfl) (fun x9 M9 h9 => ?_)
  obtain ⟨e8, e9⟩ := h9
  rw [e8, e9]
  refine r_putI hG 2 fp_X4_15 dX4_run_17 (gkS (by omega)) (show (2 * i + 66) < 140 by omega) rfl rfl rfl ?_
  refine r_aload_n hG dX4_run_20 rfl ?_
  refine r_dup hG dX4_run_21 rfl ?_
  refine r_getIv hG 0 (M.1 (2 * i + 66) 0) fk_X4_19 dX4_run_22 (gkS (by omega)) (show (2 * i + 66) < 140 by omega) rfl (gwI_n (by omega)) ?_
  refine r_aload_n hG dX4_run_25 rfl ?_
  refine r_getIv hG 0 (M.1 (2 * i + 66) 0) fk_X4_19 dX4_run_26 (gkS (by omega)) (show (2 * i + 66) < 140 by omega) rfl (gwI_n (by omega)) ?_
  refine r_aload_n hG dX4_run_29 rfl ?_
  refine r_getIv hG 3 (M.1 (2 * i + 66) 3) fk_X4_31 dX4_run_30 (gkS (by omega)) (show (2 * i + 66) < 140 by omega) rfl (gwI_n (by omega)) ?_
  refine r_imul hG dX4_run_33 ?_
  refine r_bipush hG (99) dX4_run_34 (by decide) ?_
  refine r_iadd hG dX4_run_36 ?_
  refine r_bipush hG (100) dX4_run_37 (by decide) ?_
  refine r_idiv hG dX4_run_39 (by decide) ?_
  refine r_isub hG dX4_run_40 ?_
  refine r_putI hG 0 fp_X4_19 dX4_run_41 (gkS (by omega)) (show (2 * i + 66) < 140 by omega) rfl rfl rfl ?_
  refine hE _ _ _ _ dX4_run_44 rfl (Nat.le_refl _) (Nat.le_refl _) ?_
  rfl

set_option maxRecDepth 100000 in
set_option maxHeartbeats 1000000 in
theorem ct_X5_carried {M : gM} {b : Bool} (hR : M.2.2 = stdR b) {i : Nat} (hi : i < 4) (x y : Int32) : gC 0 0 0 yX5_carried cX5_carried 3 none 140 140 [.ref (i + 74), .int x, .int y] M (gV (fun M9 => M9 = gwI (gwI (gwI M (i + 74) 5 (M.1 (i + 74) 5 + x)) (i + 74) 3 (M.1 (i + 74) 3 + y)) (i + 74) 4 (M.1 (i + 74) 4 + y))) := by
  refine gC_v rfl (Nat.le_of_ble_eq_true rfl) (fun G hG hE => ?_)
  change G (140, 0, 0) 0 [some (.ref (i + 74)), some (.int x), some (.int y)] [] M
  refine r_aload_n hG dX5_carried_0 rfl ?_
  refine r_dup hG dX5_carried_1 rfl ?_
  refine r_getI hG 5 fk_X5_7 dX5_carried_2 (gkT (by omega)) (show (i + 74) < 140 by omega) rfl ?_
  refine r_iload_n hG dX5_carried_5 rfl ?_
  refine r_iadd hG dX5_carried_6 ?_
  refine r_putI hG 5 fp_X5_7 dX5_carried_7 (gkT (by omega)) (show (i + 74) < 140 by omega) rfl rfl rfl ?_
  refine r_aload_n hG dX5_carried_10 rfl ?_
  refine r_dup hG dX5_carried_11 rfl ?_
  refine r_getIv hG 3 (M.1 (i + 74) 3) fk_X5_13 dX5_carried_12 (gkT (by omega)) (show (i + 74) < 140 by omega) rfl (gwI_n (by omega)) ?_
  refine r_iload_n hG dX5_carried_15 rfl ?_
  refine r_iadd hG dX5_carried_16 ?_
  refine r_putI hG 3 fp_X5_13 dX5_carried_17 (gkT (by omega)) (show (i + 74) < 140 by omega) rfl rfl rfl ?_
  refine r_aload_n hG dX5_carried_20 rfl ?_
  refine r_dup hG dX5_carried_21 rfl ?_
  refine r_getIv hG 4 (M.1 (i + 74) 4) fk_X5_16 dX5_carried_22 (gkT (by omega)) (show (i + 74) < 140 by omega) rfl ((gwI_n (by omega)).trans (gwI_n (by omega))) ?_
  refine r_iload_n hG dX5_carried_25 rfl ?_
  refine r_iadd hG dX5_carried_26 ?_
  refine r_putI hG 4 fp_X5_16 dX5_carried_27 (gkT (by omega)) (show (i + 74) < 140 by omega) rfl rfl rfl ?_
  refine hE _ _ _ _ dX5_carried_30 rfl (Nat.le_refl _) (Nat.le_refl _) ?_
  rfl

def fCount (M : gM) (o w : Nat) : Int32 := match w with
  | 0 => M.1 0 7
  | 1 => M.1 0 8
  | 2 => M.1 0 9
  | 3 => M.1 0 12
  | 4 => M.1 0 13
  | 5 => M.1 0 14
  | 6 => M.1 0 10
  | 7 => M.1 0 11
  | 8 => M.1 o 5
  | _ => M.1 7 3
theorem cnt10 {x : Int32} (h : ¬ (x.toInt < 0 ∨ 9 < x.toInt)) : ∃ w : Nat, w < 10 ∧ x = nI w := by
  have h0 : ¬ x < 0 := fun q => h (Or.inl (by simpa [Int32.lt_iff_toInt_lt] using q))
  obtain ⟨j, hj, rfl⟩ := nI_of h0
  refine ⟨j, ?_, rfl⟩
  rw [nI_toInt hj] at h
  omega
set_option maxRecDepth 100000 in
set_option maxHeartbeats 1000000 in
theorem ct_X8_count {M : gM} {b : Bool} (hR : M.2.2 = stdR b) {o : Nat} (hob : o = if b then 17 else 11) (x : Int32) : gC 0 0 0 yX8_count cX8_count 2 (some .int) 140 140 [.ref 0, .int x] M (gI (fun r M9 => ((∃ w, w < 10 ∧ x = nI w ∧ r = fCount M o w) ∨ ((x.toInt < 0 ∨ 9 < x.toInt) ∧ r = -1)) ∧ M9 = M)) := by
  refine gC_i rfl (Nat.le_of_ble_eq_true rfl) (fun G hG hE => ?_)
  change G (140, 0, 0) 0 [some (.ref 0), some (.int x)] [] M
  have ho : o = 11 ∨ o = 17 := by cases b <;> simp at hob <;> omega
  refine r_iload_n hG dX8_count_0 rfl ?_
  by_cases hx : x.toInt < 0 ∨ 9 < x.toInt; rotate_left; obtain ⟨w, hw, rfl⟩ : ∃ w : Nat, w < 10 ∧ x = nI w := cnt10 hx; rcases (show w = 0 ∨ w = 1 ∨ w = 2 ∨ w = 3 ∨ w = 4 ∨ w = 5 ∨ w = 6 ∨ w = 7 ∨ w = 8 ∨ w = 9 by omega) with rfl | rfl | rfl | rfl | rfl | rfl | rfl | rfl | rfl | rfl
  · show G _ _ _ _ _
    refine r_tableIn hG (off := 55) 56 dX8_count_1 (by decide) (by decide) (by decide) (by decide) ?_
    refine r_aload_n hG dX8_count_56 rfl ?_
    refine r_getI hG 7 fk_X8_60 dX8_count_57 rfl (by decide) rfl ?_
    refine hE _ _ _ _ _ dX8_count_60 rfl (Nat.le_refl _) (Nat.le_refl _) rfl ?_
    exact ⟨Or.inl ⟨0, by omega, rfl, rfl⟩, rfl⟩
  · show G _ _ _ _ _
    refine r_tableIn hG (off := 60) 61 dX8_count_1 (by decide) (by decide) (by decide) (by decide) ?_
    refine r_aload_n hG dX8_count_61 rfl ?_
    refine r_getI hG 8 fk_X8_77 dX8_count_62 rfl (by decide) rfl ?_
    refine hE _ _ _ _ _ dX8_count_65 rfl (Nat.le_refl _) (Nat.le_refl _) rfl ?_
    exact ⟨Or.inl ⟨1, by omega, rfl, rfl⟩, rfl⟩
  · show G _ _ _ _ _
    refine r_tableIn hG (off := 65) 66 dX8_count_1 (by decide) (by decide) (by decide) (by decide) ?_
    refine r_aload_n hG dX8_count_66 rfl ?_
    refine r_getI hG 9 fk_X8_94 dX8_count_67 rfl (by decide) rfl ?_
    refine hE _ _ _ _ _ dX8_count_70 rfl (Nat.le_refl _) (Nat.le_refl _) rfl ?_
    exact ⟨Or.inl ⟨2, by omega, rfl, rfl⟩, rfl⟩
  · show G _ _ _ _ _
    refine r_tableIn hG (off := 70) 71 dX8_count_1 (by decide) (by decide) (by decide) (by decide) ?_
    refine r_aload_n hG dX8_count_71 rfl ?_
    refine r_getI hG 12 fk_X8_154 dX8_count_72 rfl (by decide) rfl ?_
    refine hE _ _ _ _ _ dX8_count_75 rfl (Nat.le_refl _) (Nat.le_refl _) rfl ?_
    exact ⟨Or.inl ⟨3, by omega, rfl, rfl⟩, rfl⟩
  · show G _ _ _ _ _
    refine r_tableIn hG (off := 75) 76 dX8_count_1 (by decide) (by decide) (by decide) (by decide) ?_
    refine r_aload_n hG dX8_count_76 rfl ?_
    refine r_getI hG 13 fk_X8_228 dX8_count_77 rfl (by decide) rfl ?_
    refine hE _ _ _ _ _ dX8_count_80 rfl (Nat.le_refl _) (Nat.le_refl _) rfl ?_
    exact ⟨Or.inl ⟨4, by omega, rfl, rfl⟩, rfl⟩
  · show G _ _ _ _ _
    refine r_tableIn hG (off := 80) 81 dX8_count_1 (by decide) (by decide) (by decide) (by decide) ?_
    refine r_aload_n hG dX8_count_81 rfl ?_
    refine r_getI hG 14 fk_X8_231 dX8_count_82 rfl (by decide) rfl ?_
    refine hE _ _ _ _ _ dX8_count_85 rfl (Nat.le_refl _) (Nat.le_refl _) rfl ?_
    exact ⟨Or.inl ⟨5, by omega, rfl, rfl⟩, rfl⟩
  · show G _ _ _ _ _
    refine r_tableIn hG (off := 85) 86 dX8_count_1 (by decide) (by decide) (by decide) (by decide) ?_
    refine r_aload_n hG dX8_count_86 rfl ?_
    refine r_getI hG 10 fk_X8_169 dX8_count_87 rfl (by decide) rfl ?_
    refine hE _ _ _ _ _ dX8_count_90 rfl (Nat.le_refl _) (Nat.le_refl _) rfl ?_
    exact ⟨Or.inl ⟨6, by omega, rfl, rfl⟩, rfl⟩
  · show G _ _ _ _ _
    refine r_tableIn hG (off := 90) 91 dX8_count_1 (by decide) (by decide) (by decide) (by decide) ?_
    refine r_aload_n hG dX8_count_91 rfl ?_
    refine r_getI hG 11 fk_X8_198 dX8_count_92 rfl (by decide) rfl ?_
    refine hE _ _ _ _ _ dX8_count_95 rfl (Nat.le_refl _) (Nat.le_refl _) rfl ?_
    exact ⟨Or.inl ⟨7, by omega, rfl, rfl⟩, rfl⟩
  · show G _ _ _ _ _
    refine r_tableIn hG (off := 95) 96 dX8_count_1 (by decide) (by decide) (by decide) (by decide) ?_
    refine r_aload_n hG dX8_count_96 rfl ?_
    refine r_getR hG 5 6 fk_X8_40 dX8_count_97 rfl (by decide) rfl (sr hR rfl) ?_
    refine r_getR hG 1 o fk_X8_234 dX8_count_100 rfl (by decide) rfl (sr hR (by rw [hob]; rfl)) ?_
    refine r_getI hG 5 fk_X8_238 dX8_count_103 (gkO ho) (show o < 140 by omega) rfl ?_
    refine hE _ _ _ _ _ dX8_count_106 rfl (Nat.le_refl _) (Nat.le_refl _) rfl ?_
    exact ⟨Or.inl ⟨8, by omega, rfl, rfl⟩, rfl⟩
  · show G _ _ _ _ _
    refine r_tableIn hG (off := 106) 107 dX8_count_1 (by decide) (by decide) (by decide) (by decide) ?_
    refine r_aload_n hG dX8_count_107 rfl ?_
    refine r_getR hG 5 6 fk_X8_40 dX8_count_108 rfl (by decide) rfl (sr hR rfl) ?_
    refine r_getR hG 0 7 fk_X8_112 dX8_count_111 rfl (by decide) rfl (sr hR rfl) ?_
    refine r_getI hG 3 fk_X8_122 dX8_count_114 rfl (by decide) rfl ?_
    refine hE _ _ _ _ _ dX8_count_117 rfl (Nat.le_refl _) (Nat.le_refl _) rfl ?_
    exact ⟨Or.inl ⟨9, by omega, rfl, rfl⟩, rfl⟩
  · show G _ _ _ _ _
    refine r_tableOut hG 118 dX8_count_1 (by first | assumption | omega) (by decide) ?_
    refine r_iconst hG (-1) dX8_count_118 (by decide) ?_
    refine hE _ _ _ _ _ dX8_count_119 rfl (Nat.le_refl _) (Nat.le_refl _) rfl ?_
    exact ⟨Or.inr ⟨hx, rfl⟩, rfl⟩

set_option maxRecDepth 100000 in
set_option maxHeartbeats 1000000 in
theorem ct_X8_want {M : gM} {b : Bool} (hR : M.2.2 = stdR b) {nv ns nt nb : Nat} (hnv : M.1 0 7 = nI nv) (lv : nv ≤ 12) (hns : M.1 0 8 = nI ns) (ls : ns ≤ 4) (hnt : M.1 0 9 = nI nt) (lt : nt ≤ 4) (hnb : M.1 0 10 = nI nb) (lb : nb ≤ 10) {o : Nat} (hob : o = if b then 17 else 11) {nl : Nat} {B : Nat → Bool} {A : Nat → Int32} {ST : Nat → Nat} {C : Nat → Nat × Int32} (hO : ordC M o nl B A ST C) (v : Int32) : gC 4 0 0 yX8_want cX8_want 2 (some .int) 140 140 [.ref 0, .int v] M (gI (fun r M9 => ((∃ q, q < nv ∧ v = nI q ∧ r = wantV M (2 * q + 42) nl B A ST C) ∨ (¬ vIn v nv ∧ r = -1)) ∧ gEq Sc M M9)) := by
  refine gC_i rfl (Nat.le_of_ble_eq_true rfl) (fun G hG hE => ?_)
  change G (140, 0, 0) 0 [some (.ref 0), some (.int v)] [] M
  refine r_aload_n hG dX8_want_0 rfl ?_
  refine r_iload_n hG dX8_want_1 rfl ?_
  refine r_cVI1 hG mk_X8_106 dX8_want_2 rfl (by decide) (ct_X8_isVillage (by exact hR) (c := nv) hnv (by omega) _) (by decide) ⟨Nat.le_refl _, Nat.le_refl _⟩ (Nat.le_of_ble_eq_true rfl) (fun x9 M9 h9 => ?_)
  obtain ⟨h8, e9⟩ := h9; rw [e9]; rcases h8 with ⟨e8, hw2⟩ | ⟨e8, hw2⟩
  · rw [e8]
    obtain ⟨q2, hq2, hv2⟩ := hw2
    subst hv2
    refine r_if_eq hG 21 dX8_want_5 (by decide) (fun hc5 => absurd hc5 (by decide)) (fun hc5 => ?_)
    refine r_aload_n hG dX8_want_8 rfl ?_
    refine r_aload_n hG dX8_want_9 rfl ?_
    refine r_getR hG 0 1 fk_X8_11 dX8_want_10 rfl (by decide) rfl (sr hR rfl) ?_
    refine r_iload_n hG dX8_want_13 rfl ?_
    refine r_aald4 hG q2 (2 * q2 + 42) dX8_want_14 rfl (by decide) rfl (by omega) (by decide) (sr hR rfl) ?_
    refine r_cVI1 hG mk_X8_129 dX8_want_15 rfl (by decide) (ct_X8_wantOf (by exact hR) hob (by exact hO) (by omega)) (by decide) ⟨Nat.le_refl _, Nat.le_refl _⟩ (Nat.le_of_ble_eq_true rfl) (fun x9 M15 h9 => ?_)
    obtain ⟨e8, hq15⟩ := h9
    rw [e8]
    have hR : M15.2.2 = stdR b := by rw [hq15.1]; exact hR
    refine r_goto hG 22 dX8_want_18 (by decide) ?_
    refine hE _ _ _ _ _ dX8_want_22 rfl (Nat.le_refl _) (Nat.le_refl _) rfl ?_
    exact ⟨Or.inl ⟨_, hq2, rfl, rfl⟩, hq15⟩
  · rw [e8]
    refine r_if_eq hG 21 dX8_want_5 (by decide) (fun hc5 => ?_) (fun hc5 => absurd hc5 (by decide))
    refine r_iconst hG (-1) dX8_want_21 (by decide) ?_
    refine hE _ _ _ _ _ dX8_want_22 rfl (Nat.le_refl _) (Nat.le_refl _) rfl ?_
    exact ⟨Or.inr ⟨hw2, rfl⟩, gEq.rf⟩

def fShare (M : gM) (k : Nat) : Int32 := if M.1 k 0 * mmin 7 (M.1 0 12) ≤ 0 then 0 else sumI (M.1 (k + 1)) 7 * 100 / (M.1 k 0 * mmin 7 (M.1 0 12))
set_option maxRecDepth 100000 in
set_option maxHeartbeats 1000000 in
theorem ct_X8_share {M : gM} {b : Bool} (hR : M.2.2 = stdR b) {nv ns nt nb : Nat} (hnv : M.1 0 7 = nI nv) (lv : nv ≤ 12) (hns : M.1 0 8 = nI ns) (ls : ns ≤ 4) (hnt : M.1 0 9 = nI nt) (lt : nt ≤ 4) (hnb : M.1 0 10 = nI nb) (lb : nb ≤ 10) (v : Int32) : gC 2 0 0 yX8_share cX8_share 4 (some .int) 140 140 [.ref 0, .int v] M (gI (fun r M9 => ((∃ q, q < nv ∧ v = nI q ∧ r = fShare M (2 * q + 42)) ∨ (¬ vIn v nv ∧ r = -1)) ∧ M9 = M)) := by
  refine gC_i rfl (Nat.le_of_ble_eq_true rfl) (fun G hG hE => ?_)
  change G (140, 0, 0) 0 [some (.ref 0), some (.int v), none, none] [] M
  refine r_aload_n hG dX8_share_0 rfl ?_
  refine r_iload_n hG dX8_share_1 rfl ?_
  refine r_cVI1 hG mk_X8_106 dX8_share_2 rfl (by decide) (ct_X8_isVillage (by exact hR) (c := nv) hnv (by omega) _) (by decide) ⟨Nat.le_refl _, Nat.le_refl _⟩ (Nat.le_of_ble_eq_true rfl) (fun x9 M9 h9 => ?_)
  obtain ⟨h8, e9⟩ := h9; rw [e9]; rcases h8 with ⟨e8, hw2⟩ | ⟨e8, hw2⟩
  · rw [e8]
    obtain ⟨q2, hq2, hv2⟩ := hw2
    subst hv2
    refine r_if_ne hG 10 dX8_share_5 (by decide) (fun hc5 => ?_) (fun hc5 => absurd hc5 (by decide))
    refine r_aload_n hG dX8_share_10 rfl ?_
    refine r_getR hG 0 1 fk_X8_11 dX8_share_11 rfl (by decide) rfl (sr hR rfl) ?_
    refine r_iload_n hG dX8_share_14 rfl ?_
    refine r_aald4 hG q2 (2 * q2 + 42) dX8_share_15 rfl (by decide) rfl (by omega) (by decide) (sr hR rfl) ?_
    refine r_astore_n hG dX8_share_16 (by decide) ?_
    refine r_loc [some (.ref 0), some (.int (nI q2)), some (.ref (2 * q2 + 42)), none] rfl ?_
    refine r_aload_n hG dX8_share_17 rfl ?_
    refine r_getI hG 0 fk_X8_64 dX8_share_18 (gkV (by omega)) (show (2 * q2 + 42) < 140 by omega) rfl ?_
    refine r_bipush hG (7) dX8_share_21 (by decide) ?_
    refine r_aload_n hG dX8_share_23 rfl ?_
    refine r_getI hG 12 fk_X8_154 dX8_share_24 rfl (by decide) rfl ?_
    refine r_cSI2 hG mk_X8_163 dX8_share_27 (ct_J9_min_7cf53 _ _) (by decide) ⟨Nat.le_refl _, Nat.le_refl _⟩ (Nat.le_of_ble_eq_true rfl) (fun x9 M9 h9 => ?_)
    obtain ⟨e8, e9⟩ := h9
    rw [e8, e9]
    refine r_imul hG dX8_share_30 ?_
    refine r_istore_n hG dX8_share_31 (by decide) ?_
    refine r_loc [some (.ref 0), some (.int (nI q2)), some (.ref (2 * q2 + 42)), some (.int ((M.1 (2 * q2 + 42) 0) * (mmin (7) (M.1 0 12))))] rfl ?_
    refine r_iload_n hG dX8_share_32 rfl ?_
    refine r_if_le hG 48 dX8_share_33 (by decide) (fun hc33 => ?_) (fun hc33 => ?_)
    · refine r_iconst hG (0) dX8_share_48 (by decide) ?_
      refine hE _ _ _ _ _ dX8_share_49 rfl (Nat.le_refl _) (Nat.le_refl _) rfl ?_
      exact ⟨Or.inl ⟨_, hq2, rfl, by simp [fShare, hc33]⟩, rfl⟩
    · refine r_aload_n hG dX8_share_36 rfl ?_
      refine r_cVI0 hG mk_X8_210 dX8_share_37 (gkV (by omega)) (show (2 * q2 + 42) < 140 by omega) (ct_X7_givenInWeek (by exact hR) (by omega)) (by decide) ⟨Nat.le_refl _, Nat.le_refl _⟩ (Nat.le_of_ble_eq_true rfl) (fun x9 M9 h9 => ?_)
      obtain ⟨e8, e9⟩ := h9
      rw [e8, e9]
      refine r_bipush hG (100) dX8_share_40 (by decide) ?_
      refine r_imul hG dX8_share_42 ?_
      refine r_iload_n hG dX8_share_43 rfl ?_
      refine r_idiv hG dX8_share_44 (fun q => hc33 (by rw [q]; decide)) ?_
      refine r_goto hG 49 dX8_share_45 (by decide) ?_
      refine hE _ _ _ _ _ dX8_share_49 rfl (Nat.le_refl _) (Nat.le_refl _) rfl ?_
      exact ⟨Or.inl ⟨_, hq2, rfl, by simp [fShare, hc33]⟩, rfl⟩
  · rw [e8]
    refine r_if_ne hG 10 dX8_share_5 (by decide) (fun hc5 => absurd hc5 (by decide)) (fun hc5 => ?_)
    refine r_iconst hG (-1) dX8_share_8 (by decide) ?_
    refine hE _ _ _ _ _ dX8_share_9 rfl (Nat.le_refl _) (Nat.le_refl _) rfl ?_
    exact ⟨Or.inr ⟨hw2, rfl⟩, rfl⟩

set_option maxRecDepth 100000 in
set_option maxHeartbeats 1000000 in
theorem ct_X8_drill {M : gM} {b : Bool} (hR : M.2.2 = stdR b) {nv ns nt nb : Nat} (hnv : M.1 0 7 = nI nv) (lv : nv ≤ 12) (hns : M.1 0 8 = nI ns) (ls : ns ≤ 4) (hnt : M.1 0 9 = nI nt) (lt : nt ≤ 4) (hnb : M.1 0 10 = nI nb) (lb : nb ≤ 10) (hbv : ∀ q, q < nb → ∃ u, u < nv ∧ M.1 (q + 78) 0 = nI u) (x y : Int32) : gC 2 0 0 yX8_drill cX8_drill 4 (some .boolean) 140 140 [.ref 0, .int x, .int y] M (gI (fun r M9 => (∃ q u, q < nb ∧ u < nv ∧ M.1 (q + 78) 0 = nI u ∧ x = nI q ∧ M.1 (q + 78) 3 = 0 ∧ (0 ≤ y ∧ y ≤ 5000) ∧ r = 1 ∧ M9 = gwI (gwI M (q + 78) 3 1) (2 * u + 42) 4 (M.1 (2 * u + 42) 4 + y)) ∨ (¬ (∃ q, (q < nb ∧ x = nI q) ∧ M.1 (q + 78) 3 = 0 ∧ (0 ≤ y ∧ y ≤ 5000)) ∧ r = 0 ∧ M9 = M))) := by
  refine gC_i rfl (Nat.le_of_ble_eq_true rfl) (fun G hG hE => ?_)
  change G (140, 0, 0) 0 [some (.ref 0), some (.int x), some (.int y), none] [] M
  refine r_iload_n hG dX8_drill_0 rfl ?_
  refine r_iconst hG (0) dX8_drill_1 (by decide) ?_
  refine r_aload_n hG dX8_drill_2 rfl ?_
  refine r_getIv hG 10 (nI nb) fk_X8_169 dX8_drill_3 rfl (by decide) rfl hnb ?_
  refine r_iconst hG (1) dX8_drill_6 (by decide) ?_
  refine r_isub hG dX8_drill_7 ?_
  refine r_cSI3 hG mk_X8_55 dX8_drill_8 (ct_X8_within _ _ _) (by decide) ⟨Nat.le_refl _, Nat.le_refl _⟩ (Nat.le_of_ble_eq_true rfl) (fun x9 M9 h9 => ?_)
  obtain ⟨h8, e9⟩ := h9; rw [e9]; rcases h8 with ⟨e8, hw8⟩ | ⟨e8, hw8⟩
  · rw [e8]
    obtain ⟨q8, hq8, hv8⟩ := (wi_iff (by omega)).mp hw8
    subst hv8
    obtain ⟨u, hu, eu⟩ := hbv q8 hq8
    refine r_if_eq hG 37 dX8_drill_11 (by decide) (fun hc11 => absurd hc11 (by decide)) (fun hc11 => ?_)
    refine r_aload_n hG dX8_drill_14 rfl ?_
    refine r_getR hG 3 4 fk_X8_29 dX8_drill_15 rfl (by decide) rfl (sr hR rfl) ?_
    refine r_iload_n hG dX8_drill_18 rfl ?_
    refine r_aald7 hG q8 (q8 + 78) dX8_drill_19 rfl (by decide) rfl (by omega) (by decide) (sr hR rfl) ?_
    refine r_getI hG 3 fk_X8_191 dX8_drill_20 (gkB (by omega)) (show (q8 + 78) < 140 by omega) rfl ?_
    refine r_if_ne hG 37 dX8_drill_23 (by decide) (fun hc23 => ?_) (fun hc23 => ?_)
    · refine r_iconst hG (0) dX8_drill_37 (by decide) ?_
      refine hE _ _ _ _ _ dX8_drill_38 rfl (Nat.le_refl _) (Nat.le_refl _) rfl ?_
      refine Or.inr ⟨?_, rfl, rfl⟩
      rintro ⟨q, ⟨q1, q2⟩, q3, q4⟩
      first | exact hw8 ⟨q, q1, q2⟩ | exact hw31 q4 | exact hc23 (by rw [neq_t (by omega) (by omega) q2]; exact q3)
    · refine r_iload_n hG dX8_drill_26 rfl ?_
      refine r_iconst hG (0) dX8_drill_27 (by decide) ?_
      refine r_sipush hG (5000) dX8_drill_28 (by decide) ?_
      refine r_cSI3 hG mk_X8_55 dX8_drill_31 (ct_X8_within _ _ _) (by decide) ⟨Nat.le_refl _, Nat.le_refl _⟩ (Nat.le_of_ble_eq_true rfl) (fun x9 M9 h9 => ?_)
      obtain ⟨h8, e9⟩ := h9; rw [e9]; rcases h8 with ⟨e8, hw31⟩ | ⟨e8, hw31⟩
      · rw [e8]
        refine r_if_ne hG 39 dX8_drill_34 (by decide) (fun hc34 => ?_) (fun hc34 => absurd hc34 (by decide))
        refine r_aload_n hG dX8_drill_39 rfl ?_
        refine r_getR hG 3 4 fk_X8_29 dX8_drill_40 rfl (by decide) rfl (sr hR rfl) ?_
        refine r_iload_n hG dX8_drill_43 rfl ?_
        refine r_aald7 hG q8 (q8 + 78) dX8_drill_44 rfl (by decide) rfl (by omega) (by decide) (sr hR rfl) ?_
        refine r_astore_n hG dX8_drill_45 (by decide) ?_
        refine r_loc [some (.ref 0), some (.int (nI q8)), some (.int y), some (.ref (q8 + 78))] rfl ?_
        refine r_aload_n hG dX8_drill_46 rfl ?_
        refine r_iconst hG (1) dX8_drill_47 (by decide) ?_
        refine r_putI hG 3 fp_X8_191 dX8_drill_48 (gkB (by omega)) (show (q8 + 78) < 140 by omega) rfl rfl rfl ?_
        refine r_aload_n hG dX8_drill_51 rfl ?_
        refine r_aload_n hG dX8_drill_52 rfl ?_
        refine r_getIv hG 0 (nI u) fk_X8_172 dX8_drill_53 (gkB (by omega)) (show (q8 + 78) < 140 by omega) rfl ((gwI_n (by omega)).trans eu) ?_
        refine r_cVI1 hG mk_X8_106 dX8_drill_56 rfl (by decide) (ct_X8_isVillage (by exact hR) (c := nv) ((gwI_n (by omega)).trans hnv) (by omega) _) (by decide) ⟨Nat.le_refl _, Nat.le_refl _⟩ (Nat.le_of_ble_eq_true rfl) (fun x9 M9 h9 => ?_)
        obtain ⟨h8, e9⟩ := h9; rw [e9]; rcases h8 with ⟨e8, hw56⟩ | ⟨e8, hw56⟩; rotate_left; exact absurd ⟨u, hu, rfl⟩ hw56
        · rw [e8]
          refine r_if_eq hG 80 dX8_drill_59 (by decide) (fun hc59 => absurd hc59 (by decide)) (fun hc59 => ?_)
          refine r_aload_n hG dX8_drill_62 rfl ?_
          refine r_getR hG 0 1 fk_X8_11 dX8_drill_63 rfl (by decide) rfl (sr hR rfl) ?_
          refine r_aload_n hG dX8_drill_66 rfl ?_
          refine r_getIv hG 0 (nI u) fk_X8_172 dX8_drill_67 (gkB (by omega)) (show (q8 + 78) < 140 by omega) rfl ((gwI_n (by omega)).trans eu) ?_
          refine r_aald4 hG u (2 * u + 42) dX8_drill_70 rfl (by decide) rfl (by omega) (by decide) (sr hR rfl) ?_
          refine r_dup hG dX8_drill_71 rfl ?_
          refine r_getIv hG 4 (M.1 (2 * u + 42) 4) fk_X8_160 dX8_drill_72 (gkV (by omega)) (show (2 * u + 42) < 140 by omega) rfl (gwI_n (by omega)) ?_
          refine r_iload_n hG dX8_drill_75 rfl ?_
          refine r_iadd hG dX8_drill_76 ?_
          refine r_putI hG 4 fp_X8_160 dX8_drill_77 (gkV (by omega)) (show (2 * u + 42) < 140 by omega) rfl rfl rfl ?_
          refine r_iconst hG (1) dX8_drill_80 (by decide) ?_
          refine hE _ _ _ _ _ dX8_drill_81 rfl (Nat.le_refl _) (Nat.le_refl _) rfl ?_
          exact Or.inl ⟨_, _, hq8, hu, eu, rfl, hc23, hw31, rfl, rfl⟩
      · rw [e8]
        refine r_if_ne hG 39 dX8_drill_34 (by decide) (fun hc34 => absurd hc34 (by decide)) (fun hc34 => ?_)
        refine r_iconst hG (0) dX8_drill_37 (by decide) ?_
        refine hE _ _ _ _ _ dX8_drill_38 rfl (Nat.le_refl _) (Nat.le_refl _) rfl ?_
        refine Or.inr ⟨?_, rfl, rfl⟩
        rintro ⟨q, ⟨q1, q2⟩, q3, q4⟩
        first | exact hw8 ⟨q, q1, q2⟩ | exact hw31 q4 | exact hc23 (by rw [neq_t (by omega) (by omega) q2]; exact q3)
  · rw [e8]
    have hw8 : ¬ vIn x nb := fun q => hw8 ((wi_iff (by omega)).mpr q)
    refine r_if_eq hG 37 dX8_drill_11 (by decide) (fun hc11 => ?_) (fun hc11 => absurd hc11 (by decide))
    refine r_iconst hG (0) dX8_drill_37 (by decide) ?_
    refine hE _ _ _ _ _ dX8_drill_38 rfl (Nat.le_refl _) (Nat.le_refl _) rfl ?_
    refine Or.inr ⟨?_, rfl, rfl⟩
    rintro ⟨q, ⟨q1, q2⟩, q3, q4⟩
    first | exact hw8 ⟨q, q1, q2⟩ | exact hw31 q4 | exact hc23 (by rw [neq_t (by omega) (by omega) q2]; exact q3)


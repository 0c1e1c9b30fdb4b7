/-- tokens and steps below 0 -/
def tk (n : Nat) : Int32 := -1 - nI n
/-- what a step of two does: 0 plus, 1 minus, 2 less, 3 equal, else and -/
def fJoin (c : Nat) (l r : Int32) : Int32 := match c with
  | 0 => l + r
  | 1 => l - r
  | 2 => if l < r then 1 else 0
  | 3 => if l = r then 1 else 0
  | _ => if l = 0 then 0 else if r = 0 then 0 else 1
/-- scratch of the class: facts, stacks and their heights, the planner -/
def Sc (k j : Nat) : Prop := k = 5 ∨ k = 16 ∨ k = 22 ∨ ((k = 11 ∨ k = 17) ∧ j = 7)
def gEq (S : Nat → Nat → Prop) (M M' : gM) : Prop := M'.2 = M.2 ∧ ∀ k j, ¬ S k j → M'.1 k j = M.1 k j
theorem gEq.rf {S : Nat → Nat → Prop} {M : gM} : gEq S M M := ⟨rfl, fun _ _ _ => rfl⟩
theorem gEq.trans {S : Nat → Nat → Prop} {M M1 M2 : gM} (h : gEq S M M1) (h' : gEq S M1 M2) : gEq S M M2 := ⟨h'.1.trans h.1, fun k j hs => (h'.2 k j hs).trans (h.2 k j hs)⟩
theorem gEq.put {S : Nat → Nat → Prop} {M M1 : gM} {k j : Nat} {v : Int32} (h : gEq S M M1) (hs : S k j) : gEq S M (gwI M1 k j v) := ⟨h.1, fun a b hn => by
  rw [gwI_n (fun q => hn (by rw [q.1, q.2]; exact hs))]
  exact h.2 a b hn⟩
theorem gEq.mono {S S' : Nat → Nat → Prop} {M M1 : gM} (h : gEq S M M1) (hs : ∀ k j, S k j → S' k j) : gEq S' M M1 := ⟨h.1, fun k j hn => h.2 k j (fun q => hn (hs k j q))⟩
set_option maxRecDepth 100000 in
set_option maxHeartbeats 1000000 in
theorem ct_X1_clear {M : gM} {b : Bool} (hR : M.2.2 = stdR b) {o : Nat} (ho : o = 11 ∨ o = 17) : gC 0 0 0 yX1_clear cX1_clear 1 none 140 140 [.ref o] M (gV (fun M9 => M9 = gwI (gwI M o 5 0) o 6 0)) := by
  refine gC_v rfl (Nat.le_of_ble_eq_true rfl) (fun G hG hE => ?_)
  change G (140, 0, 0) 0 [some (.ref o)] [] M
  refine r_aload_n hG dX1_clear_0 rfl ?_
  refine r_iconst hG (0) dX1_clear_1 (by decide) ?_
  refine r_putI hG 5 fp_X1_27 dX1_clear_2 (gkO ho) (show o < 140 by omega) rfl rfl rfl ?_
  refine r_aload_n hG dX1_clear_5 rfl ?_
  refine r_iconst hG (0) dX1_clear_6 (by decide) ?_
  refine r_putI hG 6 fp_X1_31 dX1_clear_7 (gkO ho) (show o < 140 by omega) rfl rfl rfl ?_
  refine hE _ _ _ _ dX1_clear_10 rfl (Nat.le_refl _) (Nat.le_refl _) ?_
  rfl

set_option maxRecDepth 100000 in
set_option maxHeartbeats 1000000 in
theorem ct_X1_addLine {M : gM} {b : Bool} (hR : M.2.2 = stdR b) {o : Nat} (ho : o = 11 ∨ o = 17) {nl u : Nat} (hnl : M.1 o 5 = nI nl) (hu : M.1 o 6 = nI u) (l16 : nl < 16) (ki am : Int32) : gC 0 0 0 yX1_addLine cX1_addLine 3 none 140 140 [.ref o, .int ki, .int am] M (gV (fun M9 => M9 = gwI (gwI (gwI (gwI M (o + 1) nl ki) (o + 2) nl am) (o + 3) nl (nI u)) o 5 (nI nl + 1))) := by
  refine gC_v rfl (Nat.le_of_ble_eq_true rfl) (fun G hG hE => ?_)
  change G (140, 0, 0) 0 [some (.ref o), some (.int ki), some (.int am)] [] M
  refine r_aload_n hG dX1_addLine_0 rfl ?_
  refine r_getIv hG 5 (nI nl) fk_X1_27 dX1_addLine_1 (gkO ho) (show o < 140 by omega) rfl hnl ?_
  refine r_bipush hG (16) dX1_addLine_4 (by decide) ?_
  refine r_icmp_ge hG 52 dX1_addLine_6 (by decide) (fun hc6 => absurd (nle_t (a := 16) (b := nl) (by omega) (by omega) hc6) (by omega)) (fun hc6 => ?_)
  refine r_aload_n hG dX1_addLine_9 rfl ?_
  refine r_getR hG 0 (o + 1) fk_X1_9 dX1_addLine_10 (gkO ho) (show o < 140 by omega) rfl (sr hR (sRo ho)) ?_
  refine r_aload_n hG dX1_addLine_13 rfl ?_
  refine r_getIv hG 5 (nI nl) fk_X1_27 dX1_addLine_14 (gkO ho) (show o < 140 by omega) rfl hnl ?_
  refine r_iload_n hG dX1_addLine_17 rfl ?_
  refine r_iast hG nl dX1_addLine_18 (gkO1 ho) (show (o + 1) < 140 by omega) rfl (by omega) (by decide) ?_
  refine r_aload_n hG dX1_addLine_19 rfl ?_
  refine r_getR hG 1 (o + 2) fk_X1_15 dX1_addLine_20 (gkO ho) (show o < 140 by omega) rfl (sr hR (sRo ho)) ?_
  refine r_aload_n hG dX1_addLine_23 rfl ?_
  refine r_getIv hG 5 (nI nl) fk_X1_27 dX1_addLine_24 (gkO ho) (show o < 140 by omega) rfl ((gwI_n (by omega)).trans hnl) ?_
  refine r_iload_n hG dX1_addLine_27 rfl ?_
  refine r_iast hG nl dX1_addLine_28 (gkO2 ho) (show (o + 2) < 140 by omega) rfl (by omega) (by decide) ?_
  refine r_aload_n hG dX1_addLine_29 rfl ?_
  refine r_getR hG 2 (o + 3) fk_X1_18 dX1_addLine_30 (gkO ho) (show o < 140 by omega) rfl (sr hR (sRo ho)) ?_
  refine r_aload_n hG dX1_addLine_33 rfl ?_
  refine r_getIv hG 5 (nI nl) fk_X1_27 dX1_addLine_34 (gkO ho) (show o < 140 by omega) rfl (((gwI_n (by omega)).trans (gwI_n (by omega))).trans hnl) ?_
  refine r_aload_n hG dX1_addLine_37 rfl ?_
  refine r_getIv hG 6 (nI u) fk_X1_31 dX1_addLine_38 (gkO ho) (show o < 140 by omega) rfl (((gwI_n (by omega)).trans (gwI_n (by omega))).trans hu) ?_
  refine r_iast hG nl dX1_addLine_41 (gkO3 ho) (show (o + 3) < 140 by omega) rfl (by omega) (by decide) ?_
  refine r_aload_n hG dX1_addLine_42 rfl ?_
  refine r_dup hG dX1_addLine_43 rfl ?_
  refine r_getIv hG 5 (nI nl) fk_X1_27 dX1_addLine_44 (gkO ho) (show o < 140 by omega) rfl (((gwI_n (by omega)).trans ((gwI_n (by omega)).trans (gwI_n (by omega)))).trans hnl) ?_
  refine r_iconst hG (1) dX1_addLine_47 (by decide) ?_
  refine r_iadd hG dX1_addLine_48 ?_
  refine r_putI hG 5 fp_X1_27 dX1_addLine_49 (gkO ho) (show o < 140 by omega) rfl rfl rfl ?_
  refine hE _ _ _ _ dX1_addLine_52 rfl (Nat.le_refl _) (Nat.le_refl _) ?_
  rfl

set_option maxRecDepth 100000 in
set_option maxHeartbeats 1000000 in
theorem ct_X1_addStep {M : gM} {b : Bool} (hR : M.2.2 = stdR b) {o : Nat} (ho : o = 11 ∨ o = 17) {u : Nat} (hu : M.1 o 6 = nI u) (lu : u < 600) (sx : Int32) : gC 0 0 0 yX1_addStep cX1_addStep 2 none 140 140 [.ref o, .int sx] M (gV (fun M9 => M9 = gwI (gwI M (o + 4) u sx) o 6 (nI u + 1))) := by
  refine gC_v rfl (Nat.le_of_ble_eq_true rfl) (fun G hG hE => ?_)
  change G (140, 0, 0) 0 [some (.ref o), some (.int sx)] [] M
  refine r_aload_n hG dX1_addStep_0 rfl ?_
  refine r_getIv hG 6 (nI u) fk_X1_31 dX1_addStep_1 (gkO ho) (show o < 140 by omega) rfl hu ?_
  refine r_sipush hG (600) dX1_addStep_4 (by decide) ?_
  refine r_icmp_ge hG 30 dX1_addStep_7 (by decide) (fun hc7 => absurd (nle_t (a := 600) (b := u) (by omega) (by omega) hc7) (by omega)) (fun hc7 => ?_)
  refine r_aload_n hG dX1_addStep_10 rfl ?_
  refine r_getR hG 3 (o + 4) fk_X1_21 dX1_addStep_11 (gkO ho) (show o < 140 by omega) rfl (sr hR (sRo ho)) ?_
  refine r_aload_n hG dX1_addStep_14 rfl ?_
  refine r_getIv hG 6 (nI u) fk_X1_31 dX1_addStep_15 (gkO ho) (show o < 140 by omega) rfl hu ?_
  refine r_iload_n hG dX1_addStep_18 rfl ?_
  refine r_iast hG u dX1_addStep_19 (gkO4 ho) (show (o + 4) < 140 by omega) rfl (by omega) (by decide) ?_
  refine r_aload_n hG dX1_addStep_20 rfl ?_
  refine r_dup hG dX1_addStep_21 rfl ?_
  refine r_getIv hG 6 (nI u) fk_X1_31 dX1_addStep_22 (gkO ho) (show o < 140 by omega) rfl ((gwI_n (by omega)).trans hu) ?_
  refine r_iconst hG (1) dX1_addStep_25 (by decide) ?_
  refine r_iadd hG dX1_addStep_26 ?_
  refine r_putI hG 6 fp_X1_31 dX1_addStep_27 (gkO ho) (show o < 140 by omega) rfl rfl rfl ?_
  refine hE _ _ _ _ dX1_addStep_30 rfl (Nat.le_refl _) (Nat.le_refl _) ?_
  rfl

set_option maxRecDepth 100000 in
set_option maxHeartbeats 1000000 in
theorem ct_X1_push {M : gM} {b : Bool} (hR : M.2.2 = stdR b) {o : Nat} (ho : o = 11 ∨ o = 17) {h : Nat} (hh : M.1 o 7 = nI h) (lh : h < 32) (x : Int32) : gC 0 0 0 yX1_push cX1_push 2 none 140 140 [.ref o, .int x] M (gV (fun M9 => M9 = gwI (gwI M (o + 5) h x) o 7 (nI h + 1))) := by
  refine gC_v rfl (Nat.le_of_ble_eq_true rfl) (fun G hG hE => ?_)
  change G (140, 0, 0) 0 [some (.ref o), some (.int x)] [] M
  refine r_aload_n hG dX1_push_0 rfl ?_
  refine r_getIv hG 7 (nI h) fk_X1_38 dX1_push_1 (gkO ho) (show o < 140 by omega) rfl hh ?_
  refine r_bipush hG (32) dX1_push_4 (by decide) ?_
  refine r_icmp_ge hG 29 dX1_push_6 (by decide) (fun hc6 => absurd (nle_t (a := 32) (b := h) (by omega) (by omega) hc6) (by omega)) (fun hc6 => ?_)
  refine r_aload_n hG dX1_push_9 rfl ?_
  refine r_getR hG 4 (o + 5) fk_X1_24 dX1_push_10 (gkO ho) (show o < 140 by omega) rfl (sr hR (sRo ho)) ?_
  refine r_aload_n hG dX1_push_13 rfl ?_
  refine r_getIv hG 7 (nI h) fk_X1_38 dX1_push_14 (gkO ho) (show o < 140 by omega) rfl hh ?_
  refine r_iload_n hG dX1_push_17 rfl ?_
  refine r_iast hG h dX1_push_18 (gkO5 ho) (show (o + 5) < 140 by omega) rfl (by omega) (by decide) ?_
  refine r_aload_n hG dX1_push_19 rfl ?_
  refine r_dup hG dX1_push_20 rfl ?_
  refine r_getIv hG 7 (nI h) fk_X1_38 dX1_push_21 (gkO ho) (show o < 140 by omega) rfl ((gwI_n (by omega)).trans hh) ?_
  refine r_iconst hG (1) dX1_push_24 (by decide) ?_
  refine r_iadd hG dX1_push_25 ?_
  refine r_putI hG 7 fp_X1_38 dX1_push_26 (gkO ho) (show o < 140 by omega) rfl rfl rfl ?_
  refine hE _ _ _ _ dX1_push_29 rfl (Nat.le_refl _) (Nat.le_refl _) ?_
  rfl

set_option maxRecDepth 100000 in
set_option maxHeartbeats 1000000 in
theorem ct_X1_pop {M : gM} {b : Bool} (hR : M.2.2 = stdR b) {o : Nat} (ho : o = 11 ∨ o = 17) {h : Nat} (hh : M.1 o 7 = nI (h + 1)) (lh : h < 32) : gC 0 0 0 yX1_pop cX1_pop 1 (some .int) 140 140 [.ref o] M (gI (fun r M9 => r = M.1 (o + 5) h ∧ M9 = gwI M o 7 (nI h))) := by
  refine gC_i rfl (Nat.le_of_ble_eq_true rfl) (fun G hG hE => ?_)
  change G (140, 0, 0) 0 [some (.ref o)] [] M
  refine r_aload_n hG dX1_pop_0 rfl ?_
  refine r_getIv hG 7 (nI (h + 1)) fk_X1_38 dX1_pop_1 (gkO ho) (show o < 140 by omega) rfl hh ?_
  refine r_if_gt hG 9 dX1_pop_4 (by decide) (fun hc4 => ?_) (fun hc4 => absurd (nlt_f (a := 0) (b := (h + 1)) (by omega) (by omega) hc4) (by omega))
  refine r_aload_n hG dX1_pop_9 rfl ?_
  refine r_dup hG dX1_pop_10 rfl ?_
  refine r_getIv hG 7 (nI (h + 1)) fk_X1_38 dX1_pop_11 (gkO ho) (show o < 140 by omega) rfl hh ?_
  refine r_iconst hG (1) dX1_pop_14 (by decide) ?_
  refine r_isub hG dX1_pop_15 ?_
  refine r_top (nI h) (nI_pred h) ?_
  refine r_putI hG 7 fp_X1_38 dX1_pop_16 (gkO ho) (show o < 140 by omega) rfl rfl rfl ?_
  refine r_aload_n hG dX1_pop_19 rfl ?_
  refine r_getR hG 4 (o + 5) fk_X1_24 dX1_pop_20 (gkO ho) (show o < 140 by omega) rfl (sr hR (sRo ho)) ?_
  refine r_aload_n hG dX1_pop_23 rfl ?_
  refine r_getIv hG 7 (nI h) fk_X1_38 dX1_pop_24 (gkO ho) (show o < 140 by omega) rfl gwI_s ?_
  refine r_ialdv hG h (M.1 (o + 5) h) dX1_pop_27 (gkO5 ho) (show (o + 5) < 140 by omega) rfl (by omega) (by decide) (gwI_n (by omega)) ?_
  refine hE _ _ _ _ _ dX1_pop_28 rfl (Nat.le_refl _) (Nat.le_refl _) rfl ?_
  exact ⟨rfl, rfl⟩

set_option maxRecDepth 100000 in
set_option maxHeartbeats 1000000 in
theorem ct_X1_joined {M : gM} (c : Nat) (hc : c < 5) (l r : Int32) : gC 0 0 0 yX1_joined cX1_joined 3 (some .int) 140 140 [.int (tk (6 + c)), .int l, .int r] M (gI (fun z M9 => z = fJoin c l r ∧ M9 = M)) := by
  refine gC_i rfl (Nat.le_of_ble_eq_true rfl) (fun G hG hE => ?_)
  change G (140, 0, 0) 0 [some (.int (tk (6 + c))), some (.int l), some (.int r)] [] M
  refine r_iload_n hG dX1_joined_0 rfl ?_
  rcases (show c = 0 ∨ c = 1 ∨ c = 2 ∨ c = 3 ∨ c = 4 by omega) with rfl | rfl | rfl | rfl | rfl
  · show G _ _ _ _ _
    refine r_tableIn hG (off := 31) 32 dX1_joined_1 (by decide) (by decide) (by decide) (by decide) ?_
    refine r_iload_n hG dX1_joined_32 rfl ?_
    refine r_iload_n hG dX1_joined_33 rfl ?_
    refine r_iadd hG dX1_joined_34 ?_
    refine hE _ _ _ _ _ dX1_joined_35 rfl (Nat.le_refl _) (Nat.le_refl _) rfl ?_
    exact ⟨rfl, rfl⟩
  · show G _ _ _ _ _
    refine r_tableIn hG (off := 35) 36 dX1_joined_1 (by decide) (by decide) (by decide) (by decide) ?_
    refine r_iload_n hG dX1_joined_36 rfl ?_
    refine r_iload_n hG dX1_joined_37 rfl ?_
    refine r_isub hG dX1_joined_38 ?_
    refine hE _ _ _ _ _ dX1_joined_39 rfl (Nat.le_refl _) (Nat.le_refl _) rfl ?_
    exact ⟨rfl, rfl⟩
  · show G _ _ _ _ _
    refine r_tableIn hG (off := 39) 40 dX1_joined_1 (by decide) (by decide) (by decide) (by decide) ?_
    refine r_iload_n hG dX1_joined_40 rfl ?_
    refine r_iload_n hG dX1_joined_41 rfl ?_
    refine r_icmp_ge hG 49 dX1_joined_42 (by decide) (fun hc42 => ?_) (fun hc42 => ?_)
    · refine r_iconst hG (0) dX1_joined_49 (by decide) ?_
      refine hE _ _ _ _ _ dX1_joined_50 rfl (Nat.le_refl _) (Nat.le_refl _) rfl ?_
      exact ⟨by simp [fJoin, Int32.not_lt.mpr hc42], rfl⟩
    · refine r_iconst hG (1) dX1_joined_45 (by decide) ?_
      refine r_goto hG 50 dX1_joined_46 (by decide) ?_
      refine hE _ _ _ _ _ dX1_joined_50 rfl (Nat.le_refl _) (Nat.le_refl _) rfl ?_
      exact ⟨by simp [fJoin, Int32.not_le.mp hc42], rfl⟩
  · show G _ _ _ _ _
    refine r_tableIn hG (off := 50) 51 dX1_joined_1 (by decide) (by decide) (by decide) (by decide) ?_
    refine r_iload_n hG dX1_joined_51 rfl ?_
    refine r_iload_n hG dX1_joined_52 rfl ?_
    refine r_icmp_ne hG 60 dX1_joined_53 (by decide) (fun hc53 => ?_) (fun hc53 => ?_)
    · refine r_iconst hG (0) dX1_joined_60 (by decide) ?_
      refine hE _ _ _ _ _ dX1_joined_61 rfl (Nat.le_refl _) (Nat.le_refl _) rfl ?_
      exact ⟨by simp [fJoin, hc53], rfl⟩
    · refine r_iconst hG (1) dX1_joined_56 (by decide) ?_
      refine r_goto hG 61 dX1_joined_57 (by decide) ?_
      refine hE _ _ _ _ _ dX1_joined_61 rfl (Nat.le_refl _) (Nat.le_refl _) rfl ?_
      exact ⟨by simp [fJoin, hc53], rfl⟩
  · show G _ _ _ _ _
    refine r_tableOut hG 62 dX1_joined_1 (by decide) (by decide) ?_
    refine r_iload_n hG dX1_joined_62 rfl ?_
    refine r_if_eq hG 74 dX1_joined_63 (by decide) (fun hc63 => ?_) (fun hc63 => ?_)
    · refine r_iconst hG (0) dX1_joined_74 (by decide) ?_
      refine hE _ _ _ _ _ dX1_joined_75 rfl (Nat.le_refl _) (Nat.le_refl _) rfl ?_
      exact ⟨by simp [fJoin, hc63], rfl⟩
    · refine r_iload_n hG dX1_joined_66 rfl ?_
      refine r_if_eq hG 74 dX1_joined_67 (by decide) (fun hc67 => ?_) (fun hc67 => ?_)
      · refine r_iconst hG (0) dX1_joined_74 (by decide) ?_
        refine hE _ _ _ _ _ dX1_joined_75 rfl (Nat.le_refl _) (Nat.le_refl _) rfl ?_
        exact ⟨by simp [fJoin, hc63, hc67], rfl⟩
      · refine r_iconst hG (1) dX1_joined_70 (by decide) ?_
        refine r_goto hG 75 dX1_joined_71 (by decide) ?_
        refine hE _ _ _ _ _ dX1_joined_75 rfl (Nat.le_refl _) (Nat.le_refl _) rfl ?_
        exact ⟨by simp [fJoin, hc63, hc67], rfl⟩


def itw (M : gM) (c : Nat) : Nat → gM
  | 0 => M
  | i + 1 => gwI (itw M c i) c i 10
theorem itw_f {n c : Nat} {M : gM} (h : fM n M) (hc : c < n) : ∀ i, fM n (itw M c i)
  | 0 => h
  | i + 1 => (itw_f h hc i).I hc
theorem itw_2 {c : Nat} {M : gM} : ∀ i, (itw M c i).2 = M.2
  | 0 => rfl
  | i + 1 => itw_2 i
set_option maxRecDepth 100000 in
theorem ct_X7_init {M : gM} {i : Nat} (hi : i < 12) (hM : fM (2 * i + 43) M) : gC 1 1 7 yX7_init cX7_init 1 none (2 * i + 43) (2 * i + 44) [.ref (2 * i + 42)] M (gV (fun M9 => M9 = gwR M (2 * i + 42) 10 (some (2 * i + 43)))) := by
  refine gC_vI rfl rfl (Nat.le_of_ble_eq_true rfl) (fun G hI hG hE => ?_)
  change G (2 * i + 43, 0, 0) 0 [some (.ref (2 * i + 42))] [] M
  refine r_aload_n hG dX7_init_0 rfl ?_
  refine r_obj hG ob_X7_3 obI obC dX7_init_1 (by decide) (Nat.le_of_ble_eq_true rfl) ?_
  refine r_aload_n hG dX7_init_4 rfl ?_
  refine r_bipush hG (7) dX7_init_5 (by decide) ?_
  refine r_newaI hG 7 arr_I dX7_init_7 (gkW hi) hM (show 2 * i + 43 < 1000 by omega) rfl (by decide) (show 0 + 1 ≤ 1 by decide) (show 0 + 7 ≤ 7 by decide) (by simp [gRs] <;> omega) (by simp [gRs] <;> omega) ?_
  refine r_Z (2 * i + 44, 1, 7) rfl ?_
  refine r_putF hI 10 ff_X7_9 dX7_init_9 (gkV hi) (show 2 * i + 42 < 2 * i + 44 by omega) rfl (fun _ => rfl) (fun _ => rfl) ?_
  exact hE _ _ _ _ dX7_init_12 rfl (Nat.le_refl _) (Nat.le_refl _) rfl
set_option maxRecDepth 100000 in
theorem ct_X5_init {M : gM} {n k : Nat} : gC 1 0 0 yX5_init cX5_init 1 none n n [.ref k] M (gV (fun M9 => M9 = M)) := by
  refine gC_vI rfl rfl (Nat.le_of_ble_eq_true rfl) (fun G hI hG hE => ?_)
  change G (n, 0, 0) 0 [some (.ref k)] [] M
  refine r_aload_n hG dX5_init_0 rfl ?_
  refine r_obj hG ob_X5_1 obI obC dX5_init_1 (by decide) (Nat.le_of_ble_eq_true rfl) ?_
  exact hE _ _ _ _ dX5_init_4 rfl (Nat.le_refl _) (Nat.le_refl _) rfl
set_option maxRecDepth 100000 in
theorem ct_X0_init {M : gM} {n k : Nat} : gC 1 0 0 yX0_init cX0_init 1 none n n [.ref k] M (gV (fun M9 => M9 = M)) := by
  refine gC_vI rfl rfl (Nat.le_of_ble_eq_true rfl) (fun G hI hG hE => ?_)
  change G (n, 0, 0) 0 [some (.ref k)] [] M
  refine r_aload_n hG dX0_init_0 rfl ?_
  refine r_obj hG ob_X0_1 obI obC dX0_init_1 (by decide) (Nat.le_of_ble_eq_true rfl) ?_
  exact hE _ _ _ _ dX0_init_4 rfl (Nat.le_refl _) (Nat.le_refl _) rfl
set_option maxRecDepth 100000 in
theorem lp_X4_ways {G : gJ} {P : gM → Prop} {dd mc ms : Nat} (hG : gS dd mc ms yX4_init.cls cX4_init 2 G) {i : Nat} (hi : i < 4) {M : gM} (hr : M.2.2 (2 * i + 66) 4 = some (2 * i + 67)) (hX : ∀ x, G (2 * i + 68, 1, 12) 34 [some (.ref (2 * i + 66)), x] [] (itw M (2 * i + 67) 12)) : ∀ (r j : Nat), j + r = 12 → G (2 * i + 68, 1, 12) 14 [some (.ref (2 * i + 66)), some (.int (nI j))] [] (itw M (2 * i + 67) j) := by
  intro r
  induction r with
  | zero =>
    intro j hj
    refine r_iload_n hG dX4_init_14 rfl ?_
    refine r_bipush hG (12) dX4_init_15 (by decide) ?_
    refine r_icmp_ge hG 34 dX4_init_17 (by decide) (fun hc => ?_) (fun hc => absurd (nle_f (a := 12) (b := j) (by omega) (by omega) hc) (by omega))
    obtain rfl : j = 12 := by omega
    exact hX _
  | succ r ih =>
    intro j hj
    refine r_iload_n hG dX4_init_14 rfl ?_
    refine r_bipush hG (12) dX4_init_15 (by decide) ?_
    refine r_icmp_ge hG 34 dX4_init_17 (by decide) (fun hc => absurd (nle_t (a := 12) (b := j) (by omega) (by omega) hc) (by omega)) (fun hc => ?_)
    refine r_aload_n hG dX4_init_20 rfl ?_
    refine r_getR hG 4 (2 * i + 67) fk_X4_9 dX4_init_21 (gkS hi) (show 2 * i + 66 < 2 * i + 68 by omega) rfl (by rw [itw_2]; exact hr) ?_
    refine r_iload_n hG dX4_init_24 rfl ?_
    refine r_bipush hG (10) dX4_init_25 (by decide) ?_
    refine r_iast hG j dX4_init_27 (gkY hi) (show 2 * i + 67 < 2 * i + 68 by omega) rfl (by omega) (by decide) ?_
    refine r_iinc hG (1) dX4_init_28 (by decide) rfl ?_
    refine r_loc [some (.ref (2 * i + 66)), some (.int (nI j + 1))] rfl ?_
    refine r_goto hG 14 dX4_init_31 (by decide) ?_
    rw [nI_1]
    exact ih (j + 1) (by omega)

set_option maxRecDepth 100000 in
theorem ct_X4_init {M : gM} {i : Nat} (hi : i < 4) (hM : fM (2 * i + 67) M) : gC 1 1 12 yX4_init cX4_init 2 none (2 * i + 67) (2 * i + 68) [.ref (2 * i + 66)] M (gV (fun M9 => M9 = itw (gwR M (2 * i + 66) 4 (some (2 * i + 67))) (2 * i + 67) 12)) := by
  refine gC_vI rfl rfl (Nat.le_of_ble_eq_true rfl) (fun G hI hG hE => ?_)
  change G (2 * i + 67, 0, 0) 0 [some (.ref (2 * i + 66)), none] [] M
  refine r_aload_n hG dX4_init_0 rfl ?_
  refine r_obj hG ob_X4_3 obI obC dX4_init_1 (by decide) (Nat.le_of_ble_eq_true rfl) ?_
  refine r_aload_n hG dX4_init_4 rfl ?_
  refine r_bipush hG (12) dX4_init_5 (by decide) ?_
  refine r_newaI hG 12 arr_I dX4_init_7 (gkY hi) hM (show 2 * i + 67 < 1000 by omega) rfl (by decide) (show 0 + 1 ≤ 1 by decide) (show 0 + 12 ≤ 12 by decide) (by simp [gRs] <;> omega) (by simp [gRs] <;> omega) ?_
  refine r_Z (2 * i + 68, 1, 12) rfl ?_
  refine r_putF hI 4 ff_X4_9 dX4_init_9 (gkS hi) (show 2 * i + 66 < 2 * i + 68 by omega) rfl (fun _ => rfl) (fun _ => rfl) ?_
  refine r_iconst hG (0) dX4_init_12 (by decide) ?_
  refine r_istore_n hG dX4_init_13 (by decide) ?_
  refine r_loc [some (.ref (2 * i + 66)), some (.int (nI 0))] rfl ?_
  refine lp_X4_ways hG hi (P := fun _ => True) (M := gwR M (2 * i + 66) 4 (some (2 * i + 67))) ?_ (fun x => ?_) 12 0 rfl
  · show (if 2 * i + 66 = 2 * i + 66 ∧ 4 = 4 then some (2 * i + 67) else _) = _
    rw [if_pos ⟨rfl, rfl⟩]
  · exact hE _ _ _ _ dX4_init_34 rfl (Nat.le_refl _) (Nat.le_refl _) rfl
set_option maxRecDepth 100000 in
theorem lp_X9_ways {G : gJ} {P : gM → Prop} {dd mc ms : Nat} (hG : gS dd mc ms yX9_init.cls cX9_init 2 G)  {M : gM} (hr : M.2.2 88 50 = some 125) (hX : ∀ x, G (139, 50, 10921) 482 [some (.ref 88), x] [] (itw M 125 48)) : ∀ (r j : Nat), j + r = 48 → G (139, 50, 10921) 462 [some (.ref 88), some (.int (nI j))] [] (itw M 125 j) := by
  intro r
  induction r with
  | zero =>
    intro j hj
    refine r_iload_n hG dX9_init_462 rfl ?_
    refine r_bipush hG (48) dX9_init_463 (by decide) ?_
    refine r_icmp_ge hG 482 dX9_init_465 (by decide) (fun hc => ?_) (fun hc => absurd (nle_f (a := 48) (b := j) (by omega) (by omega) hc) (by omega))
    obtain rfl : j = 48 := by omega
    exact hX _
  | succ r ih =>
    intro j hj
    refine r_iload_n hG dX9_init_462 rfl ?_
    refine r_bipush hG (48) dX9_init_463 (by decide) ?_
    refine r_icmp_ge hG 482 dX9_init_465 (by decide) (fun hc => absurd (nle_t (a := 48) (b := j) (by omega) (by omega) hc) (by omega)) (fun hc => ?_)
    refine r_aload_n hG dX9_init_468 rfl ?_
    refine r_getR hG 50 125 fk_X9_151 dX9_init_469 rfl (by decide) rfl (by rw [itw_2]; exact hr) ?_
    refine r_iload_n hG dX9_init_472 rfl ?_
    refine r_bipush hG (10) dX9_init_473 (by decide) ?_
    refine r_iast hG j dX9_init_475 rfl (by decide) rfl (by omega) (by decide) ?_
    refine r_iinc hG (1) dX9_init_476 (by decide) rfl ?_
    refine r_loc [some (.ref 88), some (.int (nI j + 1))] rfl ?_
    refine r_goto hG 462 dX9_init_479 (by decide) ?_
    rw [nI_1]
    exact ih (j + 1) (by omega)

def modM (M : gM) : gM := itw (gwR (gwR (gwR (gwR (gwR (gwR (gwR (gwR (gwR (gwR (gwR (gwR (gwR (gwR (gwR (gwR (gwR (gwR (gwR (gwR (gwR (gwR (gwR (gwR (gwR (gwR (gwR (gwR (gwR (gwR (gwR (gwR (gwR (gwR (gwR (gwR (gwR (gwR (gwR (gwR (gwR (gwR (gwR (gwR (gwR (gwR (gwL (gwL (gwL (gwL (gwL (gwL (gwL (gwL (gwL (gwL (gwR (gwR (gwR (gwR M 88 1 (some 89)) 88 4 (some 90)) 88 5 (some 91)) 88 6 (some 92)) 93 0 (412110)) 93 1 (4003679)) 93 2 (1176170)) 93 3 (1891)) 93 4 (5538)) 93 5 (1119656265)) 93 6 (148136142)) 93 7 (204925)) 93 8 (333123)) 93 9 (6167)) 88 9 (some 93)) 88 10 (some 94)) 88 11 (some 95)) 88 12 (some 96)) 88 13 (some 97)) 88 14 (some 98)) 88 15 (some 99)) 88 20 (some 100)) 88 21 (some 101)) 88 22 (some 102)) 88 23 (some 103)) 88 24 (some 104)) 88 27 (some 105)) 88 28 (some 106)) 88 29 (some 107)) 88 30 (some 108)) 88 31 (some 109)) 88 32 (some 110)) 88 33 (some 111)) 88 34 (some 112)) 88 35 (some 113)) 88 36 (some 114)) 88 39 (some 115)) 88 40 (some 116)) 88 41 (some 117)) 88 42 (some 118)) 88 44 (some 119)) 88 45 (some 120)) 88 46 (some 121)) 88 47 (some 122)) 88 48 (some 123)) 88 49 (some 124)) 88 50 (some 125)) 88 53 (some 126)) 88 54 (some 127)) 88 55 (some 128)) 88 56 (some 129)) 88 59 (some 130)) 88 60 (some 131)) 88 63 (some 132)) 88 64 (some 133)) 88 65 (some 134)) 88 66 (some 135)) 88 68 (some 136)) 88 69 (some 137)) 88 70 (some 138)) 125 48
theorem modM_f {M : gM} (hM : fM 89 M) : fM 139 (modM M) := itw_f ((((((((((((((((((((((((((((((((((((((((((((((((((((((((((((hM.up.R (by omega) (by omega)).up.R (by omega) (by omega)).up.R (by omega) (by omega)).up.R (by omega) (by omega)).up.L (by omega)).L (by omega)).L (by omega)).L (by omega)).L (by omega)).L (by omega)).L (by omega)).L (by omega)).L (by omega)).L (by omega)).R (by omega) (by omega)).up.R (by omega) (by omega)).up.R (by omega) (by omega)).up.R (by omega) (by omega)).up.R (by omega) (by omega)).up.R (by omega) (by omega)).up.R (by omega) (by omega)).up.R (by omega) (by omega)).up.R (by omega) (by omega)).up.R (by omega) (by omega)).up.R (by omega) (by omega)).up.R (by omega) (by omega)).up.R (by omega) (by omega)).up.R (by omega) (by omega)).up.R (by omega) (by omega)).up.R (by omega) (by omega)).up.R (by omega) (by omega)).up.R (by omega) (by omega)).up.R (by omega) (by omega)).up.R (by omega) (by omega)).up.R (by omega) (by omega)).up.R (by omega) (by omega)).up.R (by omega) (by omega)).up.R (by omega) (by omega)).up.R (by omega) (by omega)).up.R (by omega) (by omega)).up.R (by omega) (by omega)).up.R (by omega) (by omega)).up.R (by omega) (by omega)).up.R (by omega) (by omega)).up.R (by omega) (by omega)).up.R (by omega) (by omega)).up.R (by omega) (by omega)).up.R (by omega) (by omega)).up.R (by omega) (by omega)).up.R (by omega) (by omega)).up.R (by omega) (by omega)).up.R (by omega) (by omega)).up.R (by omega) (by omega)).up.R (by omega) (by omega)).up.R (by omega) (by omega)).up.R (by omega) (by omega)).up.R (by omega) (by omega)).up.R (by omega) (by omega)).up.R (by omega) (by omega)).up.R (by omega) (by omega)) (by omega) 48
set_option maxRecDepth 100000 in
set_option maxHeartbeats 1000000 in
theorem ct_X9_init {M : gM} (hM : fM 89 M) : gC 1 50 10921 yX9_init cX9_init 2 none 89 139 [.ref 88] M (gV (fun M9 => M9 = modM M)) := by
  refine gC_vI rfl rfl (Nat.le_of_ble_eq_true rfl) (fun G hI hG hE => ?_)
  change G (89, 0, 0) 0 [some (.ref 88), none] [] M
  refine r_aload_n hG dX9_init_0 rfl ?_
  refine r_obj hG ob_X9_18 obI obC dX9_init_1 (by decide) (Nat.le_of_ble_eq_true rfl) ?_
  refine r_aload_n hG dX9_init_4 rfl ?_
  refine r_sipush hG (600) dX9_init_5 (by decide) ?_
  refine r_newaI hG 600 arr_I dX9_init_8 rfl hM (by decide) rfl (by decide) (by decide) (by decide) (by simp [gRs]) (by simp [gRs]) ?_
  refine r_Z (90, 1, 600) rfl ?_
  refine r_putF hI 1 ff_X9_14 dX9_init_10 rfl (by decide) rfl (fun _ => rfl) (fun _ => rfl) ?_
  refine r_aload_n hG dX9_init_13 rfl ?_
  refine r_sipush hG (602) dX9_init_14 (by decide) ?_
  refine r_newaI hG 602 arr_I dX9_init_17 rfl (hM.up.R (by omega) (by omega)) (by decide) rfl (by decide) (by decide) (by decide) (by simp [gRs]) (by simp [gRs]) ?_
  refine r_Z (91, 2, 1202) rfl ?_
  refine r_putF hI 4 ff_X9_24 dX9_init_19 rfl (by decide) rfl (fun _ => rfl) (fun _ => rfl) ?_
  refine r_aload_n hG dX9_init_22 rfl ?_
  refine r_sipush hG (602) dX9_init_23 (by decide) ?_
  refine r_newaI hG 602 arr_I dX9_init_26 rfl ((hM.up.R (by omega) (by omega)).up.R (by omega) (by omega)) (by decide) rfl (by decide) (by decide) (by decide) (by simp [gRs]) (by simp [gRs]) ?_
  refine r_Z (92, 3, 1804) rfl ?_
  refine r_putF hI 5 ff_X9_27 dX9_init_28 rfl (by decide) rfl (fun _ => rfl) (fun _ => rfl) ?_
  refine r_aload_n hG dX9_init_31 rfl ?_
  refine r_sipush hG (602) dX9_init_32 (by decide) ?_
  refine r_newaJ hG 602 arr_J dX9_init_35 rfl (((hM.up.R (by omega) (by omega)).up.R (by omega) (by omega)).up.R (by omega) (by omega)) (by decide) rfl (by decide) (by decide) (by decide) (by simp [gRs]) (by simp [gRs]) ?_
  refine r_Z (93, 4, 2406) rfl ?_
  refine r_putF hI 6 ff_X9_30 dX9_init_37 rfl (by decide) rfl (fun _ => rfl) (fun _ => rfl) ?_
  refine r_aload_n hG dX9_init_40 rfl ?_
  refine r_bipush hG (10) dX9_init_41 (by decide) ?_
  refine r_newaJ hG 10 arr_J dX9_init_43 rfl ((((hM.up.R (by omega) (by omega)).up.R (by omega) (by omega)).up.R (by omega) (by omega)).up.R (by omega) (by omega)) (by decide) rfl (by decide) (by decide) (by decide) (by simp [gRs]) (by simp [gRs]) ?_
  refine r_Z (94, 5, 2416) rfl ?_
  refine r_dup hG dX9_init_45 rfl ?_
  refine r_iconst hG (0) dX9_init_46 (by decide) ?_
  refine r_ldc2 hG (412110) dX9_init_47 ck_X9_34 ?_
  refine r_last hG 0 dX9_init_50 rfl (by decide) rfl (by decide) (by decide) ?_
  refine r_dup hG dX9_init_51 rfl ?_
  refine r_iconst hG (1) dX9_init_52 (by decide) ?_
  refine r_ldc2 hG (4003679) dX9_init_53 ck_X9_36 ?_
  refine r_last hG 1 dX9_init_56 rfl (by decide) rfl (by decide) (by decide) ?_
  refine r_dup hG dX9_init_57 rfl ?_
  refine r_iconst hG (2) dX9_init_58 (by decide) ?_
  refine r_ldc2 hG (1176170) dX9_init_59 ck_X9_38 ?_
  refine r_last hG 2 dX9_init_62 rfl (by decide) rfl (by decide) (by decide) ?_
  refine r_dup hG dX9_init_63 rfl ?_
  refine r_iconst hG (3) dX9_init_64 (by decide) ?_
  refine r_ldc2 hG (1891) dX9_init_65 ck_X9_40 ?_
  refine r_last hG 3 dX9_init_68 rfl (by decide) rfl (by decide) (by decide) ?_
  refine r_dup hG dX9_init_69 rfl ?_
  refine r_iconst hG (4) dX9_init_70 (by decide) ?_
  refine r_ldc2 hG (5538) dX9_init_71 ck_X9_42 ?_
  refine r_last hG 4 dX9_init_74 rfl (by decide) rfl (by decide) (by decide) ?_
  refine r_dup hG dX9_init_75 rfl ?_
  refine r_iconst hG (5) dX9_init_76 (by decide) ?_
  refine r_ldc2 hG (1119656265) dX9_init_77 ck_X9_44 ?_
  refine r_last hG 5 dX9_init_80 rfl (by decide) rfl (by decide) (by decide) ?_
  refine r_dup hG dX9_init_81 rfl ?_
  refine r_bipush hG (6) dX9_init_82 (by decide) ?_
  refine r_ldc2 hG (148136142) dX9_init_84 ck_X9_46 ?_
  refine r_last hG 6 dX9_init_87 rfl (by decide) rfl (by decide) (by decide) ?_
  refine r_dup hG dX9_init_88 rfl ?_
  refine r_bipush hG (7) dX9_init_89 (by decide) ?_
  refine r_ldc2 hG (204925) dX9_init_91 ck_X9_48 ?_
  refine r_last hG 7 dX9_init_94 rfl (by decide) rfl (by decide) (by decide) ?_
  refine r_dup hG dX9_init_95 rfl ?_
  refine r_bipush hG (8) dX9_init_96 (by decide) ?_
  refine r_ldc2 hG (333123) dX9_init_98 ck_X9_50 ?_
  refine r_last hG 8 dX9_init_101 rfl (by decide) rfl (by decide) (by decide) ?_
  refine r_dup hG dX9_init_102 rfl ?_
  refine r_bipush hG (9) dX9_init_103 (by decide) ?_
  refine r_ldc2 hG (6167) dX9_init_105 ck_X9_52 ?_
  refine r_last hG 9 dX9_init_108 rfl (by decide) rfl (by decide) (by decide) ?_
  refine r_putF hI 9 ff_X9_54 dX9_init_109 rfl (by decide) rfl (fun _ => rfl) (fun _ => rfl) ?_
  refine r_aload_n hG dX9_init_112 rfl ?_
  refine r_iconst hG (2) dX9_init_113 (by decide) ?_
  refine r_newaI hG 2 arr_I dX9_init_114 rfl (((((((((((((((hM.up.R (by omega) (by omega)).up.R (by omega) (by omega)).up.R (by omega) (by omega)).up.R (by omega) (by omega)).up.L (by omega)).L (by omega)).L (by omega)).L (by omega)).L (by omega)).L (by omega)).L (by omega)).L (by omega)).L (by omega)).L (by omega)).R (by omega) (by omega)) (by decide) rfl (by decide) (by decide) (by decide) (by simp [gRs]) (by simp [gRs]) ?_
  refine r_Z (95, 6, 2418) rfl ?_
  refine r_putF hI 10 ff_X9_57 dX9_init_116 rfl (by decide) rfl (fun _ => rfl) (fun _ => rfl) ?_
  refine r_aload_n hG dX9_init_119 rfl ?_
  refine r_bipush hG (32) dX9_init_120 (by decide) ?_
  refine r_newaZ hG 32 arr_Z dX9_init_122 rfl ((((((((((((((((hM.up.R (by omega) (by omega)).up.R (by omega) (by omega)).up.R (by omega) (by omega)).up.R (by omega) (by omega)).up.L (by omega)).L (by omega)).L (by omega)).L (by omega)).L (by omega)).L (by omega)).L (by omega)).L (by omega)).L (by omega)).L (by omega)).R (by omega) (by omega)).up.R (by omega) (by omega)) (by decide) rfl (by decide) (by decide) (by decide) (by simp [gRs]) (by simp [gRs]) ?_
  refine r_Z (96, 7, 2450) rfl ?_
  refine r_putF hI 11 ff_X9_60 dX9_init_124 rfl (by decide) rfl (fun _ => rfl) (fun _ => rfl) ?_
  refine r_aload_n hG dX9_init_127 rfl ?_
  refine r_bipush hG (32) dX9_init_128 (by decide) ?_
  refine r_newaI hG 32 arr_I dX9_init_130 rfl (((((((((((((((((hM.up.R (by omega) (by omega)).up.R (by omega) (by omega)).up.R (by omega) (by omega)).up.R (by omega) (by omega)).up.L (by omega)).L (by omega)).L (by omega)).L (by omega)).L (by omega)).L (by omega)).L (by omega)).L (by omega)).L (by omega)).L (by omega)).R (by omega) (by omega)).up.R (by omega) (by omega)).up.R (by omega) (by omega)) (by decide) rfl (by decide) (by decide) (by decide) (by simp [gRs]) (by simp [gRs]) ?_
  refine r_Z (97, 8, 2482) rfl ?_
  refine r_putF hI 12 ff_X9_64 dX9_init_132 rfl (by decide) rfl (fun _ => rfl) (fun _ => rfl) ?_
  refine r_aload_n hG dX9_init_135 rfl ?_
  refine r_bipush hG (32) dX9_init_136 (by decide) ?_
  refine r_newaI hG 32 arr_I dX9_init_138 rfl ((((((((((((((((((hM.up.R (by omega) (by omega)).up.R (by omega) (by omega)).up.R (by omega) (by omega)).up.R (by omega) (by omega)).up.L (by omega)).L (by omega)).L (by omega)).L (by omega)).L (by omega)).L (by omega)).L (by omega)).L (by omega)).L (by omega)).L (by omega)).R (by omega) (by omega)).up.R (by omega) (by omega)).up.R (by omega) (by omega)).up.R (by omega) (by omega)) (by decide) rfl (by decide) (by decide) (by decide) (by simp [gRs]) (by simp [gRs]) ?_
  refine r_Z (98, 9, 2514) rfl ?_
  refine r_putF hI 13 ff_X9_67 dX9_init_140 rfl (by decide) rfl (fun _ => rfl) (fun _ => rfl) ?_
  refine r_aload_n hG dX9_init_143 rfl ?_
  refine r_sipush hG (1320) dX9_init_144 (by decide) ?_
  refine r_newaI hG 1320 arr_I dX9_init_147 rfl (((((((((((((((((((hM.up.R (by omega) (by omega)).up.R (by omega) (by omega)).up.R (by omega) (by omega)).up.R (by omega) (by omega)).up.L (by omega)).L (by omega)).L (by omega)).L (by omega)).L (by omega)).L (by omega)).L (by omega)).L (by omega)).L (by omega)).L (by omega)).R (by omega) (by omega)).up.R (by omega) (by omega)).up.R (by omega) (by omega)).up.R (by omega) (by omega)).up.R (by omega) (by omega)) (by decide) rfl (by decide) (by decide) (by decide) (by simp [gRs]) (by simp [gRs]) ?_
  refine r_Z (99, 10, 3834) rfl ?_
  refine r_putF hI 14 ff_X9_70 dX9_init_149 rfl (by decide) rfl (fun _ => rfl) (fun _ => rfl) ?_
  refine r_aload_n hG dX9_init_152 rfl ?_
  refine r_sipush hG (1320) dX9_init_153 (by decide) ?_
  refine r_newaI hG 1320 arr_I dX9_init_156 rfl ((((((((((((((((((((hM.up.R (by omega) (by omega)).up.R (by omega) (by omega)).up.R (by omega) (by omega)).up.R (by omega) (by omega)).up.L (by omega)).L (by omega)).L (by omega)).L (by omega)).L (by omega)).L (by omega)).L (by omega)).L (by omega)).L (by omega)).L (by omega)).R (by omega) (by omega)).up.R (by omega) (by omega)).up.R (by omega) (by omega)).up.R (by omega) (by omega)).up.R (by omega) (by omega)).up.R (by omega) (by omega)) (by decide) rfl (by decide) (by decide) (by decide) (by simp [gRs]) (by simp [gRs]) ?_
  refine r_Z (100, 11, 5154) rfl ?_
  refine r_putF hI 15 ff_X9_73 dX9_init_158 rfl (by decide) rfl (fun _ => rfl) (fun _ => rfl) ?_
  refine r_aload_n hG dX9_init_161 rfl ?_
  refine r_bipush hG (7) dX9_init_162 (by decide) ?_
  refine r_newaI hG 7 arr_I dX9_init_164 rfl (((((((((((((((((((((hM.up.R (by omega) (by omega)).up.R (by omega) (by omega)).up.R (by omega) (by omega)).up.R (by omega) (by omega)).up.L (by omega)).L (by omega)).L (by omega)).L (by omega)).L (by omega)).L (by omega)).L (by omega)).L (by omega)).L (by omega)).L (by omega)).R (by omega) (by omega)).up.R (by omega) (by omega)).up.R (by omega) (by omega)).up.R (by omega) (by omega)).up.R (by omega) (by omega)).up.R (by omega) (by omega)).up.R (by omega) (by omega)) (by decide) rfl (by decide) (by decide) (by decide) (by simp [gRs]) (by simp [gRs]) ?_
  refine r_Z (101, 12, 5161) rfl ?_
  refine r_putF hI 20 ff_X9_76 dX9_init_166 rfl (by decide) rfl (fun _ => rfl) (fun _ => rfl) ?_
  refine r_aload_n hG dX9_init_169 rfl ?_
  refine r_bipush hG (7) dX9_init_170 (by decide) ?_
  refine r_newaI hG 7 arr_I dX9_init_172 rfl ((((((((((((((((((((((hM.up.R (by omega) (by omega)).up.R (by omega) (by omega)).up.R (by omega) (by omega)).up.R (by omega) (by omega)).up.L (by omega)).L (by omega)).L (by omega)).L (by omega)).L (by omega)).L (by omega)).L (by omega)).L (by omega)).L (by omega)).L (by omega)).R (by omega) (by omega)).up.R (by omega) (by omega)).up.R (by omega) (by omega)).up.R (by omega) (by omega)).up.R (by omega) (by omega)).up.R (by omega) (by omega)).up.R (by omega) (by omega)).up.R (by omega) (by omega)) (by decide) rfl (by decide) (by decide) (by decide) (by simp [gRs]) (by simp [gRs]) ?_
  refine r_Z (102, 13, 5168) rfl ?_
  refine r_putF hI 21 ff_X9_79 dX9_init_174 rfl (by decide) rfl (fun _ => rfl) (fun _ => rfl) ?_
  refine r_aload_n hG dX9_init_177 rfl ?_
  refine r_bipush hG (7) dX9_init_178 (by decide) ?_
  refine r_newaI hG 7 arr_I dX9_init_180 rfl (((((((((((((((((((((((hM.up.R (by omega) (by omega)).up.R (by omega) (by omega)).up.R (by omega) (by omega)).up.R (by omega) (by omega)).up.L (by omega)).L (by omega)).L (by omega)).L (by omega)).L (by omega)).L (by omega)).L (by omega)).L (by omega)).L (by omega)).L (by omega)).R (by omega) (by omega)).up.R (by omega) (by omega)).up.R (by omega) (by omega)).up.R (by omega) (by omega)).up.R (by omega) (by omega)).up.R (by omega) (by omega)).up.R (by omega) (by omega)).up.R (by omega) (by omega)).up.R (by omega) (by omega)) (by decide) rfl (by decide) (by decide) (by decide) (by simp [gRs]) (by simp [gRs]) ?_
  refine r_Z (103, 14, 5175) rfl ?_
  refine r_putF hI 22 ff_X9_82 dX9_init_182 rfl (by decide) rfl (fun _ => rfl) (fun _ => rfl) ?_
  refine r_aload_n hG dX9_init_185 rfl ?_
  refine r_bipush hG (6) dX9_init_186 (by decide) ?_
  refine r_newaI hG 6 arr_I dX9_init_188 rfl ((((((((((((((((((((((((hM.up.R (by omega) (by omega)).up.R (by omega) (by omega)).up.R (by omega) (by omega)).up.R (by omega) (by omega)).up.L (by omega)).L (by omega)).L (by omega)).L (by omega)).L (by omega)).L (by omega)).L (by omega)).L (by omega)).L (by omega)).L (by omega)).R (by omega) (by omega)).up.R (by omega) (by omega)).up.R (by omega) (by omega)).up.R (by omega) (by omega)).up.R (by omega) (by omega)).up.R (by omega) (by omega)).up.R (by omega) (by omega)).up.R (by omega) (by omega)).up.R (by omega) (by omega)).up.R (by omega) (by omega)) (by decide) rfl (by decide) (by decide) (by decide) (by simp [gRs]) (by simp [gRs]) ?_
  refine r_Z (104, 15, 5181) rfl ?_
  refine r_putF hI 23 ff_X9_85 dX9_init_190 rfl (by decide) rfl (fun _ => rfl) (fun _ => rfl) ?_
  refine r_aload_n hG dX9_init_193 rfl ?_
  refine r_sipush hG (660) dX9_init_194 (by decide) ?_
  refine r_newaI hG 660 arr_I dX9_init_197 rfl (((((((((((((((((((((((((hM.up.R (by omega) (by omega)).up.R (by omega) (by omega)).up.R (by omega) (by omega)).up.R (by omega) (by omega)).up.L (by omega)).L (by omega)).L (by omega)).L (by omega)).L (by omega)).L (by omega)).L (by omega)).L (by omega)).L (by omega)).L (by omega)).R (by omega) (by omega)).up.R (by omega) (by omega)).up.R (by omega) (by omega)).up.R (by omega) (by omega)).up.R (by omega) (by omega)).up.R (by omega) (by omega)).up.R (by omega) (by omega)).up.R (by omega) (by omega)).up.R (by omega) (by omega)).up.R (by omega) (by omega)).up.R (by omega) (by omega)) (by decide) rfl (by decide) (by decide) (by decide) (by simp [gRs]) (by simp [gRs]) ?_
  refine r_Z (105, 16, 5841) rfl ?_
  refine r_putF hI 24 ff_X9_88 dX9_init_199 rfl (by decide) rfl (fun _ => rfl) (fun _ => rfl) ?_
  refine r_aload_n hG dX9_init_202 rfl ?_
  refine r_bipush hG (12) dX9_init_203 (by decide) ?_
  refine r_newaI hG 12 arr_I dX9_init_205 rfl ((((((((((((((((((((((((((hM.up.R (by omega) (by omega)).up.R (by omega) (by omega)).up.R (by omega) (by omega)).up.R (by omega) (by omega)).up.L (by omega)).L (by omega)).L (by omega)).L (by omega)).L (by omega)).L (by omega)).L (by omega)).L (by omega)).L (by omega)).L (by omega)).R (by omega) (by omega)).up.R (by omega) (by omega)).up.R (by omega) (by omega)).up.R (by omega) (by omega)).up.R (by omega) (by omega)).up.R (by omega) (by omega)).up.R (by omega) (by omega)).up.R (by omega) (by omega)).up.R (by omega) (by omega)).up.R (by omega) (by omega)).up.R (by omega) (by omega)).up.R (by omega) (by omega)) (by decide) rfl (by decide) (by decide) (by decide) (by simp [gRs]) (by simp [gRs]) ?_
  refine r_Z (106, 17, 5853) rfl ?_
  refine r_putF hI 27 ff_X9_91 dX9_init_207 rfl (by decide) rfl (fun _ => rfl) (fun _ => rfl) ?_
  refine r_aload_n hG dX9_init_210 rfl ?_
  refine r_bipush hG (12) dX9_init_211 (by decide) ?_
  refine r_newaI hG 12 arr_I dX9_init_213 rfl (((((((((((((((((((((((((((hM.up.R (by omega) (by omega)).up.R (by omega) (by omega)).up.R (by omega) (by omega)).up.R (by omega) (by omega)).up.L (by omega)).L (by omega)).L (by omega)).L (by omega)).L (by omega)).L (by omega)).L (by omega)).L (by omega)).L (by omega)).L (by omega)).R (by omega) (by omega)).up.R (by omega) (by omega)).up.R (by omega) (by omega)).up.R (by omega) (by omega)).up.R (by omega) (by omega)).up.R (by omega) (by omega)).up.R (by omega) (by omega)).up.R (by omega) (by omega)).up.R (by omega) (by omega)).up.R (by omega) (by omega)).up.R (by omega) (by omega)).up.R (by omega) (by omega)).up.R (by omega) (by omega)) (by decide) rfl (by decide) (by decide) (by decide) (by simp [gRs]) (by simp [gRs]) ?_
  refine r_Z (107, 18, 5865) rfl ?_
  refine r_putF hI 28 ff_X9_94 dX9_init_215 rfl (by decide) rfl (fun _ => rfl) (fun _ => rfl) ?_
  refine r_aload_n hG dX9_init_218 rfl ?_
  refine r_bipush hG (12) dX9_init_219 (by decide) ?_
  refine r_newaI hG 12 arr_I dX9_init_221 rfl ((((((((((((((((((((((((((((hM.up.R (by omega) (by omega)).up.R (by omega) (by omega)).up.R (by omega) (by omega)).up.R (by omega) (by omega)).up.L (by omega)).L (by omega)).L (by omega)).L (by omega)).L (by omega)).L (by omega)).L (by omega)).L (by omega)).L (by omega)).L (by omega)).R (by omega) (by omega)).up.R (by omega) (by omega)).up.R (by omega) (by omega)).up.R (by omega) (by omega)).up.R (by omega) (by omega)).up.R (by omega) (by omega)).up.R (by omega) (by omega)).up.R (by omega) (by omega)).up.R (by omega) (by omega)).up.R (by omega) (by omega)).up.R (by omega) (by omega)).up.R (by omega) (by omega)).up.R (by omega) (by omega)).up.R (by omega) (by omega)) (by decide) rfl (by decide) (by decide) (by decide) (by simp [gRs]) (by simp [gRs]) ?_
  refine r_Z (108, 19, 5877) rfl ?_
  refine r_putF hI 29 ff_X9_97 dX9_init_223 rfl (by decide) rfl (fun _ => rfl) (fun _ => rfl) ?_
  refine r_aload_n hG dX9_init_226 rfl ?_
  refine r_bipush hG (12) dX9_init_227 (by decide) ?_
  refine r_newaI hG 12 arr_I dX9_init_229 rfl (((((((((((((((((((((((((((((hM.up.R (by omega) (by omega)).up.R (by omega) (by omega)).up.R (by omega) (by omega)).up.R (by omega) (by omega)).up.L (by omega)).L (by omega)).L (by omega)).L (by omega)).L (by omega)).L (by omega)).L (by omega)).L (by omega)).L (by omega)).L (by omega)).R (by omega) (by omega)).up.R (by omega) (by omega)).up.R (by omega) (by omega)).up.R (by omega) (by omega)).up.R (by omega) (by omega)).up.R (by omega) (by omega)).up.R (by omega) (by omega)).up.R (by omega) (by omega)).up.R (by omega) (by omega)).up.R (by omega) (by omega)).up.R (by omega) (by omega)).up.R (by omega) (by omega)).up.R (by omega) (by omega)).up.R (by omega) (by omega)).up.R (by omega) (by omega)) (by decide) rfl (by decide) (by decide) (by decide) (by simp [gRs]) (by simp [gRs]) ?_
  refine r_Z (109, 20, 5889) rfl ?_
  refine r_putF hI 30 ff_X9_100 dX9_init_231 rfl (by decide) rfl (fun _ => rfl) (fun _ => rfl) ?_
  refine r_aload_n hG dX9_init_234 rfl ?_
  refine r_bipush hG (12) dX9_init_235 (by decide) ?_
  refine r_newaI hG 12 arr_I dX9_init_237 rfl ((((((((((((((((((((((((((((((hM.up.R (by omega) (by omega)).up.R (by omega) (by omega)).up.R (by omega) (by omega)).up.R (by omega) (by omega)).up.L (by omega)).L (by omega)).L (by omega)).L (by omega)).L (by omega)).L (by omega)).L (by omega)).L (by omega)).L (by omega)).L (by omega)).R (by omega) (by omega)).up.R (by omega) (by omega)).up.R (by omega) (by omega)).up.R (by omega) (by omega)).up.R (by omega) (by omega)).up.R (by omega) (by omega)).up.R (by omega) (by omega)).up.R (by omega) (by omega)).up.R (by omega) (by omega)).up.R (by omega) (by omega)).up.R (by omega) (by omega)).up.R (by omega) (by omega)).up.R (by omega) (by omega)).up.R (by omega) (by omega)).up.R (by omega) (by omega)).up.R (by omega) (by omega)) (by decide) rfl (by decide) (by decide) (by decide) (by simp [gRs]) (by simp [gRs]) ?_
  refine r_Z (110, 21, 5901) rfl ?_
  refine r_putF hI 31 ff_X9_103 dX9_init_239 rfl (by decide) rfl (fun _ => rfl) (fun _ => rfl) ?_
  refine r_aload_n hG dX9_init_242 rfl ?_
  refine r_bipush hG (12) dX9_init_243 (by decide) ?_
  refine r_newaI hG 12 arr_I dX9_init_245 rfl (((((((((((((((((((((((((((((((hM.up.R (by omega) (by omega)).up.R (by omega) (by omega)).up.R (by omega) (by omega)).up.R (by omega) (by omega)).up.L (by omega)).L (by omega)).L (by omega)).L (by omega)).L (by omega)).L (by omega)).L (by omega)).L (by omega)).L (by omega)).L (by omega)).R (by omega) (by omega)).up.R (by omega) (by omega)).up.R (by omega) (by omega)).up.R (by omega) (by omega)).up.R (by omega) (by omega)).up.R (by omega) (by omega)).up.R (by omega) (by omega)).up.R (by omega) (by omega)).up.R (by omega) (by omega)).up.R (by omega) (by omega)).up.R (by omega) (by omega)).up.R (by omega) (by omega)).up.R (by omega) (by omega)).up.R (by omega) (by omega)).up.R (by omega) (by omega)).up.R (by omega) (by omega)).up.R (by omega) (by omega)) (by decide) rfl (by decide) (by decide) (by decide) (by simp [gRs]) (by simp [gRs]) ?_
  refine r_Z (111, 22, 5913) rfl ?_
  refine r_putF hI 32 ff_X9_106 dX9_init_247 rfl (by decide) rfl (fun _ => rfl) (fun _ => rfl) ?_
  refine r_aload_n hG dX9_init_250 rfl ?_
  refine r_bipush hG (12) dX9_init_251 (by decide) ?_
  refine r_newaI hG 12 arr_I dX9_init_253 rfl ((((((((((((((((((((((((((((((((hM.up.R (by omega) (by omega)).up.R (by omega) (by omega)).up.R (by omega) (by omega)).up.R (by omega) (by omega)).up.L (by omega)).L (by omega)).L (by omega)).L (by omega)).L (by omega)).L (by omega)).L (by omega)).L (by omega)).L (by omega)).L (by omega)).R (by omega) (by omega)).up.R (by omega) (by omega)).up.R (by omega) (by omega)).up.R (by omega) (by omega)).up.R (by omega) (by omega)).up.R (by omega) (by omega)).up.R (by omega) (by omega)).up.R (by omega) (by omega)).up.R (by omega) (by omega)).up.R (by omega) (by omega)).up.R (by omega) (by omega)).up.R (by omega) (by omega)).up.R (by omega) (by omega)).up.R (by omega) (by omega)).up.R (by omega) (by omega)).up.R (by omega) (by omega)).up.R (by omega) (by omega)).up.R (by omega) (by omega)) (by decide) rfl (by decide) (by decide) (by decide) (by simp [gRs]) (by simp [gRs]) ?_
  refine r_Z (112, 23, 5925) rfl ?_
  refine r_putF hI 33 ff_X9_109 dX9_init_255 rfl (by decide) rfl (fun _ => rfl) (fun _ => rfl) ?_
  refine r_aload_n hG dX9_init_258 rfl ?_
  refine r_bipush hG (12) dX9_init_259 (by decide) ?_
  refine r_newaI hG 12 arr_I dX9_init_261 rfl (((((((((((((((((((((((((((((((((hM.up.R (by omega) (by omega)).up.R (by omega) (by omega)).up.R (by omega) (by omega)).up.R (by omega) (by omega)).up.L (by omega)).L (by omega)).L (by omega)).L (by omega)).L (by omega)).L (by omega)).L (by omega)).L (by omega)).L (by omega)).L (by omega)).R (by omega) (by omega)).up.R (by omega) (by omega)).up.R (by omega) (by omega)).up.R (by omega) (by omega)).up.R (by omega) (by omega)).up.R (by omega) (by omega)).up.R (by omega) (by omega)).up.R (by omega) (by omega)).up.R (by omega) (by omega)).up.R (by omega) (by omega)).up.R (by omega) (by omega)).up.R (by omega) (by omega)).up.R (by omega) (by omega)).up.R (by omega) (by omega)).up.R (by omega) (by omega)).up.R (by omega) (by omega)).up.R (by omega) (by omega)).up.R (by omega) (by omega)).up.R (by omega) (by omega)) (by decide) rfl (by decide) (by decide) (by decide) (by simp [gRs]) (by simp [gRs]) ?_
  refine r_Z (113, 24, 5937) rfl ?_
  refine r_putF hI 34 ff_X9_112 dX9_init_263 rfl (by decide) rfl (fun _ => rfl) (fun _ => rfl) ?_
  refine r_aload_n hG dX9_init_266 rfl ?_
  refine r_sipush hG (4800) dX9_init_267 (by decide) ?_
  refine r_newaI hG 4800 arr_I dX9_init_270 rfl ((((((((((((((((((((((((((((((((((hM.up.R (by omega) (by omega)).up.R (by omega) (by omega)).up.R (by omega) (by omega)).up.R (by omega) (by omega)).up.L (by omega)).L (by omega)).L (by omega)).L (by omega)).L (by omega)).L (by omega)).L (by omega)).L (by omega)).L (by omega)).L (by omega)).R (by omega) (by omega)).up.R (by omega) (by omega)).up.R (by omega) (by omega)).up.R (by omega) (by omega)).up.R (by omega) (by omega)).up.R (by omega) (by omega)).up.R (by omega) (by omega)).up.R (by omega) (by omega)).up.R (by omega) (by omega)).up.R (by omega) (by omega)).up.R (by omega) (by omega)).up.R (by omega) (by omega)).up.R (by omega) (by omega)).up.R (by omega) (by omega)).up.R (by omega) (by omega)).up.R (by omega) (by omega)).up.R (by omega) (by omega)).up.R (by omega) (by omega)).up.R (by omega) (by omega)).up.R (by omega) (by omega)) (by decide) rfl (by decide) (by decide) (by decide) (by simp [gRs]) (by simp [gRs]) ?_
  refine r_Z (114, 25, 10737) rfl ?_
  refine r_putF hI 35 ff_X9_115 dX9_init_272 rfl (by decide) rfl (fun _ => rfl) (fun _ => rfl) ?_
  refine r_aload_n hG dX9_init_275 rfl ?_
  refine r_bipush hG (12) dX9_init_276 (by decide) ?_
  refine r_newaZ hG 12 arr_Z dX9_init_278 rfl (((((((((((((((((((((((((((((((((((hM.up.R (by omega) (by omega)).up.R (by omega) (by omega)).up.R (by omega) (by omega)).up.R (by omega) (by omega)).up.L (by omega)).L (by omega)).L (by omega)).L (by omega)).L (by omega)).L (by omega)).L (by omega)).L (by omega)).L (by omega)).L (by omega)).R (by omega) (by omega)).up.R (by omega) (by omega)).up.R (by omega) (by omega)).up.R (by omega) (by omega)).up.R (by omega) (by omega)).up.R (by omega) (by omega)).up.R (by omega) (by omega)).up.R (by omega) (by omega)).up.R (by omega) (by omega)).up.R (by omega) (by omega)).up.R (by omega) (by omega)).up.R (by omega) (by omega)).up.R (by omega) (by omega)).up.R (by omega) (by omega)).up.R (by omega) (by omega)).up.R (by omega) (by omega)).up.R (by omega) (by omega)).up.R (by omega) (by omega)).up.R (by omega) (by omega)).up.R (by omega) (by omega)).up.R (by omega) (by omega)) (by decide) rfl (by decide) (by decide) (by decide) (by simp [gRs]) (by simp [gRs]) ?_
  refine r_Z (115, 26, 10749) rfl ?_
  refine r_putF hI 36 ff_X9_118 dX9_init_280 rfl (by decide) rfl (fun _ => rfl) (fun _ => rfl) ?_
  refine r_aload_n hG dX9_init_283 rfl ?_
  refine r_iconst hG (4) dX9_init_284 (by decide) ?_
  refine r_newaI hG 4 arr_I dX9_init_285 rfl ((((((((((((((((((((((((((((((((((((hM.up.R (by omega) (by omega)).up.R (by omega) (by omega)).up.R (by omega) (by omega)).up.R (by omega) (by omega)).up.L (by omega)).L (by omega)).L (by omega)).L (by omega)).L (by omega)).L (by omega)).L (by omega)).L (by omega)).L (by omega)).L (by omega)).R (by omega) (by omega)).up.R (by omega) (by omega)).up.R (by omega) (by omega)).up.R (by omega) (by omega)).up.R (by omega) (by omega)).up.R (by omega) (by omega)).up.R (by omega) (by omega)).up.R (by omega) (by omega)).up.R (by omega) (by omega)).up.R (by omega) (by omega)).up.R (by omega) (by omega)).up.R (by omega) (by omega)).up.R (by omega) (by omega)).up.R (by omega) (by omega)).up.R (by omega) (by omega)).up.R (by omega) (by omega)).up.R (by omega) (by omega)).up.R (by omega) (by omega)).up.R (by omega) (by omega)).up.R (by omega) (by omega)).up.R (by omega) (by omega)).up.R (by omega) (by omega)) (by decide) rfl (by decide) (by decide) (by decide) (by simp [gRs]) (by simp [gRs]) ?_
  refine r_Z (116, 27, 10753) rfl ?_
  refine r_putF hI 39 ff_X9_121 dX9_init_287 rfl (by decide) rfl (fun _ => rfl) (fun _ => rfl) ?_
  refine r_aload_n hG dX9_init_290 rfl ?_
  refine r_iconst hG (4) dX9_init_291 (by decide) ?_
  refine r_newaI hG 4 arr_I dX9_init_292 rfl (((((((((((((((((((((((((((((((((((((hM.up.R (by omega) (by omega)).up.R (by omega) (by omega)).up.R (by omega) (by omega)).up.R (by omega) (by omega)).up.L (by omega)).L (by omega)).L (by omega)).L (by omega)).L (by omega)).L (by omega)).L (by omega)).L (by omega)).L (by omega)).L (by omega)).R (by omega) (by omega)).up.R (by omega) (by omega)).up.R (by omega) (by omega)).up.R (by omega) (by omega)).up.R (by omega) (by omega)).up.R (by omega) (by omega)).up.R (by omega) (by omega)).up.R (by omega) (by omega)).up.R (by omega) (by omega)).up.R (by omega) (by omega)).up.R (by omega) (by omega)).up.R (by omega) (by omega)).up.R (by omega) (by omega)).up.R (by omega) (by omega)).up.R (by omega) (by omega)).up.R (by omega) (by omega)).up.R (by omega) (by omega)).up.R (by omega) (by omega)).up.R (by omega) (by omega)).up.R (by omega) (by omega)).up.R (by omega) (by omega)).up.R (by omega) (by omega)).up.R (by omega) (by omega)) (by decide) rfl (by decide) (by decide) (by decide) (by simp [gRs]) (by simp [gRs]) ?_
  refine r_Z (117, 28, 10757) rfl ?_
  refine r_putF hI 40 ff_X9_124 dX9_init_294 rfl (by decide) rfl (fun _ => rfl) (fun _ => rfl) ?_
  refine r_aload_n hG dX9_init_297 rfl ?_
  refine r_iconst hG (4) dX9_init_298 (by decide) ?_
  refine r_newaI hG 4 arr_I dX9_init_299 rfl ((((((((((((((((((((((((((((((((((((((hM.up.R (by omega) (by omega)).up.R (by omega) (by omega)).up.R (by omega) (by omega)).up.R (by omega) (by omega)).up.L (by omega)).L (by omega)).L (by omega)).L (by omega)).L (by omega)).L (by omega)).L (by omega)).L (by omega)).L (by omega)).L (by omega)).R (by omega) (by omega)).up.R (by omega) (by omega)).up.R (by omega) (by omega)).up.R (by omega) (by omega)).up.R (by omega) (by omega)).up.R (by omega) (by omega)).up.R (by omega) (by omega)).up.R (by omega) (by omega)).up.R (by omega) (by omega)).up.R (by omega) (by omega)).up.R (by omega) (by omega)).up.R (by omega) (by omega)).up.R (by omega) (by omega)).up.R (by omega) (by omega)).up.R (by omega) (by omega)).up.R (by omega) (by omega)).up.R (by omega) (by omega)).up.R (by omega) (by omega)).up.R (by omega) (by omega)).up.R (by omega) (by omega)).up.R (by omega) (by omega)).up.R (by omega) (by omega)).up.R (by omega) (by omega)).up.R (by omega) (by omega)) (by decide) rfl (by decide) (by decide) (by decide) (by simp [gRs]) (by simp [gRs]) ?_
  refine r_Z (118, 29, 10761) rfl ?_
  refine r_putF hI 41 ff_X9_127 dX9_init_301 rfl (by decide) rfl (fun _ => rfl) (fun _ => rfl) ?_
  refine r_aload_n hG dX9_init_304 rfl ?_
  refine r_iconst hG (4) dX9_init_305 (by decide) ?_
  refine r_newaI hG 4 arr_I dX9_init_306 rfl (((((((((((((((((((((((((((((((((((((((hM.up.R (by omega) (by omega)).up.R (by omega) (by omega)).up.R (by omega) (by omega)).up.R (by omega) (by omega)).up.L (by omega)).L (by omega)).L (by omega)).L (by omega)).L (by omega)).L (by omega)).L (by omega)).L (by omega)).L (by omega)).L (by omega)).R (by omega) (by omega)).up.R (by omega) (by omega)).up.R (by omega) (by omega)).up.R (by omega) (by omega)).up.R (by omega) (by omega)).up.R (by omega) (by omega)).up.R (by omega) (by omega)).up.R (by omega) (by omega)).up.R (by omega) (by omega)).up.R (by omega) (by omega)).up.R (by omega) (by omega)).up.R (by omega) (by omega)).up.R (by omega) (by omega)).up.R (by omega) (by omega)).up.R (by omega) (by omega)).up.R (by omega) (by omega)).up.R (by omega) (by omega)).up.R (by omega) (by omega)).up.R (by omega) (by omega)).up.R (by omega) (by omega)).up.R (by omega) (by omega)).up.R (by omega) (by omega)).up.R (by omega) (by omega)).up.R (by omega) (by omega)).up.R (by omega) (by omega)) (by decide) rfl (by decide) (by decide) (by decide) (by simp [gRs]) (by simp [gRs]) ?_
  refine r_Z (119, 30, 10765) rfl ?_
  refine r_putF hI 42 ff_X9_130 dX9_init_308 rfl (by decide) rfl (fun _ => rfl) (fun _ => rfl) ?_
  refine r_aload_n hG dX9_init_311 rfl ?_
  refine r_iconst hG (4) dX9_init_312 (by decide) ?_
  refine r_newaI hG 4 arr_I dX9_init_313 rfl ((((((((((((((((((((((((((((((((((((((((hM.up.R (by omega) (by omega)).up.R (by omega) (by omega)).up.R (by omega) (by omega)).up.R (by omega) (by omega)).up.L (by omega)).L (by omega)).L (by omega)).L (by omega)).L (by omega)).L (by omega)).L (by omega)).L (by omega)).L (by omega)).L (by omega)).R (by omega) (by omega)).up.R (by omega) (by omega)).up.R (by omega) (by omega)).up.R (by omega) (by omega)).up.R (by omega) (by omega)).up.R (by omega) (by omega)).up.R (by omega) (by omega)).up.R (by omega) (by omega)).up.R (by omega) (by omega)).up.R (by omega) (by omega)).up.R (by omega) (by omega)).up.R (by omega) (by omega)).up.R (by omega) (by omega)).up.R (by omega) (by omega)).up.R (by omega) (by omega)).up.R (by omega) (by omega)).up.R (by omega) (by omega)).up.R (by omega) (by omega)).up.R (by omega) (by omega)).up.R (by omega) (by omega)).up.R (by omega) (by omega)).up.R (by omega) (by omega)).up.R (by omega) (by omega)).up.R (by omega) (by omega)).up.R (by omega) (by omega)).up.R (by omega) (by omega)) (by decide) rfl (by decide) (by decide) (by decide) (by simp [gRs]) (by simp [gRs]) ?_
  refine r_Z (120, 31, 10769) rfl ?_
  refine r_putF hI 44 ff_X9_133 dX9_init_315 rfl (by decide) rfl (fun _ => rfl) (fun _ => rfl) ?_
  refine r_aload_n hG dX9_init_318 rfl ?_
  refine r_iconst hG (4) dX9_init_319 (by decide) ?_
  refine r_newaI hG 4 arr_I dX9_init_320 rfl (((((((((((((((((((((((((((((((((((((((((hM.up.R (by omega) (by omega)).up.R (by omega) (by omega)).up.R (by omega) (by omega)).up.R (by omega) (by omega)).up.L (by omega)).L (by omega)).L (by omega)).L (by omega)).L (by omega)).L (by omega)).L (by omega)).L (by omega)).L (by omega)).L (by omega)).R (by omega) (by omega)).up.R (by omega) (by omega)).up.R (by omega) (by omega)).up.R (by omega) (by omega)).up.R (by omega) (by omega)).up.R (by omega) (by omega)).up.R (by omega) (by omega)).up.R (by omega) (by omega)).up.R (by omega) (by omega)).up.R (by omega) (by omega)).up.R (by omega) (by omega)).up.R (by omega) (by omega)).up.R (by omega) (by omega)).up.R (by omega) (by omega)).up.R (by omega) (by omega)).up.R (by omega) (by omega)).up.R (by omega) (by omega)).up.R (by omega) (by omega)).up.R (by omega) (by omega)).up.R (by omega) (by omega)).up.R (by omega) (by omega)).up.R (by omega) (by omega)).up.R (by omega) (by omega)).up.R (by omega) (by omega)).up.R (by omega) (by omega)).up.R (by omega) (by omega)).up.R (by omega) (by omega)) (by decide) rfl (by decide) (by decide) (by decide) (by simp [gRs]) (by simp [gRs]) ?_
  refine r_Z (121, 32, 10773) rfl ?_
  refine r_putF hI 45 ff_X9_136 dX9_init_322 rfl (by decide) rfl (fun _ => rfl) (fun _ => rfl) ?_
  refine r_aload_n hG dX9_init_325 rfl ?_
  refine r_iconst hG (4) dX9_init_326 (by decide) ?_
  refine r_newaI hG 4 arr_I dX9_init_327 rfl ((((((((((((((((((((((((((((((((((((((((((hM.up.R (by omega) (by omega)).up.R (by omega) (by omega)).up.R (by omega) (by omega)).up.R (by omega) (by omega)).up.L (by omega)).L (by omega)).L (by omega)).L (by omega)).L (by omega)).L (by omega)).L (by omega)).L (by omega)).L (by omega)).L (by omega)).R (by omega) (by omega)).up.R (by omega) (by omega)).up.R (by omega) (by omega)).up.R (by omega) (by omega)).up.R (by omega) (by omega)).up.R (by omega) (by omega)).up.R (by omega) (by omega)).up.R (by omega) (by omega)).up.R (by omega) (by omega)).up.R (by omega) (by omega)).up.R (by omega) (by omega)).up.R (by omega) (by omega)).up.R (by omega) (by omega)).up.R (by omega) (by omega)).up.R (by omega) (by omega)).up.R (by omega) (by omega)).up.R (by omega) (by omega)).up.R (by omega) (by omega)).up.R (by omega) (by omega)).up.R (by omega) (by omega)).up.R (by omega) (by omega)).up.R (by omega) (by omega)).up.R (by omega) (by omega)).up.R (by omega) (by omega)).up.R (by omega) (by omega)).up.R (by omega) (by omega)).up.R (by omega) (by omega)).up.R (by omega) (by omega)) (by decide) rfl (by decide) (by decide) (by decide) (by simp [gRs]) (by simp [gRs]) ?_
  refine r_Z (122, 33, 10777) rfl ?_
  refine r_putF hI 46 ff_X9_139 dX9_init_329 rfl (by decide) rfl (fun _ => rfl) (fun _ => rfl) ?_
  refine r_aload_n hG dX9_init_332 rfl ?_
  refine r_iconst hG (4) dX9_init_333 (by decide) ?_
  refine r_newaI hG 4 arr_I dX9_init_334 rfl (((((((((((((((((((((((((((((((((((((((((((hM.up.R (by omega) (by omega)).up.R (by omega) (by omega)).up.R (by omega) (by omega)).up.R (by omega) (by omega)).up.L (by omega)).L (by omega)).L (by omega)).L (by omega)).L (by omega)).L (by omega)).L (by omega)).L (by omega)).L (by omega)).L (by omega)).R (by omega) (by omega)).up.R (by omega) (by omega)).up.R (by omega) (by omega)).up.R (by omega) (by omega)).up.R (by omega) (by omega)).up.R (by omega) (by omega)).up.R (by omega) (by omega)).up.R (by omega) (by omega)).up.R (by omega) (by omega)).up.R (by omega) (by omega)).up.R (by omega) (by omega)).up.R (by omega) (by omega)).up.R (by omega) (by omega)).up.R (by omega) (by omega)).up.R (by omega) (by omega)).up.R (by omega) (by omega)).up.R (by omega) (by omega)).up.R (by omega) (by omega)).up.R (by omega) (by omega)).up.R (by omega) (by omega)).up.R (by omega) (by omega)).up.R (by omega) (by omega)).up.R (by omega) (by omega)).up.R (by omega) (by omega)).up.R (by omega) (by omega)).up.R (by omega) (by omega)).up.R (by omega) (by omega)).up.R (by omega) (by omega)).up.R (by omega) (by omega)) (by decide) rfl (by decide) (by decide) (by decide) (by simp [gRs]) (by simp [gRs]) ?_
  refine r_Z (123, 34, 10781) rfl ?_
  refine r_putF hI 47 ff_X9_142 dX9_init_336 rfl (by decide) rfl (fun _ => rfl) (fun _ => rfl) ?_
  refine r_aload_n hG dX9_init_339 rfl ?_
  refine r_iconst hG (4) dX9_init_340 (by decide) ?_
  refine r_newaI hG 4 arr_I dX9_init_341 rfl ((((((((((((((((((((((((((((((((((((((((((((hM.up.R (by omega) (by omega)).up.R (by omega) (by omega)).up.R (by omega) (by omega)).up.R (by omega) (by omega)).up.L (by omega)).L (by omega)).L (by omega)).L (by omega)).L (by omega)).L (by omega)).L (by omega)).L (by omega)).L (by omega)).L (by omega)).R (by omega) (by omega)).up.R (by omega) (by omega)).up.R (by omega) (by omega)).up.R (by omega) (by omega)).up.R (by omega) (by omega)).up.R (by omega) (by omega)).up.R (by omega) (by omega)).up.R (by omega) (by omega)).up.R (by omega) (by omega)).up.R (by omega) (by omega)).up.R (by omega) (by omega)).up.R (by omega) (by omega)).up.R (by omega) (by omega)).up.R (by omega) (by omega)).up.R (by omega) (by omega)).up.R (by omega) (by omega)).up.R (by omega) (by omega)).up.R (by omega) (by omega)).up.R (by omega) (by omega)).up.R (by omega) (by omega)).up.R (by omega) (by omega)).up.R (by omega) (by omega)).up.R (by omega) (by omega)).up.R (by omega) (by omega)).up.R (by omega) (by omega)).up.R (by omega) (by omega)).up.R (by omega) (by omega)).up.R (by omega) (by omega)).up.R (by omega) (by omega)).up.R (by omega) (by omega)) (by decide) rfl (by decide) (by decide) (by decide) (by simp [gRs]) (by simp [gRs]) ?_
  refine r_Z (124, 35, 10785) rfl ?_
  refine r_putF hI 48 ff_X9_145 dX9_init_343 rfl (by decide) rfl (fun _ => rfl) (fun _ => rfl) ?_
  refine r_aload_n hG dX9_init_346 rfl ?_
  refine r_iconst hG (4) dX9_init_347 (by decide) ?_
  refine r_newaI hG 4 arr_I dX9_init_348 rfl (((((((((((((((((((((((((((((((((((((((((((((hM.up.R (by omega) (by omega)).up.R (by omega) (by omega)).up.R (by omega) (by omega)).up.R (by omega) (by omega)).up.L (by omega)).L (by omega)).L (by omega)).L (by omega)).L (by omega)).L (by omega)).L (by omega)).L (by omega)).L (by omega)).L (by omega)).R (by omega) (by omega)).up.R (by omega) (by omega)).up.R (by omega) (by omega)).up.R (by omega) (by omega)).up.R (by omega) (by omega)).up.R (by omega) (by omega)).up.R (by omega) (by omega)).up.R (by omega) (by omega)).up.R (by omega) (by omega)).up.R (by omega) (by omega)).up.R (by omega) (by omega)).up.R (by omega) (by omega)).up.R (by omega) (by omega)).up.R (by omega) (by omega)).up.R (by omega) (by omega)).up.R (by omega) (by omega)).up.R (by omega) (by omega)).up.R (by omega) (by omega)).up.R (by omega) (by omega)).up.R (by omega) (by omega)).up.R (by omega) (by omega)).up.R (by omega) (by omega)).up.R (by omega) (by omega)).up.R (by omega) (by omega)).up.R (by omega) (by omega)).up.R (by omega) (by omega)).up.R (by omega) (by omega)).up.R (by omega) (by omega)).up.R (by omega) (by omega)).up.R (by omega) (by omega)).up.R (by omega) (by omega)) (by decide) rfl (by decide) (by decide) (by decide) (by simp [gRs]) (by simp [gRs]) ?_
  refine r_Z (125, 36, 10789) rfl ?_
  refine r_putF hI 49 ff_X9_148 dX9_init_350 rfl (by decide) rfl (fun _ => rfl) (fun _ => rfl) ?_
  refine r_aload_n hG dX9_init_353 rfl ?_
  refine r_bipush hG (48) dX9_init_354 (by decide) ?_
  refine r_newaI hG 48 arr_I dX9_init_356 rfl ((((((((((((((((((((((((((((((((((((((((((((((hM.up.R (by omega) (by omega)).up.R (by omega) (by omega)).up.R (by omega) (by omega)).up.R (by omega) (by omega)).up.L (by omega)).L (by omega)).L (by omega)).L (by omega)).L (by omega)).L (by omega)).L (by omega)).L (by omega)).L (by omega)).L (by omega)).R (by omega) (by omega)).up.R (by omega) (by omega)).up.R (by omega) (by omega)).up.R (by omega) (by omega)).up.R (by omega) (by omega)).up.R (by omega) (by omega)).up.R (by omega) (by omega)).up.R (by omega) (by omega)).up.R (by omega) (by omega)).up.R (by omega) (by omega)).up.R (by omega) (by omega)).up.R (by omega) (by omega)).up.R (by omega) (by omega)).up.R (by omega) (by omega)).up.R (by omega) (by omega)).up.R (by omega) (by omega)).up.R (by omega) (by omega)).up.R (by omega) (by omega)).up.R (by omega) (by omega)).up.R (by omega) (by omega)).up.R (by omega) (by omega)).up.R (by omega) (by omega)).up.R (by omega) (by omega)).up.R (by omega) (by omega)).up.R (by omega) (by omega)).up.R (by omega) (by omega)).up.R (by omega) (by omega)).up.R (by omega) (by omega)).up.R (by omega) (by omega)).up.R (by omega) (by omega)).up.R (by omega) (by omega)).up.R (by omega) (by omega)) (by decide) rfl (by decide) (by decide) (by decide) (by simp [gRs]) (by simp [gRs]) ?_
  refine r_Z (126, 37, 10837) rfl ?_
  refine r_putF hI 50 ff_X9_151 dX9_init_358 rfl (by decide) rfl (fun _ => rfl) (fun _ => rfl) ?_
  refine r_aload_n hG dX9_init_361 rfl ?_
  refine r_bipush hG (6) dX9_init_362 (by decide) ?_
  refine r_newaI hG 6 arr_I dX9_init_364 rfl (((((((((((((((((((((((((((((((((((((((((((((((hM.up.R (by omega) (by omega)).up.R (by omega) (by omega)).up.R (by omega) (by omega)).up.R (by omega) (by omega)).up.L (by omega)).L (by omega)).L (by omega)).L (by omega)).L (by omega)).L (by omega)).L (by omega)).L (by omega)).L (by omega)).L (by omega)).R (by omega) (by omega)).up.R (by omega) (by omega)).up.R (by omega) (by omega)).up.R (by omega) (by omega)).up.R (by omega) (by omega)).up.R (by omega) (by omega)).up.R (by omega) (by omega)).up.R (by omega) (by omega)).up.R (by omega) (by omega)).up.R (by omega) (by omega)).up.R (by omega) (by omega)).up.R (by omega) (by omega)).up.R (by omega) (by omega)).up.R (by omega) (by omega)).up.R (by omega) (by omega)).up.R (by omega) (by omega)).up.R (by omega) (by omega)).up.R (by omega) (by omega)).up.R (by omega) (by omega)).up.R (by omega) (by omega)).up.R (by omega) (by omega)).up.R (by omega) (by omega)).up.R (by omega) (by omega)).up.R (by omega) (by omega)).up.R (by omega) (by omega)).up.R (by omega) (by omega)).up.R (by omega) (by omega)).up.R (by omega) (by omega)).up.R (by omega) (by omega)).up.R (by omega) (by omega)).up.R (by omega) (by omega)).up.R (by omega) (by omega)).up.R (by omega) (by omega)) (by decide) rfl (by decide) (by decide) (by decide) (by simp [gRs]) (by simp [gRs]) ?_
  refine r_Z (127, 38, 10843) rfl ?_
  refine r_putF hI 53 ff_X9_154 dX9_init_366 rfl (by decide) rfl (fun _ => rfl) (fun _ => rfl) ?_
  refine r_aload_n hG dX9_init_369 rfl ?_
  refine r_bipush hG (6) dX9_init_370 (by decide) ?_
  refine r_newaI hG 6 arr_I dX9_init_372 rfl ((((((((((((((((((((((((((((((((((((((((((((((((hM.up.R (by omega) (by omega)).up.R (by omega) (by omega)).up.R (by omega) (by omega)).up.R (by omega) (by omega)).up.L (by omega)).L (by omega)).L (by omega)).L (by omega)).L (by omega)).L (by omega)).L (by omega)).L (by omega)).L (by omega)).L (by omega)).R (by omega) (by omega)).up.R (by omega) (by omega)).up.R (by omega) (by omega)).up.R (by omega) (by omega)).up.R (by omega) (by omega)).up.R (by omega) (by omega)).up.R (by omega) (by omega)).up.R (by omega) (by omega)).up.R (by omega) (by omega)).up.R (by omega) (by omega)).up.R (by omega) (by omega)).up.R (by omega) (by omega)).up.R (by omega) (by omega)).up.R (by omega) (by omega)).up.R (by omega) (by omega)).up.R (by omega) (by omega)).up.R (by omega) (by omega)).up.R (by omega) (by omega)).up.R (by omega) (by omega)).up.R (by omega) (by omega)).up.R (by omega) (by omega)).up.R (by omega) (by omega)).up.R (by omega) (by omega)).up.R (by omega) (by omega)).up.R (by omega) (by omega)).up.R (by omega) (by omega)).up.R (by omega) (by omega)).up.R (by omega) (by omega)).up.R (by omega) (by omega)).up.R (by omega) (by omega)).up.R (by omega) (by omega)).up.R (by omega) (by omega)).up.R (by omega) (by omega)).up.R (by omega) (by omega)) (by decide) rfl (by decide) (by decide) (by decide) (by simp [gRs]) (by simp [gRs]) ?_
  refine r_Z (128, 39, 10849) rfl ?_
  refine r_putF hI 54 ff_X9_157 dX9_init_374 rfl (by decide) rfl (fun _ => rfl) (fun _ => rfl) ?_
  refine r_aload_n hG dX9_init_377 rfl ?_
  refine r_bipush hG (6) dX9_init_378 (by decide) ?_
  refine r_newaI hG 6 arr_I dX9_init_380 rfl (((((((((((((((((((((((((((((((((((((((((((((((((hM.up.R (by omega) (by omega)).up.R (by omega) (by omega)).up.R (by omega) (by omega)).up.R (by omega) (by omega)).up.L (by omega)).L (by omega)).L (by omega)).L (by omega)).L (by omega)).L (by omega)).L (by omega)).L (by omega)).L (by omega)).L (by omega)).R (by omega) (by omega)).up.R (by omega) (by omega)).up.R (by omega) (by omega)).up.R (by omega) (by omega)).up.R (by omega) (by omega)).up.R (by omega) (by omega)).up.R (by omega) (by omega)).up.R (by omega) (by omega)).up.R (by omega) (by omega)).up.R (by omega) (by omega)).up.R (by omega) (by omega)).up.R (by omega) (by omega)).up.R (by omega) (by omega)).up.R (by omega) (by omega)).up.R (by omega) (by omega)).up.R (by omega) (by omega)).up.R (by omega) (by omega)).up.R (by omega) (by omega)).up.R (by omega) (by omega)).up.R (by omega) (by omega)).up.R (by omega) (by omega)).up.R (by omega) (by omega)).up.R (by omega) (by omega)).up.R (by omega) (by omega)).up.R (by omega) (by omega)).up.R (by omega) (by omega)).up.R (by omega) (by omega)).up.R (by omega) (by omega)).up.R (by omega) (by omega)).up.R (by omega) (by omega)).up.R (by omega) (by omega)).up.R (by omega) (by omega)).up.R (by omega) (by omega)).up.R (by omega) (by omega)).up.R (by omega) (by omega)) (by decide) rfl (by decide) (by decide) (by decide) (by simp [gRs]) (by simp [gRs]) ?_
  refine r_Z (129, 40, 10855) rfl ?_
  refine r_putF hI 55 ff_X9_160 dX9_init_382 rfl (by decide) rfl (fun _ => rfl) (fun _ => rfl) ?_
  refine r_aload_n hG dX9_init_385 rfl ?_
  refine r_bipush hG (6) dX9_init_386 (by decide) ?_
  refine r_newaI hG 6 arr_I dX9_init_388 rfl ((((((((((((((((((((((((((((((((((((((((((((((((((hM.up.R (by omega) (by omega)).up.R (by omega) (by omega)).up.R (by omega) (by omega)).up.R (by omega) (by omega)).up.L (by omega)).L (by omega)).L (by omega)).L (by omega)).L (by omega)).L (by omega)).L (by omega)).L (by omega)).L (by omega)).L (by omega)).R (by omega) (by omega)).up.R (by omega) (by omega)).up.R (by omega) (by omega)).up.R (by omega) (by omega)).up.R (by omega) (by omega)).up.R (by omega) (by omega)).up.R (by omega) (by omega)).up.R (by omega) (by omega)).up.R (by omega) (by omega)).up.R (by omega) (by omega)).up.R (by omega) (by omega)).up.R (by omega) (by omega)).up.R (by omega) (by omega)).up.R (by omega) (by omega)).up.R (by omega) (by omega)).up.R (by omega) (by omega)).up.R (by omega) (by omega)).up.R (by omega) (by omega)).up.R (by omega) (by omega)).up.R (by omega) (by omega)).up.R (by omega) (by omega)).up.R (by omega) (by omega)).up.R (by omega) (by omega)).up.R (by omega) (by omega)).up.R (by omega) (by omega)).up.R (by omega) (by omega)).up.R (by omega) (by omega)).up.R (by omega) (by omega)).up.R (by omega) (by omega)).up.R (by omega) (by omega)).up.R (by omega) (by omega)).up.R (by omega) (by omega)).up.R (by omega) (by omega)).up.R (by omega) (by omega)).up.R (by omega) (by omega)).up.R (by omega) (by omega)) (by decide) rfl (by decide) (by decide) (by decide) (by simp [gRs]) (by simp [gRs]) ?_
  refine r_Z (130, 41, 10861) rfl ?_
  refine r_putF hI 56 ff_X9_163 dX9_init_390 rfl (by decide) rfl (fun _ => rfl) (fun _ => rfl) ?_
  refine r_aload_n hG dX9_init_393 rfl ?_
  refine r_iconst hG (4) dX9_init_394 (by decide) ?_
  refine r_newaI hG 4 arr_I dX9_init_395 rfl (((((((((((((((((((((((((((((((((((((((((((((((((((hM.up.R (by omega) (by omega)).up.R (by omega) (by omega)).up.R (by omega) (by omega)).up.R (by omega) (by omega)).up.L (by omega)).L (by omega)).L (by omega)).L (by omega)).L (by omega)).L (by omega)).L (by omega)).L (by omega)).L (by omega)).L (by omega)).R (by omega) (by omega)).up.R (by omega) (by omega)).up.R (by omega) (by omega)).up.R (by omega) (by omega)).up.R (by omega) (by omega)).up.R (by omega) (by omega)).up.R (by omega) (by omega)).up.R (by omega) (by omega)).up.R (by omega) (by omega)).up.R (by omega) (by omega)).up.R (by omega) (by omega)).up.R (by omega) (by omega)).up.R (by omega) (by omega)).up.R (by omega) (by omega)).up.R (by omega) (by omega)).up.R (by omega) (by omega)).up.R (by omega) (by omega)).up.R (by omega) (by omega)).up.R (by omega) (by omega)).up.R (by omega) (by omega)).up.R (by omega) (by omega)).up.R (by omega) (by omega)).up.R (by omega) (by omega)).up.R (by omega) (by omega)).up.R (by omega) (by omega)).up.R (by omega) (by omega)).up.R (by omega) (by omega)).up.R (by omega) (by omega)).up.R (by omega) (by omega)).up.R (by omega) (by omega)).up.R (by omega) (by omega)).up.R (by omega) (by omega)).up.R (by omega) (by omega)).up.R (by omega) (by omega)).up.R (by omega) (by omega)).up.R (by omega) (by omega)).up.R (by omega) (by omega)) (by decide) rfl (by decide) (by decide) (by decide) (by simp [gRs]) (by simp [gRs]) ?_
  refine r_Z (131, 42, 10865) rfl ?_
  refine r_putF hI 59 ff_X9_166 dX9_init_397 rfl (by decide) rfl (fun _ => rfl) (fun _ => rfl) ?_
  refine r_aload_n hG dX9_init_400 rfl ?_
  refine r_iconst hG (4) dX9_init_401 (by decide) ?_
  refine r_newaI hG 4 arr_I dX9_init_402 rfl ((((((((((((((((((((((((((((((((((((((((((((((((((((hM.up.R (by omega) (by omega)).up.R (by omega) (by omega)).up.R (by omega) (by omega)).up.R (by omega) (by omega)).up.L (by omega)).L (by omega)).L (by omega)).L (by omega)).L (by omega)).L (by omega)).L (by omega)).L (by omega)).L (by omega)).L (by omega)).R (by omega) (by omega)).up.R (by omega) (by omega)).up.R (by omega) (by omega)).up.R (by omega) (by omega)).up.R (by omega) (by omega)).up.R (by omega) (by omega)).up.R (by omega) (by omega)).up.R (by omega) (by omega)).up.R (by omega) (by omega)).up.R (by omega) (by omega)).up.R (by omega) (by omega)).up.R (by omega) (by omega)).up.R (by omega) (by omega)).up.R (by omega) (by omega)).up.R (by omega) (by omega)).up.R (by omega) (by omega)).up.R (by omega) (by omega)).up.R (by omega) (by omega)).up.R (by omega) (by omega)).up.R (by omega) (by omega)).up.R (by omega) (by omega)).up.R (by omega) (by omega)).up.R (by omega) (by omega)).up.R (by omega) (by omega)).up.R (by omega) (by omega)).up.R (by omega) (by omega)).up.R (by omega) (by omega)).up.R (by omega) (by omega)).up.R (by omega) (by omega)).up.R (by omega) (by omega)).up.R (by omega) (by omega)).up.R (by omega) (by omega)).up.R (by omega) (by omega)).up.R (by omega) (by omega)).up.R (by omega) (by omega)).up.R (by omega) (by omega)).up.R (by omega) (by omega)).up.R (by omega) (by omega)) (by decide) rfl (by decide) (by decide) (by decide) (by simp [gRs]) (by simp [gRs]) ?_
  refine r_Z (132, 43, 10869) rfl ?_
  refine r_putF hI 60 ff_X9_169 dX9_init_404 rfl (by decide) rfl (fun _ => rfl) (fun _ => rfl) ?_
  refine r_aload_n hG dX9_init_407 rfl ?_
  refine r_bipush hG (10) dX9_init_408 (by decide) ?_
  refine r_newaI hG 10 arr_I dX9_init_410 rfl (((((((((((((((((((((((((((((((((((((((((((((((((((((hM.up.R (by omega) (by omega)).up.R (by omega) (by omega)).up.R (by omega) (by omega)).up.R (by omega) (by omega)).up.L (by omega)).L (by omega)).L (by omega)).L (by omega)).L (by omega)).L (by omega)).L (by omega)).L (by omega)).L (by omega)).L (by omega)).R (by omega) (by omega)).up.R (by omega) (by omega)).up.R (by omega) (by omega)).up.R (by omega) (by omega)).up.R (by omega) (by omega)).up.R (by omega) (by omega)).up.R (by omega) (by omega)).up.R (by omega) (by omega)).up.R (by omega) (by omega)).up.R (by omega) (by omega)).up.R (by omega) (by omega)).up.R (by omega) (by omega)).up.R (by omega) (by omega)).up.R (by omega) (by omega)).up.R (by omega) (by omega)).up.R (by omega) (by omega)).up.R (by omega) (by omega)).up.R (by omega) (by omega)).up.R (by omega) (by omega)).up.R (by omega) (by omega)).up.R (by omega) (by omega)).up.R (by omega) (by omega)).up.R (by omega) (by omega)).up.R (by omega) (by omega)).up.R (by omega) (by omega)).up.R (by omega) (by omega)).up.R (by omega) (by omega)).up.R (by omega) (by omega)).up.R (by omega) (by omega)).up.R (by omega) (by omega)).up.R (by omega) (by omega)).up.R (by omega) (by omega)).up.R (by omega) (by omega)).up.R (by omega) (by omega)).up.R (by omega) (by omega)).up.R (by omega) (by omega)).up.R (by omega) (by omega)).up.R (by omega) (by omega)).up.R (by omega) (by omega)) (by decide) rfl (by decide) (by decide) (by decide) (by simp [gRs]) (by simp [gRs]) ?_
  refine r_Z (133, 44, 10879) rfl ?_
  refine r_putF hI 63 ff_X9_172 dX9_init_412 rfl (by decide) rfl (fun _ => rfl) (fun _ => rfl) ?_
  refine r_aload_n hG dX9_init_415 rfl ?_
  refine r_bipush hG (10) dX9_init_416 (by decide) ?_
  refine r_newaI hG 10 arr_I dX9_init_418 rfl ((((((((((((((((((((((((((((((((((((((((((((((((((((((hM.up.R (by omega) (by omega)).up.R (by omega) (by omega)).up.R (by omega) (by omega)).up.R (by omega) (by omega)).up.L (by omega)).L (by omega)).L (by omega)).L (by omega)).L (by omega)).L (by omega)).L (by omega)).L (by omega)).L (by omega)).L (by omega)).R (by omega) (by omega)).up.R (by omega) (by omega)).up.R (by omega) (by omega)).up.R (by omega) (by omega)).up.R (by omega) (by omega)).up.R (by omega) (by omega)).up.R (by omega) (by omega)).up.R (by omega) (by omega)).up.R (by omega) (by omega)).up.R (by omega) (by omega)).up.R (by omega) (by omega)).up.R (by omega) (by omega)).up.R (by omega) (by omega)).up.R (by omega) (by omega)).up.R (by omega) (by omega)).up.R (by omega) (by omega)).up.R (by omega) (by omega)).up.R (by omega) (by omega)).up.R (by omega) (by omega)).up.R (by omega) (by omega)).up.R (by omega) (by omega)).up.R (by omega) (by omega)).up.R (by omega) (by omega)).up.R (by omega) (by omega)).up.R (by omega) (by omega)).up.R (by omega) (by omega)).up.R (by omega) (by omega)).up.R (by omega) (by omega)).up.R (by omega) (by omega)).up.R (by omega) (by omega)).up.R (by omega) (by omega)).up.R (by omega) (by omega)).up.R (by omega) (by omega)).up.R (by omega) (by omega)).up.R (by omega) (by omega)).up.R (by omega) (by omega)).up.R (by omega) (by omega)).up.R (by omega) (by omega)).up.R (by omega) (by omega)).up.R (by omega) (by omega)) (by decide) rfl (by decide) (by decide) (by decide) (by simp [gRs]) (by simp [gRs]) ?_
  refine r_Z (134, 45, 10889) rfl ?_
  refine r_putF hI 64 ff_X9_175 dX9_init_420 rfl (by decide) rfl (fun _ => rfl) (fun _ => rfl) ?_
  refine r_aload_n hG dX9_init_423 rfl ?_
  refine r_bipush hG (10) dX9_init_424 (by decide) ?_
  refine r_newaI hG 10 arr_I dX9_init_426 rfl (((((((((((((((((((((((((((((((((((((((((((((((((((((((hM.up.R (by omega) (by omega)).up.R (by omega) (by omega)).up.R (by omega) (by omega)).up.R (by omega) (by omega)).up.L (by omega)).L (by omega)).L (by omega)).L (by omega)).L (by omega)).L (by omega)).L (by omega)).L (by omega)).L (by omega)).L (by omega)).R (by omega) (by omega)).up.R (by omega) (by omega)).up.R (by omega) (by omega)).up.R (by omega) (by omega)).up.R (by omega) (by omega)).up.R (by omega) (by omega)).up.R (by omega) (by omega)).up.R (by omega) (by omega)).up.R (by omega) (by omega)).up.R (by omega) (by omega)).up.R (by omega) (by omega)).up.R (by omega) (by omega)).up.R (by omega) (by omega)).up.R (by omega) (by omega)).up.R (by omega) (by omega)).up.R (by omega) (by omega)).up.R (by omega) (by omega)).up.R (by omega) (by omega)).up.R (by omega) (by omega)).up.R (by omega) (by omega)).up.R (by omega) (by omega)).up.R (by omega) (by omega)).up.R (by omega) (by omega)).up.R (by omega) (by omega)).up.R (by omega) (by omega)).up.R (by omega) (by omega)).up.R (by omega) (by omega)).up.R (by omega) (by omega)).up.R (by omega) (by omega)).up.R (by omega) (by omega)).up.R (by omega) (by omega)).up.R (by omega) (by omega)).up.R (by omega) (by omega)).up.R (by omega) (by omega)).up.R (by omega) (by omega)).up.R (by omega) (by omega)).up.R (by omega) (by omega)).up.R (by omega) (by omega)).up.R (by omega) (by omega)).up.R (by omega) (by omega)).up.R (by omega) (by omega)) (by decide) rfl (by decide) (by decide) (by decide) (by simp [gRs]) (by simp [gRs]) ?_
  refine r_Z (135, 46, 10899) rfl ?_
  refine r_putF hI 65 ff_X9_178 dX9_init_428 rfl (by decide) rfl (fun _ => rfl) (fun _ => rfl) ?_
  refine r_aload_n hG dX9_init_431 rfl ?_
  refine r_bipush hG (10) dX9_init_432 (by decide) ?_
  refine r_newaZ hG 10 arr_Z dX9_init_434 rfl ((((((((((((((((((((((((((((((((((((((((((((((((((((((((hM.up.R (by omega) (by omega)).up.R (by omega) (by omega)).up.R (by omega) (by omega)).up.R (by omega) (by omega)).up.L (by omega)).L (by omega)).L (by omega)).L (by omega)).L (by omega)).L (by omega)).L (by omega)).L (by omega)).L (by omega)).L (by omega)).R (by omega) (by omega)).up.R (by omega) (by omega)).up.R (by omega) (by omega)).up.R (by omega) (by omega)).up.R (by omega) (by omega)).up.R (by omega) (by omega)).up.R (by omega) (by omega)).up.R (by omega) (by omega)).up.R (by omega) (by omega)).up.R (by omega) (by omega)).up.R (by omega) (by omega)).up.R (by omega) (by omega)).up.R (by omega) (by omega)).up.R (by omega) (by omega)).up.R (by omega) (by omega)).up.R (by omega) (by omega)).up.R (by omega) (by omega)).up.R (by omega) (by omega)).up.R (by omega) (by omega)).up.R (by omega) (by omega)).up.R (by omega) (by omega)).up.R (by omega) (by omega)).up.R (by omega) (by omega)).up.R (by omega) (by omega)).up.R (by omega) (by omega)).up.R (by omega) (by omega)).up.R (by omega) (by omega)).up.R (by omega) (by omega)).up.R (by omega) (by omega)).up.R (by omega) (by omega)).up.R (by omega) (by omega)).up.R (by omega) (by omega)).up.R (by omega) (by omega)).up.R (by omega) (by omega)).up.R (by omega) (by omega)).up.R (by omega) (by omega)).up.R (by omega) (by omega)).up.R (by omega) (by omega)).up.R (by omega) (by omega)).up.R (by omega) (by omega)).up.R (by omega) (by omega)).up.R (by omega) (by omega)) (by decide) rfl (by decide) (by decide) (by decide) (by simp [gRs]) (by simp [gRs]) ?_
  refine r_Z (136, 47, 10909) rfl ?_
  refine r_putF hI 66 ff_X9_181 dX9_init_436 rfl (by decide) rfl (fun _ => rfl) (fun _ => rfl) ?_
  refine r_aload_n hG dX9_init_439 rfl ?_
  refine r_iconst hG (4) dX9_init_440 (by decide) ?_
  refine r_newaI hG 4 arr_I dX9_init_441 rfl (((((((((((((((((((((((((((((((((((((((((((((((((((((((((hM.up.R (by omega) (by omega)).up.R (by omega) (by omega)).up.R (by omega) (by omega)).up.R (by omega) (by omega)).up.L (by omega)).L (by omega)).L (by omega)).L (by omega)).L (by omega)).L (by omega)).L (by omega)).L (by omega)).L (by omega)).L (by omega)).R (by omega) (by omega)).up.R (by omega) (by omega)).up.R (by omega) (by omega)).up.R (by omega) (by omega)).up.R (by omega) (by omega)).up.R (by omega) (by omega)).up.R (by omega) (by omega)).up.R (by omega) (by omega)).up.R (by omega) (by omega)).up.R (by omega) (by omega)).up.R (by omega) (by omega)).up.R (by omega) (by omega)).up.R (by omega) (by omega)).up.R (by omega) (by omega)).up.R (by omega) (by omega)).up.R (by omega) (by omega)).up.R (by omega) (by omega)).up.R (by omega) (by omega)).up.R (by omega) (by omega)).up.R (by omega) (by omega)).up.R (by omega) (by omega)).up.R (by omega) (by omega)).up.R (by omega) (by omega)).up.R (by omega) (by omega)).up.R (by omega) (by omega)).up.R (by omega) (by omega)).up.R (by omega) (by omega)).up.R (by omega) (by omega)).up.R (by omega) (by omega)).up.R (by omega) (by omega)).up.R (by omega) (by omega)).up.R (by omega) (by omega)).up.R (by omega) (by omega)).up.R (by omega) (by omega)).up.R (by omega) (by omega)).up.R (by omega) (by omega)).up.R (by omega) (by omega)).up.R (by omega) (by omega)).up.R (by omega) (by omega)).up.R (by omega) (by omega)).up.R (by omega) (by omega)).up.R (by omega) (by omega)).up.R (by omega) (by omega)) (by decide) rfl (by decide) (by decide) (by decide) (by simp [gRs]) (by simp [gRs]) ?_
  refine r_Z (137, 48, 10913) rfl ?_
  refine r_putF hI 68 ff_X9_184 dX9_init_443 rfl (by decide) rfl (fun _ => rfl) (fun _ => rfl) ?_
  refine r_aload_n hG dX9_init_446 rfl ?_
  refine r_iconst hG (4) dX9_init_447 (by decide) ?_
  refine r_newaI hG 4 arr_I dX9_init_448 rfl ((((((((((((((((((((((((((((((((((((((((((((((((((((((((((hM.up.R (by omega) (by omega)).up.R (by omega) (by omega)).up.R (by omega) (by omega)).up.R (by omega) (by omega)).up.L (by omega)).L (by omega)).L (by omega)).L (by omega)).L (by omega)).L (by omega)).L (by omega)).L (by omega)).L (by omega)).L (by omega)).R (by omega) (by omega)).up.R (by omega) (by omega)).up.R (by omega) (by omega)).up.R (by omega) (by omega)).up.R (by omega) (by omega)).up.R (by omega) (by omega)).up.R (by omega) (by omega)).up.R (by omega) (by omega)).up.R (by omega) (by omega)).up.R (by omega) (by omega)).up.R (by omega) (by omega)).up.R (by omega) (by omega)).up.R (by omega) (by omega)).up.R (by omega) (by omega)).up.R (by omega) (by omega)).up.R (by omega) (by omega)).up.R (by omega) (by omega)).up.R (by omega) (by omega)).up.R (by omega) (by omega)).up.R (by omega) (by omega)).up.R (by omega) (by omega)).up.R (by omega) (by omega)).up.R (by omega) (by omega)).up.R (by omega) (by omega)).up.R (by omega) (by omega)).up.R (by omega) (by omega)).up.R (by omega) (by omega)).up.R (by omega) (by omega)).up.R (by omega) (by omega)).up.R (by omega) (by omega)).up.R (by omega) (by omega)).up.R (by omega) (by omega)).up.R (by omega) (by omega)).up.R (by omega) (by omega)).up.R (by omega) (by omega)).up.R (by omega) (by omega)).up.R (by omega) (by omega)).up.R (by omega) (by omega)).up.R (by omega) (by omega)).up.R (by omega) (by omega)).up.R (by omega) (by omega)).up.R (by omega) (by omega)).up.R (by omega) (by omega)).up.R (by omega) (by omega)) (by decide) rfl (by decide) (by decide) (by decide) (by simp [gRs]) (by simp [gRs]) ?_
  refine r_Z (138, 49, 10917) rfl ?_
  refine r_putF hI 69 ff_X9_187 dX9_init_450 rfl (by decide) rfl (fun _ => rfl) (fun _ => rfl) ?_
  refine r_aload_n hG dX9_init_453 rfl ?_
  refine r_iconst hG (4) dX9_init_454 (by decide) ?_
  refine r_newaI hG 4 arr_I dX9_init_455 rfl (((((((((((((((((((((((((((((((((((((((((((((((((((((((((((hM.up.R (by omega) (by omega)).up.R (by omega) (by omega)).up.R (by omega) (by omega)).up.R (by omega) (by omega)).up.L (by omega)).L (by omega)).L (by omega)).L (by omega)).L (by omega)).L (by omega)).L (by omega)).L (by omega)).L (by omega)).L (by omega)).R (by omega) (by omega)).up.R (by omega) (by omega)).up.R (by omega) (by omega)).up.R (by omega) (by omega)).up.R (by omega) (by omega)).up.R (by omega) (by omega)).up.R (by omega) (by omega)).up.R (by omega) (by omega)).up.R (by omega) (by omega)).up.R (by omega) (by omega)).up.R (by omega) (by omega)).up.R (by omega) (by omega)).up.R (by omega) (by omega)).up.R (by omega) (by omega)).up.R (by omega) (by omega)).up.R (by omega) (by omega)).up.R (by omega) (by omega)).up.R (by omega) (by omega)).up.R (by omega) (by omega)).up.R (by omega) (by omega)).up.R (by omega) (by omega)).up.R (by omega) (by omega)).up.R (by omega) (by omega)).up.R (by omega) (by omega)).up.R (by omega) (by omega)).up.R (by omega) (by omega)).up.R (by omega) (by omega)).up.R (by omega) (by omega)).up.R (by omega) (by omega)).up.R (by omega) (by omega)).up.R (by omega) (by omega)).up.R (by omega) (by omega)).up.R (by omega) (by omega)).up.R (by omega) (by omega)).up.R (by omega) (by omega)).up.R (by omega) (by omega)).up.R (by omega) (by omega)).up.R (by omega) (by omega)).up.R (by omega) (by omega)).up.R (by omega) (by omega)).up.R (by omega) (by omega)).up.R (by omega) (by omega)).up.R (by omega) (by omega)).up.R (by omega) (by omega)).up.R (by omega) (by omega)) (by decide) rfl (by decide) (by decide) (by decide) (by simp [gRs]) (by simp [gRs]) ?_
  refine r_Z (139, 50, 10921) rfl ?_
  refine r_putF hI 70 ff_X9_190 dX9_init_457 rfl (by decide) rfl (fun _ => rfl) (fun _ => rfl) ?_
  refine r_iconst hG (0) dX9_init_460 (by decide) ?_
  refine r_istore_n hG dX9_init_461 (by decide) ?_
  refine r_loc [some (.ref 88), some (.int (0))] rfl ?_
  refine lp_X9_ways hG (P := fun _ => True) ?_ (fun x => ?_) 48 0 rfl
  · rfl
  · exact hE _ _ _ _ dX9_init_482 rfl (Nat.le_refl _) (Nat.le_refl _) rfl


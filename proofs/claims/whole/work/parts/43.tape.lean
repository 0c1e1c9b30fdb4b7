set_option maxRecDepth 100000 in
set_option maxHeartbeats 400000 in
theorem ct_X6_isLetter {M : gM} (x : Int32) : gC 0 0 0 yX6_isLetter cX6_isLetter 1 (some .boolean) 140 140 [.int x] M (gI (fun r M9 => bI (isLet x) r ∧ M9 = M)) := by
  refine gC_i rfl (Nat.le_of_ble_eq_true rfl) (fun G hG hE => ?_)
  change G (140, 0, 0) 0 [some (.int x)] [] M
  refine r_iload_n hG dX6_isLetter_0 rfl ?_
  refine r_bipush hG (97) dX6_isLetter_1 (by decide) ?_
  refine r_icmp_lt hG 16 dX6_isLetter_3 (by decide) (fun hc3 => ?_) (fun hc3 => ?_)
  · refine r_iconst hG (0) dX6_isLetter_16 (by decide) ?_
    refine hE _ _ _ _ _ dX6_isLetter_17 rfl (Nat.le_refl _) (Nat.le_refl _) rfl ?_
    exact ⟨Or.inr ⟨rfl, fun q => q.1 hc3⟩, rfl⟩
  · refine r_iload_n hG dX6_isLetter_6 rfl ?_
    refine r_bipush hG (122) dX6_isLetter_7 (by decide) ?_
    refine r_icmp_gt hG 16 dX6_isLetter_9 (by decide) (fun hc9 => ?_) (fun hc9 => ?_)
    · refine r_iconst hG (0) dX6_isLetter_16 (by decide) ?_
      refine hE _ _ _ _ _ dX6_isLetter_17 rfl (Nat.le_refl _) (Nat.le_refl _) rfl ?_
      exact ⟨Or.inr ⟨rfl, fun q => q.2 hc9⟩, rfl⟩
    · refine r_iconst hG (1) dX6_isLetter_12 (by decide) ?_
      refine r_goto hG 17 dX6_isLetter_13 (by decide) ?_
      refine hE _ _ _ _ _ dX6_isLetter_17 rfl (Nat.le_refl _) (Nat.le_refl _) rfl ?_
      exact ⟨Or.inl ⟨rfl, hc3, hc9⟩, rfl⟩

set_option maxRecDepth 100000 in
set_option maxHeartbeats 400000 in
theorem ct_X6_isDigit {M : gM} (x : Int32) : gC 0 0 0 yX6_isDigit cX6_isDigit 1 (some .boolean) 140 140 [.int x] M (gI (fun r M9 => bI (isDig x) r ∧ M9 = M)) := by
  refine gC_i rfl (Nat.le_of_ble_eq_true rfl) (fun G hG hE => ?_)
  change G (140, 0, 0) 0 [some (.int x)] [] M
  refine r_iload_n hG dX6_isDigit_0 rfl ?_
  refine r_bipush hG (48) dX6_isDigit_1 (by decide) ?_
  refine r_icmp_lt hG 16 dX6_isDigit_3 (by decide) (fun hc3 => ?_) (fun hc3 => ?_)
  · refine r_iconst hG (0) dX6_isDigit_16 (by decide) ?_
    refine hE _ _ _ _ _ dX6_isDigit_17 rfl (Nat.le_refl _) (Nat.le_refl _) rfl ?_
    exact ⟨Or.inr ⟨rfl, fun q => q.1 hc3⟩, rfl⟩
  · refine r_iload_n hG dX6_isDigit_6 rfl ?_
    refine r_bipush hG (57) dX6_isDigit_7 (by decide) ?_
    refine r_icmp_gt hG 16 dX6_isDigit_9 (by decide) (fun hc9 => ?_) (fun hc9 => ?_)
    · refine r_iconst hG (0) dX6_isDigit_16 (by decide) ?_
      refine hE _ _ _ _ _ dX6_isDigit_17 rfl (Nat.le_refl _) (Nat.le_refl _) rfl ?_
      exact ⟨Or.inr ⟨rfl, fun q => q.2 hc9⟩, rfl⟩
    · refine r_iconst hG (1) dX6_isDigit_12 (by decide) ?_
      refine r_goto hG 17 dX6_isDigit_13 (by decide) ?_
      refine hE _ _ _ _ _ dX6_isDigit_17 rfl (Nat.le_refl _) (Nat.le_refl _) rfl ?_
      exact ⟨Or.inl ⟨rfl, hc3, hc9⟩, rfl⟩

set_option maxRecDepth 100000 in
set_option maxHeartbeats 400000 in
theorem ct_X6_isBlank {M : gM} (x : Int32) : gC 0 0 0 yX6_isBlank cX6_isBlank 1 (some .boolean) 140 140 [.int x] M (gI (fun r M9 => bI (isBlk x) r ∧ M9 = M)) := by
  refine gC_i rfl (Nat.le_of_ble_eq_true rfl) (fun G hG hE => ?_)
  change G (140, 0, 0) 0 [some (.int x)] [] M
  refine r_iload_n hG dX6_isBlank_0 rfl ?_
  refine r_bipush hG (10) dX6_isBlank_1 (by decide) ?_
  refine r_icmp_eq hG 12 dX6_isBlank_3 (by decide) (fun hc3 => ?_) (fun hc3 => ?_)
  · refine r_iconst hG (1) dX6_isBlank_12 (by decide) ?_
    refine r_goto hG 17 dX6_isBlank_13 (by decide) ?_
    refine hE _ _ _ _ _ dX6_isBlank_17 rfl (Nat.le_refl _) (Nat.le_refl _) rfl ?_
    exact ⟨Or.inl ⟨rfl, Or.inl hc3⟩, rfl⟩
  · refine r_iload_n hG dX6_isBlank_6 rfl ?_
    refine r_bipush hG (32) dX6_isBlank_7 (by decide) ?_
    refine r_icmp_ne hG 16 dX6_isBlank_9 (by decide) (fun hc9 => ?_) (fun hc9 => ?_)
    · refine r_iconst hG (0) dX6_isBlank_16 (by decide) ?_
      refine hE _ _ _ _ _ dX6_isBlank_17 rfl (Nat.le_refl _) (Nat.le_refl _) rfl ?_
      exact ⟨Or.inr ⟨rfl, fun q => q.elim hc3 hc9⟩, rfl⟩
    · refine r_iconst hG (1) dX6_isBlank_12 (by decide) ?_
      refine r_goto hG 17 dX6_isBlank_13 (by decide) ?_
      refine hE _ _ _ _ _ dX6_isBlank_17 rfl (Nat.le_refl _) (Nat.le_refl _) rfl ?_
      exact ⟨Or.inl ⟨rfl, Or.inr hc9⟩, rfl⟩

theorem st_out {x : Int32} (h : x.toInt < 40 ∨ 61 < x.toInt) : stk x = 19 := by
  have g : ∀ n : Int32, 40 ≤ n.toInt ∧ n.toInt ≤ 61 → ¬ x = n := fun n hn q => by rw [q] at h; omega
  unfold stk
  rw [if_neg (g 40 (by decide)), if_neg (g 41 (by decide)), if_neg (g 60 (by decide)), if_neg (g 61 (by decide)), if_neg (g 43 (by decide)), if_neg (g 45 (by decide)), if_neg (g 59 (by decide))]
theorem st_in {x : Int32} (h : ¬ (x.toInt < 40 ∨ 61 < x.toInt)) : ∃ w : Nat, 40 ≤ w ∧ w ≤ 61 ∧ x = nI w := by
  have h0 : ¬ x < 0 := fun q => by
    have := Int32.lt_iff_toInt_lt.mp q
    have e : (0 : Int32).toInt = 0 := by decide
    omega
  obtain ⟨j, hj, rfl⟩ := nI_of h0
  rw [nI_toInt hj] at h
  exact ⟨j, by omega, by omega, rfl⟩
set_option maxRecDepth 100000 in
set_option maxHeartbeats 400000 in
theorem ct_X6_signToken {M : gM} (x : Int32) : gC 0 0 0 yX6_signToken cX6_signToken 1 (some .int) 140 140 [.int x] M (gI (fun r M9 => r = stv (stk x, 0) ∧ M9 = M)) := by
  refine gC_i rfl (Nat.le_of_ble_eq_true rfl) (fun G hG hE => ?_)
  change G (140, 0, 0) 0 [some (.int x)] [] M
  refine r_iload_n hG dX6_signToken_0 rfl ?_
  by_cases hx : x.toInt < 40 ∨ 61 < x.toInt; rotate_left; obtain ⟨w, hw1, hw2, rfl⟩ := st_in hx; rcases (show w = 40 ∨ w = 41 ∨ w = 42 ∨ w = 43 ∨ w = 44 ∨ w = 45 ∨ w = 46 ∨ w = 47 ∨ w = 48 ∨ w = 49 ∨ w = 50 ∨ w = 51 ∨ w = 52 ∨ w = 53 ∨ w = 54 ∨ w = 55 ∨ w = 56 ∨ w = 57 ∨ w = 58 ∨ w = 59 ∨ w = 60 ∨ w = 61 by omega) with rfl | rfl | rfl | rfl | rfl | rfl | rfl | rfl | rfl | rfl | rfl | rfl | rfl | rfl | rfl | rfl | rfl | rfl | rfl | rfl | rfl | rfl
  · show G _ _ _ _ _
    refine r_tableIn hG (off := 103) 104 dX6_signToken_1 (by decide) (by decide) (by decide) (by decide) ?_
    refine r_bipush hG (-15) dX6_signToken_104 (by decide) ?_
    refine hE _ _ _ _ _ dX6_signToken_106 rfl (Nat.le_refl _) (Nat.le_refl _) rfl ?_
    exact ⟨by decide, rfl⟩
  · show G _ _ _ _ _
    refine r_tableIn hG (off := 106) 107 dX6_signToken_1 (by decide) (by decide) (by decide) (by decide) ?_
    refine r_bipush hG (-16) dX6_signToken_107 (by decide) ?_
    refine hE _ _ _ _ _ dX6_signToken_109 rfl (Nat.le_refl _) (Nat.le_refl _) rfl ?_
    exact ⟨by decide, rfl⟩
  · show G _ _ _ _ _
    refine r_tableIn hG (off := 124) 125 dX6_signToken_1 (by decide) (by decide) (by decide) (by decide) ?_
    refine r_bipush hG (-19) dX6_signToken_125 (by decide) ?_
    refine hE _ _ _ _ _ dX6_signToken_127 rfl (Nat.le_refl _) (Nat.le_refl _) rfl ?_
    exact ⟨by decide, rfl⟩
  · show G _ _ _ _ _
    refine r_tableIn hG (off := 115) 116 dX6_signToken_1 (by decide) (by decide) (by decide) (by decide) ?_
    refine r_bipush hG (-7) dX6_signToken_116 (by decide) ?_
    refine hE _ _ _ _ _ dX6_signToken_118 rfl (Nat.le_refl _) (Nat.le_refl _) rfl ?_
    exact ⟨by decide, rfl⟩
  · show G _ _ _ _ _
    refine r_tableIn hG (off := 124) 125 dX6_signToken_1 (by decide) (by decide) (by decide) (by decide) ?_
    refine r_bipush hG (-19) dX6_signToken_125 (by decide) ?_
    refine hE _ _ _ _ _ dX6_signToken_127 rfl (Nat.le_refl _) (Nat.le_refl _) rfl ?_
    exact ⟨by decide, rfl⟩
  · show G _ _ _ _ _
    refine r_tableIn hG (off := 118) 119 dX6_signToken_1 (by decide) (by decide) (by decide) (by decide) ?_
    refine r_bipush hG (-8) dX6_signToken_119 (by decide) ?_
    refine hE _ _ _ _ _ dX6_signToken_121 rfl (Nat.le_refl _) (Nat.le_refl _) rfl ?_
    exact ⟨by decide, rfl⟩
  · show G _ _ _ _ _
    refine r_tableIn hG (off := 124) 125 dX6_signToken_1 (by decide) (by decide) (by decide) (by decide) ?_
    refine r_bipush hG (-19) dX6_signToken_125 (by decide) ?_
    refine hE _ _ _ _ _ dX6_signToken_127 rfl (Nat.le_refl _) (Nat.le_refl _) rfl ?_
    exact ⟨by decide, rfl⟩
  · show G _ _ _ _ _
    refine r_tableIn hG (off := 124) 125 dX6_signToken_1 (by decide) (by decide) (by decide) (by decide) ?_
    refine r_bipush hG (-19) dX6_signToken_125 (by decide) ?_
    refine hE _ _ _ _ _ dX6_signToken_127 rfl (Nat.le_refl _) (Nat.le_refl _) rfl ?_
    exact ⟨by decide, rfl⟩
  · show G _ _ _ _ _
    refine r_tableIn hG (off := 124) 125 dX6_signToken_1 (by decide) (by decide) (by decide) (by decide) ?_
    refine r_bipush hG (-19) dX6_signToken_125 (by decide) ?_
    refine hE _ _ _ _ _ dX6_signToken_127 rfl (Nat.le_refl _) (Nat.le_refl _) rfl ?_
    exact ⟨by decide, rfl⟩
  · show G _ _ _ _ _
    refine r_tableIn hG (off := 124) 125 dX6_signToken_1 (by decide) (by decide) (by decide) (by decide) ?_
    refine r_bipush hG (-19) dX6_signToken_125 (by decide) ?_
    refine hE _ _ _ _ _ dX6_signToken_127 rfl (Nat.le_refl _) (Nat.le_refl _) rfl ?_
    exact ⟨by decide, rfl⟩
  · show G _ _ _ _ _
    refine r_tableIn hG (off := 124) 125 dX6_signToken_1 (by decide) (by decide) (by decide) (by decide) ?_
    refine r_bipush hG (-19) dX6_signToken_125 (by decide) ?_
    refine hE _ _ _ _ _ dX6_signToken_127 rfl (Nat.le_refl _) (Nat.le_refl _) rfl ?_
    exact ⟨by decide, rfl⟩
  · show G _ _ _ _ _
    refine r_tableIn hG (off := 124) 125 dX6_signToken_1 (by decide) (by decide) (by decide) (by decide) ?_
    refine r_bipush hG (-19) dX6_signToken_125 (by decide) ?_
    refine hE _ _ _ _ _ dX6_signToken_127 rfl (Nat.le_refl _) (Nat.le_refl _) rfl ?_
    exact ⟨by decide, rfl⟩
  · show G _ _ _ _ _
    refine r_tableIn hG (off := 124) 125 dX6_signToken_1 (by decide) (by decide) (by decide) (by decide) ?_
    refine r_bipush hG (-19) dX6_signToken_125 (by decide) ?_
    refine hE _ _ _ _ _ dX6_signToken_127 rfl (Nat.le_refl _) (Nat.le_refl _) rfl ?_
    exact ⟨by decide, rfl⟩
  · show G _ _ _ _ _
    refine r_tableIn hG (off := 124) 125 dX6_signToken_1 (by decide) (by decide) (by decide) (by decide) ?_
    refine r_bipush hG (-19) dX6_signToken_125 (by decide) ?_
    refine hE _ _ _ _ _ dX6_signToken_127 rfl (Nat.le_refl _) (Nat.le_refl _) rfl ?_
    exact ⟨by decide, rfl⟩
  · show G _ _ _ _ _
    refine r_tableIn hG (off := 124) 125 dX6_signToken_1 (by decide) (by decide) (by decide) (by decide) ?_
    refine r_bipush hG (-19) dX6_signToken_125 (by decide) ?_
    refine hE _ _ _ _ _ dX6_signToken_127 rfl (Nat.le_refl _) (Nat.le_refl _) rfl ?_
    exact ⟨by decide, rfl⟩
  · show G _ _ _ _ _
    refine r_tableIn hG (off := 124) 125 dX6_signToken_1 (by decide) (by decide) (by decide) (by decide) ?_
    refine r_bipush hG (-19) dX6_signToken_125 (by decide) ?_
    refine hE _ _ _ _ _ dX6_signToken_127 rfl (Nat.le_refl _) (Nat.le_refl _) rfl ?_
    exact ⟨by decide, rfl⟩
  · show G _ _ _ _ _
    refine r_tableIn hG (off := 124) 125 dX6_signToken_1 (by decide) (by decide) (by decide) (by decide) ?_
    refine r_bipush hG (-19) dX6_signToken_125 (by decide) ?_
    refine hE _ _ _ _ _ dX6_signToken_127 rfl (Nat.le_refl _) (Nat.le_refl _) rfl ?_
    exact ⟨by decide, rfl⟩
  · show G _ _ _ _ _
    refine r_tableIn hG (off := 124) 125 dX6_signToken_1 (by decide) (by decide) (by decide) (by decide) ?_
    refine r_bipush hG (-19) dX6_signToken_125 (by decide) ?_
    refine hE _ _ _ _ _ dX6_signToken_127 rfl (Nat.le_refl _) (Nat.le_refl _) rfl ?_
    exact ⟨by decide, rfl⟩
  · show G _ _ _ _ _
    refine r_tableIn hG (off := 124) 125 dX6_signToken_1 (by decide) (by decide) (by decide) (by decide) ?_
    refine r_bipush hG (-19) dX6_signToken_125 (by decide) ?_
    refine hE _ _ _ _ _ dX6_signToken_127 rfl (Nat.le_refl _) (Nat.le_refl _) rfl ?_
    exact ⟨by decide, rfl⟩
  · show G _ _ _ _ _
    refine r_tableIn hG (off := 121) 122 dX6_signToken_1 (by decide) (by decide) (by decide) (by decide) ?_
    refine r_bipush hG (-17) dX6_signToken_122 (by decide) ?_
    refine hE _ _ _ _ _ dX6_signToken_124 rfl (Nat.le_refl _) (Nat.le_refl _) rfl ?_
    exact ⟨by decide, rfl⟩
  · show G _ _ _ _ _
    refine r_tableIn hG (off := 109) 110 dX6_signToken_1 (by decide) (by decide) (by decide) (by decide) ?_
    refine r_bipush hG (-9) dX6_signToken_110 (by decide) ?_
    refine hE _ _ _ _ _ dX6_signToken_112 rfl (Nat.le_refl _) (Nat.le_refl _) rfl ?_
    exact ⟨by decide, rfl⟩
  · show G _ _ _ _ _
    refine r_tableIn hG (off := 112) 113 dX6_signToken_1 (by decide) (by decide) (by decide) (by decide) ?_
    refine r_bipush hG (-10) dX6_signToken_113 (by decide) ?_
    refine hE _ _ _ _ _ dX6_signToken_115 rfl (Nat.le_refl _) (Nat.le_refl _) rfl ?_
    exact ⟨by decide, rfl⟩
  · show G _ _ _ _ _
    refine r_tableOut hG 125 dX6_signToken_1 (by first | assumption | omega) (by decide) ?_
    refine r_bipush hG (-19) dX6_signToken_125 (by decide) ?_
    refine hE _ _ _ _ _ dX6_signToken_127 rfl (Nat.le_refl _) (Nat.le_refl _) rfl ?_
    exact ⟨by rw [st_out hx]; rfl, rfl⟩

set_option maxRecDepth 100000 in
set_option maxHeartbeats 400000 in
theorem ct_X6_addToken {M : gM} {b : Bool} (hR : M.2.2 = stdR b) {k : Nat} (hk : M.1 7 4 = nI k) (lk : k ≤ 600) (t p : Int32) : gC 0 0 0 yX6_addToken cX6_addToken 3 none 140 140 [.ref 7, .int t, .int p] M (gV (fun M9 => M9 = gwI (gwI (gwI M 9 k t) 10 k p) 7 4 (nI k + 1))) := by
  refine gC_v rfl (Nat.le_of_ble_eq_true rfl) (fun G hG hE => ?_)
  change G (140, 0, 0) 0 [some (.ref 7), some (.int t), some (.int p)] [] M
  refine r_aload_n hG dX6_addToken_0 rfl ?_
  refine r_getIv hG 4 (nI k) fk_X6_36 dX6_addToken_1 rfl (by decide) rfl hk ?_
  refine r_sipush hG (600) dX6_addToken_4 (by decide) ?_
  refine r_icmp_gt hG 40 dX6_addToken_7 (by decide) (fun hc7 => absurd (nlt_t (a := 600) (b := k) (by omega) (by omega) hc7) (by omega)) (fun hc7 => ?_)
  refine r_aload_n hG dX6_addToken_10 rfl ?_
  refine r_getR hG 1 9 fk_X6_15 dX6_addToken_11 rfl (by decide) rfl (sr hR rfl) ?_
  refine r_aload_n hG dX6_addToken_14 rfl ?_
  refine r_getIv hG 4 (nI k) fk_X6_36 dX6_addToken_15 rfl (by decide) rfl hk ?_
  refine r_iload_n hG dX6_addToken_18 rfl ?_
  refine r_iast hG k dX6_addToken_19 rfl (by decide) rfl (by omega) (by decide) ?_
  refine r_aload_n hG dX6_addToken_20 rfl ?_
  refine r_getR hG 2 10 fk_X6_19 dX6_addToken_21 rfl (by decide) rfl (sr hR rfl) ?_
  refine r_aload_n hG dX6_addToken_24 rfl ?_
  refine r_getIv hG 4 (nI k) fk_X6_36 dX6_addToken_25 rfl (by decide) rfl ((gwI_n (by omega)).trans hk) ?_
  refine r_iload_n hG dX6_addToken_28 rfl ?_
  refine r_iast hG k dX6_addToken_29 rfl (by decide) rfl (by omega) (by decide) ?_
  refine r_aload_n hG dX6_addToken_30 rfl ?_
  refine r_dup hG dX6_addToken_31 rfl ?_
  refine r_getIv hG 4 (nI k) fk_X6_36 dX6_addToken_32 rfl (by decide) rfl (((gwI_n (by omega)).trans (gwI_n (by omega))).trans hk) ?_
  refine r_iconst hG (1) dX6_addToken_35 (by decide) ?_
  refine r_iadd hG dX6_addToken_36 ?_
  refine r_putI hG 4 fp_X6_36 dX6_addToken_37 rfl (by decide) rfl rfl rfl ?_
  refine hE _ _ _ _ dX6_addToken_40 rfl (Nat.le_refl _) (Nat.le_refl _) ?_
  rfl

set_option maxRecDepth 100000 in
set_option maxHeartbeats 400000 in
theorem lp_X6_eorl  {G : gJ} {P : Int32 → gM → Prop} (hG : gS 1 0 0 yX6_endOfRun.cls cX6_endOfRun 5 G) (hE : gEi 140 0 0 cX6_endOfRun .int P G) {M : gM} {b : Bool} (hR : M.2.2 = stdR b) {s : tS} (hs : tpC M s) {a : Nat} :
    ∀ (r k : Nat), k + r = s.1 → P (nI (runE s.2 letB r k)) M → G (140, 0, 0) 25 [some (.ref 7), some (.int (nI a)), some (.int (1)), some (.int (0)), some (.int (nI k))] [] M := by
  intro r
  induction r with
  | zero =>
    intro k hk hP
    have h600 := hs.2.1
    refine r_iload hG dX6_endOfRun_25 rfl ?_
    refine r_aload_n hG dX6_endOfRun_27 rfl ?_
    refine r_getIv hG 3 (nI s.1) fk_X6_32 dX6_endOfRun_28 rfl (by decide) rfl hs.1 ?_
    refine r_icmp_ge hG 74 dX6_endOfRun_31 (by decide) (fun hc31 => ?_) (fun hc31 => absurd (nle_f (a := s.1) (b := k) (by omega) (by omega) hc31) (by omega))
    refine r_iload hG dX6_endOfRun_74 rfl ?_
    refine hE _ _ _ _ _ dX6_endOfRun_76 rfl (Nat.le_refl _) (Nat.le_refl _) rfl ?_
    exact hP
  | succ r ih =>
    intro k hk hP
    have h600 := hs.2.1
    refine r_iload hG dX6_endOfRun_25 rfl ?_
    refine r_aload_n hG dX6_endOfRun_27 rfl ?_
    refine r_getIv hG 3 (nI s.1) fk_X6_32 dX6_endOfRun_28 rfl (by decide) rfl hs.1 ?_
    refine r_icmp_ge hG 74 dX6_endOfRun_31 (by decide) (fun hc31 => absurd (nle_t (a := s.1) (b := k) (by omega) (by omega) hc31) (by omega)) (fun hc31 => ?_)
    refine r_iload_n hG dX6_endOfRun_34 rfl ?_
    refine r_if_eq hG 51 dX6_endOfRun_35 (by decide) (fun hc35 => absurd hc35 (by decide)) (fun hc35 => ?_)
    refine r_aload_n hG dX6_endOfRun_38 rfl ?_
    refine r_getR hG 0 8 fk_X6_9 dX6_endOfRun_39 rfl (by decide) rfl (sr hR rfl) ?_
    refine r_iload hG dX6_endOfRun_42 rfl ?_
    refine r_caldv hG k (s.2 k) dX6_endOfRun_44 rfl (by decide) rfl (by omega) (by decide) (hs.2.2.1 k (by omega)) ?_
    refine r_cSI1 hG mk_X6_60 dX6_endOfRun_45 (ct_X6_isLetter _) (by decide) ⟨Nat.le_refl _, Nat.le_refl _⟩ (Nat.le_of_ble_eq_true rfl) (fun x9 M9 h9 => ?_)
    obtain ⟨h8, e9⟩ := h9; rw [e9]; rcases h8 with ⟨e8, hw45⟩ | ⟨e8, hw45⟩
    · rw [e8]
      refine r_if_ne hG 68 dX6_endOfRun_48 (by decide) (fun hc48 => ?_) (fun hc48 => absurd hc48 (by decide))
      refine r_iinc hG (1) dX6_endOfRun_68 (by decide) rfl ?_
      refine r_loc [some (.ref 7), some (.int (nI a)), some (.int (1)), some (.int (0)), some (.int ((nI k) + (1)))] rfl ?_
      refine r_goto hG 25 dX6_endOfRun_71 (by decide) ?_
      rw [nI_1]
      refine ih (k + 1) (by omega) ?_
      unfold runE at hP
      rw [if_pos (show letB (s.2 k) = true from decide_eq_true hw45)] at hP
      exact hP
    · rw [e8]
      refine r_if_ne hG 68 dX6_endOfRun_48 (by decide) (fun hc48 => absurd hc48 (by decide)) (fun hc48 => ?_)
      refine r_iload_n hG dX6_endOfRun_51 rfl ?_
      refine r_if_eq hG 74 dX6_endOfRun_52 (by decide) (fun hc52 => ?_) (fun hc52 => absurd hc52 (by decide))
      refine r_iload hG dX6_endOfRun_74 rfl ?_
      refine hE _ _ _ _ _ dX6_endOfRun_76 rfl (Nat.le_refl _) (Nat.le_refl _) rfl ?_
      unfold runE at hP
      rw [if_neg (fun q : letB (s.2 k) = true => hw45 (of_decide_eq_true q))] at hP
      exact hP

set_option maxRecDepth 100000 in
set_option maxHeartbeats 400000 in
theorem lp_X6_eord  {G : gJ} {P : Int32 → gM → Prop} (hG : gS 1 0 0 yX6_endOfRun.cls cX6_endOfRun 5 G) (hE : gEi 140 0 0 cX6_endOfRun .int P G) {M : gM} {b : Bool} (hR : M.2.2 = stdR b) {s : tS} (hs : tpC M s) {a : Nat} :
    ∀ (r k : Nat), k + r = s.1 → P (nI (runE s.2 digB r k)) M → G (140, 0, 0) 25 [some (.ref 7), some (.int (nI a)), some (.int (0)), some (.int (1)), some (.int (nI k))] [] M := by
  intro r
  induction r with
  | zero =>
    intro k hk hP
    have h600 := hs.2.1
    refine r_iload hG dX6_endOfRun_25 rfl ?_
    refine r_aload_n hG dX6_endOfRun_27 rfl ?_
    refine r_getIv hG 3 (nI s.1) fk_X6_32 dX6_endOfRun_28 rfl (by decide) rfl hs.1 ?_
    refine r_icmp_ge hG 74 dX6_endOfRun_31 (by decide) (fun hc31 => ?_) (fun hc31 => absurd (nle_f (a := s.1) (b := k) (by omega) (by omega) hc31) (by omega))
    refine r_iload hG dX6_endOfRun_74 rfl ?_
    refine hE _ _ _ _ _ dX6_endOfRun_76 rfl (Nat.le_refl _) (Nat.le_refl _) rfl ?_
    exact hP
  | succ r ih =>
    intro k hk hP
    have h600 := hs.2.1
    refine r_iload hG dX6_endOfRun_25 rfl ?_
    refine r_aload_n hG dX6_endOfRun_27 rfl ?_
    refine r_getIv hG 3 (nI s.1) fk_X6_32 dX6_endOfRun_28 rfl (by decide) rfl hs.1 ?_
    refine r_icmp_ge hG 74 dX6_endOfRun_31 (by decide) (fun hc31 => absurd (nle_t (a := s.1) (b := k) (by omega) (by omega) hc31) (by omega)) (fun hc31 => ?_)
    refine r_iload_n hG dX6_endOfRun_34 rfl ?_
    refine r_if_eq hG 51 dX6_endOfRun_35 (by decide) (fun hc35 => ?_) (fun hc35 => absurd hc35 (by decide))
    refine r_iload_n hG dX6_endOfRun_51 rfl ?_
    refine r_if_eq hG 74 dX6_endOfRun_52 (by decide) (fun hc52 => absurd hc52 (by decide)) (fun hc52 => ?_)
    refine r_aload_n hG dX6_endOfRun_55 rfl ?_
    refine r_getR hG 0 8 fk_X6_9 dX6_endOfRun_56 rfl (by decide) rfl (sr hR rfl) ?_
    refine r_iload hG dX6_endOfRun_59 rfl ?_
    refine r_caldv hG k (s.2 k) dX6_endOfRun_61 rfl (by decide) rfl (by omega) (by decide) (hs.2.2.1 k (by omega)) ?_
    refine r_cSI1 hG mk_X6_63 dX6_endOfRun_62 (ct_X6_isDigit _) (by decide) ⟨Nat.le_refl _, Nat.le_refl _⟩ (Nat.le_of_ble_eq_true rfl) (fun x9 M9 h9 => ?_)
    obtain ⟨h8, e9⟩ := h9; rw [e9]; rcases h8 with ⟨e8, hw62⟩ | ⟨e8, hw62⟩
    · rw [e8]
      refine r_if_eq hG 74 dX6_endOfRun_65 (by decide) (fun hc65 => absurd hc65 (by decide)) (fun hc65 => ?_)
      refine r_iinc hG (1) dX6_endOfRun_68 (by decide) rfl ?_
      refine r_loc [some (.ref 7), some (.int (nI a)), some (.int (0)), some (.int (1)), some (.int ((nI k) + (1)))] rfl ?_
      refine r_goto hG 25 dX6_endOfRun_71 (by decide) ?_
      rw [nI_1]
      refine ih (k + 1) (by omega) ?_
      unfold runE at hP
      rw [if_pos (show digB (s.2 k) = true from decide_eq_true hw62)] at hP
      exact hP
    · rw [e8]
      refine r_if_eq hG 74 dX6_endOfRun_65 (by decide) (fun hc65 => ?_) (fun hc65 => absurd hc65 (by decide))
      refine r_iload hG dX6_endOfRun_74 rfl ?_
      refine hE _ _ _ _ _ dX6_endOfRun_76 rfl (Nat.le_refl _) (Nat.le_refl _) rfl ?_
      unfold runE at hP
      rw [if_neg (fun q : digB (s.2 k) = true => hw62 (of_decide_eq_true q))] at hP
      exact hP

set_option maxRecDepth 100000 in
set_option maxHeartbeats 400000 in
theorem ct_X6_endOfRun {M : gM} {b : Bool} (hR : M.2.2 = stdR b) {s : tS} (hs : tpC M s) {a : Nat} (ha : a < s.1) : gC 1 0 0 yX6_endOfRun cX6_endOfRun 5 (some .int) 140 140 [.ref 7, .int (nI a)] M (gI (fun r M9 => r = nI (eor s a) ∧ M9 = M)) := by
  refine gC_i rfl (Nat.le_of_ble_eq_true rfl) (fun G hG hE => ?_)
  change G (140, 0, 0) 0 [some (.ref 7), some (.int (nI a)), none, none, none] [] M
  have h600 := hs.2.1
  refine r_aload_n hG dX6_endOfRun_0 rfl ?_
  refine r_getR hG 0 8 fk_X6_9 dX6_endOfRun_1 rfl (by decide) rfl (sr hR rfl) ?_
  refine r_iload_n hG dX6_endOfRun_4 rfl ?_
  refine r_caldv hG a (s.2 a) dX6_endOfRun_5 rfl (by decide) rfl (by omega) (by decide) (hs.2.2.1 a (by omega)) ?_
  refine r_cSI1 hG mk_X6_60 dX6_endOfRun_6 (ct_X6_isLetter _) (by decide) ⟨Nat.le_refl _, Nat.le_refl _⟩ (Nat.le_of_ble_eq_true rfl) (fun x9 M9 h9 => ?_)
  obtain ⟨h8, e9⟩ := h9; rw [e9]; rcases h8 with ⟨e8, hw6⟩ | ⟨e8, hw6⟩
  · rw [e8]
    refine r_istore_n hG dX6_endOfRun_9 (by decide) ?_
    refine r_loc [some (.ref 7), some (.int (nI a)), some (.int (1)), none, none] rfl ?_
    refine r_aload_n hG dX6_endOfRun_10 rfl ?_
    refine r_getR hG 0 8 fk_X6_9 dX6_endOfRun_11 rfl (by decide) rfl (sr hR rfl) ?_
    refine r_iload_n hG dX6_endOfRun_14 rfl ?_
    refine r_caldv hG a (s.2 a) dX6_endOfRun_15 rfl (by decide) rfl (by omega) (by decide) (hs.2.2.1 a (by omega)) ?_
    refine r_cSI1 hG mk_X6_63 dX6_endOfRun_16 (ct_X6_isDigit _) (by decide) ⟨Nat.le_refl _, Nat.le_refl _⟩ (Nat.le_of_ble_eq_true rfl) (fun x9 M9 h9 => ?_)
    obtain ⟨h8, e9⟩ := h9; rw [e9]; rcases h8 with ⟨e8, hw16⟩ | ⟨e8, hw16⟩; exact absurd (Int32.lt_of_lt_of_le (show (57 : Int32) < 97 by decide) (Int32.not_lt.mp hw6.1)) hw16.2
    · rw [e8]
      refine r_istore_n hG dX6_endOfRun_19 (by decide) ?_
      refine r_loc [some (.ref 7), some (.int (nI a)), some (.int (1)), some (.int (0)), none] rfl ?_
      refine r_iload_n hG dX6_endOfRun_20 rfl ?_
      refine r_iconst hG (1) dX6_endOfRun_21 (by decide) ?_
      refine r_iadd hG dX6_endOfRun_22 ?_
      refine r_top (nI (a + 1)) (nI_1 a) ?_
      refine r_istore hG dX6_endOfRun_23 (by decide) ?_
      refine r_loc [some (.ref 7), some (.int (nI a)), some (.int (1)), some (.int (0)), some (.int (nI (a + 1)))] rfl ?_
      refine lp_X6_eorl hG hE hR hs (s.1 - (a + 1)) (a + 1) (by omega) ⟨?_, rfl⟩
      unfold eor
      rw [if_pos hw6]
  · rw [e8]
    refine r_istore_n hG dX6_endOfRun_9 (by decide) ?_
    refine r_loc [some (.ref 7), some (.int (nI a)), some (.int (0)), none, none] rfl ?_
    refine r_aload_n hG dX6_endOfRun_10 rfl ?_
    refine r_getR hG 0 8 fk_X6_9 dX6_endOfRun_11 rfl (by decide) rfl (sr hR rfl) ?_
    refine r_iload_n hG dX6_endOfRun_14 rfl ?_
    refine r_caldv hG a (s.2 a) dX6_endOfRun_15 rfl (by decide) rfl (by omega) (by decide) (hs.2.2.1 a (by omega)) ?_
    refine r_cSI1 hG mk_X6_63 dX6_endOfRun_16 (ct_X6_isDigit _) (by decide) ⟨Nat.le_refl _, Nat.le_refl _⟩ (Nat.le_of_ble_eq_true rfl) (fun x9 M9 h9 => ?_)
    obtain ⟨h8, e9⟩ := h9; rw [e9]; rcases h8 with ⟨e8, hw16⟩ | ⟨e8, hw16⟩
    · rw [e8]
      refine r_istore_n hG dX6_endOfRun_19 (by decide) ?_
      refine r_loc [some (.ref 7), some (.int (nI a)), some (.int (0)), some (.int (1)), none] rfl ?_
      refine r_iload_n hG dX6_endOfRun_20 rfl ?_
      refine r_iconst hG (1) dX6_endOfRun_21 (by decide) ?_
      refine r_iadd hG dX6_endOfRun_22 ?_
      refine r_top (nI (a + 1)) (nI_1 a) ?_
      refine r_istore hG dX6_endOfRun_23 (by decide) ?_
      refine r_loc [some (.ref 7), some (.int (nI a)), some (.int (0)), some (.int (1)), some (.int (nI (a + 1)))] rfl ?_
      refine lp_X6_eord hG hE hR hs (s.1 - (a + 1)) (a + 1) (by omega) ⟨?_, rfl⟩
      unfold eor
      rw [if_neg hw6, if_pos hw16]
    · rw [e8]
      refine r_istore_n hG dX6_endOfRun_19 (by decide) ?_
      refine r_loc [some (.ref 7), some (.int (nI a)), some (.int (0)), some (.int (0)), none] rfl ?_
      refine r_iload_n hG dX6_endOfRun_20 rfl ?_
      refine r_iconst hG (1) dX6_endOfRun_21 (by decide) ?_
      refine r_iadd hG dX6_endOfRun_22 ?_
      refine r_top (nI (a + 1)) (nI_1 a) ?_
      refine r_istore hG dX6_endOfRun_23 (by decide) ?_
      refine r_loc [some (.ref 7), some (.int (nI a)), some (.int (0)), some (.int (0)), some (.int (nI (a + 1)))] rfl ?_
      refine r_iload hG dX6_endOfRun_25 rfl ?_
      refine r_aload_n hG dX6_endOfRun_27 rfl ?_
      refine r_getIv hG 3 (nI s.1) fk_X6_32 dX6_endOfRun_28 rfl (by decide) rfl hs.1 ?_
      refine r_icmp_ge hG 74 dX6_endOfRun_31 (by decide) (fun hc31 => ?_) (fun hc31 => ?_)
      · have hn31 := nle_t (a := s.1) (b := (a + 1)) (by omega) (by omega) hc31
        refine r_iload hG dX6_endOfRun_74 rfl ?_
        refine hE _ _ _ _ _ dX6_endOfRun_76 rfl (Nat.le_refl _) (Nat.le_refl _) rfl ?_
        refine ⟨?_, rfl⟩
        unfold eor
        rw [if_neg hw6, if_neg hw16]
      · have hn31 := nle_f (a := s.1) (b := (a + 1)) (by omega) (by omega) hc31
        refine r_iload_n hG dX6_endOfRun_34 rfl ?_
        refine r_if_eq hG 51 dX6_endOfRun_35 (by decide) (fun hc35 => ?_) (fun hc35 => absurd hc35 (by decide))
        refine r_iload_n hG dX6_endOfRun_51 rfl ?_
        refine r_if_eq hG 74 dX6_endOfRun_52 (by decide) (fun hc52 => ?_) (fun hc52 => absurd hc52 (by decide))
        refine r_iload hG dX6_endOfRun_74 rfl ?_
        refine hE _ _ _ _ _ dX6_endOfRun_76 rfl (Nat.le_refl _) (Nat.le_refl _) rfl ?_
        refine ⟨?_, rfl⟩
        unfold eor
        rw [if_neg hw6, if_neg hw16]

set_option maxRecDepth 100000 in
set_option maxHeartbeats 400000 in
theorem lp_X6_num  {G : gJ} {P : Int32 → gM → Prop} (hG : gS 0 0 0 yX6_numberToken.cls cX6_numberToken 5 G) (hE : gEi 140 0 0 cX6_numberToken .int P G) {M : gM} {b : Bool} (hR : M.2.2 = stdR b) {s : tS} (hs : tpC M s) {a e : Nat} (he : e ≤ s.1) :
    ∀ (r k : Nat), k + r = e → a ≤ k → P (num s.2 a (e - a)) M → G (140, 0, 0) 15 [some (.ref 7), some (.int (nI a)), some (.int (nI e)), some (.int (num s.2 a (k - a))), some (.int (nI k))] [] M := by
  intro r
  induction r with
  | zero =>
    intro k hk hak hP
    have h600 := hs.2.1
    refine r_iload hG dX6_numberToken_15 rfl ?_
    refine r_iload_n hG dX6_numberToken_17 rfl ?_
    refine r_icmp_ge hG 43 dX6_numberToken_18 (by decide) (fun hc18 => ?_) (fun hc18 => absurd (nle_f (a := e) (b := k) (by omega) (by omega) hc18) (by omega))
    refine r_iload_n hG dX6_numberToken_43 rfl ?_
    refine hE _ _ _ _ _ dX6_numberToken_44 rfl (Nat.le_refl _) (Nat.le_refl _) rfl ?_
    rw [show k = e by omega]
    exact hP
  | succ r ih =>
    intro k hk hak hP
    have h600 := hs.2.1
    refine r_iload hG dX6_numberToken_15 rfl ?_
    refine r_iload_n hG dX6_numberToken_17 rfl ?_
    refine r_icmp_ge hG 43 dX6_numberToken_18 (by decide) (fun hc18 => absurd (nle_t (a := e) (b := k) (by omega) (by omega) hc18) (by omega)) (fun hc18 => ?_)
    refine r_iload_n hG dX6_numberToken_21 rfl ?_
    refine r_bipush hG (10) dX6_numberToken_22 (by decide) ?_
    refine r_imul hG dX6_numberToken_24 ?_
    refine r_aload_n hG dX6_numberToken_25 rfl ?_
    refine r_getR hG 0 8 fk_X6_9 dX6_numberToken_26 rfl (by decide) rfl (sr hR rfl) ?_
    refine r_iload hG dX6_numberToken_29 rfl ?_
    refine r_caldv hG k (s.2 k) dX6_numberToken_31 rfl (by decide) rfl (by omega) (by decide) (hs.2.2.1 k (by omega)) ?_
    refine r_bipush hG (48) dX6_numberToken_32 (by decide) ?_
    refine r_isub hG dX6_numberToken_34 ?_
    refine r_iadd hG dX6_numberToken_35 ?_
    refine r_top (num s.2 a (k + 1 - a)) (by rw [show k + 1 - a = (k - a) + 1 by omega]; unfold num; rw [show a + (k - a) = k by omega]; cases (k - a) <;> rfl) ?_
    refine r_istore_n hG dX6_numberToken_36 (by decide) ?_
    refine r_loc [some (.ref 7), some (.int (nI a)), some (.int (nI e)), some (.int (num s.2 a (k + 1 - a))), some (.int (nI k))] rfl ?_
    refine r_iinc hG (1) dX6_numberToken_37 (by decide) rfl ?_
    refine r_loc [some (.ref 7), some (.int (nI a)), some (.int (nI e)), some (.int (num s.2 a (k + 1 - a))), some (.int ((nI k) + (1)))] rfl ?_
    refine r_goto hG 15 dX6_numberToken_40 (by decide) ?_
    rw [nI_1]
    exact ih (k + 1) (by omega) (by omega) hP

set_option maxRecDepth 100000 in
set_option maxHeartbeats 400000 in
theorem ct_X6_numberToken {M : gM} {b : Bool} (hR : M.2.2 = stdR b) {s : tS} (hs : tpC M s) {a e : Nat} (hae : a ≤ e) (he : e ≤ s.1) : gC 0 0 0 yX6_numberToken cX6_numberToken 5 (some .int) 140 140 [.ref 7, .int (nI a), .int (nI e)] M (gI (fun r M9 => r = stv (if 4 < e - a then (19, 0) else (0, num s.2 a (e - a))) ∧ M9 = M)) := by
  refine gC_i rfl (Nat.le_of_ble_eq_true rfl) (fun G hG hE => ?_)
  change G (140, 0, 0) 0 [some (.ref 7), some (.int (nI a)), some (.int (nI e)), none, none] [] M
  have h600 := hs.2.1
  refine r_iload_n hG dX6_numberToken_0 rfl ?_
  refine r_iload_n hG dX6_numberToken_1 rfl ?_
  refine r_isub hG dX6_numberToken_2 ?_
  refine r_top (nI (e - a)) (pk_sub hae) ?_
  refine r_iconst hG (4) dX6_numberToken_3 (by decide) ?_
  refine r_icmp_le hG 10 dX6_numberToken_4 (by decide) (fun hc4 => ?_) (fun hc4 => ?_)
  · have hn4 := nle_t (a := (e - a)) (b := 4) (by omega) (by omega) hc4
    refine r_iconst hG (0) dX6_numberToken_10 (by decide) ?_
    refine r_istore_n hG dX6_numberToken_11 (by decide) ?_
    refine r_loc [some (.ref 7), some (.int (nI a)), some (.int (nI e)), some (.int (0)), none] rfl ?_
    refine r_iload_n hG dX6_numberToken_12 rfl ?_
    refine r_istore hG dX6_numberToken_13 (by decide) ?_
    refine r_loc [some (.ref 7), some (.int (nI a)), some (.int (nI e)), some (.int (0)), some (.int (nI a))] rfl ?_
    refine r_loc [some (.ref 7), some (.int (nI a)), some (.int (nI e)), some (.int (num s.2 a (a - a))), some (.int (nI a))] (by rw [Nat.sub_self]; rfl) ?_
    refine lp_X6_num hG hE hR hs he (e - a) a (by omega) (Nat.le_refl _) ⟨?_, rfl⟩
    rw [if_neg (by omega)]
    rfl
  · have hn4 := nle_f (a := (e - a)) (b := 4) (by omega) (by omega) hc4
    refine r_bipush hG (-19) dX6_numberToken_7 (by decide) ?_
    refine hE _ _ _ _ _ dX6_numberToken_9 rfl (Nat.le_refl _) (Nat.le_refl _) rfl ?_
    refine ⟨?_, rfl⟩
    rw [if_pos (by omega)]
    rfl

set_option maxRecDepth 100000 in
set_option maxHeartbeats 400000 in
theorem lp_X6_reads  {G : gJ} {P : Int32 → gM → Prop} (hG : gS 4 0 0 yX6_reads.cls cX6_reads 5 G) (hE : gEi 140 0 0 cX6_reads .boolean P G) {M : gM} {b : Bool} (hR : M.2.2 = stdR b) {s : tS} (hs : tpC M s) {i : Nat} (hi : i < 10) {a e : Nat} (hae : a ≤ e) (he : e ≤ s.1) (hl : e - a = glen.getD i 0) :
    ∀ (r k : Nat), k + r = e → a ≤ k → (∀ j, j < k - a → s.2 (a + j) = (gbyt.getD i []).getD j 0) → (∀ r, bI (mt s.2 a (e - a) i) r → P r M) → G (140, 0, 0) 15 [some (.ref 7), some (.ref (1000 + i)), some (.int (nI a)), some (.int (nI e)), some (.int (nI k))] [] M := by
  intro r
  induction r with
  | zero =>
    intro k hk hak hv hP
    have h600 := hs.2.1
    refine r_iload hG dX6_reads_15 rfl ?_
    refine r_iload_n hG dX6_reads_17 rfl ?_
    refine r_icmp_ge hG 47 dX6_reads_18 (by decide) (fun hc18 => ?_) (fun hc18 => absurd (nle_f (a := e) (b := k) (by omega) (by omega) hc18) (by omega))
    refine r_iconst hG (1) dX6_reads_47 (by decide) ?_
    refine hE _ _ _ _ _ dX6_reads_48 rfl (Nat.le_refl _) (Nat.le_refl _) rfl ?_
    exact hP 1 (Or.inl ⟨rfl, hl, fun j hj => hv j (by omega)⟩)
  | succ r ih =>
    intro k hk hak hv hP
    have h600 := hs.2.1
    refine r_iload hG dX6_reads_15 rfl ?_
    refine r_iload_n hG dX6_reads_17 rfl ?_
    refine r_icmp_ge hG 47 dX6_reads_18 (by decide) (fun hc18 => absurd (nle_t (a := e) (b := k) (by omega) (by omega) hc18) (by omega)) (fun hc18 => ?_)
    refine r_aload_n hG dX6_reads_21 rfl ?_
    refine r_getR hG 0 8 fk_X6_9 dX6_reads_22 rfl (by decide) rfl (sr hR rfl) ?_
    refine r_iload hG dX6_reads_25 rfl ?_
    refine r_caldv hG k (s.2 k) dX6_reads_27 rfl (by decide) rfl (by omega) (by decide) (hs.2.2.1 k (by omega)) ?_
    refine r_aload_n hG dX6_reads_28 rfl ?_
    refine r_iload hG dX6_reads_29 rfl ?_
    refine r_iload_n hG dX6_reads_31 rfl ?_
    refine r_isub hG dX6_reads_32 ?_
    refine r_top (nI (k - a)) (pk_sub hak) ?_
    refine r_callT (i := i) hG [.int (nI (k - a))] mk_X6_105 dX6_reads_33 hi rfl (by decide) ⟨Nat.le_refl _, Nat.le_refl _⟩ (Nat.le_of_ble_eq_true rfl) (ct_J0_charAt_5068e hi (q := k - a) (by omega)) (fun r9 M9 h9 => ?_)
    obtain ⟨x9, rfl, rfl, rfl⟩ := h9
    refine r_top (((gbyt.getD i []).getD (k - a) 0)) rfl ?_
    refine r_icmp_eq hG 41 dX6_reads_36 (by decide) (fun hc36 => ?_) (fun hc36 => ?_)
    · refine r_iinc hG (1) dX6_reads_41 (by decide) rfl ?_
      refine r_loc [some (.ref 7), some (.ref (1000 + i)), some (.int (nI a)), some (.int (nI e)), some (.int ((nI k) + (1)))] rfl ?_
      refine r_goto hG 15 dX6_reads_44 (by decide) ?_
      rw [nI_1]
      refine ih (k + 1) (by omega) (by omega) (fun j hj => ?_) hP
      by_cases ej : j = k - a
      · rw [ej, show a + (k - a) = k by omega]; exact hc36
      · exact hv j (by omega)
    · refine r_iconst hG (0) dX6_reads_39 (by decide) ?_
      refine hE _ _ _ _ _ dX6_reads_40 rfl (Nat.le_refl _) (Nat.le_refl _) rfl ?_
      refine hP 0 (Or.inr ⟨rfl, fun q => hc36 ?_⟩)
      have := q.2 (k - a) (by omega)
      rw [show a + (k - a) = k by omega] at this
      exact this

set_option maxRecDepth 100000 in
set_option maxHeartbeats 400000 in
theorem ct_X6_reads {M : gM} {b : Bool} (hR : M.2.2 = stdR b) {s : tS} (hs : tpC M s) {i : Nat} (hi : i < 10) {a e : Nat} (hae : a ≤ e) (he : e ≤ s.1) : gC 4 0 0 yX6_reads cX6_reads 5 (some .boolean) 140 140 [.ref 7, .ref (1000 + i), .int (nI a), .int (nI e)] M (gI (fun r M9 => bI (mt s.2 a (e - a) i) r ∧ M9 = M)) := by
  refine gC_i rfl (Nat.le_of_ble_eq_true rfl) (fun G hG hE => ?_)
  change G (140, 0, 0) 0 [some (.ref 7), some (.ref (1000 + i)), some (.int (nI a)), some (.int (nI e)), none] [] M
  have h600 := hs.2.1
  have h6 := glen_le i hi
  refine r_iload_n hG dX6_reads_0 rfl ?_
  refine r_iload_n hG dX6_reads_1 rfl ?_
  refine r_isub hG dX6_reads_2 ?_
  refine r_top (nI (e - a)) (pk_sub hae) ?_
  refine r_aload_n hG dX6_reads_3 rfl ?_
  refine r_callT (i := i) hG [] mk_X6_100 dX6_reads_4 hi rfl (by decide) ⟨Nat.le_refl _, Nat.le_refl _⟩ (Nat.le_of_ble_eq_true rfl) (ct_J0_length_8abf5 hi) (fun r9 M9 h9 => ?_)
  obtain ⟨x9, rfl, rfl, rfl⟩ := h9
  refine r_top ((nI (glen.getD i 0))) rfl ?_
  refine r_icmp_eq hG 12 dX6_reads_7 (by decide) (fun hc7 => ?_) (fun hc7 => ?_)
  · refine r_iload_n hG dX6_reads_12 rfl ?_
    refine r_istore hG dX6_reads_13 (by decide) ?_
    refine r_loc [some (.ref 7), some (.ref (1000 + i)), some (.int (nI a)), some (.int (nI e)), some (.int (nI a))] rfl ?_
    exact lp_X6_reads hG hE hR hs hi hae he (neq_t (by omega) (by omega) hc7) (e - a) a (by omega) (Nat.le_refl _) (fun j hj => absurd hj (by omega)) (fun r hr => ⟨hr, rfl⟩)
  · refine r_iconst hG (0) dX6_reads_10 (by decide) ?_
    refine hE _ _ _ _ _ dX6_reads_11 rfl (Nat.le_refl _) (Nat.le_refl _) rfl ?_
    exact ⟨Or.inr ⟨rfl, fun q => hc7 (by rw [q.1])⟩, rfl⟩

set_option maxRecDepth 100000 in
set_option maxHeartbeats 400000 in
theorem ct_X6_wordToken {M : gM} {b : Bool} (hR : M.2.2 = stdR b) {s : tS} (hs : tpC M s) {a e : Nat} (hae : a ≤ e) (he : e ≤ s.1) : gC 5 0 0 yX6_wordToken cX6_wordToken 3 (some .int) 140 140 [.ref 7, .int (nI a), .int (nI e)] M (gI (fun r M9 => r = stv (wtk s.2 a (e - a), 0) ∧ M9 = M)) := by
  refine gC_i rfl (Nat.le_of_ble_eq_true rfl) (fun G hG hE => ?_)
  change G (140, 0, 0) 0 [some (.ref 7), some (.int (nI a)), some (.int (nI e))] [] M
  refine r_aload_n hG dX6_wordToken_0 rfl ?_
  refine r_ldcS hG 0 (by decide) rfl dX6_wordToken_1 ?_
  refine r_iload_n hG dX6_wordToken_3 rfl ?_
  refine r_iload_n hG dX6_wordToken_4 rfl ?_
  refine r_cVI3 hG mk_X6_78 dX6_wordToken_5 rfl (by decide) (ct_X6_reads hR hs (i := 0) (by decide) hae he) (by decide) ⟨Nat.le_refl _, Nat.le_refl _⟩ (Nat.le_of_ble_eq_true rfl) (fun x9 M9 h9 => ?_)
  obtain ⟨h8, e9⟩ := h9; rw [e9]; rcases h8 with ⟨e8, hw5⟩ | ⟨e8, hw5⟩
  · rw [e8]
    refine r_if_eq hG 14 dX6_wordToken_8 (by decide) (fun hc8 => absurd hc8 (by decide)) (fun hc8 => ?_)
    refine r_bipush hG (-12) dX6_wordToken_11 (by decide) ?_
    refine hE _ _ _ _ _ dX6_wordToken_13 rfl (Nat.le_refl _) (Nat.le_refl _) rfl ?_
    refine ⟨?_, rfl⟩
    unfold wtk
    rw [if_pos hw5]
    decide
  · rw [e8]
    refine r_if_eq hG 14 dX6_wordToken_8 (by decide) (fun hc8 => ?_) (fun hc8 => absurd hc8 (by decide))
    refine r_aload_n hG dX6_wordToken_14 rfl ?_
    refine r_ldcS hG 1 (by decide) rfl dX6_wordToken_15 ?_
    refine r_iload_n hG dX6_wordToken_17 rfl ?_
    refine r_iload_n hG dX6_wordToken_18 rfl ?_
    refine r_cVI3 hG mk_X6_78 dX6_wordToken_19 rfl (by decide) (ct_X6_reads hR hs (i := 1) (by decide) hae he) (by decide) ⟨Nat.le_refl _, Nat.le_refl _⟩ (Nat.le_of_ble_eq_true rfl) (fun x9 M9 h9 => ?_)
    obtain ⟨h8, e9⟩ := h9; rw [e9]; rcases h8 with ⟨e8, hw19⟩ | ⟨e8, hw19⟩
    · rw [e8]
      refine r_if_eq hG 28 dX6_wordToken_22 (by decide) (fun hc22 => absurd hc22 (by decide)) (fun hc22 => ?_)
      refine r_bipush hG (-13) dX6_wordToken_25 (by decide) ?_
      refine hE _ _ _ _ _ dX6_wordToken_27 rfl (Nat.le_refl _) (Nat.le_refl _) rfl ?_
      refine ⟨?_, rfl⟩
      unfold wtk
      rw [if_neg hw5, if_pos hw19]
      decide
    · rw [e8]
      refine r_if_eq hG 28 dX6_wordToken_22 (by decide) (fun hc22 => ?_) (fun hc22 => absurd hc22 (by decide))
      refine r_aload_n hG dX6_wordToken_28 rfl ?_
      refine r_ldcS hG 2 (by decide) rfl dX6_wordToken_29 ?_
      refine r_iload_n hG dX6_wordToken_31 rfl ?_
      refine r_iload_n hG dX6_wordToken_32 rfl ?_
      refine r_cVI3 hG mk_X6_78 dX6_wordToken_33 rfl (by decide) (ct_X6_reads hR hs (i := 2) (by decide) hae he) (by decide) ⟨Nat.le_refl _, Nat.le_refl _⟩ (Nat.le_of_ble_eq_true rfl) (fun x9 M9 h9 => ?_)
      obtain ⟨h8, e9⟩ := h9; rw [e9]; rcases h8 with ⟨e8, hw33⟩ | ⟨e8, hw33⟩
      · rw [e8]
        refine r_if_eq hG 42 dX6_wordToken_36 (by decide) (fun hc36 => absurd hc36 (by decide)) (fun hc36 => ?_)
        refine r_bipush hG (-14) dX6_wordToken_39 (by decide) ?_
        refine hE _ _ _ _ _ dX6_wordToken_41 rfl (Nat.le_refl _) (Nat.le_refl _) rfl ?_
        refine ⟨?_, rfl⟩
        unfold wtk
        rw [if_neg hw5, if_neg hw19, if_pos hw33]
        decide
      · rw [e8]
        refine r_if_eq hG 42 dX6_wordToken_36 (by decide) (fun hc36 => ?_) (fun hc36 => absurd hc36 (by decide))
        refine r_aload_n hG dX6_wordToken_42 rfl ?_
        refine r_ldcS hG 3 (by decide) rfl dX6_wordToken_43 ?_
        refine r_iload_n hG dX6_wordToken_45 rfl ?_
        refine r_iload_n hG dX6_wordToken_46 rfl ?_
        refine r_cVI3 hG mk_X6_78 dX6_wordToken_47 rfl (by decide) (ct_X6_reads hR hs (i := 3) (by decide) hae he) (by decide) ⟨Nat.le_refl _, Nat.le_refl _⟩ (Nat.le_of_ble_eq_true rfl) (fun x9 M9 h9 => ?_)
        obtain ⟨h8, e9⟩ := h9; rw [e9]; rcases h8 with ⟨e8, hw47⟩ | ⟨e8, hw47⟩
        · rw [e8]
          refine r_if_eq hG 56 dX6_wordToken_50 (by decide) (fun hc50 => absurd hc50 (by decide)) (fun hc50 => ?_)
          refine r_bipush hG (-11) dX6_wordToken_53 (by decide) ?_
          refine hE _ _ _ _ _ dX6_wordToken_55 rfl (Nat.le_refl _) (Nat.le_refl _) rfl ?_
          refine ⟨?_, rfl⟩
          unfold wtk
          rw [if_neg hw5, if_neg hw19, if_neg hw33, if_pos hw47]
          decide
        · rw [e8]
          refine r_if_eq hG 56 dX6_wordToken_50 (by decide) (fun hc50 => ?_) (fun hc50 => absurd hc50 (by decide))
          refine r_aload_n hG dX6_wordToken_56 rfl ?_
          refine r_ldcS hG 4 (by decide) rfl dX6_wordToken_57 ?_
          refine r_iload_n hG dX6_wordToken_59 rfl ?_
          refine r_iload_n hG dX6_wordToken_60 rfl ?_
          refine r_cVI3 hG mk_X6_78 dX6_wordToken_61 rfl (by decide) (ct_X6_reads hR hs (i := 4) (by decide) hae he) (by decide) ⟨Nat.le_refl _, Nat.le_refl _⟩ (Nat.le_of_ble_eq_true rfl) (fun x9 M9 h9 => ?_)
          obtain ⟨h8, e9⟩ := h9; rw [e9]; rcases h8 with ⟨e8, hw61⟩ | ⟨e8, hw61⟩
          · rw [e8]
            refine r_if_eq hG 69 dX6_wordToken_64 (by decide) (fun hc64 => absurd hc64 (by decide)) (fun hc64 => ?_)
            refine r_iconst hG (-1) dX6_wordToken_67 (by decide) ?_
            refine hE _ _ _ _ _ dX6_wordToken_68 rfl (Nat.le_refl _) (Nat.le_refl _) rfl ?_
            refine ⟨?_, rfl⟩
            unfold wtk
            rw [if_neg hw5, if_neg hw19, if_neg hw33, if_neg hw47, if_pos hw61]
            decide
          · rw [e8]
            refine r_if_eq hG 69 dX6_wordToken_64 (by decide) (fun hc64 => ?_) (fun hc64 => absurd hc64 (by decide))
            refine r_aload_n hG dX6_wordToken_69 rfl ?_
            refine r_ldcS hG 5 (by decide) rfl dX6_wordToken_70 ?_
            refine r_iload_n hG dX6_wordToken_72 rfl ?_
            refine r_iload_n hG dX6_wordToken_73 rfl ?_
            refine r_cVI3 hG mk_X6_78 dX6_wordToken_74 rfl (by decide) (ct_X6_reads hR hs (i := 5) (by decide) hae he) (by decide) ⟨Nat.le_refl _, Nat.le_refl _⟩ (Nat.le_of_ble_eq_true rfl) (fun x9 M9 h9 => ?_)
            obtain ⟨h8, e9⟩ := h9; rw [e9]; rcases h8 with ⟨e8, hw74⟩ | ⟨e8, hw74⟩
            · rw [e8]
              refine r_if_eq hG 83 dX6_wordToken_77 (by decide) (fun hc77 => absurd hc77 (by decide)) (fun hc77 => ?_)
              refine r_bipush hG (-2) dX6_wordToken_80 (by decide) ?_
              refine hE _ _ _ _ _ dX6_wordToken_82 rfl (Nat.le_refl _) (Nat.le_refl _) rfl ?_
              refine ⟨?_, rfl⟩
              unfold wtk
              rw [if_neg hw5, if_neg hw19, if_neg hw33, if_neg hw47, if_neg hw61, if_pos hw74]
              decide
            · rw [e8]
              refine r_if_eq hG 83 dX6_wordToken_77 (by decide) (fun hc77 => ?_) (fun hc77 => absurd hc77 (by decide))
              refine r_aload_n hG dX6_wordToken_83 rfl ?_
              refine r_ldcS hG 6 (by decide) rfl dX6_wordToken_84 ?_
              refine r_iload_n hG dX6_wordToken_86 rfl ?_
              refine r_iload_n hG dX6_wordToken_87 rfl ?_
              refine r_cVI3 hG mk_X6_78 dX6_wordToken_88 rfl (by decide) (ct_X6_reads hR hs (i := 6) (by decide) hae he) (by decide) ⟨Nat.le_refl _, Nat.le_refl _⟩ (Nat.le_of_ble_eq_true rfl) (fun x9 M9 h9 => ?_)
              obtain ⟨h8, e9⟩ := h9; rw [e9]; rcases h8 with ⟨e8, hw88⟩ | ⟨e8, hw88⟩
              · rw [e8]
                refine r_if_eq hG 97 dX6_wordToken_91 (by decide) (fun hc91 => absurd hc91 (by decide)) (fun hc91 => ?_)
                refine r_bipush hG (-3) dX6_wordToken_94 (by decide) ?_
                refine hE _ _ _ _ _ dX6_wordToken_96 rfl (Nat.le_refl _) (Nat.le_refl _) rfl ?_
                refine ⟨?_, rfl⟩
                unfold wtk
                rw [if_neg hw5, if_neg hw19, if_neg hw33, if_neg hw47, if_neg hw61, if_neg hw74, if_pos hw88]
                decide
              · rw [e8]
                refine r_if_eq hG 97 dX6_wordToken_91 (by decide) (fun hc91 => ?_) (fun hc91 => absurd hc91 (by decide))
                refine r_aload_n hG dX6_wordToken_97 rfl ?_
                refine r_ldcS hG 7 (by decide) rfl dX6_wordToken_98 ?_
                refine r_iload_n hG dX6_wordToken_100 rfl ?_
                refine r_iload_n hG dX6_wordToken_101 rfl ?_
                refine r_cVI3 hG mk_X6_78 dX6_wordToken_102 rfl (by decide) (ct_X6_reads hR hs (i := 7) (by decide) hae he) (by decide) ⟨Nat.le_refl _, Nat.le_refl _⟩ (Nat.le_of_ble_eq_true rfl) (fun x9 M9 h9 => ?_)
                obtain ⟨h8, e9⟩ := h9; rw [e9]; rcases h8 with ⟨e8, hw102⟩ | ⟨e8, hw102⟩
                · rw [e8]
                  refine r_if_eq hG 111 dX6_wordToken_105 (by decide) (fun hc105 => absurd hc105 (by decide)) (fun hc105 => ?_)
                  refine r_bipush hG (-4) dX6_wordToken_108 (by decide) ?_
                  refine hE _ _ _ _ _ dX6_wordToken_110 rfl (Nat.le_refl _) (Nat.le_refl _) rfl ?_
                  refine ⟨?_, rfl⟩
                  unfold wtk
                  rw [if_neg hw5, if_neg hw19, if_neg hw33, if_neg hw47, if_neg hw61, if_neg hw74, if_neg hw88, if_pos hw102]
                  decide
                · rw [e8]
                  refine r_if_eq hG 111 dX6_wordToken_105 (by decide) (fun hc105 => ?_) (fun hc105 => absurd hc105 (by decide))
                  refine r_aload_n hG dX6_wordToken_111 rfl ?_
                  refine r_ldcS hG 8 (by decide) rfl dX6_wordToken_112 ?_
                  refine r_iload_n hG dX6_wordToken_114 rfl ?_
                  refine r_iload_n hG dX6_wordToken_115 rfl ?_
                  refine r_cVI3 hG mk_X6_78 dX6_wordToken_116 rfl (by decide) (ct_X6_reads hR hs (i := 8) (by decide) hae he) (by decide) ⟨Nat.le_refl _, Nat.le_refl _⟩ (Nat.le_of_ble_eq_true rfl) (fun x9 M9 h9 => ?_)
                  obtain ⟨h8, e9⟩ := h9; rw [e9]; rcases h8 with ⟨e8, hw116⟩ | ⟨e8, hw116⟩
                  · rw [e8]
                    refine r_if_eq hG 125 dX6_wordToken_119 (by decide) (fun hc119 => absurd hc119 (by decide)) (fun hc119 => ?_)
                    refine r_bipush hG (-5) dX6_wordToken_122 (by decide) ?_
                    refine hE _ _ _ _ _ dX6_wordToken_124 rfl (Nat.le_refl _) (Nat.le_refl _) rfl ?_
                    refine ⟨?_, rfl⟩
                    unfold wtk
                    rw [if_neg hw5, if_neg hw19, if_neg hw33, if_neg hw47, if_neg hw61, if_neg hw74, if_neg hw88, if_neg hw102, if_pos hw116]
                    decide
                  · rw [e8]
                    refine r_if_eq hG 125 dX6_wordToken_119 (by decide) (fun hc119 => ?_) (fun hc119 => absurd hc119 (by decide))
                    refine r_aload_n hG dX6_wordToken_125 rfl ?_
                    refine r_ldcS hG 9 (by decide) rfl dX6_wordToken_126 ?_
                    refine r_iload_n hG dX6_wordToken_128 rfl ?_
                    refine r_iload_n hG dX6_wordToken_129 rfl ?_
                    refine r_cVI3 hG mk_X6_78 dX6_wordToken_130 rfl (by decide) (ct_X6_reads hR hs (i := 9) (by decide) hae he) (by decide) ⟨Nat.le_refl _, Nat.le_refl _⟩ (Nat.le_of_ble_eq_true rfl) (fun x9 M9 h9 => ?_)
                    obtain ⟨h8, e9⟩ := h9; rw [e9]; rcases h8 with ⟨e8, hw130⟩ | ⟨e8, hw130⟩
                    · rw [e8]
                      refine r_if_eq hG 141 dX6_wordToken_133 (by decide) (fun hc133 => absurd hc133 (by decide)) (fun hc133 => ?_)
                      refine r_bipush hG (-6) dX6_wordToken_136 (by decide) ?_
                      refine r_goto hG 143 dX6_wordToken_138 (by decide) ?_
                      refine hE _ _ _ _ _ dX6_wordToken_143 rfl (Nat.le_refl _) (Nat.le_refl _) rfl ?_
                      refine ⟨?_, rfl⟩
                      unfold wtk
                      rw [if_neg hw5, if_neg hw19, if_neg hw33, if_neg hw47, if_neg hw61, if_neg hw74, if_neg hw88, if_neg hw102, if_neg hw116, if_pos hw130]
                      decide
                    · rw [e8]
                      refine r_if_eq hG 141 dX6_wordToken_133 (by decide) (fun hc133 => ?_) (fun hc133 => absurd hc133 (by decide))
                      refine r_bipush hG (-19) dX6_wordToken_141 (by decide) ?_
                      refine hE _ _ _ _ _ dX6_wordToken_143 rfl (Nat.le_refl _) (Nat.le_refl _) rfl ?_
                      refine ⟨?_, rfl⟩
                      unfold wtk
                      rw [if_neg hw5, if_neg hw19, if_neg hw33, if_neg hw47, if_neg hw61, if_neg hw74, if_neg hw88, if_neg hw102, if_neg hw116, if_neg hw130]
                      decide

set_option maxRecDepth 100000 in
set_option maxHeartbeats 400000 in
theorem ct_X6_tokenOf {M : gM} {b : Bool} (hR : M.2.2 = stdR b) {s : tS} (hs : tpC M s) {a e : Nat} (ha : a < s.1) (hae : a ≤ e) (he : e ≤ s.1) : gC 6 0 0 yX6_tokenOf cX6_tokenOf 3 (some .int) 140 140 [.ref 7, .int (nI a), .int (nI e)] M (gI (fun r M9 => r = stv (tokC s a e) ∧ M9 = M)) := by
  refine gC_i rfl (Nat.le_of_ble_eq_true rfl) (fun G hG hE => ?_)
  change G (140, 0, 0) 0 [some (.ref 7), some (.int (nI a)), some (.int (nI e))] [] M
  have h600 := hs.2.1
  refine r_aload_n hG dX6_tokenOf_0 rfl ?_
  refine r_getR hG 0 8 fk_X6_9 dX6_tokenOf_1 rfl (by decide) rfl (sr hR rfl) ?_
  refine r_iload_n hG dX6_tokenOf_4 rfl ?_
  refine r_caldv hG a (s.2 a) dX6_tokenOf_5 rfl (by decide) rfl (by omega) (by decide) (hs.2.2.1 a (by omega)) ?_
  refine r_cSI1 hG mk_X6_60 dX6_tokenOf_6 (ct_X6_isLetter _) (by decide) ⟨Nat.le_refl _, Nat.le_refl _⟩ (Nat.le_of_ble_eq_true rfl) (fun x9 M9 h9 => ?_)
  obtain ⟨h8, e9⟩ := h9; rw [e9]; rcases h8 with ⟨e8, hw6⟩ | ⟨e8, hw6⟩
  · rw [e8]
    refine r_if_eq hG 19 dX6_tokenOf_9 (by decide) (fun hc9 => absurd hc9 (by decide)) (fun hc9 => ?_)
    refine r_aload_n hG dX6_tokenOf_12 rfl ?_
    refine r_iload_n hG dX6_tokenOf_13 rfl ?_
    refine r_iload_n hG dX6_tokenOf_14 rfl ?_
    refine r_cVI2 hG mk_X6_66 dX6_tokenOf_15 rfl (by decide) (ct_X6_wordToken hR hs hae he) (by decide) ⟨Nat.le_refl _, Nat.le_refl _⟩ (Nat.le_of_ble_eq_true rfl) (fun x9 M9 h9 => ?_)
    obtain ⟨e8, e9⟩ := h9
    rw [e8, e9]
    refine hE _ _ _ _ _ dX6_tokenOf_18 rfl (Nat.le_refl _) (Nat.le_refl _) rfl ?_
    refine ⟨?_, rfl⟩
    unfold tokC
    rw [if_pos hw6]
  · rw [e8]
    refine r_if_eq hG 19 dX6_tokenOf_9 (by decide) (fun hc9 => ?_) (fun hc9 => absurd hc9 (by decide))
    refine r_aload_n hG dX6_tokenOf_19 rfl ?_
    refine r_getR hG 0 8 fk_X6_9 dX6_tokenOf_20 rfl (by decide) rfl (sr hR rfl) ?_
    refine r_iload_n hG dX6_tokenOf_23 rfl ?_
    refine r_caldv hG a (s.2 a) dX6_tokenOf_24 rfl (by decide) rfl (by omega) (by decide) (hs.2.2.1 a (by omega)) ?_
    refine r_cSI1 hG mk_X6_63 dX6_tokenOf_25 (ct_X6_isDigit _) (by decide) ⟨Nat.le_refl _, Nat.le_refl _⟩ (Nat.le_of_ble_eq_true rfl) (fun x9 M9 h9 => ?_)
    obtain ⟨h8, e9⟩ := h9; rw [e9]; rcases h8 with ⟨e8, hw25⟩ | ⟨e8, hw25⟩
    · rw [e8]
      refine r_if_eq hG 40 dX6_tokenOf_28 (by decide) (fun hc28 => absurd hc28 (by decide)) (fun hc28 => ?_)
      refine r_aload_n hG dX6_tokenOf_31 rfl ?_
      refine r_iload_n hG dX6_tokenOf_32 rfl ?_
      refine r_iload_n hG dX6_tokenOf_33 rfl ?_
      refine r_cVI2 hG mk_X6_69 dX6_tokenOf_34 rfl (by decide) (ct_X6_numberToken hR hs hae he) (by decide) ⟨Nat.le_refl _, Nat.le_refl _⟩ (Nat.le_of_ble_eq_true rfl) (fun x9 M9 h9 => ?_)
      obtain ⟨e8, e9⟩ := h9
      rw [e8, e9]
      refine r_goto hG 49 dX6_tokenOf_37 (by decide) ?_
      refine hE _ _ _ _ _ dX6_tokenOf_49 rfl (Nat.le_refl _) (Nat.le_refl _) rfl ?_
      refine ⟨?_, rfl⟩
      unfold tokC
      rw [if_neg hw6, if_pos hw25]
    · rw [e8]
      refine r_if_eq hG 40 dX6_tokenOf_28 (by decide) (fun hc28 => ?_) (fun hc28 => absurd hc28 (by decide))
      refine r_aload_n hG dX6_tokenOf_40 rfl ?_
      refine r_getR hG 0 8 fk_X6_9 dX6_tokenOf_41 rfl (by decide) rfl (sr hR rfl) ?_
      refine r_iload_n hG dX6_tokenOf_44 rfl ?_
      refine r_caldv hG a (s.2 a) dX6_tokenOf_45 rfl (by decide) rfl (by omega) (by decide) (hs.2.2.1 a (by omega)) ?_
      refine r_cSI1 hG mk_X6_72 dX6_tokenOf_46 (ct_X6_signToken _) (by decide) ⟨Nat.le_refl _, Nat.le_refl _⟩ (Nat.le_of_ble_eq_true rfl) (fun x9 M9 h9 => ?_)
      obtain ⟨e8, e9⟩ := h9
      rw [e8, e9]
      refine hE _ _ _ _ _ dX6_tokenOf_49 rfl (Nat.le_refl _) (Nat.le_refl _) rfl ?_
      refine ⟨?_, rfl⟩
      unfold tokC
      rw [if_neg hw6, if_neg hw25]

/-- the class's tokens -/
def tkC (M : gM) (q : kS) : Prop := M.1 7 4 = nI q.1 ∧ ∀ i, i < q.1 → M.1 9 i = stv (q.2.1 i) ∧ M.1 10 i = nI (q.2.2 i)
def S9 (k j : Nat) : Prop := k = 9 ∨ k = 10 ∨ (k = 7 ∧ (j = 3 ∨ j = 4))
theorem tkC.push {M : gM} {q : kS} {t : Nat × Int32} {p : Nat} (h : tkC M q) : tkC (gwI (gwI (gwI M 9 q.1 (stv t)) 10 q.1 (nI p)) 7 4 (nI q.1 + 1)) (kpush t p q) := by
  refine ⟨by rw [gwI_s, nI_1]; rfl, fun i (hi : i < q.1 + 1) => ?_⟩
  show _ = stv (if i = q.1 then t else q.2.1 i) ∧ _ = nI (if i = q.1 then p else q.2.2 i)
  by_cases e : i = q.1
  · subst e
    rw [if_pos rfl, if_pos rfl]
    exact ⟨by rw [gwI_n (by omega), gwI_n (by omega), gwI_s], by rw [gwI_n (by omega), gwI_s]⟩
  · rw [if_neg e, if_neg e, gwI_n (by omega), gwI_n (by omega), gwI_n (by omega), gwI_n (by omega), gwI_n (by omega), gwI_n (by omega)]
    exact h.2 i (by omega)
theorem mmax_lt {a b : Nat} (h : a < b) (hb : b < 1000) : mmax (nI a + 1) (nI b) = nI b := by
  rw [nI_1]
  unfold mmax
  by_cases q : nI (a + 1) < nI b
  · rw [if_pos q]
  · rw [if_neg q]
    have := nlt_f (a := a + 1) (b := b) (by omega) (by omega) q
    rw [show b = a + 1 by omega]
set_option maxRecDepth 100000 in
set_option maxHeartbeats 400000 in
theorem lp_X6_scan  {G : gJ} {P : gM → Prop} (hG : gS 7 0 0 yX6_scan.cls cX6_scan 3 G) (hE : gEv 140 0 0 cX6_scan P G) {M0 : gM} {b : Bool} (hR0 : M0.2.2 = stdR b) {s : tS} (hs0 : tpC M0 s) :
    ∀ (r a : Nat) (M : gM) (q : kS), s.1 ≤ a + r ∧ a ≤ s.1 → ∀ x2 : Option Value, q.1 ≤ a → gEq (fun k j => k = 9 ∨ k = 10 ∨ (k = 7 ∧ j = 4)) M0 M → tkC M q → (∀ M9, tkC M9 (kpush (18, 0) s.1 (scn s r a q)) → gEq S9 M0 M9 → M9.1 7 3 = 0 → P M9) → G (140, 0, 0) 7 [some (.ref 7), some (.int (nI a)), x2] [] M := by
  intro r
  induction r with
  | zero =>
    intro a M q har x2 hqa hq hk hP
    have h600 := hs0.2.1
    have hs : tpC M s := hs0.c (fun k j h => hq.2 k j (by unfold S8 at h; omega))
    have hR : M.2.2 = stdR b := by rw [hq.1]; exact hR0
    refine r_iload_n hG dX6_scan_7 rfl ?_
    refine r_aload_n hG dX6_scan_8 rfl ?_
    refine r_getIv hG 3 (nI s.1) fk_X6_32 dX6_scan_9 rfl (by decide) rfl hs.1 ?_
    refine r_icmp_ge hG 55 dX6_scan_12 (by decide) (fun hc12 => ?_) (fun hc12 => absurd (nle_f (a := s.1) (b := a) (by omega) (by omega) hc12) (by omega))
    refine r_aload_n hG dX6_scan_55 rfl ?_
    refine r_bipush hG (-18) dX6_scan_56 (by decide) ?_
    refine r_aload_n hG dX6_scan_58 rfl ?_
    refine r_getIv hG 3 (nI s.1) fk_X6_32 dX6_scan_59 rfl (by decide) rfl hs.1 ?_
    refine r_cVV2 hG mk_X6_51 dX6_scan_62 rfl (by decide) (ct_X6_addToken hR hk.1 (by omega) _ _) (by decide) ⟨Nat.le_refl _, Nat.le_refl _⟩ (Nat.le_of_ble_eq_true rfl) (fun M9 h9 => ?_)
    rw [h9]
    refine r_aload_n hG dX6_scan_65 rfl ?_
    refine r_iconst hG (0) dX6_scan_66 (by decide) ?_
    refine r_putI hG 3 fp_X6_32 dX6_scan_67 rfl (by decide) rfl rfl rfl ?_
    refine hE _ _ _ _ dX6_scan_70 rfl (Nat.le_refl _) (Nat.le_refl _) ?_
    refine hP _ (?_ : tkC _ _) ?_ ?_
    · have h1 := hk.push (t := (18, 0)) (p := s.1)
      exact ⟨(gwI_n (by omega)).trans h1.1, fun i hi => ⟨(gwI_n (by omega)).trans (h1.2 i hi).1, (gwI_n (by omega)).trans (h1.2 i hi).2⟩⟩
    · exact ((((hq.mono (fun k j h => by unfold S9; omega)).put (by unfold S9; omega)).put (by unfold S9; omega)).put (by unfold S9; omega)).put (by unfold S9; omega)
    · exact gwI_s
  | succ r ih =>
    intro a M q har x2 hqa hq hk hP
    have h600 := hs0.2.1
    have hs : tpC M s := hs0.c (fun k j h => hq.2 k j (by unfold S8 at h; omega))
    have hR : M.2.2 = stdR b := by rw [hq.1]; exact hR0
    have hlt := eor_lt s a
    by_cases ha : a < s.1
    · have hle := eor_le ha
      refine r_iload_n hG dX6_scan_7 rfl ?_
      refine r_aload_n hG dX6_scan_8 rfl ?_
      refine r_getIv hG 3 (nI s.1) fk_X6_32 dX6_scan_9 rfl (by decide) rfl hs.1 ?_
      refine r_icmp_ge hG 55 dX6_scan_12 (by decide) (fun hc12 => absurd (nle_t (a := s.1) (b := a) (by omega) (by omega) hc12) (by omega)) (fun hc12 => ?_)
      refine r_aload_n hG dX6_scan_15 rfl ?_
      refine r_iload_n hG dX6_scan_16 rfl ?_
      refine r_cVI1 hG mk_X6_39 dX6_scan_17 rfl (by decide) (ct_X6_endOfRun hR hs (by omega)) (by decide) ⟨Nat.le_refl _, Nat.le_refl _⟩ (Nat.le_of_ble_eq_true rfl) (fun x9 M9 h9 => ?_)
      obtain ⟨e8, e9⟩ := h9
      rw [e8, e9]
      refine r_istore_n hG dX6_scan_20 (by decide) ?_
      refine r_loc [some (.ref 7), some (.int (nI a)), some (.int (nI (eor s a)))] rfl ?_
      refine r_aload_n hG dX6_scan_21 rfl ?_
      refine r_getR hG 0 8 fk_X6_9 dX6_scan_22 rfl (by decide) rfl (sr hR rfl) ?_
      refine r_iload_n hG dX6_scan_25 rfl ?_
      refine r_caldv hG a (s.2 a) dX6_scan_26 rfl (by decide) rfl (by omega) (by decide) (hs.2.2.1 a (by omega)) ?_
      refine r_cSI1 hG mk_X6_43 dX6_scan_27 (ct_X6_isBlank _) (by decide) ⟨Nat.le_refl _, Nat.le_refl _⟩ (Nat.le_of_ble_eq_true rfl) (fun x9 M9 h9 => ?_)
      obtain ⟨h8, e9⟩ := h9; rw [e9]; rcases h8 with ⟨e8, hw27⟩ | ⟨e8, hw27⟩
      · rw [e8]
        refine r_if_ne hG 44 dX6_scan_30 (by decide) (fun hc30 => ?_) (fun hc30 => absurd hc30 (by decide))
        refine r_iload_n hG dX6_scan_44 rfl ?_
        refine r_iconst hG (1) dX6_scan_45 (by decide) ?_
        refine r_iadd hG dX6_scan_46 ?_
        refine r_iload_n hG dX6_scan_47 rfl ?_
        refine r_cSI2 hG mk_X6_55 dX6_scan_48 (ct_J9_max_7cf53 _ _) (by decide) ⟨Nat.le_refl _, Nat.le_refl _⟩ (Nat.le_of_ble_eq_true rfl) (fun x9 M9 h9 => ?_)
        obtain ⟨e8, e9⟩ := h9
        rw [e8, e9, mmax_lt (eor_lt s a) (by omega)]
        refine r_istore_n hG dX6_scan_51 (by decide) ?_
        refine r_loc [some (.ref 7), some (.int (nI (eor s a))), some (.int (nI (eor s a)))] rfl ?_
        refine r_goto hG 7 dX6_scan_52 (by decide) ?_
        refine ih (eor s a) M q (by omega) _ (by omega) hq hk ?_
        have e0 : scn s (r + 1) a q = scn s r (eor s a) q := by
          show (if a < s.1 then scn s r (eor s a) (if isBlk (s.2 a) then q else kpush (tokC s a (eor s a)) a q) else q) = _
          rw [if_pos (by omega), if_pos hw27]
        rw [← e0]
        exact hP
      · rw [e8]
        refine r_if_ne hG 44 dX6_scan_30 (by decide) (fun hc30 => absurd hc30 (by decide)) (fun hc30 => ?_)
        refine r_aload_n hG dX6_scan_33 rfl ?_
        refine r_aload_n hG dX6_scan_34 rfl ?_
        refine r_iload_n hG dX6_scan_35 rfl ?_
        refine r_iload_n hG dX6_scan_36 rfl ?_
        refine r_cVI2 hG mk_X6_47 dX6_scan_37 rfl (by decide) (ct_X6_tokenOf hR hs (by omega) (Nat.le_of_lt (eor_lt s a)) (eor_le (by omega))) (by decide) ⟨Nat.le_refl _, Nat.le_refl _⟩ (Nat.le_of_ble_eq_true rfl) (fun x9 M9 h9 => ?_)
        obtain ⟨e8, e9⟩ := h9
        rw [e8, e9]
        refine r_iload_n hG dX6_scan_40 rfl ?_
        refine r_cVV2 hG mk_X6_51 dX6_scan_41 rfl (by decide) (ct_X6_addToken hR hk.1 (by omega) _ _) (by decide) ⟨Nat.le_refl _, Nat.le_refl _⟩ (Nat.le_of_ble_eq_true rfl) (fun M9 h9 => ?_)
        rw [h9]
        refine r_iload_n hG dX6_scan_44 rfl ?_
        refine r_iconst hG (1) dX6_scan_45 (by decide) ?_
        refine r_iadd hG dX6_scan_46 ?_
        refine r_iload_n hG dX6_scan_47 rfl ?_
        refine r_cSI2 hG mk_X6_55 dX6_scan_48 (ct_J9_max_7cf53 _ _) (by decide) ⟨Nat.le_refl _, Nat.le_refl _⟩ (Nat.le_of_ble_eq_true rfl) (fun x9 M9 h9 => ?_)
        obtain ⟨e8, e9⟩ := h9
        rw [e8, e9, mmax_lt (eor_lt s a) (by omega)]
        refine r_istore_n hG dX6_scan_51 (by decide) ?_
        refine r_loc [some (.ref 7), some (.int (nI (eor s a))), some (.int (nI (eor s a)))] rfl ?_
        refine r_goto hG 7 dX6_scan_52 (by decide) ?_
        refine ih (eor s a) _ (kpush (tokC s a (eor s a)) a q) (by omega) _ (by show q.1 + 1 ≤ _; omega) (((hq.put (by omega)).put (by omega)).put (by omega)) hk.push ?_
        have e0 : scn s (r + 1) a q = scn s r (eor s a) (kpush (tokC s a (eor s a)) a q) := by
          show (if a < s.1 then scn s r (eor s a) (if isBlk (s.2 a) then q else kpush (tokC s a (eor s a)) a q) else q) = _
          rw [if_pos (by omega), if_neg hw27]
        rw [← e0]
        exact hP
    · have e0 : scn s (r + 1) a q = q := by
        show (if a < s.1 then _ else q) = _
        rw [if_neg ha]
      rw [e0] at hP
      refine r_iload_n hG dX6_scan_7 rfl ?_
      refine r_aload_n hG dX6_scan_8 rfl ?_
      refine r_getIv hG 3 (nI s.1) fk_X6_32 dX6_scan_9 rfl (by decide) rfl hs.1 ?_
      refine r_icmp_ge hG 55 dX6_scan_12 (by decide) (fun hc12 => ?_) (fun hc12 => absurd (nle_f (a := s.1) (b := a) (by omega) (by omega) hc12) (by omega))
      refine r_aload_n hG dX6_scan_55 rfl ?_
      refine r_bipush hG (-18) dX6_scan_56 (by decide) ?_
      refine r_aload_n hG dX6_scan_58 rfl ?_
      refine r_getIv hG 3 (nI s.1) fk_X6_32 dX6_scan_59 rfl (by decide) rfl hs.1 ?_
      refine r_cVV2 hG mk_X6_51 dX6_scan_62 rfl (by decide) (ct_X6_addToken hR hk.1 (by omega) _ _) (by decide) ⟨Nat.le_refl _, Nat.le_refl _⟩ (Nat.le_of_ble_eq_true rfl) (fun M9 h9 => ?_)
      rw [h9]
      refine r_aload_n hG dX6_scan_65 rfl ?_
      refine r_iconst hG (0) dX6_scan_66 (by decide) ?_
      refine r_putI hG 3 fp_X6_32 dX6_scan_67 rfl (by decide) rfl rfl rfl ?_
      refine hE _ _ _ _ dX6_scan_70 rfl (Nat.le_refl _) (Nat.le_refl _) ?_
      refine hP _ (?_ : tkC _ _) ?_ ?_
      · have h1 := hk.push (t := (18, 0)) (p := s.1)
        exact ⟨(gwI_n (by omega)).trans h1.1, fun i hi => ⟨(gwI_n (by omega)).trans (h1.2 i hi).1, (gwI_n (by omega)).trans (h1.2 i hi).2⟩⟩
      · exact ((((hq.mono (fun k j h => by unfold S9; omega)).put (by unfold S9; omega)).put (by unfold S9; omega)).put (by unfold S9; omega)).put (by unfold S9; omega)
      · exact gwI_s

set_option maxRecDepth 100000 in
set_option maxHeartbeats 400000 in
theorem ct_X6_scan {M : gM} {b : Bool} (hR : M.2.2 = stdR b) {s : tS} (hs : tpC M s) : gC 7 0 0 yX6_scan cX6_scan 3 none 140 140 [.ref 7] M (gV (fun M9 => tkC M9 (toks s) ∧ gEq S9 M M9 ∧ M9.1 7 3 = 0)) := by
  refine gC_v rfl (Nat.le_of_ble_eq_true rfl) (fun G hG hE => ?_)
  change G (140, 0, 0) 0 [some (.ref 7), none, none] [] M
  refine r_aload_n hG dX6_scan_0 rfl ?_
  refine r_iconst hG (0) dX6_scan_1 (by decide) ?_
  refine r_putI hG 4 fp_X6_36 dX6_scan_2 rfl (by decide) rfl rfl rfl ?_
  refine r_iconst hG (0) dX6_scan_5 (by decide) ?_
  refine r_istore_n hG dX6_scan_6 (by decide) ?_
  refine r_loc [some (.ref 7), some (.int (0)), none] rfl ?_
  exact lp_X6_scan hG hE hR hs s.1 0 _ (0, (fun _ => (18, 0)), fun _ => 0) ⟨by omega, by omega⟩ _ (Nat.le_refl 0) (gEq.rf.put (by omega)) ⟨gwI_s, fun i hi => absurd hi (Nat.not_lt_zero i)⟩ (fun M9 h1 h2 h3 => ⟨h1, h2, h3⟩)


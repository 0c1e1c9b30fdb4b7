def mkV (M : gM) : Nat → gM
  | 0 => M
  | i + 1 => gwR (gwR (mkV M i) (2 * i + 42) 10 (some (2 * i + 43))) 1 i (some (2 * i + 42))
def mkS (M : gM) : Nat → gM
  | 0 => M
  | i + 1 => gwR (itw (gwR (mkS M i) (2 * i + 66) 4 (some (2 * i + 67))) (2 * i + 67) 12) 2 i (some (2 * i + 66))
def mkT (M : gM) : Nat → gM
  | 0 => M
  | i + 1 => gwR (mkT M i) 3 i (some (i + 74))
def mkB (M : gM) : Nat → gM
  | 0 => M
  | i + 1 => gwR (mkB M i) 4 i (some (i + 78))
theorem gwR_o {M : gM} {k j k2 a b : Nat} (h : a ≠ k) : (gwR M k j (some k2)).2.2 a b = M.2.2 a b := if_neg (fun z => h z.1)
theorem mkV_f {M : gM} (h : fM 42 M) : ∀ i, fM (2 * i + 42) (mkV M i)
  | 0 => h
  | i + 1 => (((mkV_f h i).up.up).R (by omega) (by omega)).R (by omega) (by omega)
theorem mkS_f {M : gM} (h : fM 66 M) : ∀ i, fM (2 * i + 66) (mkS M i)
  | 0 => h
  | i + 1 => (itw_f (((mkS_f h i).up.up).R (by omega) (by omega)) (by omega) 12).R (by omega) (by omega)
theorem mkT_f {M : gM} (h : fM 74 M) : ∀ i, fM (i + 74) (mkT M i)
  | 0 => h
  | i + 1 => by
    have := ((mkT_f h i).up).R (k := 3) (j := i) (k2 := i + 74) (by omega) (by omega)
    rw [show i + 1 + 74 = i + 74 + 1 by omega]
    exact this
theorem mkB_f {M : gM} (h : fM 78 M) : ∀ i, fM (i + 78) (mkB M i)
  | 0 => h
  | i + 1 => by
    have := ((mkB_f h i).up).R (k := 4) (j := i) (k2 := i + 78) (by omega) (by omega)
    rw [show i + 1 + 78 = i + 78 + 1 by omega]
    exact this
theorem mkV_r {M : gM} {j : Nat} : ∀ i, (mkV M i).2.2 0 j = M.2.2 0 j
  | 0 => rfl
  | i + 1 => by
    show (gwR (gwR (mkV M i) (2 * i + 42) 10 (some (2 * i + 43))) 1 i (some (2 * i + 42))).2.2 0 j = _
    rw [gwR_o (by omega), gwR_o (by omega), mkV_r i]
theorem mkS_r {M : gM} {j : Nat} : ∀ i, (mkS M i).2.2 0 j = M.2.2 0 j
  | 0 => rfl
  | i + 1 => by
    show (gwR (itw (gwR (mkS M i) (2 * i + 66) 4 (some (2 * i + 67))) (2 * i + 67) 12) 2 i (some (2 * i + 66))).2.2 0 j = _
    rw [gwR_o (by omega), itw_2, gwR_o (by omega), mkS_r i]
theorem mkT_r {M : gM} {j : Nat} : ∀ i, (mkT M i).2.2 0 j = M.2.2 0 j
  | 0 => rfl
  | i + 1 => by
    show (gwR (mkT M i) 3 i (some (i + 74))).2.2 0 j = _
    rw [gwR_o (by omega), mkT_r i]
theorem mkB_r {M : gM} {j : Nat} : ∀ i, (mkB M i).2.2 0 j = M.2.2 0 j
  | 0 => rfl
  | i + 1 => by
    show (gwR (mkB M i) 4 i (some (i + 78))).2.2 0 j = _
    rw [gwR_o (by omega), mkB_r i]
set_option maxRecDepth 100000 in
set_option maxHeartbeats 1000000 in
theorem lp_X8_v {G : gJ} (hG : gS 3 87 3691 yX8_init.cls cX8_init 2 G) {M : gM} (hr : M.2.2 0 0 = some 1) (hM : fM 42 M) (hX : ∀ x, G (66, 65, 3547) 95 [some (.ref 0), x] [] (mkV M 12)) : ∀ (r i : Nat), i + r = 12 → G (2 * i + 42, 41 + 2 * i, 3331 + 18 * i) 70 [some (.ref 0), some (.int (nI i))] [] (mkV M i) := by
  intro r
  induction r with
  | zero =>
    intro i hi
    refine r_iload_n hG dX8_init_70 rfl ?_
    refine r_bipush hG (12) dX8_init_71 (by decide) ?_
    refine r_icmp_ge hG 95 dX8_init_73 (by decide) (fun hc => ?_) (fun hc => absurd (nle_f (a := 12) (b := i) (by omega) (by omega) hc) (by omega))
    obtain rfl : i = 12 := by omega
    exact hX _
  | succ r ih =>
    intro i hi
    have hMi := mkV_f hM i
    refine r_iload_n hG dX8_init_70 rfl ?_
    refine r_bipush hG (12) dX8_init_71 (by decide) ?_
    refine r_icmp_ge hG 95 dX8_init_73 (by decide) (fun hc => absurd (nle_t (a := 12) (b := i) (by omega) (by omega) hc) (by omega)) (fun hc => ?_)
    refine r_aload_n hG dX8_init_76 rfl ?_
    refine r_getR hG 0 1 fk_X8_11 dX8_init_77 rfl (show 0 < 2 * i + 42 by omega) rfl (by rw [mkV_r]; exact hr) ?_
    refine r_iload_n hG dX8_init_80 rfl ?_
    refine r_new hG nw_X8_9 dX8_init_81 (gkV (by omega)) hMi (show 2 * i + 42 < 1000 by omega) (show 41 + 2 * i + 1 ≤ 87 by omega) (show 3331 + 18 * i + 11 ≤ 3691 by omega) (by simp [gRs] <;> omega) (by simp [gRs] <;> omega) ?_
    refine r_Z (2 * i + 43, 41 + 2 * i + 1, 3331 + 18 * i + 11) rfl ?_
    refine r_dup hG dX8_init_84 rfl ?_
    refine r_cIN hG in_X8_51 dX8_init_85 (ct_X7_init (i := i) (by omega) hMi.up) (by decide) ⟨show 41 + 2 * i + 1 + 1 ≤ 87 by omega, show 3331 + 18 * i + 11 + 7 ≤ 3691 by omega⟩ (Nat.le_of_ble_eq_true rfl) (by simp [gRs] <;> omega) (by simp [gRs] <;> omega) (fun M9 h9 => ?_)
    rw [h9]
    refine r_Z (2 * i + 44, 41 + 2 * i + 2, 3331 + 18 * i + 18) rfl ?_
    refine r_aast4 hG i (T := TX7) rfl dX8_init_88 rfl (show 1 < 2 * i + 44 by omega) (gkV (by omega)) (show 2 * i + 42 < 2 * i + 44 by omega) rfl (by omega) (by decide) ?_
    refine r_iinc hG (1) dX8_init_89 (by decide) rfl ?_
    refine r_loc [some (.ref 0), some (.int (nI i + 1))] rfl ?_
    refine r_goto hG 70 dX8_init_92 (by decide) ?_
    rw [nI_1]
    refine r_Z (2 * (i + 1) + 42, 41 + 2 * (i + 1), 3331 + 18 * (i + 1)) (by rw [show 2 * (i + 1) + 42 = 2 * i + 44 by omega, show 41 + 2 * (i + 1) = 41 + 2 * i + 2 by omega, show 3331 + 18 * (i + 1) = 3331 + 18 * i + 18 by omega]) ?_
    exact ih (i + 1) (by omega)

set_option maxRecDepth 100000 in
set_option maxHeartbeats 1000000 in
theorem lp_X8_s {G : gJ} (hG : gS 3 87 3691 yX8_init.cls cX8_init 2 G) {M : gM} (hr : M.2.2 0 1 = some 2) (hM : fM 66 M) (hX : ∀ x, G (74, 73, 3615) 121 [some (.ref 0), x] [] (mkS M 4)) : ∀ (r i : Nat), i + r = 4 → G (2 * i + 66, 65 + 2 * i, 3547 + 17 * i) 97 [some (.ref 0), some (.int (nI i))] [] (mkS M i) := by
  intro r
  induction r with
  | zero =>
    intro i hi
    refine r_iload_n hG dX8_init_97 rfl ?_
    refine r_iconst hG (4) dX8_init_98 (by decide) ?_
    refine r_icmp_ge hG 121 dX8_init_99 (by decide) (fun hc => ?_) (fun hc => absurd (nle_f (a := 4) (b := i) (by omega) (by omega) hc) (by omega))
    obtain rfl : i = 4 := by omega
    exact hX _
  | succ r ih =>
    intro i hi
    have hMi := mkS_f hM i
    refine r_iload_n hG dX8_init_97 rfl ?_
    refine r_iconst hG (4) dX8_init_98 (by decide) ?_
    refine r_icmp_ge hG 121 dX8_init_99 (by decide) (fun hc => absurd (nle_t (a := 4) (b := i) (by omega) (by omega) hc) (by omega)) (fun hc => ?_)
    refine r_aload_n hG dX8_init_102 rfl ?_
    refine r_getR hG 1 2 fk_X8_17 dX8_init_103 rfl (show 0 < 2 * i + 66 by omega) rfl (by rw [mkS_r]; exact hr) ?_
    refine r_iload_n hG dX8_init_106 rfl ?_
    refine r_new hG nw_X8_15 dX8_init_107 (gkS (by omega)) hMi (show 2 * i + 66 < 1000 by omega) (show 65 + 2 * i + 1 ≤ 87 by omega) (show 3547 + 17 * i + 5 ≤ 3691 by omega) (by simp [gRs] <;> omega) (by simp [gRs] <;> omega) ?_
    refine r_Z (2 * i + 67, 65 + 2 * i + 1, 3547 + 17 * i + 5) rfl ?_
    refine r_dup hG dX8_init_110 rfl ?_
    refine r_cIP hG in_X8_52 dX8_init_111 (ct_X4_init (i := i) (by omega) hMi.up) (by decide) ⟨show 65 + 2 * i + 1 + 1 ≤ 87 by omega, show 3547 + 17 * i + 5 + 12 ≤ 3691 by omega⟩ (Nat.le_of_ble_eq_true rfl) (by simp [gRs] <;> omega) (by simp [gRs] <;> omega) (fun M9 h9 => ?_)
    rw [h9]
    refine r_Z (2 * i + 68, 65 + 2 * i + 2, 3547 + 17 * i + 17) rfl ?_
    refine r_aast5 hG i (T := TX4) rfl dX8_init_114 rfl (show 2 < 2 * i + 68 by omega) (gkS (by omega)) (show 2 * i + 66 < 2 * i + 68 by omega) rfl (by omega) (by decide) ?_
    refine r_iinc hG (1) dX8_init_115 (by decide) rfl ?_
    refine r_loc [some (.ref 0), some (.int (nI i + 1))] rfl ?_
    refine r_goto hG 97 dX8_init_118 (by decide) ?_
    rw [nI_1]
    refine r_Z (2 * (i + 1) + 66, 65 + 2 * (i + 1), 3547 + 17 * (i + 1)) (by rw [show 2 * (i + 1) + 66 = 2 * i + 68 by omega, show 65 + 2 * (i + 1) = 65 + 2 * i + 2 by omega, show 3547 + 17 * (i + 1) = 3547 + 17 * i + 17 by omega]) ?_
    exact ih (i + 1) (by omega)

set_option maxRecDepth 100000 in
set_option maxHeartbeats 1000000 in
theorem lp_X8_t {G : gJ} (hG : gS 3 87 3691 yX8_init.cls cX8_init 2 G) {M : gM} (hr : M.2.2 0 2 = some 3) (hM : fM 74 M) (hX : ∀ x, G (78, 77, 3651) 147 [some (.ref 0), x] [] (mkT M 4)) : ∀ (r i : Nat), i + r = 4 → G (i + 74, 73 + 1 * i, 3615 + 9 * i) 123 [some (.ref 0), some (.int (nI i))] [] (mkT M i) := by
  intro r
  induction r with
  | zero =>
    intro i hi
    refine r_iload_n hG dX8_init_123 rfl ?_
    refine r_iconst hG (4) dX8_init_124 (by decide) ?_
    refine r_icmp_ge hG 147 dX8_init_125 (by decide) (fun hc => ?_) (fun hc => absurd (nle_f (a := 4) (b := i) (by omega) (by omega) hc) (by omega))
    obtain rfl : i = 4 := by omega
    exact hX _
  | succ r ih =>
    intro i hi
    have hMi := mkT_f hM i
    refine r_iload_n hG dX8_init_123 rfl ?_
    refine r_iconst hG (4) dX8_init_124 (by decide) ?_
    refine r_icmp_ge hG 147 dX8_init_125 (by decide) (fun hc => absurd (nle_t (a := 4) (b := i) (by omega) (by omega) hc) (by omega)) (fun hc => ?_)
    refine r_aload_n hG dX8_init_128 rfl ?_
    refine r_getR hG 2 3 fk_X8_23 dX8_init_129 rfl (show 0 < i + 74 by omega) rfl (by rw [mkT_r]; exact hr) ?_
    refine r_iload_n hG dX8_init_132 rfl ?_
    refine r_new hG nw_X8_21 dX8_init_133 (gkT (by omega)) hMi (show i + 74 < 1000 by omega) (show 73 + 1 * i + 1 ≤ 87 by omega) (show 3615 + 9 * i + 9 ≤ 3691 by omega) (by simp [gRs] <;> omega) (by simp [gRs] <;> omega) ?_
    refine r_Z (i + 75, 73 + 1 * i + 1, 3615 + 9 * i + 9) rfl ?_
    refine r_dup hG dX8_init_136 rfl ?_
    refine r_cIN hG in_X8_53 dX8_init_137 (ct_X5_init) (by decide) ⟨show 73 + 1 * i + 1 + 0 ≤ 87 by omega, show 3615 + 9 * i + 9 + 0 ≤ 3691 by omega⟩ (Nat.le_of_ble_eq_true rfl) (by simp [gRs] <;> omega) (by simp [gRs] <;> omega) (fun M9 h9 => ?_)
    rw [h9]
    refine r_Z (i + 75, 73 + 1 * i + 1, 3615 + 9 * i + 9) rfl ?_
    refine r_aast6 hG i (T := TX5) rfl dX8_init_140 rfl (show 3 < i + 75 by omega) (gkT (by omega)) (show i + 74 < i + 75 by omega) rfl (by omega) (by decide) ?_
    refine r_iinc hG (1) dX8_init_141 (by decide) rfl ?_
    refine r_loc [some (.ref 0), some (.int (nI i + 1))] rfl ?_
    refine r_goto hG 123 dX8_init_144 (by decide) ?_
    rw [nI_1]
    refine r_Z (i + 1 + 74, 73 + 1 * (i + 1), 3615 + 9 * (i + 1)) (by rw [show i + 1 + 74 = i + 75 by omega, show 73 + 1 * (i + 1) = 73 + 1 * i + 1 by omega, show 3615 + 9 * (i + 1) = 3615 + 9 * i + 9 by omega]) ?_
    exact ih (i + 1) (by omega)

set_option maxRecDepth 100000 in
set_option maxHeartbeats 1000000 in
theorem lp_X8_b {G : gJ} (hG : gS 3 87 3691 yX8_init.cls cX8_init 2 G) {M : gM} (hr : M.2.2 0 3 = some 4) (hM : fM 78 M) (hX : ∀ x, G (88, 87, 3691) 174 [some (.ref 0), x] [] (mkB M 10)) : ∀ (r i : Nat), i + r = 10 → G (i + 78, 77 + 1 * i, 3651 + 4 * i) 149 [some (.ref 0), some (.int (nI i))] [] (mkB M i) := by
  intro r
  induction r with
  | zero =>
    intro i hi
    refine r_iload_n hG dX8_init_149 rfl ?_
    refine r_bipush hG (10) dX8_init_150 (by decide) ?_
    refine r_icmp_ge hG 174 dX8_init_152 (by decide) (fun hc => ?_) (fun hc => absurd (nle_f (a := 10) (b := i) (by omega) (by omega) hc) (by omega))
    obtain rfl : i = 10 := by omega
    exact hX _
  | succ r ih =>
    intro i hi
    have hMi := mkB_f hM i
    refine r_iload_n hG dX8_init_149 rfl ?_
    refine r_bipush hG (10) dX8_init_150 (by decide) ?_
    refine r_icmp_ge hG 174 dX8_init_152 (by decide) (fun hc => absurd (nle_t (a := 10) (b := i) (by omega) (by omega) hc) (by omega)) (fun hc => ?_)
    refine r_aload_n hG dX8_init_155 rfl ?_
    refine r_getR hG 3 4 fk_X8_29 dX8_init_156 rfl (show 0 < i + 78 by omega) rfl (by rw [mkB_r]; exact hr) ?_
    refine r_iload_n hG dX8_init_159 rfl ?_
    refine r_new hG nw_X8_27 dX8_init_160 (gkB (by omega)) hMi (show i + 78 < 1000 by omega) (show 77 + 1 * i + 1 ≤ 87 by omega) (show 3651 + 4 * i + 4 ≤ 3691 by omega) (by simp [gRs] <;> omega) (by simp [gRs] <;> omega) ?_
    refine r_Z (i + 79, 77 + 1 * i + 1, 3651 + 4 * i + 4) rfl ?_
    refine r_dup hG dX8_init_163 rfl ?_
    refine r_cIN hG in_X8_54 dX8_init_164 (ct_X0_init) (by decide) ⟨show 77 + 1 * i + 1 + 0 ≤ 87 by omega, show 3651 + 4 * i + 4 + 0 ≤ 3691 by omega⟩ (Nat.le_of_ble_eq_true rfl) (by simp [gRs] <;> omega) (by simp [gRs] <;> omega) (fun M9 h9 => ?_)
    rw [h9]
    refine r_Z (i + 79, 77 + 1 * i + 1, 3651 + 4 * i + 4) rfl ?_
    refine r_aast7 hG i (T := TX0) rfl dX8_init_167 rfl (show 4 < i + 79 by omega) (gkB (by omega)) (show i + 78 < i + 79 by omega) rfl (by omega) (by decide) ?_
    refine r_iinc hG (1) dX8_init_168 (by decide) rfl ?_
    refine r_loc [some (.ref 0), some (.int (nI i + 1))] rfl ?_
    refine r_goto hG 149 dX8_init_171 (by decide) ?_
    rw [nI_1]
    refine r_Z (i + 1 + 78, 77 + 1 * (i + 1), 3651 + 4 * (i + 1)) (by rw [show i + 1 + 78 = i + 79 by omega, show 77 + 1 * (i + 1) = 77 + 1 * i + 1 by omega, show 3651 + 4 * (i + 1) = 3651 + 4 * i + 4 by omega]) ?_
    exact ih (i + 1) (by omega)

def carM0 (M : gM) : gM := (gwR (planM (gwR (readM (gwR (gwR (gwR (gwR (gwR M 0 0 (some 1)) 0 1 (some 2)) 0 2 (some 3)) 0 3 (some 4)) 0 4 (some 5))) 0 5 (some 6))) 0 6 (some 23))
theorem carM0_f {M : gM} (hM : fM 1 M) : fM 42 (carM0 M) := ((planM_f ((readM_f (((((hM.up.R (by omega) (by omega)).up.R (by omega) (by omega)).up.R (by omega) (by omega)).up.R (by omega) (by omega)).up.R (by omega) (by omega)).up).R (by omega) (by omega)).up).R (by omega) (by omega))
def carM (M : gM) : gM := mkB (mkT (mkS (mkV (carM0 M) 12) 4) 4) 10
theorem carM_f {M : gM} (hM : fM 1 M) : fM 88 (carM M) := mkB_f (mkT_f (mkS_f (mkV_f (carM0_f hM) 12) 4) 4) 10
theorem carM0_r {M : gM} : (carM0 M).2.2 0 0 = some 1 ∧ (carM0 M).2.2 0 1 = some 2 ∧ (carM0 M).2.2 0 2 = some 3 ∧ (carM0 M).2.2 0 3 = some 4 := ⟨rfl, rfl, rfl, rfl⟩
set_option maxRecDepth 100000 in
set_option maxHeartbeats 1000000 in
theorem ct_X8_init {M : gM} (hM : fM 1 M) : gC 3 87 3691 yX8_init cX8_init 2 none 1 88 [.ref 0] M (gV (fun M9 => M9 = carM M)) := by
  refine gC_vI rfl rfl (Nat.le_of_ble_eq_true rfl) (fun G hI hG hE => ?_)
  change G (1, 0, 0) 0 [some (.ref 0), none] [] M
  refine r_aload_n hG dX8_init_0 rfl ?_
  refine r_obj hG ob_X8_1 obI obC dX8_init_1 (by decide) (Nat.le_of_ble_eq_true rfl) ?_
  refine r_aload_n hG dX8_init_4 rfl ?_
  refine r_bipush hG (12) dX8_init_5 (by decide) ?_
  refine r_newq4 hG 12 cl_X8_9 dX8_init_7 rfl hM (by decide) rfl (by decide) (by decide) (by decide) (by simp [gRs]) (by simp [gRs]) ?_
  refine r_Z (2, 1, 12) rfl ?_
  refine r_putF hI 0 ff_X8_11 dX8_init_10 rfl (by decide) rfl (fun _ => rfl) (fun _ => rfl) ?_
  refine r_aload_n hG dX8_init_13 rfl ?_
  refine r_iconst hG (4) dX8_init_14 (by decide) ?_
  refine r_newq5 hG 4 cl_X8_15 dX8_init_15 rfl (hM.up.R (by omega) (by omega)) (by decide) rfl (by decide) (by decide) (by decide) (by simp [gRs]) (by simp [gRs]) ?_
  refine r_Z (3, 2, 16) rfl ?_
  refine r_putF hI 1 ff_X8_17 dX8_init_18 rfl (by decide) rfl (fun _ => rfl) (fun _ => rfl) ?_
  refine r_aload_n hG dX8_init_21 rfl ?_
  refine r_iconst hG (4) dX8_init_22 (by decide) ?_
  refine r_newq6 hG 4 cl_X8_21 dX8_init_23 rfl ((hM.up.R (by omega) (by omega)).up.R (by omega) (by omega)) (by decide) rfl (by decide) (by decide) (by decide) (by simp [gRs]) (by simp [gRs]) ?_
  refine r_Z (4, 3, 20) rfl ?_
  refine r_putF hI 2 ff_X8_23 dX8_init_26 rfl (by decide) rfl (fun _ => rfl) (fun _ => rfl) ?_
  refine r_aload_n hG dX8_init_29 rfl ?_
  refine r_bipush hG (10) dX8_init_30 (by decide) ?_
  refine r_newq7 hG 10 cl_X8_27 dX8_init_32 rfl (((hM.up.R (by omega) (by omega)).up.R (by omega) (by omega)).up.R (by omega) (by omega)) (by decide) rfl (by decide) (by decide) (by decide) (by simp [gRs]) (by simp [gRs]) ?_
  refine r_Z (5, 4, 30) rfl ?_
  refine r_putF hI 3 ff_X8_29 dX8_init_35 rfl (by decide) rfl (fun _ => rfl) (fun _ => rfl) ?_
  refine r_aload_n hG dX8_init_38 rfl ?_
  refine r_bipush hG (6) dX8_init_39 (by decide) ?_
  refine r_newaI hG 6 arr_I dX8_init_41 rfl ((((hM.up.R (by omega) (by omega)).up.R (by omega) (by omega)).up.R (by omega) (by omega)).up.R (by omega) (by omega)) (by decide) rfl (by decide) (by decide) (by decide) (by simp [gRs]) (by simp [gRs]) ?_
  refine r_Z (6, 5, 36) rfl ?_
  refine r_putF hI 4 ff_X8_33 dX8_init_43 rfl (by decide) rfl (fun _ => rfl) (fun _ => rfl) ?_
  refine r_aload_n hG dX8_init_46 rfl ?_
  refine r_new hG nw_X8_37 dX8_init_47 rfl (((((hM.up.R (by omega) (by omega)).up.R (by omega) (by omega)).up.R (by omega) (by omega)).up.R (by omega) (by omega)).up.R (by omega) (by omega)) (by decide) (by decide) (by decide) (by simp [gRs]) (by simp [gRs]) ?_
  refine r_Z (7, 6, 41) rfl ?_
  refine r_dup hG dX8_init_50 rfl ?_
  refine r_cIN hG in_X8_39 dX8_init_51 (ct_X3_init (((((hM.up.R (by omega) (by omega)).up.R (by omega) (by omega)).up.R (by omega) (by omega)).up.R (by omega) (by omega)).up.R (by omega) (by omega)).up) (by decide) ⟨by decide, by decide⟩ (Nat.le_of_ble_eq_true rfl) (by simp [gRs]) (by simp [gRs]) (fun M9 h9 => ?_)
  rw [h9]
  refine r_Z (23, 22, 3224) rfl ?_
  refine r_putF hI 5 ff_X8_40 dX8_init_54 rfl (by decide) rfl (fun _ => rfl) (fun _ => rfl) ?_
  refine r_aload_n hG dX8_init_57 rfl ?_
  refine r_new hG nw_X8_44 dX8_init_58 rfl ((readM_f (((((hM.up.R (by omega) (by omega)).up.R (by omega) (by omega)).up.R (by omega) (by omega)).up.R (by omega) (by omega)).up.R (by omega) (by omega)).up).R (by omega) (by omega)) (by decide) (by decide) (by decide) (by simp [gRs]) (by simp [gRs]) ?_
  refine r_Z (24, 23, 3241) rfl ?_
  refine r_dup hG dX8_init_61 rfl ?_
  refine r_cIN hG in_X8_46 dX8_init_62 (ct_X2_init ((readM_f (((((hM.up.R (by omega) (by omega)).up.R (by omega) (by omega)).up.R (by omega) (by omega)).up.R (by omega) (by omega)).up.R (by omega) (by omega)).up).R (by omega) (by omega)).up) (by decide) ⟨by decide, by decide⟩ (Nat.le_of_ble_eq_true rfl) (by simp [gRs]) (by simp [gRs]) (fun M9 h9 => ?_)
  rw [h9]
  refine r_Z (42, 41, 3331) rfl ?_
  refine r_putF hI 6 ff_X8_47 dX8_init_65 rfl (by decide) rfl (fun _ => rfl) (fun _ => rfl) ?_
  refine r_iconst hG (0) dX8_init_68 (by decide) ?_
  refine r_istore_n hG dX8_init_69 (by decide) ?_
  refine r_loc [some (.ref 0), some (.int (0))] rfl ?_
  have hM0 := carM0_f hM
  have h0 := carM0_r (M := M)
  change G (42, 41, 3331) 70 [some (.ref 0), some (.int (nI 0))] [] (mkV (carM0 M) 0)
  refine lp_X8_v hG h0.1 hM0 (fun x => ?_) 12 0 rfl
  refine r_iconst hG (0) dX8_init_95 (by decide) ?_
  refine r_istore_n hG dX8_init_96 (by decide) ?_
  refine r_loc [some (.ref 0), some (.int (nI 0))] rfl ?_
  refine lp_X8_s hG (by rw [mkV_r]; exact h0.2.1) (mkV_f hM0 12) (fun x => ?_) 4 0 rfl
  refine r_iconst hG (0) dX8_init_121 (by decide) ?_
  refine r_istore_n hG dX8_init_122 (by decide) ?_
  refine r_loc [some (.ref 0), some (.int (nI 0))] rfl ?_
  refine lp_X8_t hG (by rw [mkS_r, mkV_r]; exact h0.2.2.1) (mkS_f (mkV_f hM0 12) 4) (fun x => ?_) 4 0 rfl
  refine r_iconst hG (0) dX8_init_147 (by decide) ?_
  refine r_istore_n hG dX8_init_148 (by decide) ?_
  refine r_loc [some (.ref 0), some (.int (nI 0))] rfl ?_
  refine lp_X8_b hG (by rw [mkT_r, mkS_r, mkV_r]; exact h0.2.2.2) (mkT_f (mkS_f (mkV_f hM0 12) 4) 4) (fun x => ?_) 10 0 rfl
  exact hE _ _ _ _ dX8_init_174 rfl (Nat.le_refl _) (Nat.le_refl _) rfl

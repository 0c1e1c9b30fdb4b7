/-- what findNeedy writes -/
def Sn (k j : Nat) : Prop := k = 103 ∨ k = 104 ∨ k = 126 ∨ k = 127 ∨ (k = 88 ∧ (j = 51 ∨ j = 52))
def mlk (M : gM) (dy : Int32) (nl : Nat) (B : Nat → Bool) (A : Nat → Int32) (ST : Nat → Nat) (C : Nat → Nat × Int32) (v : Nat) : Int32 := if M.1 108 v < mwantV M v dy nl B A ST C then 1 else 0
def nN (M Mp : gM) (W lk : Nat → Int32) (i : Nat) : Prop :=
  gEq Sn M Mp ∧ Mp.1 88 51 = nI (ndc lk i) ∧ Mp.1 88 52 = nI (min6 (ndc lk i)) ∧ (∀ v, v < i → 0 < lk v → ndc lk v < 6 → Mp.1 126 (ndc lk v) = nI v ∧ Mp.1 127 (ndc lk v) = W v)
theorem nN.sc {M Mp Mq : gM} {W lk : Nat → Int32} {i : Nat} (h : nN M Mp W lk i) (hq : gEq Sm Mp Mq) : nN M Mq W lk i := by
  obtain ⟨h1, h2, h3, h4⟩ := h
  refine ⟨h1.trans (hq.mono (fun k j q => by unfold Sm at q; unfold Sn; omega)), by rw [hq.2 88 51 (by unfold Sm; omega)]; exact h2, by rw [hq.2 88 52 (by unfold Sm; omega)]; exact h3, fun v hv hl hc => ?_⟩
  rw [hq.2 126 _ (by unfold Sm; omega), hq.2 127 _ (by unfold Sm; omega)]
  exact h4 v hv hl hc
theorem nN.skip {M Mp : gM} {W lk : Nat → Int32} {i : Nat} (h : nN M Mp W lk i) (hl : ¬ 0 < lk i) : nN M Mp W lk (i + 1) := by
  have e : ndc lk (i + 1) = ndc lk i := by rw [ndc_s, if_neg hl]; rfl
  obtain ⟨h1, h2, h3, h4⟩ := h
  refine ⟨h1, by rw [e]; exact h2, by rw [e]; exact h3, fun v hv hl2 hc => ?_⟩
  by_cases e2 : v = i
  · subst e2; exact absurd hl2 hl
  · exact h4 v (by omega) hl2 hc
theorem nN.full {M Mp : gM} {W lk : Nat → Int32} {i : Nat} (h : nN M Mp W lk i) (hl : 0 < lk i) (hc : 6 ≤ ndc lk i) : nN M (gwI Mp 88 51 (nI (ndc lk i) + 1)) W lk (i + 1) := by
  have e : ndc lk (i + 1) = ndc lk i + 1 := by rw [ndc_s, if_pos hl]
  obtain ⟨h1, h2, h3, h4⟩ := h
  refine ⟨h1.put (by unfold Sn; omega), by rw [gwI_s, e, nI_1], ?_, fun v hv hl2 hc2 => ?_⟩
  · rw [gwI_n (by omega), h3, e]
    unfold min6
    rw [if_neg (by omega), if_neg (by omega)]
  · have hv2 : v < i := by
      rcases Nat.lt_or_ge v i with q | q
      · exact q
      · rw [show v = i by omega] at hc2; omega
    rw [gwI_n (by omega), gwI_n (by omega)]
    exact h4 v hv2 hl2 hc2
theorem nN.more {M Mp : gM} {W lk : Nat → Int32} {i : Nat} (h : nN M Mp W lk i) (hl : 0 < lk i) (hc : ndc lk i < 6) : nN M (gwI (gwI (gwI (gwI Mp 126 (ndc lk i) (nI i)) 127 (ndc lk i) (W i)) 88 52 (nI (ndc lk i) + 1)) 88 51 (nI (ndc lk i) + 1)) W lk (i + 1) := by
  have e : ndc lk (i + 1) = ndc lk i + 1 := by rw [ndc_s, if_pos hl]
  obtain ⟨h1, h2, h3, h4⟩ := h
  refine ⟨(((h1.put (by unfold Sn; omega)).put (by unfold Sn; omega)).put (by unfold Sn; omega)).put (by unfold Sn; omega), by rw [gwI_s, e, nI_1], ?_, fun v hv hl2 hc2 => ?_⟩
  · rw [gwI_n (by omega), gwI_s, e, nI_1]
    unfold min6
    by_cases q : ndc lk i + 1 < 6
    · rw [if_pos q]
    · rw [if_neg q, show ndc lk i + 1 = 6 by omega]
  · by_cases e2 : v = i
    · subst e2
      refine ⟨?_, ?_⟩
      · rw [gwI_n (by omega), gwI_n (by omega), gwI_n (by omega), gwI_s]
      · rw [gwI_n (by omega), gwI_n (by omega), gwI_s]
    · have hlt := ndc_mono (lk := lk) (show v < i by omega) hl2
      rw [gwI_n (by omega), gwI_n (by omega), gwI_n (by omega), gwI_n (by omega), gwI_n (by omega), gwI_n (by omega), gwI_n (by omega), gwI_n (by omega)]
      exact h4 v (by omega) hl2 hc2
theorem min6_ge {c : Nat} (h : (6 : Int32) ≤ nI (min6 c)) (hc : c ≤ 12) : 6 ≤ c := by
  rcases Nat.lt_or_ge c 6 with q | q
  · unfold min6 at h
    rw [if_pos q] at h
    exact absurd h (nI_ge (a := c) (b := 6) q (by omega))
  · exact q
theorem min6_lt {c : Nat} (h : ¬ (6 : Int32) ≤ nI (min6 c)) (hc : c ≤ 12) : c < 6 := by
  rcases Nat.lt_or_ge c 6 with q | q
  · exact q
  · unfold min6 at h
    rw [if_neg (by omega)] at h
    exact absurd (nI_le (a := 6) (b := 6) (by omega) (by omega)) h
set_option maxRecDepth 100000 in
set_option maxHeartbeats 400000 in
theorem lp_X9_findNeedy  {G : gJ} {P : gM → Prop} (hG : gS 3 0 0 yX9_findNeedy.cls cX9_findNeedy 4 G) (hE : gEv 140 0 0 cX9_findNeedy P G) {M0 : gM} {b : Bool} (hR0 : M0.2.2 = stdR b) {nv : Nat} (hnv0 : M0.1 88 26 = nI nv) (lv : nv ≤ 12) {hh nl : Nat} {B : Nat → Bool} {A : Nat → Int32} {ST : Nat → Nat} {C : Nat → Nat × Int32} (hO0 : ordM M0 hh nl B A ST C) (ht0 : ∀ v, v < nv → ¬ (M0.1 107 v).toInt64 = 0) (dy : Int32) :
    ∀ (r i : Nat) (M : gM) (x3 : Option Value), i + r = nv → nN M0 M (fun v => mwantV M0 v dy nl B A ST C) (mlk M0 dy nl B A ST C) i → (∀ M9, nN M0 M9 (fun v => mwantV M0 v dy nl B A ST C) (mlk M0 dy nl B A ST C) nv → P M9) → G (140, 0, 0) 12 [some (.ref 88), some (.int dy), some (.int (nI i)), x3] [] M := by
  intro r
  induction r with
  | zero =>
    intro i M x3 hi hp hP
    have hq := hp.1
    have hR : M.2.2 = stdR b := by rw [hq.1]; exact hR0
    have hnv : M.1 88 26 = nI nv := (hq.2 88 26 (by unfold Sn; omega)).trans hnv0
    have hO := hO0.sm (M' := M) (fun k j h => hq.2 k j (by unfold Sn; omega))
    have hcl := ndc_le (mlk M0 dy nl B A ST C) i
    refine r_iload_n hG dX9_findNeedy_12 rfl ?_
    refine r_aload_n hG dX9_findNeedy_13 rfl ?_
    refine r_getIv hG 26 (nI nv) fk_X9_287 dX9_findNeedy_14 rfl (by decide) rfl hnv ?_
    refine r_icmp_ge hG 92 dX9_findNeedy_17 (by decide) (fun hc17 => ?_) (fun hc17 => absurd (nle_f (a := nv) (b := i) (by omega) (by omega) hc17) (by omega))
    refine hE _ _ _ _ dX9_findNeedy_92 rfl (Nat.le_refl _) (Nat.le_refl _) ?_
    rw [show i = nv by omega] at hp
    exact hP M hp
  | succ r ih =>
    intro i M x3 hi hp hP
    have hq := hp.1
    have hR : M.2.2 = stdR b := by rw [hq.1]; exact hR0
    have hnv : M.1 88 26 = nI nv := (hq.2 88 26 (by unfold Sn; omega)).trans hnv0
    have hO := hO0.sm (M' := M) (fun k j h => hq.2 k j (by unfold Sn; omega))
    have hcl := ndc_le (mlk M0 dy nl B A ST C) i
    refine r_iload_n hG dX9_findNeedy_12 rfl ?_
    refine r_aload_n hG dX9_findNeedy_13 rfl ?_
    refine r_getIv hG 26 (nI nv) fk_X9_287 dX9_findNeedy_14 rfl (by decide) rfl hnv ?_
    refine r_icmp_ge hG 92 dX9_findNeedy_17 (by decide) (fun hc17 => absurd (nle_t (a := nv) (b := i) (by omega) (by omega) hc17) (by omega)) (fun hc17 => ?_)
    refine r_aload_n hG dX9_findNeedy_20 rfl ?_
    refine r_iload_n hG dX9_findNeedy_21 rfl ?_
    refine r_iload_n hG dX9_findNeedy_22 rfl ?_
    refine r_cVI2 hG mk_X9_315 dX9_findNeedy_23 rfl (by decide) (ct_X9_wantOf hR hO (v := i) (by omega) (by rw [hq.2 107 i (by unfold Sn; omega)]; exact ht0 i (by omega)) dy) (by decide) ⟨Nat.le_refl _, Nat.le_refl _⟩ (Nat.le_of_ble_eq_true rfl) (fun x9 M23 h9 => ?_)
    obtain ⟨e8, hq23⟩ := h9
    rw [e8, mwantV_c (M := M0) (fun k j h => hq.2 k j (by unfold Sn; omega))]
    have hR : M23.2.2 = stdR b := by rw [hq23.1]; exact hR
    have hp8 := hp.sc hq23
    refine r_istore_n hG dX9_findNeedy_26 (by decide) ?_
    refine r_loc [some (.ref 88), some (.int dy), some (.int (nI i)), some (.int (mwantV M0 i dy nl B A ST C))] rfl ?_
    refine r_aload_n hG dX9_findNeedy_27 rfl ?_
    refine r_getR hG 30 108 fk_X9_100 dX9_findNeedy_28 rfl (by decide) rfl (sr hR rfl) ?_
    refine r_iload_n hG dX9_findNeedy_31 rfl ?_
    refine r_ialdv hG i (M0.1 108 i) dX9_findNeedy_32 rfl (by decide) rfl (by omega) (by decide) (hp8.1.2 108 i (by unfold Sn; omega)) ?_
    refine r_iload_n hG dX9_findNeedy_33 rfl ?_
    refine r_icmp_ge hG 86 dX9_findNeedy_34 (by decide) (fun hc34 => ?_) (fun hc34 => ?_)
    · refine r_iinc hG (1) dX9_findNeedy_86 (by decide) rfl ?_
      refine r_loc [some (.ref 88), some (.int dy), some (.int ((nI i) + (1))), some (.int (mwantV M0 i dy nl B A ST C))] rfl ?_
      refine r_goto hG 12 dX9_findNeedy_89 (by decide) ?_
      rw [nI_1]
      exact ih (i + 1) M23 _ (by omega) (hp8.skip (by unfold mlk; rw [if_neg (Int32.not_lt.mpr hc34)]; decide)) hP
    · refine r_aload_n hG dX9_findNeedy_37 rfl ?_
      refine r_getIv hG 52 (nI (min6 (ndc (mlk M0 dy nl B A ST C) i))) fk_X9_322 dX9_findNeedy_38 rfl (by decide) rfl hp8.2.2.1 ?_
      refine r_bipush hG (6) dX9_findNeedy_41 (by decide) ?_
      refine r_icmp_ge hG 76 dX9_findNeedy_43 (by decide) (fun hc43 => ?_) (fun hc43 => ?_)
      · refine r_aload_n hG dX9_findNeedy_76 rfl ?_
        refine r_dup hG dX9_findNeedy_77 rfl ?_
        refine r_getIv hG 51 (nI (ndc (mlk M0 dy nl B A ST C) i)) fk_X9_319 dX9_findNeedy_78 rfl (by decide) rfl hp8.2.1 ?_
        refine r_iconst hG (1) dX9_findNeedy_81 (by decide) ?_
        refine r_iadd hG dX9_findNeedy_82 ?_
        refine r_putI hG 51 fp_X9_319 dX9_findNeedy_83 rfl (by decide) rfl rfl rfl ?_
        refine r_iinc hG (1) dX9_findNeedy_86 (by decide) rfl ?_
        refine r_loc [some (.ref 88), some (.int dy), some (.int ((nI i) + (1))), some (.int (mwantV M0 i dy nl B A ST C))] rfl ?_
        refine r_goto hG 12 dX9_findNeedy_89 (by decide) ?_
        rw [nI_1]
        exact ih (i + 1) _ _ (by omega) (hp8.full (by unfold mlk; rw [if_pos (Int32.not_le.mp hc34)]; decide) (by have := min6_ge hc43 (by omega); omega)) hP
      · have hc6 : ndc (mlk M0 dy nl B A ST C) i < 6 := min6_lt hc43 (by omega)
        have hm6 : min6 (ndc (mlk M0 dy nl B A ST C) i) = ndc (mlk M0 dy nl B A ST C) i := by unfold min6; rw [if_pos hc6]
        refine r_aload_n hG dX9_findNeedy_46 rfl ?_
        refine r_getR hG 53 126 fk_X9_154 dX9_findNeedy_47 rfl (by decide) rfl (sr hR rfl) ?_
        refine r_aload_n hG dX9_findNeedy_50 rfl ?_
        refine r_getIv hG 52 (nI (ndc (mlk M0 dy nl B A ST C) i)) fk_X9_322 dX9_findNeedy_51 rfl (by decide) rfl (hp8.2.2.1.trans (by rw [hm6])) ?_
        refine r_iload_n hG dX9_findNeedy_54 rfl ?_
        refine r_iast hG (ndc (mlk M0 dy nl B A ST C) i) dX9_findNeedy_55 rfl (by decide) rfl (by omega) (by decide) ?_
        refine r_aload_n hG dX9_findNeedy_56 rfl ?_
        refine r_getR hG 54 127 fk_X9_157 dX9_findNeedy_57 rfl (by decide) rfl (sr hR rfl) ?_
        refine r_aload_n hG dX9_findNeedy_60 rfl ?_
        refine r_getIv hG 52 (nI (ndc (mlk M0 dy nl B A ST C) i)) fk_X9_322 dX9_findNeedy_61 rfl (by decide) rfl ((gwI_n (by omega)).trans (hp8.2.2.1.trans (by rw [hm6]))) ?_
        refine r_iload_n hG dX9_findNeedy_64 rfl ?_
        refine r_iast hG (ndc (mlk M0 dy nl B A ST C) i) dX9_findNeedy_65 rfl (by decide) rfl (by omega) (by decide) ?_
        refine r_aload_n hG dX9_findNeedy_66 rfl ?_
        refine r_dup hG dX9_findNeedy_67 rfl ?_
        refine r_getIv hG 52 (nI (ndc (mlk M0 dy nl B A ST C) i)) fk_X9_322 dX9_findNeedy_68 rfl (by decide) rfl ((gwI_n (by omega)).trans ((gwI_n (by omega)).trans (hp8.2.2.1.trans (by rw [hm6])))) ?_
        refine r_iconst hG (1) dX9_findNeedy_71 (by decide) ?_
        refine r_iadd hG dX9_findNeedy_72 ?_
        refine r_putI hG 52 fp_X9_322 dX9_findNeedy_73 rfl (by decide) rfl rfl rfl ?_
        refine r_aload_n hG dX9_findNeedy_76 rfl ?_
        refine r_dup hG dX9_findNeedy_77 rfl ?_
        refine r_getIv hG 51 (nI (ndc (mlk M0 dy nl B A ST C) i)) fk_X9_319 dX9_findNeedy_78 rfl (by decide) rfl ((gwI_n (by omega)).trans ((gwI_n (by omega)).trans ((gwI_n (by omega)).trans hp8.2.1))) ?_
        refine r_iconst hG (1) dX9_findNeedy_81 (by decide) ?_
        refine r_iadd hG dX9_findNeedy_82 ?_
        refine r_putI hG 51 fp_X9_319 dX9_findNeedy_83 rfl (by decide) rfl rfl rfl ?_
        refine r_iinc hG (1) dX9_findNeedy_86 (by decide) rfl ?_
        refine r_loc [some (.ref 88), some (.int dy), some (.int ((nI i) + (1))), some (.int (mwantV M0 i dy nl B A ST C))] rfl ?_
        refine r_goto hG 12 dX9_findNeedy_89 (by decide) ?_
        rw [nI_1]
        exact ih (i + 1) _ _ (by omega) (hp8.more (by unfold mlk; rw [if_pos (Int32.not_le.mp hc34)]; decide) hc6) hP

set_option maxRecDepth 100000 in
set_option maxHeartbeats 400000 in
theorem ct_X9_findNeedy {M : gM} {b : Bool} (hR : M.2.2 = stdR b) {nv : Nat} (hnv : M.1 88 26 = nI nv) (lv : nv ≤ 12) {hh nl : Nat} {B : Nat → Bool} {A : Nat → Int32} {ST : Nat → Nat} {C : Nat → Nat × Int32} (hO : ordM M hh nl B A ST C) (ht : ∀ v, v < nv → ¬ (M.1 107 v).toInt64 = 0) (dy : Int32) : gC 3 0 0 yX9_findNeedy cX9_findNeedy 4 none 140 140 [.ref 88, .int dy] M (gV (fun M9 => nN M M9 (fun v => mwantV M v dy nl B A ST C) (mlk M dy nl B A ST C) nv)) := by
  refine gC_v rfl (Nat.le_of_ble_eq_true rfl) (fun G hG hE => ?_)
  change G (140, 0, 0) 0 [some (.ref 88), some (.int dy), none, none] [] M
  refine r_aload_n hG dX9_findNeedy_0 rfl ?_
  refine r_iconst hG (0) dX9_findNeedy_1 (by decide) ?_
  refine r_putI hG 51 fp_X9_319 dX9_findNeedy_2 rfl (by decide) rfl rfl rfl ?_
  refine r_aload_n hG dX9_findNeedy_5 rfl ?_
  refine r_iconst hG (0) dX9_findNeedy_6 (by decide) ?_
  refine r_putI hG 52 fp_X9_322 dX9_findNeedy_7 rfl (by decide) rfl rfl rfl ?_
  refine r_iconst hG (0) dX9_findNeedy_10 (by decide) ?_
  refine r_istore_n hG dX9_findNeedy_11 (by decide) ?_
  refine r_loc [some (.ref 88), some (.int dy), some (.int (0)), none] rfl ?_
  exact lp_X9_findNeedy hG hE hR hnv lv hO ht dy nv 0 _ _ (by omega) ⟨(gEq.rf.put (by unfold Sn; omega)).put (by unfold Sn; omega), by rw [gwI_n (by omega), gwI_s]; rfl, by rw [gwI_s]; rfl, fun v hv => absurd hv (by omega)⟩ (fun M9 h9 => h9)

/-- the trips of a plan, one needy after the other -/
def mtry (M : gM) (wv sp : Nat → Nat) (nt : Nat) (se : Nat → Nat) : Nat → Nat → (Nat → Int32) → (Nat → Int32) → Int32 → Int32
  | 0, _, _, _, dry => dry
  | n + 1, k, ml, pl, dry =>
    if se k < nt then
      (if ml (se k) - 2 * M.1 125 (12 * sp (se k) + wv k) < 0 then -1 else
        mtry M wv sp nt se n (k + 1) (upd ml (se k) (ml (se k) - 2 * M.1 125 (12 * sp (se k) + wv k))) (upd pl (sp (se k)) (pl (sp (se k)) - mmin (mmin (M.1 107 (wv k) - M.1 108 (wv k)) (pl (sp (se k)))) (M.1 120 (se k))))
          (dry + if M.1 108 (wv k) + mmin (mmin (M.1 107 (wv k) - M.1 108 (wv k)) (pl (sp (se k)))) (M.1 120 (se k)) < M.1 127 k then 1 else 0))
    else mtry M wv sp nt se n (k + 1) ml pl (dry + if M.1 108 (wv k) < M.1 127 k then 1 else 0)
def Sr (k j : Nat) : Prop := k = 130 ∨ k = 131
theorem gw_upd {M : gM} {k j : Nat} {v : Int32} : (gwI M k j v).1 k = upd (M.1 k) j v := by
  funext i
  unfold upd
  by_cases e : i = j
  · subst e; rw [gwI_s, if_pos rfl]
  · rw [gwI_n (by omega), if_neg e]
theorem gw2a {M : gM} {i j : Nat} {x y : Int32} : (gwI (gwI M 130 i x) 131 j y).1 130 = upd (M.1 130) i x := by
  rw [gwI_row (by decide), gw_upd]
theorem gw2b {M : gM} {i j : Nat} {x y : Int32} : (gwI (gwI M 130 i x) 131 j y).1 131 = upd (M.1 131) j y := by
  rw [gw_upd, gwI_row (by decide)]
def msum (M : gM) (wv sp : Nat → Nat) (nt : Nat) (se : Nat → Nat) (k : Nat) : Int32 := sumI (fun k => if se k < nt then 2 * M.1 125 (12 * sp (se k) + wv k) else 0) k
set_option maxRecDepth 100000 in
set_option maxHeartbeats 400000 in
theorem lp_X9_tries3  {G : gJ} {P : Int32 → gM → Prop} (hG : gS 1 0 0 yX9_tries.cls cX9_tries 8 G) (hE : gEi 140 0 0 cX9_tries .int P G) {M0 : gM} {b : Bool} (hR0 : M0.2.2 = stdR b) {ns nt c : Nat} (hns0 : M0.1 88 38 = nI ns) (ls : ns ≤ 4) (hnt0 : M0.1 88 43 = nI nt) (lt : nt ≤ 4) (hc0 : M0.1 88 52 = nI c) (lc : c ≤ 6) {wv sp se : Nat → Nat} (hwv0 : ∀ k, k < c → M0.1 126 k = nI (wv k) ∧ wv k < 12) (hsp0 : ∀ t, t < nt → M0.1 119 t = nI (sp t) ∧ sp t < 4) (hse0 : ∀ k, k < c → M0.1 128 k = nI (se k) ∧ se k ≤ nt) :
    ∀ (r k : Nat) (M : gM) (dry : Int32) (x3 x4 x5 x6 x7 : Option Value), k + r = c → gEq Sr M0 M → (∀ M9, gEq Sr M0 M9 → P (mtry M0 wv sp nt se r k (M.1 130) (M.1 131) dry) M9) → G (140, 0, 0) 60 [some (.ref 88), some (.int dry), some (.int (nI k)), x3, x4, x5, x6, x7] [] M := by
  intro r
  induction r with
  | zero =>
    intro k M dry x3 x4 x5 x6 x7 hk hq hP
    have hR : M.2.2 = stdR b := by rw [hq.1]; exact hR0
    have hns : M.1 88 38 = nI ns := (hq.2 88 38 (by unfold Sr; omega)).trans hns0
    have hnt : M.1 88 43 = nI nt := (hq.2 88 43 (by unfold Sr; omega)).trans hnt0
    have hcn : M.1 88 52 = nI c := (hq.2 88 52 (by unfold Sr; omega)).trans hc0
    have hwv := fun k (h : k < c) => (hq.2 126 k (by unfold Sr; omega)).trans (hwv0 k h).1
    have hsp := fun t (h : t < nt) => (hq.2 119 t (by unfold Sr; omega)).trans (hsp0 t h).1
    have hse := fun k (h : k < c) => (hq.2 128 k (by unfold Sr; omega)).trans (hse0 k h).1
    refine r_iload_n hG dX9_tries_60 rfl ?_
    refine r_aload_n hG dX9_tries_61 rfl ?_
    refine r_getIv hG 52 (nI c) fk_X9_322 dX9_tries_62 rfl (by decide) rfl hcn ?_
    refine r_icmp_ge hG 224 dX9_tries_65 (by decide) (fun hc65 => ?_) (fun hc65 => absurd (nle_f (a := c) (b := k) (by omega) (by omega) hc65) (by omega))
    refine r_iload_n hG dX9_tries_224 rfl ?_
    refine hE _ _ _ _ _ dX9_tries_225 rfl (Nat.le_refl _) (Nat.le_refl _) rfl ?_
    exact hP M hq
  | succ r ih =>
    intro k M dry x3 x4 x5 x6 x7 hk hq hP
    have hR : M.2.2 = stdR b := by rw [hq.1]; exact hR0
    have hns : M.1 88 38 = nI ns := (hq.2 88 38 (by unfold Sr; omega)).trans hns0
    have hnt : M.1 88 43 = nI nt := (hq.2 88 43 (by unfold Sr; omega)).trans hnt0
    have hcn : M.1 88 52 = nI c := (hq.2 88 52 (by unfold Sr; omega)).trans hc0
    have hwv := fun k (h : k < c) => (hq.2 126 k (by unfold Sr; omega)).trans (hwv0 k h).1
    have hsp := fun t (h : t < nt) => (hq.2 119 t (by unfold Sr; omega)).trans (hsp0 t h).1
    have hse := fun k (h : k < c) => (hq.2 128 k (by unfold Sr; omega)).trans (hse0 k h).1
    have hw9 := (hwv0 k (by omega)).2
    have hs9 := (hse0 k (by omega)).2
    refine r_iload_n hG dX9_tries_60 rfl ?_
    refine r_aload_n hG dX9_tries_61 rfl ?_
    refine r_getIv hG 52 (nI c) fk_X9_322 dX9_tries_62 rfl (by decide) rfl hcn ?_
    refine r_icmp_ge hG 224 dX9_tries_65 (by decide) (fun hc65 => absurd (nle_t (a := c) (b := k) (by omega) (by omega) hc65) (by omega)) (fun hc65 => ?_)
    refine r_aload_n hG dX9_tries_68 rfl ?_
    refine r_getR hG 53 126 fk_X9_154 dX9_tries_69 rfl (by decide) rfl (sr hR rfl) ?_
    refine r_iload_n hG dX9_tries_72 rfl ?_
    refine r_ialdv hG k (nI (wv k)) dX9_tries_73 rfl (by decide) rfl (by omega) (by decide) (hwv k (by omega)) ?_
    refine r_istore_n hG dX9_tries_74 (by decide) ?_
    refine r_loc [some (.ref 88), some (.int dry), some (.int (nI k)), some (.int (nI (wv k))), x4, x5, x6, x7] rfl ?_
    refine r_aload_n hG dX9_tries_75 rfl ?_
    refine r_getR hG 30 108 fk_X9_100 dX9_tries_76 rfl (by decide) rfl (sr hR rfl) ?_
    refine r_iload_n hG dX9_tries_79 rfl ?_
    refine r_ialdv hG (wv k) (M0.1 108 (wv k)) dX9_tries_80 rfl (by decide) rfl (hwv0 k (by omega)).2 (by decide) (hq.2 108 (wv k) (by unfold Sr; omega)) ?_
    refine r_istore hG dX9_tries_81 (by decide) ?_
    refine r_loc [some (.ref 88), some (.int dry), some (.int (nI k)), some (.int (nI (wv k))), some (.int (M0.1 108 (wv k))), x5, x6, x7] rfl ?_
    refine r_aload_n hG dX9_tries_83 rfl ?_
    refine r_getR hG 55 128 fk_X9_160 dX9_tries_84 rfl (by decide) rfl (sr hR rfl) ?_
    refine r_iload_n hG dX9_tries_87 rfl ?_
    refine r_ialdv hG k (nI (se k)) dX9_tries_88 rfl (by decide) rfl (by omega) (by decide) (hse k (by omega)) ?_
    refine r_aload_n hG dX9_tries_89 rfl ?_
    refine r_getIv hG 43 (nI nt) fk_X9_294 dX9_tries_90 rfl (by decide) rfl hnt ?_
    refine r_icmp_ge hG 199 dX9_tries_93 (by decide) (fun hc93 => ?_) (fun hc93 => ?_)
    · have hn93 := nle_t (a := nt) (b := (se k)) (by omega) (by omega) hc93
      refine r_iload_n hG dX9_tries_199 rfl ?_
      refine r_iload hG dX9_tries_200 rfl ?_
      refine r_aload_n hG dX9_tries_202 rfl ?_
      refine r_getR hG 54 127 fk_X9_157 dX9_tries_203 rfl (by decide) rfl (sr hR rfl) ?_
      refine r_iload_n hG dX9_tries_206 rfl ?_
      refine r_ialdv hG k (M0.1 127 k) dX9_tries_207 rfl (by decide) rfl (by omega) (by decide) (hq.2 127 k (by unfold Sr; omega)) ?_
      refine r_icmp_ge hG 215 dX9_tries_208 (by decide) (fun hc208 => ?_) (fun hc208 => ?_)
      · refine r_iconst hG (0) dX9_tries_215 (by decide) ?_
        refine r_iadd hG dX9_tries_216 ?_
        refine r_istore_n hG dX9_tries_217 (by decide) ?_
        refine r_loc [some (.ref 88), some (.int (dry + (0))), some (.int (nI k)), some (.int (nI (wv k))), some (.int (M0.1 108 (wv k))), x5, x6, x7] rfl ?_
        refine r_iinc hG (1) dX9_tries_218 (by decide) rfl ?_
        refine r_loc [some (.ref 88), some (.int (dry + (0))), some (.int ((nI k) + (1))), some (.int (nI (wv k))), some (.int (M0.1 108 (wv k))), x5, x6, x7] rfl ?_
        refine r_goto hG 60 dX9_tries_221 (by decide) ?_
        rw [nI_1]
        refine ih (k + 1) M _ _ _ _ _ _ (by omega) hq (fun M9 h9 => ?_)
        have h8 := hP M9 h9
        unfold mtry at h8
        rw [if_neg (by omega), if_neg (Int32.not_lt.mpr hc208)] at h8
        exact h8
      · refine r_iconst hG (1) dX9_tries_211 (by decide) ?_
        refine r_goto hG 216 dX9_tries_212 (by decide) ?_
        refine r_iadd hG dX9_tries_216 ?_
        refine r_istore_n hG dX9_tries_217 (by decide) ?_
        refine r_loc [some (.ref 88), some (.int (dry + (1))), some (.int (nI k)), some (.int (nI (wv k))), some (.int (M0.1 108 (wv k))), x5, x6, x7] rfl ?_
        refine r_iinc hG (1) dX9_tries_218 (by decide) rfl ?_
        refine r_loc [some (.ref 88), some (.int (dry + (1))), some (.int ((nI k) + (1))), some (.int (nI (wv k))), some (.int (M0.1 108 (wv k))), x5, x6, x7] rfl ?_
        refine r_goto hG 60 dX9_tries_221 (by decide) ?_
        rw [nI_1]
        refine ih (k + 1) M _ _ _ _ _ _ (by omega) hq (fun M9 h9 => ?_)
        have h8 := hP M9 h9
        unfold mtry at h8
        rw [if_neg (by omega), if_pos (Int32.not_le.mp hc208)] at h8
        exact h8
    · have hn93 := nle_f (a := nt) (b := (se k)) (by omega) (by omega) hc93
      refine r_aload_n hG dX9_tries_96 rfl ?_
      refine r_getR hG 55 128 fk_X9_160 dX9_tries_97 rfl (by decide) rfl (sr hR rfl) ?_
      refine r_iload_n hG dX9_tries_100 rfl ?_
      refine r_ialdv hG k (nI (se k)) dX9_tries_101 rfl (by decide) rfl (by omega) (by decide) (hse k (by omega)) ?_
      refine r_istore hG dX9_tries_102 (by decide) ?_
      refine r_loc [some (.ref 88), some (.int dry), some (.int (nI k)), some (.int (nI (wv k))), some (.int (M0.1 108 (wv k))), some (.int (nI (se k))), x6, x7] rfl ?_
      refine r_aload_n hG dX9_tries_104 rfl ?_
      refine r_getR hG 44 119 fk_X9_133 dX9_tries_105 rfl (by decide) rfl (sr hR rfl) ?_
      refine r_iload hG dX9_tries_108 rfl ?_
      refine r_ialdv hG (se k) (nI (sp (se k))) dX9_tries_110 rfl (by decide) rfl (by omega) (by decide) (hsp (se k) (by omega)) ?_
      refine r_istore hG dX9_tries_111 (by decide) ?_
      refine r_loc [some (.ref 88), some (.int dry), some (.int (nI k)), some (.int (nI (wv k))), some (.int (M0.1 108 (wv k))), some (.int (nI (se k))), some (.int (nI (sp (se k)))), x7] rfl ?_
      have hs4 := (hsp0 (se k) (by omega)).2
      refine r_aload_n hG dX9_tries_113 rfl ?_
      refine r_getR hG 59 130 fk_X9_166 dX9_tries_114 rfl (by decide) rfl (sr hR rfl) ?_
      refine r_iload hG dX9_tries_117 rfl ?_
      refine r_dup2 hG dX9_tries_119 rfl rfl ?_
      refine r_iald hG (se k) dX9_tries_120 rfl (by decide) rfl (by omega) (by decide) ?_
      refine r_iconst hG (2) dX9_tries_121 (by decide) ?_
      refine r_aload_n hG dX9_tries_122 rfl ?_
      refine r_getR hG 50 125 fk_X9_151 dX9_tries_123 rfl (by decide) rfl (sr hR rfl) ?_
      refine r_bipush hG (12) dX9_tries_126 (by decide) ?_
      refine r_iload hG dX9_tries_128 rfl ?_
      refine r_imul hG dX9_tries_130 ?_
      refine r_iload_n hG dX9_tries_131 rfl ?_
      refine r_iadd hG dX9_tries_132 ?_
      refine r_ialdv hG (12 * sp (se k) + wv k) (M0.1 125 (12 * sp (se k) + wv k)) dX9_tries_133 rfl (by decide) (mulAdd 12 (sp (se k)) (wv k)) (by omega) (by decide) (hq.2 125 (12 * sp (se k) + wv k) (by unfold Sr; omega)) ?_
      refine r_imul hG dX9_tries_134 ?_
      refine r_isub hG dX9_tries_135 ?_
      refine r_iast hG (se k) dX9_tries_136 rfl (by decide) rfl (by omega) (by decide) ?_
      refine r_aload_n hG dX9_tries_137 rfl ?_
      refine r_getR hG 59 130 fk_X9_166 dX9_tries_138 rfl (by decide) rfl (sr hR rfl) ?_
      refine r_iload hG dX9_tries_141 rfl ?_
      refine r_ialdv hG (se k) ((M.1 130 (se k)) - ((2) * (M0.1 125 (12 * sp (se k) + wv k)))) dX9_tries_143 rfl (by decide) rfl (by omega) (by decide) gwI_s ?_
      refine r_if_ge hG 149 dX9_tries_144 (by decide) (fun hc144 => ?_) (fun hc144 => ?_)
      · refine r_aload_n hG dX9_tries_149 rfl ?_
        refine r_getR hG 45 120 fk_X9_136 dX9_tries_150 rfl (by decide) rfl (sr hR rfl) ?_
        refine r_iload hG dX9_tries_153 rfl ?_
        refine r_ialdv hG (se k) (M0.1 120 (se k)) dX9_tries_155 rfl (by decide) rfl (by omega) (by decide) ((gwI_n (by omega)).trans (hq.2 120 (se k) (by unfold Sr; omega))) ?_
        refine r_aload_n hG dX9_tries_156 rfl ?_
        refine r_getR hG 60 131 fk_X9_169 dX9_tries_157 rfl (by decide) rfl (sr hR rfl) ?_
        refine r_iload hG dX9_tries_160 rfl ?_
        refine r_ialdv hG (sp (se k)) (M.1 131 (sp (se k))) dX9_tries_162 rfl (by decide) rfl (by omega) (by decide) (gwI_n (by omega)) ?_
        refine r_aload_n hG dX9_tries_163 rfl ?_
        refine r_getR hG 29 107 fk_X9_97 dX9_tries_164 rfl (by decide) rfl (sr hR rfl) ?_
        refine r_iload_n hG dX9_tries_167 rfl ?_
        refine r_ialdv hG (wv k) (M0.1 107 (wv k)) dX9_tries_168 rfl (by decide) rfl (hwv0 k (by omega)).2 (by decide) ((gwI_n (by omega)).trans (hq.2 107 (wv k) (by unfold Sr; omega))) ?_
        refine r_iload hG dX9_tries_169 rfl ?_
        refine r_isub hG dX9_tries_171 ?_
        refine r_cSI2 hG mk_X9_325 dX9_tries_172 (ct_X9_least _ _) (by decide) ⟨Nat.le_refl _, Nat.le_refl _⟩ (Nat.le_of_ble_eq_true rfl) (fun x9 M9 h9 => ?_)
        obtain ⟨e8, e9⟩ := h9
        rw [e8, e9]
        refine r_cSI2 hG mk_X9_325 dX9_tries_175 (ct_X9_least _ _) (by decide) ⟨Nat.le_refl _, Nat.le_refl _⟩ (Nat.le_of_ble_eq_true rfl) (fun x9 M9 h9 => ?_)
        obtain ⟨e8, e9⟩ := h9
        rw [e8, e9]
        refine r_istore hG dX9_tries_178 (by decide) ?_
        refine r_loc [some (.ref 88), some (.int dry), some (.int (nI k)), some (.int (nI (wv k))), some (.int (M0.1 108 (wv k))), some (.int (nI (se k))), some (.int (nI (sp (se k)))), some (.int (mmin (mmin ((M0.1 107 (wv k)) - (M0.1 108 (wv k))) (M.1 131 (sp (se k)))) (M0.1 120 (se k))))] rfl ?_
        refine r_aload_n hG dX9_tries_180 rfl ?_
        refine r_getR hG 60 131 fk_X9_169 dX9_tries_181 rfl (by decide) rfl (sr hR rfl) ?_
        refine r_iload hG dX9_tries_184 rfl ?_
        refine r_dup2 hG dX9_tries_186 rfl rfl ?_
        refine r_ialdv hG (sp (se k)) (M.1 131 (sp (se k))) dX9_tries_187 rfl (by decide) rfl (by omega) (by decide) (gwI_n (by omega)) ?_
        refine r_iload hG dX9_tries_188 rfl ?_
        refine r_isub hG dX9_tries_190 ?_
        refine r_iast hG (sp (se k)) dX9_tries_191 rfl (by decide) rfl (by omega) (by decide) ?_
        refine r_iload hG dX9_tries_192 rfl ?_
        refine r_iload hG dX9_tries_194 rfl ?_
        refine r_iadd hG dX9_tries_196 ?_
        refine r_istore hG dX9_tries_197 (by decide) ?_
        refine r_loc [some (.ref 88), some (.int dry), some (.int (nI k)), some (.int (nI (wv k))), some (.int ((M0.1 108 (wv k)) + (mmin (mmin ((M0.1 107 (wv k)) - (M0.1 108 (wv k))) (M.1 131 (sp (se k)))) (M0.1 120 (se k))))), some (.int (nI (se k))), some (.int (nI (sp (se k)))), some (.int (mmin (mmin ((M0.1 107 (wv k)) - (M0.1 108 (wv k))) (M.1 131 (sp (se k)))) (M0.1 120 (se k))))] rfl ?_
        refine r_iload_n hG dX9_tries_199 rfl ?_
        refine r_iload hG dX9_tries_200 rfl ?_
        refine r_aload_n hG dX9_tries_202 rfl ?_
        refine r_getR hG 54 127 fk_X9_157 dX9_tries_203 rfl (by decide) rfl (sr hR rfl) ?_
        refine r_iload_n hG dX9_tries_206 rfl ?_
        refine r_ialdv hG k (M0.1 127 k) dX9_tries_207 rfl (by decide) rfl (by omega) (by decide) (((gwI_n (by omega)).trans (gwI_n (by omega))).trans (hq.2 127 k (by unfold Sr; omega))) ?_
        refine r_icmp_ge hG 215 dX9_tries_208 (by decide) (fun hc208 => ?_) (fun hc208 => ?_)
        · refine r_iconst hG (0) dX9_tries_215 (by decide) ?_
          refine r_iadd hG dX9_tries_216 ?_
          refine r_istore_n hG dX9_tries_217 (by decide) ?_
          refine r_loc [some (.ref 88), some (.int (dry + (0))), some (.int (nI k)), some (.int (nI (wv k))), some (.int ((M0.1 108 (wv k)) + (mmin (mmin ((M0.1 107 (wv k)) - (M0.1 108 (wv k))) (M.1 131 (sp (se k)))) (M0.1 120 (se k))))), some (.int (nI (se k))), some (.int (nI (sp (se k)))), some (.int (mmin (mmin ((M0.1 107 (wv k)) - (M0.1 108 (wv k))) (M.1 131 (sp (se k)))) (M0.1 120 (se k))))] rfl ?_
          refine r_iinc hG (1) dX9_tries_218 (by decide) rfl ?_
          refine r_loc [some (.ref 88), some (.int (dry + (0))), some (.int ((nI k) + (1))), some (.int (nI (wv k))), some (.int ((M0.1 108 (wv k)) + (mmin (mmin ((M0.1 107 (wv k)) - (M0.1 108 (wv k))) (M.1 131 (sp (se k)))) (M0.1 120 (se k))))), some (.int (nI (se k))), some (.int (nI (sp (se k)))), some (.int (mmin (mmin ((M0.1 107 (wv k)) - (M0.1 108 (wv k))) (M.1 131 (sp (se k)))) (M0.1 120 (se k))))] rfl ?_
          refine r_goto hG 60 dX9_tries_221 (by decide) ?_
          rw [nI_1]
          refine ih (k + 1) _ _ _ _ _ _ _ (by omega) ((hq.put (Or.inl rfl)).put (Or.inr rfl)) (fun M9 h9 => ?_)
          have h8 := hP M9 h9
          unfold mtry at h8
          rw [if_pos (by omega), if_neg (Int32.not_lt.mpr hc144), if_neg (Int32.not_lt.mpr hc208)] at h8
          rw [gw2a, gw2b]
          exact h8
        · refine r_iconst hG (1) dX9_tries_211 (by decide) ?_
          refine r_goto hG 216 dX9_tries_212 (by decide) ?_
          refine r_iadd hG dX9_tries_216 ?_
          refine r_istore_n hG dX9_tries_217 (by decide) ?_
          refine r_loc [some (.ref 88), some (.int (dry + (1))), some (.int (nI k)), some (.int (nI (wv k))), some (.int ((M0.1 108 (wv k)) + (mmin (mmin ((M0.1 107 (wv k)) - (M0.1 108 (wv k))) (M.1 131 (sp (se k)))) (M0.1 120 (se k))))), some (.int (nI (se k))), some (.int (nI (sp (se k)))), some (.int (mmin (mmin ((M0.1 107 (wv k)) - (M0.1 108 (wv k))) (M.1 131 (sp (se k)))) (M0.1 120 (se k))))] rfl ?_
          refine r_iinc hG (1) dX9_tries_218 (by decide) rfl ?_
          refine r_loc [some (.ref 88), some (.int (dry + (1))), some (.int ((nI k) + (1))), some (.int (nI (wv k))), some (.int ((M0.1 108 (wv k)) + (mmin (mmin ((M0.1 107 (wv k)) - (M0.1 108 (wv k))) (M.1 131 (sp (se k)))) (M0.1 120 (se k))))), some (.int (nI (se k))), some (.int (nI (sp (se k)))), some (.int (mmin (mmin ((M0.1 107 (wv k)) - (M0.1 108 (wv k))) (M.1 131 (sp (se k)))) (M0.1 120 (se k))))] rfl ?_
          refine r_goto hG 60 dX9_tries_221 (by decide) ?_
          rw [nI_1]
          refine ih (k + 1) _ _ _ _ _ _ _ (by omega) ((hq.put (Or.inl rfl)).put (Or.inr rfl)) (fun M9 h9 => ?_)
          have h8 := hP M9 h9
          unfold mtry at h8
          rw [if_pos (by omega), if_neg (Int32.not_lt.mpr hc144), if_pos (Int32.not_le.mp hc208)] at h8
          rw [gw2a, gw2b]
          exact h8
      · refine r_iconst hG (-1) dX9_tries_147 (by decide) ?_
        refine hE _ _ _ _ _ dX9_tries_148 rfl (Nat.le_refl _) (Nat.le_refl _) rfl ?_
        have h8 := hP _ (hq.put (k := 130) (j := se k) (v := (M.1 130 (se k) - 2 * M0.1 125 (12 * sp (se k) + wv k))) (Or.inl rfl))
        unfold mtry at h8
        rw [if_pos (by omega), if_pos (Int32.not_le.mp hc144)] at h8
        exact h8

def mcf (M0 : gM) (wv sp : Nat → Nat) (nt : Nat) (se : Nat → Nat) : Prop := True
theorem mtry_c {M : gM} {wv sp : Nat → Nat} {nt ns : Nat} {se : Nat → Nat} (hsp : ∀ t, t < nt → sp t < ns) : ∀ n k (ml ml' pl pl' : Nat → Int32) (dry : Int32), (∀ t, t < nt → ml' t = ml t) → (∀ s, s < ns → pl' s = pl s) → mtry M wv sp nt se n k ml' pl' dry = mtry M wv sp nt se n k ml pl dry := by
  intro n
  induction n with
  | zero => intro k ml ml' pl pl' dry h1 h2; rfl
  | succ n ih =>
    intro k ml ml' pl pl' dry h1 h2
    unfold mtry
    by_cases e : se k < nt
    · rw [if_pos e, if_pos e, h1 _ e, h2 _ (hsp _ e)]
      by_cases e2 : ml (se k) - 2 * M.1 125 (12 * sp (se k) + wv k) < 0
      · rw [if_pos e2, if_pos e2]
      · rw [if_neg e2, if_neg e2]
        refine ih _ _ _ _ _ _ (fun t ht => ?_) (fun s hs => ?_)
        · unfold upd; split
          · rfl
          · exact h1 t ht
        · unfold upd; split
          · rfl
          · exact h2 s hs
    · rw [if_neg e, if_neg e]
      exact ih _ _ _ _ _ _ h1 h2
set_option maxRecDepth 100000 in
set_option maxHeartbeats 400000 in
theorem lp_X9_tries2  {G : gJ} {P : Int32 → gM → Prop} (hG : gS 1 0 0 yX9_tries.cls cX9_tries 8 G) (hE : gEi 140 0 0 cX9_tries .int P G) {M0 : gM} {b : Bool} (hR0 : M0.2.2 = stdR b) {ns nt c : Nat} (hns0 : M0.1 88 38 = nI ns) (ls : ns ≤ 4) (hnt0 : M0.1 88 43 = nI nt) (lt : nt ≤ 4) (hc0 : M0.1 88 52 = nI c) (lc : c ≤ 6) {wv sp se : Nat → Nat} (hwv0 : ∀ k, k < c → M0.1 126 k = nI (wv k) ∧ wv k < 12) (hsp0 : ∀ t, t < nt → M0.1 119 t = nI (sp t) ∧ sp t < 4) (hse0 : ∀ k, k < c → M0.1 128 k = nI (se k) ∧ se k ≤ nt) (hsn : ∀ t, t < nt → sp t < ns) :
    ∀ (r s : Nat) (M : gM), s + r = ns → gEq Sr M0 M → (∀ t, t < nt → M.1 130 t = M0.1 121 t) → (∀ s9, s9 < s → M.1 131 s9 = M0.1 117 s9) → (∀ M9, gEq Sr M0 M9 → P (mtry M0 wv sp nt se c 0 (M0.1 121) (M0.1 117) 0) M9) → G (140, 0, 0) 30 [some (.ref 88), some (.int (nI s)), none, none, none, none, none, none] [] M := by
  intro r
  induction r with
  | zero =>
    intro s M hs hq h1 h2 hP
    have hR : M.2.2 = stdR b := by rw [hq.1]; exact hR0
    have hns : M.1 88 38 = nI ns := (hq.2 88 38 (by unfold Sr; omega)).trans hns0
    have hnt : M.1 88 43 = nI nt := (hq.2 88 43 (by unfold Sr; omega)).trans hnt0
    have hcn : M.1 88 52 = nI c := (hq.2 88 52 (by unfold Sr; omega)).trans hc0
    refine r_iload_n hG dX9_tries_30 rfl ?_
    refine r_aload_n hG dX9_tries_31 rfl ?_
    refine r_getIv hG 38 (nI ns) fk_X9_291 dX9_tries_32 rfl (by decide) rfl hns ?_
    refine r_icmp_ge hG 56 dX9_tries_35 (by decide) (fun hc35 => ?_) (fun hc35 => absurd (nle_f (a := ns) (b := s) (by omega) (by omega) hc35) (by omega))
    refine r_iconst hG (0) dX9_tries_56 (by decide) ?_
    refine r_istore_n hG dX9_tries_57 (by decide) ?_
    refine r_loc [some (.ref 88), some (.int (0)), none, none, none, none, none, none] rfl ?_
    refine r_iconst hG (0) dX9_tries_58 (by decide) ?_
    refine r_istore_n hG dX9_tries_59 (by decide) ?_
    refine r_loc [some (.ref 88), some (.int (0)), some (.int (0)), none, none, none, none, none] rfl ?_
    refine lp_X9_tries3 hG hE hR0 hns0 ls hnt0 lt hc0 lc hwv0 hsp0 hse0 c 0 M _ _ _ _ _ _ (by omega) hq (fun M9 h9 => ?_)
    rw [mtry_c hsn c 0 (M0.1 121) (M.1 130) (M0.1 117) (M.1 131) 0 h1 (fun s9 h9 => h2 s9 (by omega))]
    exact hP M9 h9
  | succ r ih =>
    intro s M hs hq h1 h2 hP
    have hR : M.2.2 = stdR b := by rw [hq.1]; exact hR0
    have hns : M.1 88 38 = nI ns := (hq.2 88 38 (by unfold Sr; omega)).trans hns0
    have hnt : M.1 88 43 = nI nt := (hq.2 88 43 (by unfold Sr; omega)).trans hnt0
    have hcn : M.1 88 52 = nI c := (hq.2 88 52 (by unfold Sr; omega)).trans hc0
    refine r_iload_n hG dX9_tries_30 rfl ?_
    refine r_aload_n hG dX9_tries_31 rfl ?_
    refine r_getIv hG 38 (nI ns) fk_X9_291 dX9_tries_32 rfl (by decide) rfl hns ?_
    refine r_icmp_ge hG 56 dX9_tries_35 (by decide) (fun hc35 => absurd (nle_t (a := ns) (b := s) (by omega) (by omega) hc35) (by omega)) (fun hc35 => ?_)
    refine r_aload_n hG dX9_tries_38 rfl ?_
    refine r_getR hG 60 131 fk_X9_169 dX9_tries_39 rfl (by decide) rfl (sr hR rfl) ?_
    refine r_iload_n hG dX9_tries_42 rfl ?_
    refine r_aload_n hG dX9_tries_43 rfl ?_
    refine r_getR hG 41 117 fk_X9_127 dX9_tries_44 rfl (by decide) rfl (sr hR rfl) ?_
    refine r_iload_n hG dX9_tries_47 rfl ?_
    refine r_ialdv hG s (M0.1 117 s) dX9_tries_48 rfl (by decide) rfl (by omega) (by decide) (hq.2 117 s (by unfold Sr; omega)) ?_
    refine r_iast hG s dX9_tries_49 rfl (by decide) rfl (by omega) (by decide) ?_
    refine r_iinc hG (1) dX9_tries_50 (by decide) rfl ?_
    refine r_loc [some (.ref 88), some (.int ((nI s) + (1))), none, none, none, none, none, none] rfl ?_
    refine r_goto hG 30 dX9_tries_53 (by decide) ?_
    rw [nI_1]
    refine ih (s + 1) _ (by omega) (hq.put (Or.inr rfl)) (fun t9 h9 => (gwI_n (by omega)).trans (h1 t9 h9)) (fun s9 h9 => ?_) hP
    by_cases e : s9 = s
    · subst e; exact gwI_s
    · exact (gwI_n (by omega)).trans (h2 s9 (by omega))

set_option maxRecDepth 100000 in
set_option maxHeartbeats 400000 in
theorem lp_X9_tries1  {G : gJ} {P : Int32 → gM → Prop} (hG : gS 1 0 0 yX9_tries.cls cX9_tries 8 G) (hE : gEi 140 0 0 cX9_tries .int P G) {M0 : gM} {b : Bool} (hR0 : M0.2.2 = stdR b) {ns nt c : Nat} (hns0 : M0.1 88 38 = nI ns) (ls : ns ≤ 4) (hnt0 : M0.1 88 43 = nI nt) (lt : nt ≤ 4) (hc0 : M0.1 88 52 = nI c) (lc : c ≤ 6) {wv sp se : Nat → Nat} (hwv0 : ∀ k, k < c → M0.1 126 k = nI (wv k) ∧ wv k < 12) (hsp0 : ∀ t, t < nt → M0.1 119 t = nI (sp t) ∧ sp t < 4) (hse0 : ∀ k, k < c → M0.1 128 k = nI (se k) ∧ se k ≤ nt) (hsn : ∀ t, t < nt → sp t < ns) :
    ∀ (r t : Nat) (M : gM), t + r = nt → gEq Sr M0 M → (∀ t9, t9 < t → M.1 130 t9 = M0.1 121 t9) → (∀ M9, gEq Sr M0 M9 → P (mtry M0 wv sp nt se c 0 (M0.1 121) (M0.1 117) 0) M9) → G (140, 0, 0) 2 [some (.ref 88), some (.int (nI t)), none, none, none, none, none, none] [] M := by
  intro r
  induction r with
  | zero =>
    intro t M ht hq h1 hP
    have hR : M.2.2 = stdR b := by rw [hq.1]; exact hR0
    have hns : M.1 88 38 = nI ns := (hq.2 88 38 (by unfold Sr; omega)).trans hns0
    have hnt : M.1 88 43 = nI nt := (hq.2 88 43 (by unfold Sr; omega)).trans hnt0
    have hcn : M.1 88 52 = nI c := (hq.2 88 52 (by unfold Sr; omega)).trans hc0
    refine r_iload_n hG dX9_tries_2 rfl ?_
    refine r_aload_n hG dX9_tries_3 rfl ?_
    refine r_getIv hG 43 (nI nt) fk_X9_294 dX9_tries_4 rfl (by decide) rfl hnt ?_
    refine r_icmp_ge hG 28 dX9_tries_7 (by decide) (fun hc7 => ?_) (fun hc7 => absurd (nle_f (a := nt) (b := t) (by omega) (by omega) hc7) (by omega))
    refine r_iconst hG (0) dX9_tries_28 (by decide) ?_
    refine r_istore_n hG dX9_tries_29 (by decide) ?_
    refine r_loc [some (.ref 88), some (.int (0)), none, none, none, none, none, none] rfl ?_
    exact lp_X9_tries2 hG hE hR0 hns0 ls hnt0 lt hc0 lc hwv0 hsp0 hse0 hsn ns 0 M (by omega) hq (fun t9 h9 => h1 t9 (by omega)) (fun s9 h9 => absurd h9 (by omega)) hP
  | succ r ih =>
    intro t M ht hq h1 hP
    have hR : M.2.2 = stdR b := by rw [hq.1]; exact hR0
    have hns : M.1 88 38 = nI ns := (hq.2 88 38 (by unfold Sr; omega)).trans hns0
    have hnt : M.1 88 43 = nI nt := (hq.2 88 43 (by unfold Sr; omega)).trans hnt0
    have hcn : M.1 88 52 = nI c := (hq.2 88 52 (by unfold Sr; omega)).trans hc0
    refine r_iload_n hG dX9_tries_2 rfl ?_
    refine r_aload_n hG dX9_tries_3 rfl ?_
    refine r_getIv hG 43 (nI nt) fk_X9_294 dX9_tries_4 rfl (by decide) rfl hnt ?_
    refine r_icmp_ge hG 28 dX9_tries_7 (by decide) (fun hc7 => absurd (nle_t (a := nt) (b := t) (by omega) (by omega) hc7) (by omega)) (fun hc7 => ?_)
    refine r_aload_n hG dX9_tries_10 rfl ?_
    refine r_getR hG 59 130 fk_X9_166 dX9_tries_11 rfl (by decide) rfl (sr hR rfl) ?_
    refine r_iload_n hG dX9_tries_14 rfl ?_
    refine r_aload_n hG dX9_tries_15 rfl ?_
    refine r_getR hG 46 121 fk_X9_139 dX9_tries_16 rfl (by decide) rfl (sr hR rfl) ?_
    refine r_iload_n hG dX9_tries_19 rfl ?_
    refine r_ialdv hG t (M0.1 121 t) dX9_tries_20 rfl (by decide) rfl (by omega) (by decide) (hq.2 121 t (by unfold Sr; omega)) ?_
    refine r_iast hG t dX9_tries_21 rfl (by decide) rfl (by omega) (by decide) ?_
    refine r_iinc hG (1) dX9_tries_22 (by decide) rfl ?_
    refine r_loc [some (.ref 88), some (.int ((nI t) + (1))), none, none, none, none, none, none] rfl ?_
    refine r_goto hG 2 dX9_tries_25 (by decide) ?_
    rw [nI_1]
    refine ih (t + 1) _ (by omega) (hq.put (Or.inl rfl)) (fun t9 h9 => ?_) hP
    by_cases e : t9 = t
    · subst e; exact gwI_s
    · exact (gwI_n (by omega)).trans (h1 t9 (by omega))

set_option maxRecDepth 100000 in
set_option maxHeartbeats 400000 in
theorem ct_X9_tries {M : gM} {b : Bool} (hR : M.2.2 = stdR b) {ns nt c : Nat} (hns : M.1 88 38 = nI ns) (ls : ns ≤ 4) (hnt : M.1 88 43 = nI nt) (lt : nt ≤ 4) (hcn : M.1 88 52 = nI c) (lc : c ≤ 6) {wv sp se : Nat → Nat} (hwv : ∀ k, k < c → M.1 126 k = nI (wv k) ∧ wv k < 12) (hsp : ∀ t, t < nt → M.1 119 t = nI (sp t) ∧ sp t < 4) (hse : ∀ k, k < c → M.1 128 k = nI (se k) ∧ se k ≤ nt) (hsn : ∀ t, t < nt → sp t < ns) : gC 1 0 0 yX9_tries cX9_tries 8 (some .int) 140 140 [.ref 88] M (gI (fun r M9 => r = mtry M wv sp nt se c 0 (M.1 121) (M.1 117) 0 ∧ gEq Sr M M9)) := by
  refine gC_i rfl (Nat.le_of_ble_eq_true rfl) (fun G hG hE => ?_)
  change G (140, 0, 0) 0 [some (.ref 88), none, none, none, none, none, none, none] [] M
  refine r_iconst hG (0) dX9_tries_0 (by decide) ?_
  refine r_istore_n hG dX9_tries_1 (by decide) ?_
  refine r_loc [some (.ref 88), some (.int (0)), none, none, none, none, none, none] rfl ?_
  exact lp_X9_tries1 hG hE hR hns ls hnt lt hcn lc hwv hsp hse hsn nt 0 M (by omega) gEq.rf (fun t9 h9 => absurd h9 (by omega)) (fun M9 h9 => ⟨rfl, h9⟩)

set_option maxRecDepth 100000 in
set_option maxHeartbeats 400000 in
theorem lp_X9_milesSent  {G : gJ} {P : Int32 → gM → Prop} (hG : gS 0 0 0 yX9_milesSent.cls cX9_milesSent 3 G) (hE : gEi 140 0 0 cX9_milesSent .int P G) {M : gM} {b : Bool} (hR : M.2.2 = stdR b) {ns nt c : Nat} (hns : M.1 88 38 = nI ns) (ls : ns ≤ 4) (hnt : M.1 88 43 = nI nt) (lt : nt ≤ 4) (hcn : M.1 88 52 = nI c) (lc : c ≤ 6) {wv sp se : Nat → Nat} (hwv : ∀ k, k < c → M.1 126 k = nI (wv k) ∧ wv k < 12) (hsp : ∀ t, t < nt → M.1 119 t = nI (sp t) ∧ sp t < 4) (hse : ∀ k, k < c → M.1 128 k = nI (se k) ∧ se k ≤ nt) :
    ∀ (r k : Nat) (x : Int32), k + r = c → x = msum M wv sp nt se k → P (msum M wv sp nt se c) M → G (140, 0, 0) 4 [some (.ref 88), some (.int x), some (.int (nI k))] [] M := by
  intro r
  induction r with
  | zero =>
    intro k x hk hx hP
    refine r_iload_n hG dX9_milesSent_4 rfl ?_
    refine r_aload_n hG dX9_milesSent_5 rfl ?_
    refine r_getIv hG 52 (nI c) fk_X9_322 dX9_milesSent_6 rfl (by decide) rfl hcn ?_
    refine r_icmp_ge hG 66 dX9_milesSent_9 (by decide) (fun hc9 => ?_) (fun hc9 => absurd (nle_f (a := c) (b := k) (by omega) (by omega) hc9) (by omega))
    refine r_iload_n hG dX9_milesSent_66 rfl ?_
    refine hE _ _ _ _ _ dX9_milesSent_67 rfl (Nat.le_refl _) (Nat.le_refl _) rfl ?_
    rw [hx, show k = c by omega]
    exact hP
  | succ r ih =>
    intro k x hk hx hP
    have hw9 := (hwv k (by omega)).2
    have hs9 := (hse k (by omega)).2
    refine r_iload_n hG dX9_milesSent_4 rfl ?_
    refine r_aload_n hG dX9_milesSent_5 rfl ?_
    refine r_getIv hG 52 (nI c) fk_X9_322 dX9_milesSent_6 rfl (by decide) rfl hcn ?_
    refine r_icmp_ge hG 66 dX9_milesSent_9 (by decide) (fun hc9 => absurd (nle_t (a := c) (b := k) (by omega) (by omega) hc9) (by omega)) (fun hc9 => ?_)
    refine r_iload_n hG dX9_milesSent_12 rfl ?_
    refine r_aload_n hG dX9_milesSent_13 rfl ?_
    refine r_getR hG 55 128 fk_X9_160 dX9_milesSent_14 rfl (by decide) rfl (sr hR rfl) ?_
    refine r_iload_n hG dX9_milesSent_17 rfl ?_
    refine r_ialdv hG k (nI (se k)) dX9_milesSent_18 rfl (by decide) rfl (by omega) (by decide) (hse k (by omega)).1 ?_
    refine r_aload_n hG dX9_milesSent_19 rfl ?_
    refine r_getIv hG 43 (nI nt) fk_X9_294 dX9_milesSent_20 rfl (by decide) rfl hnt ?_
    refine r_icmp_ge hG 57 dX9_milesSent_23 (by decide) (fun hc23 => ?_) (fun hc23 => ?_)
    · have hn23 := nle_t (a := nt) (b := (se k)) (by omega) (by omega) hc23
      refine r_iconst hG (0) dX9_milesSent_57 (by decide) ?_
      refine r_iadd hG dX9_milesSent_58 ?_
      refine r_istore_n hG dX9_milesSent_59 (by decide) ?_
      refine r_loc [some (.ref 88), some (.int (x + (0))), some (.int (nI k))] rfl ?_
      refine r_iinc hG (1) dX9_milesSent_60 (by decide) rfl ?_
      refine r_loc [some (.ref 88), some (.int (x + (0))), some (.int ((nI k) + (1)))] rfl ?_
      refine r_goto hG 4 dX9_milesSent_63 (by decide) ?_
      rw [nI_1]
      refine ih (k + 1) _ (by omega) ?_ hP
      show _ = msum M wv sp nt se k + (if se k < nt then _ else _)
      rw [if_neg (by omega), hx]
    · have hn23 := nle_f (a := nt) (b := (se k)) (by omega) (by omega) hc23
      refine r_iconst hG (2) dX9_milesSent_26 (by decide) ?_
      refine r_aload_n hG dX9_milesSent_27 rfl ?_
      refine r_getR hG 50 125 fk_X9_151 dX9_milesSent_28 rfl (by decide) rfl (sr hR rfl) ?_
      refine r_bipush hG (12) dX9_milesSent_31 (by decide) ?_
      refine r_aload_n hG dX9_milesSent_33 rfl ?_
      refine r_getR hG 44 119 fk_X9_133 dX9_milesSent_34 rfl (by decide) rfl (sr hR rfl) ?_
      refine r_aload_n hG dX9_milesSent_37 rfl ?_
      refine r_getR hG 55 128 fk_X9_160 dX9_milesSent_38 rfl (by decide) rfl (sr hR rfl) ?_
      refine r_iload_n hG dX9_milesSent_41 rfl ?_
      refine r_ialdv hG k (nI (se k)) dX9_milesSent_42 rfl (by decide) rfl (by omega) (by decide) (hse k (by omega)).1 ?_
      refine r_ialdv hG (se k) (nI (sp (se k))) dX9_milesSent_43 rfl (by decide) rfl (by omega) (by decide) (hsp (se k) (by omega)).1 ?_
      refine r_imul hG dX9_milesSent_44 ?_
      refine r_aload_n hG dX9_milesSent_45 rfl ?_
      refine r_getR hG 53 126 fk_X9_154 dX9_milesSent_46 rfl (by decide) rfl (sr hR rfl) ?_
      refine r_iload_n hG dX9_milesSent_49 rfl ?_
      refine r_ialdv hG k (nI (wv k)) dX9_milesSent_50 rfl (by decide) rfl (by omega) (by decide) (hwv k (by omega)).1 ?_
      refine r_iadd hG dX9_milesSent_51 ?_
      refine r_iald hG (12 * sp (se k) + wv k) dX9_milesSent_52 rfl (by decide) (mulAdd 12 (sp (se k)) (wv k)) (by have := (hsp (se k) (by omega)).2; omega) (by decide) ?_
      refine r_imul hG dX9_milesSent_53 ?_
      refine r_goto hG 58 dX9_milesSent_54 (by decide) ?_
      refine r_iadd hG dX9_milesSent_58 ?_
      refine r_istore_n hG dX9_milesSent_59 (by decide) ?_
      refine r_loc [some (.ref 88), some (.int (x + ((2) * (M.1 125 (12 * sp (se k) + wv k))))), some (.int (nI k))] rfl ?_
      refine r_iinc hG (1) dX9_milesSent_60 (by decide) rfl ?_
      refine r_loc [some (.ref 88), some (.int (x + ((2) * (M.1 125 (12 * sp (se k) + wv k))))), some (.int ((nI k) + (1)))] rfl ?_
      refine r_goto hG 4 dX9_milesSent_63 (by decide) ?_
      rw [nI_1]
      refine ih (k + 1) _ (by omega) ?_ hP
      show _ = msum M wv sp nt se k + (if se k < nt then _ else _)
      rw [if_pos (by omega), hx]

set_option maxRecDepth 100000 in
set_option maxHeartbeats 400000 in
theorem ct_X9_milesSent {M : gM} {b : Bool} (hR : M.2.2 = stdR b) {ns nt c : Nat} (hns : M.1 88 38 = nI ns) (ls : ns ≤ 4) (hnt : M.1 88 43 = nI nt) (lt : nt ≤ 4) (hcn : M.1 88 52 = nI c) (lc : c ≤ 6) {wv sp se : Nat → Nat} (hwv : ∀ k, k < c → M.1 126 k = nI (wv k) ∧ wv k < 12) (hsp : ∀ t, t < nt → M.1 119 t = nI (sp t) ∧ sp t < 4) (hse : ∀ k, k < c → M.1 128 k = nI (se k) ∧ se k ≤ nt) : gC 0 0 0 yX9_milesSent cX9_milesSent 3 (some .int) 140 140 [.ref 88] M (gI (fun r M9 => r = msum M wv sp nt se c ∧ M9 = M)) := by
  refine gC_i rfl (Nat.le_of_ble_eq_true rfl) (fun G hG hE => ?_)
  change G (140, 0, 0) 0 [some (.ref 88), none, none] [] M
  refine r_iconst hG (0) dX9_milesSent_0 (by decide) ?_
  refine r_istore_n hG dX9_milesSent_1 (by decide) ?_
  refine r_loc [some (.ref 88), some (.int (0)), none] rfl ?_
  refine r_iconst hG (0) dX9_milesSent_2 (by decide) ?_
  refine r_istore_n hG dX9_milesSent_3 (by decide) ?_
  refine r_loc [some (.ref 88), some (.int (0)), some (.int (0))] rfl ?_
  exact lp_X9_milesSent hG hE hR hns ls hnt lt hcn lc hwv hsp hse c 0 _ (by omega) rfl ⟨rfl, rfl⟩


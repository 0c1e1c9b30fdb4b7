theorem r_ldcw {d mc ms : Nat} {own : String} {cc : ByteArray} {nL : Nat} {G : gJ} (hG : gS d mc ms own cc nL G) {Z : Nat × Nat × Nat} {pc : Nat} {L : List (Option Value)} {st : List Value} {M : gM} {index : Nat} (v : Int32) (hd : decode cc pc = .ok (.ldc_w index, 3)) (hc : Cond.constant own index v ∈ gT) (k : G Z (pc + 3) L (.int v :: st) M) : G Z pc L (st) M := by
  obtain ⟨p, l, e, R, s, m, args, below, meth, c, D, dA, n0, ad0, Q, ⟨hx, hb, hml, hown, hts, hK, hlk, hfr, hlo, hX⟩, hmc, hms, rfl⟩ := hG
  intro ad H locs ls he hP hD hS hl
  exact lv_ldcw hx hb hown (hts _ hc) hd (k ad H locs ls he hP hD hS hl)
theorem vIn_of {x : Int32} {n : Nat} (hn : n < 1000000) (h0 : ¬ x < 0) (h1 : ¬ nI n ≤ x) : vIn x n := by
  obtain ⟨j, hj, rfl⟩ := nI_of h0
  exact ⟨j, Nat.not_le.mp fun q => h1 (nI_le q hj), rfl⟩
theorem vIn_lt {x : Int32} {n : Nat} (hn : n < 1000000) (h0 : ¬ x < 0) (h1 : x < nI n) : vIn x n := vIn_of hn h0 (Int32.not_le.mpr h1)
theorem vIn_no0 {x : Int32} {n : Nat} (hn : n < 1000000) (h0 : x < 0) : ¬ vIn x n := by
  rintro ⟨q, hq, rfl⟩
  exact absurd h0 (nI_pos (by omega))
theorem vIn_no1 {x : Int32} {n : Nat} (hn : n < 1000000) (h0 : nI n ≤ x) : ¬ vIn x n := by
  rintro ⟨q, hq, rfl⟩
  exact nI_ge hq (by omega) h0
theorem mulAdd (a b c : Nat) : nI a * nI b + nI c = nI (a * b + c) := by rw [pk_mul, nI_add]
set_option maxRecDepth 100000 in
set_option maxHeartbeats 400000 in
theorem ct_X9_isVillage {M : gM} {b : Bool} (hR : M.2.2 = stdR b) {c : Nat} (hc : M.1 88 26 = nI c) (hl : c < 1000) (v : Int32) : gC 0 0 0 yX9_isVillage cX9_isVillage 2 (some .boolean) 140 140 [.ref 88, .int v] M (gI (fun r M9 => bI (vIn v c) r ∧ M9 = M)) := by
  refine gC_i rfl (Nat.le_of_ble_eq_true rfl) (fun G hG hE => ?_)
  change G (140, 0, 0) 0 [some (.ref 88), some (.int v)] [] M
  refine r_iload_n hG dX9_isVillage_0 rfl ?_
  refine r_if_lt hG 16 dX9_isVillage_1 (by decide) (fun hc1 => ?_) (fun hc1 => ?_)
  · refine r_iconst hG (0) dX9_isVillage_16 (by decide) ?_
    refine hE _ _ _ _ _ dX9_isVillage_17 rfl (Nat.le_refl _) (Nat.le_refl _) rfl ?_
    exact ⟨Or.inr ⟨rfl, vIn_no0 (by omega) hc1⟩, rfl⟩
  · refine r_iload_n hG dX9_isVillage_4 rfl ?_
    refine r_aload_n hG dX9_isVillage_5 rfl ?_
    refine r_getIv hG 26 (nI c) fk_X9_287 dX9_isVillage_6 rfl (by decide) rfl hc ?_
    refine r_icmp_ge hG 16 dX9_isVillage_9 (by decide) (fun hc9 => ?_) (fun hc9 => ?_)
    · refine r_iconst hG (0) dX9_isVillage_16 (by decide) ?_
      refine hE _ _ _ _ _ dX9_isVillage_17 rfl (Nat.le_refl _) (Nat.le_refl _) rfl ?_
      exact ⟨Or.inr ⟨rfl, vIn_no1 (by omega) hc9⟩, rfl⟩
    · refine r_iconst hG (1) dX9_isVillage_12 (by decide) ?_
      refine r_goto hG 17 dX9_isVillage_13 (by decide) ?_
      refine hE _ _ _ _ _ dX9_isVillage_17 rfl (Nat.le_refl _) (Nat.le_refl _) rfl ?_
      exact ⟨Or.inl ⟨rfl, vIn_of (by omega) hc1 hc9⟩, rfl⟩

def fX9_village (M : gM) (nv : Nat) (p be t x : Int32) : gM := (gwI (gwI (gwI (gwI (gwI (gwI M 88 0 (0)) 105 nv p) 106 nv be) 107 nv t) 108 nv x) 88 26 ((nI nv) + (1)))
set_option maxRecDepth 100000 in
set_option maxHeartbeats 400000 in
theorem ct_X9_village {M : gM} {b : Bool} (hR : M.2.2 = stdR b) {nv ns nt nb : Nat} (hnv : M.1 88 26 = nI nv) (lv : nv ≤ 12) (hns : M.1 88 38 = nI ns) (ls : ns ≤ 4) (hnt : M.1 88 43 = nI nt) (lt : nt ≤ 4) (hnb : M.1 88 62 = nI nb) (lb : nb ≤ 10) (p be t x : Int32) : gC 1 0 0 yX9_village cX9_village 5 (some .int) 140 140 [.ref 88, .int p, .int be, .int t, .int x] M (gI (fun r M9 => (((1 ≤ p ∧ p ≤ 2000) ∧ (0 ≤ be ∧ be ≤ 2000) ∧ (1 ≤ t ∧ t ≤ 100000) ∧ (0 ≤ x ∧ x ≤ t)) ∧ nv < 12 ∧ r = nI nv ∧ M9 = fX9_village M nv p be t x) ∨ (¬ (((1 ≤ p ∧ p ≤ 2000) ∧ (0 ≤ be ∧ be ≤ 2000) ∧ (1 ≤ t ∧ t ≤ 100000) ∧ (0 ≤ x ∧ x ≤ t)) ∧ nv < 12) ∧ r = (-1) ∧ M9 = gwI M 88 0 0))) := by
  refine gC_i rfl (Nat.le_of_ble_eq_true rfl) (fun G hG hE => ?_)
  change G (140, 0, 0) 0 [some (.ref 88), some (.int p), some (.int be), some (.int t), some (.int x)] [] M
  refine r_aload_n hG dX9_village_0 rfl ?_
  refine r_iconst hG (0) dX9_village_1 (by decide) ?_
  refine r_putI hG 0 fp_X9_1 dX9_village_2 rfl (by decide) rfl rfl rfl ?_
  refine r_iload_n hG dX9_village_5 rfl ?_
  refine r_iconst hG (1) dX9_village_6 (by decide) ?_
  refine r_sipush hG (2000) dX9_village_7 (by decide) ?_
  refine r_cSI3 hG mk_X9_282 dX9_village_10 (ct_X9_within _ _ _) (by decide) ⟨Nat.le_refl _, Nat.le_refl _⟩ (Nat.le_of_ble_eq_true rfl) (fun x9 M9 h9 => ?_)
  obtain ⟨h8, e9⟩ := h9; rw [e9]; rcases h8 with ⟨e8, hw10⟩ | ⟨e8, hw10⟩
  · rw [e8]
    refine r_if_eq hG 57 dX9_village_13 (by decide) (fun hc13 => absurd hc13 (by decide)) (fun hc13 => ?_)
    refine r_iload_n hG dX9_village_16 rfl ?_
    refine r_iconst hG (0) dX9_village_17 (by decide) ?_
    refine r_sipush hG (2000) dX9_village_18 (by decide) ?_
    refine r_cSI3 hG mk_X9_282 dX9_village_21 (ct_X9_within _ _ _) (by decide) ⟨Nat.le_refl _, Nat.le_refl _⟩ (Nat.le_of_ble_eq_true rfl) (fun x9 M9 h9 => ?_)
    obtain ⟨h8, e9⟩ := h9; rw [e9]; rcases h8 with ⟨e8, hw21⟩ | ⟨e8, hw21⟩
    · rw [e8]
      refine r_if_eq hG 57 dX9_village_24 (by decide) (fun hc24 => absurd hc24 (by decide)) (fun hc24 => ?_)
      refine r_iload_n hG dX9_village_27 rfl ?_
      refine r_iconst hG (1) dX9_village_28 (by decide) ?_
      refine r_ldcw hG (100000) dX9_village_29 ck_X9_286 ?_
      refine r_cSI3 hG mk_X9_282 dX9_village_32 (ct_X9_within _ _ _) (by decide) ⟨Nat.le_refl _, Nat.le_refl _⟩ (Nat.le_of_ble_eq_true rfl) (fun x9 M9 h9 => ?_)
      obtain ⟨h8, e9⟩ := h9; rw [e9]; rcases h8 with ⟨e8, hw32⟩ | ⟨e8, hw32⟩
      · rw [e8]
        refine r_if_eq hG 57 dX9_village_35 (by decide) (fun hc35 => absurd hc35 (by decide)) (fun hc35 => ?_)
        refine r_iload hG dX9_village_38 rfl ?_
        refine r_iconst hG (0) dX9_village_40 (by decide) ?_
        refine r_iload_n hG dX9_village_41 rfl ?_
        refine r_cSI3 hG mk_X9_282 dX9_village_42 (ct_X9_within _ _ _) (by decide) ⟨Nat.le_refl _, Nat.le_refl _⟩ (Nat.le_of_ble_eq_true rfl) (fun x9 M9 h9 => ?_)
        obtain ⟨h8, e9⟩ := h9; rw [e9]; rcases h8 with ⟨e8, hw42⟩ | ⟨e8, hw42⟩
        · rw [e8]
          refine r_if_eq hG 57 dX9_village_45 (by decide) (fun hc45 => absurd hc45 (by decide)) (fun hc45 => ?_)
          refine r_aload_n hG dX9_village_48 rfl ?_
          refine r_getIv hG 26 (nI nv) fk_X9_287 dX9_village_49 rfl (by decide) rfl ((gwI_n (by omega)).trans hnv) ?_
          refine r_bipush hG (12) dX9_village_52 (by decide) ?_
          refine r_icmp_ne hG 59 dX9_village_54 (by decide) (fun hc54 => ?_) (fun hc54 => ?_)
          · have hn54 := neq_f (a := nv) (b := 12) (by omega) (by omega) hc54
            refine r_aload_n hG dX9_village_59 rfl ?_
            refine r_getR hG 27 105 fk_X9_91 dX9_village_60 rfl (by decide) rfl (sr hR rfl) ?_
            refine r_aload_n hG dX9_village_63 rfl ?_
            refine r_getIv hG 26 (nI nv) fk_X9_287 dX9_village_64 rfl (by decide) rfl ((gwI_n (by omega)).trans hnv) ?_
            refine r_iload_n hG dX9_village_67 rfl ?_
            refine r_iast hG nv dX9_village_68 rfl (by decide) rfl (by omega) (by decide) ?_
            refine r_aload_n hG dX9_village_69 rfl ?_
            refine r_getR hG 28 106 fk_X9_94 dX9_village_70 rfl (by decide) rfl (sr hR rfl) ?_
            refine r_aload_n hG dX9_village_73 rfl ?_
            refine r_getIv hG 26 (nI nv) fk_X9_287 dX9_village_74 rfl (by decide) rfl (((gwI_n (by omega)).trans (gwI_n (by omega))).trans hnv) ?_
            refine r_iload_n hG dX9_village_77 rfl ?_
            refine r_iast hG nv dX9_village_78 rfl (by decide) rfl (by omega) (by decide) ?_
            refine r_aload_n hG dX9_village_79 rfl ?_
            refine r_getR hG 29 107 fk_X9_97 dX9_village_80 rfl (by decide) rfl (sr hR rfl) ?_
            refine r_aload_n hG dX9_village_83 rfl ?_
            refine r_getIv hG 26 (nI nv) fk_X9_287 dX9_village_84 rfl (by decide) rfl (((gwI_n (by omega)).trans ((gwI_n (by omega)).trans (gwI_n (by omega)))).trans hnv) ?_
            refine r_iload_n hG dX9_village_87 rfl ?_
            refine r_iast hG nv dX9_village_88 rfl (by decide) rfl (by omega) (by decide) ?_
            refine r_aload_n hG dX9_village_89 rfl ?_
            refine r_getR hG 30 108 fk_X9_100 dX9_village_90 rfl (by decide) rfl (sr hR rfl) ?_
            refine r_aload_n hG dX9_village_93 rfl ?_
            refine r_getIv hG 26 (nI nv) fk_X9_287 dX9_village_94 rfl (by decide) rfl (((gwI_n (by omega)).trans ((gwI_n (by omega)).trans ((gwI_n (by omega)).trans (gwI_n (by omega))))).trans hnv) ?_
            refine r_iload hG dX9_village_97 rfl ?_
            refine r_iast hG nv dX9_village_99 rfl (by decide) rfl (by omega) (by decide) ?_
            refine r_aload_n hG dX9_village_100 rfl ?_
            refine r_dup hG dX9_village_101 rfl ?_
            refine r_getIv hG 26 (nI nv) fk_X9_287 dX9_village_102 rfl (by decide) rfl (((gwI_n (by omega)).trans ((gwI_n (by omega)).trans ((gwI_n (by omega)).trans ((gwI_n (by omega)).trans (gwI_n (by omega)))))).trans hnv) ?_
            refine r_iconst hG (1) dX9_village_105 (by decide) ?_
            refine r_iadd hG dX9_village_106 ?_
            refine r_putI hG 26 fp_X9_287 dX9_village_107 rfl (by decide) rfl rfl rfl ?_
            refine r_aload_n hG dX9_village_110 rfl ?_
            refine r_getIv hG 26 ((nI nv) + (1)) fk_X9_287 dX9_village_111 rfl (by decide) rfl gwI_s ?_
            refine r_iconst hG (1) dX9_village_114 (by decide) ?_
            refine r_isub hG dX9_village_115 ?_
            refine hE _ _ _ _ _ dX9_village_116 rfl (Nat.le_refl _) (Nat.le_refl _) rfl ?_
            exact Or.inl ⟨⟨hw10, hw21, hw32, hw42⟩, by omega, by rw [nI_1, nI_pred], rfl⟩
          · have hn54 := neq_t (a := nv) (b := 12) (by omega) (by omega) hc54
            refine r_iconst hG (-1) dX9_village_57 (by decide) ?_
            refine hE _ _ _ _ _ dX9_village_58 rfl (Nat.le_refl _) (Nat.le_refl _) rfl ?_
            refine Or.inr ⟨?_, rfl, rfl⟩
            rintro ⟨⟨q1, q2, q3, q4⟩, q0⟩
            first | exact hw10 q1 | exact hw21 q2 | exact hw32 q3 | exact hw42 q4 | omega
        · rw [e8]
          refine r_if_eq hG 57 dX9_village_45 (by decide) (fun hc45 => ?_) (fun hc45 => absurd hc45 (by decide))
          refine r_iconst hG (-1) dX9_village_57 (by decide) ?_
          refine hE _ _ _ _ _ dX9_village_58 rfl (Nat.le_refl _) (Nat.le_refl _) rfl ?_
          refine Or.inr ⟨?_, rfl, rfl⟩
          rintro ⟨⟨q1, q2, q3, q4⟩, q0⟩
          first | exact hw10 q1 | exact hw21 q2 | exact hw32 q3 | exact hw42 q4 | omega
      · rw [e8]
        refine r_if_eq hG 57 dX9_village_35 (by decide) (fun hc35 => ?_) (fun hc35 => absurd hc35 (by decide))
        refine r_iconst hG (-1) dX9_village_57 (by decide) ?_
        refine hE _ _ _ _ _ dX9_village_58 rfl (Nat.le_refl _) (Nat.le_refl _) rfl ?_
        refine Or.inr ⟨?_, rfl, rfl⟩
        rintro ⟨⟨q1, q2, q3, q4⟩, q0⟩
        first | exact hw10 q1 | exact hw21 q2 | exact hw32 q3 | exact hw42 q4 | omega
    · rw [e8]
      refine r_if_eq hG 57 dX9_village_24 (by decide) (fun hc24 => ?_) (fun hc24 => absurd hc24 (by decide))
      refine r_iconst hG (-1) dX9_village_57 (by decide) ?_
      refine hE _ _ _ _ _ dX9_village_58 rfl (Nat.le_refl _) (Nat.le_refl _) rfl ?_
      refine Or.inr ⟨?_, rfl, rfl⟩
      rintro ⟨⟨q1, q2, q3, q4⟩, q0⟩
      first | exact hw10 q1 | exact hw21 q2 | exact hw32 q3 | exact hw42 q4 | omega
  · rw [e8]
    refine r_if_eq hG 57 dX9_village_13 (by decide) (fun hc13 => ?_) (fun hc13 => absurd hc13 (by decide))
    refine r_iconst hG (-1) dX9_village_57 (by decide) ?_
    refine hE _ _ _ _ _ dX9_village_58 rfl (Nat.le_refl _) (Nat.le_refl _) rfl ?_
    refine Or.inr ⟨?_, rfl, rfl⟩
    rintro ⟨⟨q1, q2, q3, q4⟩, q0⟩
    first | exact hw10 q1 | exact hw21 q2 | exact hw32 q3 | exact hw42 q4 | omega

def fX9_spring (M : gM) (ns : Nat) (f p fa : Int32) : gM := (gwI (gwI (gwI (gwI (gwI (gwI M 88 0 (0)) 115 ns f) 116 ns p) 117 ns p) 118 ns fa) 88 38 ((nI ns) + (1)))
set_option maxRecDepth 100000 in
set_option maxHeartbeats 400000 in
theorem ct_X9_spring {M : gM} {b : Bool} (hR : M.2.2 = stdR b) {nv ns nt nb : Nat} (hnv : M.1 88 26 = nI nv) (lv : nv ≤ 12) (hns : M.1 88 38 = nI ns) (ls : ns ≤ 4) (hnt : M.1 88 43 = nI nt) (lt : nt ≤ 4) (hnb : M.1 88 62 = nI nb) (lb : nb ≤ 10) (f p fa : Int32) : gC 1 0 0 yX9_spring cX9_spring 4 (some .int) 140 140 [.ref 88, .int f, .int p, .int fa] M (gI (fun r M9 => (((0 ≤ f ∧ f ≤ 100000) ∧ (1 ≤ p ∧ p ≤ 200000) ∧ (0 ≤ fa ∧ fa ≤ 100)) ∧ ns < 4 ∧ r = nI ns ∧ M9 = fX9_spring M ns f p fa) ∨ (¬ (((0 ≤ f ∧ f ≤ 100000) ∧ (1 ≤ p ∧ p ≤ 200000) ∧ (0 ≤ fa ∧ fa ≤ 100)) ∧ ns < 4) ∧ r = (-1) ∧ M9 = gwI M 88 0 0))) := by
  refine gC_i rfl (Nat.le_of_ble_eq_true rfl) (fun G hG hE => ?_)
  change G (140, 0, 0) 0 [some (.ref 88), some (.int f), some (.int p), some (.int fa)] [] M
  refine r_aload_n hG dX9_spring_0 rfl ?_
  refine r_iconst hG (0) dX9_spring_1 (by decide) ?_
  refine r_putI hG 0 fp_X9_1 dX9_spring_2 rfl (by decide) rfl rfl rfl ?_
  refine r_iload_n hG dX9_spring_5 rfl ?_
  refine r_iconst hG (0) dX9_spring_6 (by decide) ?_
  refine r_ldcw hG (100000) dX9_spring_7 ck_X9_286 ?_
  refine r_cSI3 hG mk_X9_282 dX9_spring_10 (ct_X9_within _ _ _) (by decide) ⟨Nat.le_refl _, Nat.le_refl _⟩ (Nat.le_of_ble_eq_true rfl) (fun x9 M9 h9 => ?_)
  obtain ⟨h8, e9⟩ := h9; rw [e9]; rcases h8 with ⟨e8, hw10⟩ | ⟨e8, hw10⟩
  · rw [e8]
    refine r_if_eq hG 45 dX9_spring_13 (by decide) (fun hc13 => absurd hc13 (by decide)) (fun hc13 => ?_)
    refine r_iload_n hG dX9_spring_16 rfl ?_
    refine r_iconst hG (1) dX9_spring_17 (by decide) ?_
    refine r_ldcw hG (200000) dX9_spring_18 ck_X9_290 ?_
    refine r_cSI3 hG mk_X9_282 dX9_spring_21 (ct_X9_within _ _ _) (by decide) ⟨Nat.le_refl _, Nat.le_refl _⟩ (Nat.le_of_ble_eq_true rfl) (fun x9 M9 h9 => ?_)
    obtain ⟨h8, e9⟩ := h9; rw [e9]; rcases h8 with ⟨e8, hw21⟩ | ⟨e8, hw21⟩
    · rw [e8]
      refine r_if_eq hG 45 dX9_spring_24 (by decide) (fun hc24 => absurd hc24 (by decide)) (fun hc24 => ?_)
      refine r_iload_n hG dX9_spring_27 rfl ?_
      refine r_iconst hG (0) dX9_spring_28 (by decide) ?_
      refine r_bipush hG (100) dX9_spring_29 (by decide) ?_
      refine r_cSI3 hG mk_X9_282 dX9_spring_31 (ct_X9_within _ _ _) (by decide) ⟨Nat.le_refl _, Nat.le_refl _⟩ (Nat.le_of_ble_eq_true rfl) (fun x9 M9 h9 => ?_)
      obtain ⟨h8, e9⟩ := h9; rw [e9]; rcases h8 with ⟨e8, hw31⟩ | ⟨e8, hw31⟩
      · rw [e8]
        refine r_if_eq hG 45 dX9_spring_34 (by decide) (fun hc34 => absurd hc34 (by decide)) (fun hc34 => ?_)
        refine r_aload_n hG dX9_spring_37 rfl ?_
        refine r_getIv hG 38 (nI ns) fk_X9_291 dX9_spring_38 rfl (by decide) rfl ((gwI_n (by omega)).trans hns) ?_
        refine r_iconst hG (4) dX9_spring_41 (by decide) ?_
        refine r_icmp_ne hG 47 dX9_spring_42 (by decide) (fun hc42 => ?_) (fun hc42 => ?_)
        · have hn42 := neq_f (a := ns) (b := 4) (by omega) (by omega) hc42
          refine r_aload_n hG dX9_spring_47 rfl ?_
          refine r_getR hG 39 115 fk_X9_121 dX9_spring_48 rfl (by decide) rfl (sr hR rfl) ?_
          refine r_aload_n hG dX9_spring_51 rfl ?_
          refine r_getIv hG 38 (nI ns) fk_X9_291 dX9_spring_52 rfl (by decide) rfl ((gwI_n (by omega)).trans hns) ?_
          refine r_iload_n hG dX9_spring_55 rfl ?_
          refine r_iast hG ns dX9_spring_56 rfl (by decide) rfl (by omega) (by decide) ?_
          refine r_aload_n hG dX9_spring_57 rfl ?_
          refine r_getR hG 40 116 fk_X9_124 dX9_spring_58 rfl (by decide) rfl (sr hR rfl) ?_
          refine r_aload_n hG dX9_spring_61 rfl ?_
          refine r_getIv hG 38 (nI ns) fk_X9_291 dX9_spring_62 rfl (by decide) rfl (((gwI_n (by omega)).trans (gwI_n (by omega))).trans hns) ?_
          refine r_iload_n hG dX9_spring_65 rfl ?_
          refine r_iast hG ns dX9_spring_66 rfl (by decide) rfl (by omega) (by decide) ?_
          refine r_aload_n hG dX9_spring_67 rfl ?_
          refine r_getR hG 41 117 fk_X9_127 dX9_spring_68 rfl (by decide) rfl (sr hR rfl) ?_
          refine r_aload_n hG dX9_spring_71 rfl ?_
          refine r_getIv hG 38 (nI ns) fk_X9_291 dX9_spring_72 rfl (by decide) rfl (((gwI_n (by omega)).trans ((gwI_n (by omega)).trans (gwI_n (by omega)))).trans hns) ?_
          refine r_iload_n hG dX9_spring_75 rfl ?_
          refine r_iast hG ns dX9_spring_76 rfl (by decide) rfl (by omega) (by decide) ?_
          refine r_aload_n hG dX9_spring_77 rfl ?_
          refine r_getR hG 42 118 fk_X9_130 dX9_spring_78 rfl (by decide) rfl (sr hR rfl) ?_
          refine r_aload_n hG dX9_spring_81 rfl ?_
          refine r_getIv hG 38 (nI ns) fk_X9_291 dX9_spring_82 rfl (by decide) rfl (((gwI_n (by omega)).trans ((gwI_n (by omega)).trans ((gwI_n (by omega)).trans (gwI_n (by omega))))).trans hns) ?_
          refine r_iload_n hG dX9_spring_85 rfl ?_
          refine r_iast hG ns dX9_spring_86 rfl (by decide) rfl (by omega) (by decide) ?_
          refine r_aload_n hG dX9_spring_87 rfl ?_
          refine r_dup hG dX9_spring_88 rfl ?_
          refine r_getIv hG 38 (nI ns) fk_X9_291 dX9_spring_89 rfl (by decide) rfl (((gwI_n (by omega)).trans ((gwI_n (by omega)).trans ((gwI_n (by omega)).trans ((gwI_n (by omega)).trans (gwI_n (by omega)))))).trans hns) ?_
          refine r_iconst hG (1) dX9_spring_92 (by decide) ?_
          refine r_iadd hG dX9_spring_93 ?_
          refine r_putI hG 38 fp_X9_291 dX9_spring_94 rfl (by decide) rfl rfl rfl ?_
          refine r_aload_n hG dX9_spring_97 rfl ?_
          refine r_getIv hG 38 ((nI ns) + (1)) fk_X9_291 dX9_spring_98 rfl (by decide) rfl gwI_s ?_
          refine r_iconst hG (1) dX9_spring_101 (by decide) ?_
          refine r_isub hG dX9_spring_102 ?_
          refine hE _ _ _ _ _ dX9_spring_103 rfl (Nat.le_refl _) (Nat.le_refl _) rfl ?_
          exact Or.inl ⟨⟨hw10, hw21, hw31⟩, by omega, by rw [nI_1, nI_pred], rfl⟩
        · have hn42 := neq_t (a := ns) (b := 4) (by omega) (by omega) hc42
          refine r_iconst hG (-1) dX9_spring_45 (by decide) ?_
          refine hE _ _ _ _ _ dX9_spring_46 rfl (Nat.le_refl _) (Nat.le_refl _) rfl ?_
          refine Or.inr ⟨?_, rfl, rfl⟩
          rintro ⟨⟨q1, q2, q3⟩, q0⟩
          first | exact hw10 q1 | exact hw21 q2 | exact hw31 q3 | omega
      · rw [e8]
        refine r_if_eq hG 45 dX9_spring_34 (by decide) (fun hc34 => ?_) (fun hc34 => absurd hc34 (by decide))
        refine r_iconst hG (-1) dX9_spring_45 (by decide) ?_
        refine hE _ _ _ _ _ dX9_spring_46 rfl (Nat.le_refl _) (Nat.le_refl _) rfl ?_
        refine Or.inr ⟨?_, rfl, rfl⟩
        rintro ⟨⟨q1, q2, q3⟩, q0⟩
        first | exact hw10 q1 | exact hw21 q2 | exact hw31 q3 | omega
    · rw [e8]
      refine r_if_eq hG 45 dX9_spring_24 (by decide) (fun hc24 => ?_) (fun hc24 => absurd hc24 (by decide))
      refine r_iconst hG (-1) dX9_spring_45 (by decide) ?_
      refine hE _ _ _ _ _ dX9_spring_46 rfl (Nat.le_refl _) (Nat.le_refl _) rfl ?_
      refine Or.inr ⟨?_, rfl, rfl⟩
      rintro ⟨⟨q1, q2, q3⟩, q0⟩
      first | exact hw10 q1 | exact hw21 q2 | exact hw31 q3 | omega
  · rw [e8]
    refine r_if_eq hG 45 dX9_spring_13 (by decide) (fun hc13 => ?_) (fun hc13 => absurd hc13 (by decide))
    refine r_iconst hG (-1) dX9_spring_45 (by decide) ?_
    refine hE _ _ _ _ _ dX9_spring_46 rfl (Nat.le_refl _) (Nat.le_refl _) rfl ?_
    refine Or.inr ⟨?_, rfl, rfl⟩
    rintro ⟨⟨q1, q2, q3⟩, q0⟩
    first | exact hw10 q1 | exact hw21 q2 | exact hw31 q3 | omega

def fX9_tanker (M : gM) (nt : Nat) (sp h mi : Int32) : gM := (gwI (gwI (gwI (gwI (gwI M 88 0 (0)) 119 nt sp) 120 nt h) 121 nt mi) 88 43 ((nI nt) + (1)))
set_option maxRecDepth 100000 in
set_option maxHeartbeats 400000 in
theorem ct_X9_tanker {M : gM} {b : Bool} (hR : M.2.2 = stdR b) {nv ns nt nb : Nat} (hnv : M.1 88 26 = nI nv) (lv : nv ≤ 12) (hns : M.1 88 38 = nI ns) (ls : ns ≤ 4) (hnt : M.1 88 43 = nI nt) (lt : nt ≤ 4) (hnb : M.1 88 62 = nI nb) (lb : nb ≤ 10) (sp h mi : Int32) : gC 1 0 0 yX9_tanker cX9_tanker 4 (some .int) 140 140 [.ref 88, .int sp, .int h, .int mi] M (gI (fun r M9 => (((vIn sp ns) ∧ (1 ≤ h ∧ h ≤ 20000) ∧ (0 ≤ mi ∧ mi ≤ 999)) ∧ nt < 4 ∧ r = nI nt ∧ M9 = fX9_tanker M nt sp h mi) ∨ (¬ (((vIn sp ns) ∧ (1 ≤ h ∧ h ≤ 20000) ∧ (0 ≤ mi ∧ mi ≤ 999)) ∧ nt < 4) ∧ r = (-1) ∧ M9 = gwI M 88 0 0))) := by
  refine gC_i rfl (Nat.le_of_ble_eq_true rfl) (fun G hG hE => ?_)
  change G (140, 0, 0) 0 [some (.ref 88), some (.int sp), some (.int h), some (.int mi)] [] M
  refine r_aload_n hG dX9_tanker_0 rfl ?_
  refine r_iconst hG (0) dX9_tanker_1 (by decide) ?_
  refine r_putI hG 0 fp_X9_1 dX9_tanker_2 rfl (by decide) rfl rfl rfl ?_
  refine r_iload_n hG dX9_tanker_5 rfl ?_
  refine r_if_lt hG 47 dX9_tanker_6 (by decide) (fun hc6 => ?_) (fun hc6 => ?_)
  · refine r_iconst hG (-1) dX9_tanker_47 (by decide) ?_
    refine hE _ _ _ _ _ dX9_tanker_48 rfl (Nat.le_refl _) (Nat.le_refl _) rfl ?_
    refine Or.inr ⟨?_, rfl, rfl⟩
    rintro ⟨⟨q1, q2, q3⟩, q0⟩
    first | exact vIn_no0 (by omega) hc6 q1 | exact vIn_no1 (by omega) hc14 q1 | exact hw22 q2 | exact hw33 q3 | omega
  · refine r_iload_n hG dX9_tanker_9 rfl ?_
    refine r_aload_n hG dX9_tanker_10 rfl ?_
    refine r_getIv hG 38 (nI ns) fk_X9_291 dX9_tanker_11 rfl (by decide) rfl ((gwI_n (by omega)).trans hns) ?_
    refine r_icmp_ge hG 47 dX9_tanker_14 (by decide) (fun hc14 => ?_) (fun hc14 => ?_)
    · refine r_iconst hG (-1) dX9_tanker_47 (by decide) ?_
      refine hE _ _ _ _ _ dX9_tanker_48 rfl (Nat.le_refl _) (Nat.le_refl _) rfl ?_
      refine Or.inr ⟨?_, rfl, rfl⟩
      rintro ⟨⟨q1, q2, q3⟩, q0⟩
      first | exact vIn_no0 (by omega) hc6 q1 | exact vIn_no1 (by omega) hc14 q1 | exact hw22 q2 | exact hw33 q3 | omega
    · refine r_iload_n hG dX9_tanker_17 rfl ?_
      refine r_iconst hG (1) dX9_tanker_18 (by decide) ?_
      refine r_sipush hG (20000) dX9_tanker_19 (by decide) ?_
      refine r_cSI3 hG mk_X9_282 dX9_tanker_22 (ct_X9_within _ _ _) (by decide) ⟨Nat.le_refl _, Nat.le_refl _⟩ (Nat.le_of_ble_eq_true rfl) (fun x9 M9 h9 => ?_)
      obtain ⟨h8, e9⟩ := h9; rw [e9]; rcases h8 with ⟨e8, hw22⟩ | ⟨e8, hw22⟩
      · rw [e8]
        refine r_if_eq hG 47 dX9_tanker_25 (by decide) (fun hc25 => absurd hc25 (by decide)) (fun hc25 => ?_)
        refine r_iload_n hG dX9_tanker_28 rfl ?_
        refine r_iconst hG (0) dX9_tanker_29 (by decide) ?_
        refine r_sipush hG (999) dX9_tanker_30 (by decide) ?_
        refine r_cSI3 hG mk_X9_282 dX9_tanker_33 (ct_X9_within _ _ _) (by decide) ⟨Nat.le_refl _, Nat.le_refl _⟩ (Nat.le_of_ble_eq_true rfl) (fun x9 M9 h9 => ?_)
        obtain ⟨h8, e9⟩ := h9; rw [e9]; rcases h8 with ⟨e8, hw33⟩ | ⟨e8, hw33⟩
        · rw [e8]
          refine r_if_eq hG 47 dX9_tanker_36 (by decide) (fun hc36 => absurd hc36 (by decide)) (fun hc36 => ?_)
          refine r_aload_n hG dX9_tanker_39 rfl ?_
          refine r_getIv hG 43 (nI nt) fk_X9_294 dX9_tanker_40 rfl (by decide) rfl ((gwI_n (by omega)).trans hnt) ?_
          refine r_iconst hG (4) dX9_tanker_43 (by decide) ?_
          refine r_icmp_ne hG 49 dX9_tanker_44 (by decide) (fun hc44 => ?_) (fun hc44 => ?_)
          · have hn44 := neq_f (a := nt) (b := 4) (by omega) (by omega) hc44
            obtain ⟨spq, hspq, esp⟩ : vIn sp ns := vIn_of (by omega) hc6 hc14
            subst esp
            refine r_aload_n hG dX9_tanker_49 rfl ?_
            refine r_getR hG 44 119 fk_X9_133 dX9_tanker_50 rfl (by decide) rfl (sr hR rfl) ?_
            refine r_aload_n hG dX9_tanker_53 rfl ?_
            refine r_getIv hG 43 (nI nt) fk_X9_294 dX9_tanker_54 rfl (by decide) rfl ((gwI_n (by omega)).trans hnt) ?_
            refine r_iload_n hG dX9_tanker_57 rfl ?_
            refine r_iast hG nt dX9_tanker_58 rfl (by decide) rfl (by omega) (by decide) ?_
            refine r_aload_n hG dX9_tanker_59 rfl ?_
            refine r_getR hG 45 120 fk_X9_136 dX9_tanker_60 rfl (by decide) rfl (sr hR rfl) ?_
            refine r_aload_n hG dX9_tanker_63 rfl ?_
            refine r_getIv hG 43 (nI nt) fk_X9_294 dX9_tanker_64 rfl (by decide) rfl (((gwI_n (by omega)).trans (gwI_n (by omega))).trans hnt) ?_
            refine r_iload_n hG dX9_tanker_67 rfl ?_
            refine r_iast hG nt dX9_tanker_68 rfl (by decide) rfl (by omega) (by decide) ?_
            refine r_aload_n hG dX9_tanker_69 rfl ?_
            refine r_getR hG 46 121 fk_X9_139 dX9_tanker_70 rfl (by decide) rfl (sr hR rfl) ?_
            refine r_aload_n hG dX9_tanker_73 rfl ?_
            refine r_getIv hG 43 (nI nt) fk_X9_294 dX9_tanker_74 rfl (by decide) rfl (((gwI_n (by omega)).trans ((gwI_n (by omega)).trans (gwI_n (by omega)))).trans hnt) ?_
            refine r_iload_n hG dX9_tanker_77 rfl ?_
            refine r_iast hG nt dX9_tanker_78 rfl (by decide) rfl (by omega) (by decide) ?_
            refine r_aload_n hG dX9_tanker_79 rfl ?_
            refine r_dup hG dX9_tanker_80 rfl ?_
            refine r_getIv hG 43 (nI nt) fk_X9_294 dX9_tanker_81 rfl (by decide) rfl (((gwI_n (by omega)).trans ((gwI_n (by omega)).trans ((gwI_n (by omega)).trans (gwI_n (by omega))))).trans hnt) ?_
            refine r_iconst hG (1) dX9_tanker_84 (by decide) ?_
            refine r_iadd hG dX9_tanker_85 ?_
            refine r_putI hG 43 fp_X9_294 dX9_tanker_86 rfl (by decide) rfl rfl rfl ?_
            refine r_aload_n hG dX9_tanker_89 rfl ?_
            refine r_getIv hG 43 ((nI nt) + (1)) fk_X9_294 dX9_tanker_90 rfl (by decide) rfl gwI_s ?_
            refine r_iconst hG (1) dX9_tanker_93 (by decide) ?_
            refine r_isub hG dX9_tanker_94 ?_
            refine hE _ _ _ _ _ dX9_tanker_95 rfl (Nat.le_refl _) (Nat.le_refl _) rfl ?_
            exact Or.inl ⟨⟨⟨_, hspq, rfl⟩, hw22, hw33⟩, by omega, by rw [nI_1, nI_pred], rfl⟩
          · have hn44 := neq_t (a := nt) (b := 4) (by omega) (by omega) hc44
            refine r_iconst hG (-1) dX9_tanker_47 (by decide) ?_
            refine hE _ _ _ _ _ dX9_tanker_48 rfl (Nat.le_refl _) (Nat.le_refl _) rfl ?_
            refine Or.inr ⟨?_, rfl, rfl⟩
            rintro ⟨⟨q1, q2, q3⟩, q0⟩
            first | exact vIn_no0 (by omega) hc6 q1 | exact vIn_no1 (by omega) hc14 q1 | exact hw22 q2 | exact hw33 q3 | omega
        · rw [e8]
          refine r_if_eq hG 47 dX9_tanker_36 (by decide) (fun hc36 => ?_) (fun hc36 => absurd hc36 (by decide))
          refine r_iconst hG (-1) dX9_tanker_47 (by decide) ?_
          refine hE _ _ _ _ _ dX9_tanker_48 rfl (Nat.le_refl _) (Nat.le_refl _) rfl ?_
          refine Or.inr ⟨?_, rfl, rfl⟩
          rintro ⟨⟨q1, q2, q3⟩, q0⟩
          first | exact vIn_no0 (by omega) hc6 q1 | exact vIn_no1 (by omega) hc14 q1 | exact hw22 q2 | exact hw33 q3 | omega
      · rw [e8]
        refine r_if_eq hG 47 dX9_tanker_25 (by decide) (fun hc25 => ?_) (fun hc25 => absurd hc25 (by decide))
        refine r_iconst hG (-1) dX9_tanker_47 (by decide) ?_
        refine hE _ _ _ _ _ dX9_tanker_48 rfl (Nat.le_refl _) (Nat.le_refl _) rfl ?_
        refine Or.inr ⟨?_, rfl, rfl⟩
        rintro ⟨⟨q1, q2, q3⟩, q0⟩
        first | exact vIn_no0 (by omega) hc6 q1 | exact vIn_no1 (by omega) hc14 q1 | exact hw22 q2 | exact hw33 q3 | omega

def fX9_way (M : gM) (spq vq : Nat) (sp v mi : Int32) : gM := (gwI (gwI M 88 0 (0)) 125 (12 * spq + vq) mi)
set_option maxRecDepth 100000 in
set_option maxHeartbeats 400000 in
theorem ct_X9_way {M : gM} {b : Bool} (hR : M.2.2 = stdR b) {nv ns nt nb : Nat} (hnv : M.1 88 26 = nI nv) (lv : nv ≤ 12) (hns : M.1 88 38 = nI ns) (ls : ns ≤ 4) (hnt : M.1 88 43 = nI nt) (lt : nt ≤ 4) (hnb : M.1 88 62 = nI nb) (lb : nb ≤ 10) (sp v mi : Int32) : gC 1 0 0 yX9_way cX9_way 4 (some .boolean) 140 140 [.ref 88, .int sp, .int v, .int mi] M (gI (fun r M9 => (∃ spq vq : Nat, sp = nI spq ∧ v = nI vq ∧ spq < ns ∧ vq < nv ∧ ((vIn sp ns) ∧ (vIn v nv) ∧ (1 ≤ mi ∧ mi ≤ 200)) ∧ r = 1 ∧ M9 = fX9_way M spq vq sp v mi) ∨ (¬ (((vIn sp ns) ∧ (vIn v nv) ∧ (1 ≤ mi ∧ mi ≤ 200))) ∧ r = (0) ∧ M9 = gwI M 88 0 0))) := by
  refine gC_i rfl (Nat.le_of_ble_eq_true rfl) (fun G hG hE => ?_)
  change G (140, 0, 0) 0 [some (.ref 88), some (.int sp), some (.int v), some (.int mi)] [] M
  refine r_aload_n hG dX9_way_0 rfl ?_
  refine r_iconst hG (0) dX9_way_1 (by decide) ?_
  refine r_putI hG 0 fp_X9_1 dX9_way_2 rfl (by decide) rfl rfl rfl ?_
  refine r_iload_n hG dX9_way_5 rfl ?_
  refine r_if_lt hG 36 dX9_way_6 (by decide) (fun hc6 => ?_) (fun hc6 => ?_)
  · refine r_iconst hG (0) dX9_way_36 (by decide) ?_
    refine hE _ _ _ _ _ dX9_way_37 rfl (Nat.le_refl _) (Nat.le_refl _) rfl ?_
    refine Or.inr ⟨?_, rfl, rfl⟩
    rintro ⟨q1, q2, q3⟩
    first | exact vIn_no0 (by omega) hc6 q1 | exact vIn_no1 (by omega) hc14 q1 | exact hw19 q2 | exact hw30 q3 | omega
  · refine r_iload_n hG dX9_way_9 rfl ?_
    refine r_aload_n hG dX9_way_10 rfl ?_
    refine r_getIv hG 38 (nI ns) fk_X9_291 dX9_way_11 rfl (by decide) rfl ((gwI_n (by omega)).trans hns) ?_
    refine r_icmp_ge hG 36 dX9_way_14 (by decide) (fun hc14 => ?_) (fun hc14 => ?_)
    · refine r_iconst hG (0) dX9_way_36 (by decide) ?_
      refine hE _ _ _ _ _ dX9_way_37 rfl (Nat.le_refl _) (Nat.le_refl _) rfl ?_
      refine Or.inr ⟨?_, rfl, rfl⟩
      rintro ⟨q1, q2, q3⟩
      first | exact vIn_no0 (by omega) hc6 q1 | exact vIn_no1 (by omega) hc14 q1 | exact hw19 q2 | exact hw30 q3 | omega
    · refine r_aload_n hG dX9_way_17 rfl ?_
      refine r_iload_n hG dX9_way_18 rfl ?_
      refine r_cVI1 hG mk_X9_297 dX9_way_19 rfl (by decide) (ct_X9_isVillage (by exact hR) (c := nv) ((gwI_n (by omega)).trans hnv) (by omega) _) (by decide) ⟨Nat.le_refl _, Nat.le_refl _⟩ (Nat.le_of_ble_eq_true rfl) (fun x9 M9 h9 => ?_)
      obtain ⟨h8, e9⟩ := h9; rw [e9]; rcases h8 with ⟨e8, hw19⟩ | ⟨e8, hw19⟩
      · rw [e8]
        obtain ⟨q19, hq19, hv19⟩ := hw19
        subst hv19
        refine r_if_eq hG 36 dX9_way_22 (by decide) (fun hc22 => absurd hc22 (by decide)) (fun hc22 => ?_)
        refine r_iload_n hG dX9_way_25 rfl ?_
        refine r_iconst hG (1) dX9_way_26 (by decide) ?_
        refine r_sipush hG (200) dX9_way_27 (by decide) ?_
        refine r_cSI3 hG mk_X9_282 dX9_way_30 (ct_X9_within _ _ _) (by decide) ⟨Nat.le_refl _, Nat.le_refl _⟩ (Nat.le_of_ble_eq_true rfl) (fun x9 M9 h9 => ?_)
        obtain ⟨h8, e9⟩ := h9; rw [e9]; rcases h8 with ⟨e8, hw30⟩ | ⟨e8, hw30⟩
        · rw [e8]
          refine r_if_ne hG 38 dX9_way_33 (by decide) (fun hc33 => ?_) (fun hc33 => absurd hc33 (by decide))
          obtain ⟨spq, hspq, esp⟩ : vIn sp ns := vIn_of (by omega) hc6 hc14
          subst esp
          refine r_aload_n hG dX9_way_38 rfl ?_
          refine r_getR hG 50 125 fk_X9_151 dX9_way_39 rfl (by decide) rfl (sr hR rfl) ?_
          refine r_bipush hG (12) dX9_way_42 (by decide) ?_
          refine r_iload_n hG dX9_way_44 rfl ?_
          refine r_imul hG dX9_way_45 ?_
          refine r_iload_n hG dX9_way_46 rfl ?_
          refine r_iadd hG dX9_way_47 ?_
          refine r_iload_n hG dX9_way_48 rfl ?_
          refine r_iast hG (12 * spq + q19) dX9_way_49 rfl (by decide) (mulAdd 12 spq q19) (by omega) (by decide) ?_
          refine r_iconst hG (1) dX9_way_50 (by decide) ?_
          refine hE _ _ _ _ _ dX9_way_51 rfl (Nat.le_refl _) (Nat.le_refl _) rfl ?_
          exact Or.inl ⟨_, _, rfl, rfl, hspq, hq19, ⟨⟨_, hspq, rfl⟩, ⟨_, hq19, rfl⟩, hw30⟩, rfl, rfl⟩
        · rw [e8]
          refine r_if_ne hG 38 dX9_way_33 (by decide) (fun hc33 => absurd hc33 (by decide)) (fun hc33 => ?_)
          refine r_iconst hG (0) dX9_way_36 (by decide) ?_
          refine hE _ _ _ _ _ dX9_way_37 rfl (Nat.le_refl _) (Nat.le_refl _) rfl ?_
          refine Or.inr ⟨?_, rfl, rfl⟩
          rintro ⟨q1, q2, q3⟩
          first | exact vIn_no0 (by omega) hc6 q1 | exact vIn_no1 (by omega) hc14 q1 | exact hw19 q2 | exact hw30 q3 | omega
      · rw [e8]
        refine r_if_eq hG 36 dX9_way_22 (by decide) (fun hc22 => ?_) (fun hc22 => absurd hc22 (by decide))
        refine r_iconst hG (0) dX9_way_36 (by decide) ?_
        refine hE _ _ _ _ _ dX9_way_37 rfl (Nat.le_refl _) (Nat.le_refl _) rfl ?_
        refine Or.inr ⟨?_, rfl, rfl⟩
        rintro ⟨q1, q2, q3⟩
        first | exact vIn_no0 (by omega) hc6 q1 | exact vIn_no1 (by omega) hc14 q1 | exact hw19 q2 | exact hw30 q3 | omega

def fX9_bore (M : gM) (nb : Nat) (v ch co : Int32) : gM := (gwI (gwI (gwI (gwI (gwI M 88 0 (0)) 132 nb v) 133 nb ch) 134 nb co) 88 62 ((nI nb) + (1)))
set_option maxRecDepth 100000 in
set_option maxHeartbeats 400000 in
theorem ct_X9_bore {M : gM} {b : Bool} (hR : M.2.2 = stdR b) {nv ns nt nb : Nat} (hnv : M.1 88 26 = nI nv) (lv : nv ≤ 12) (hns : M.1 88 38 = nI ns) (ls : ns ≤ 4) (hnt : M.1 88 43 = nI nt) (lt : nt ≤ 4) (hnb : M.1 88 62 = nI nb) (lb : nb ≤ 10) (v ch co : Int32) : gC 1 0 0 yX9_bore cX9_bore 4 (some .int) 140 140 [.ref 88, .int v, .int ch, .int co] M (gI (fun r M9 => (((vIn v nv) ∧ (1 ≤ ch ∧ ch ≤ 1000) ∧ (1 ≤ co ∧ co ≤ 1000)) ∧ nb < 10 ∧ r = nI nb ∧ M9 = fX9_bore M nb v ch co) ∨ (¬ (((vIn v nv) ∧ (1 ≤ ch ∧ ch ≤ 1000) ∧ (1 ≤ co ∧ co ≤ 1000)) ∧ nb < 10) ∧ r = (-1) ∧ M9 = gwI M 88 0 0))) := by
  refine gC_i rfl (Nat.le_of_ble_eq_true rfl) (fun G hG hE => ?_)
  change G (140, 0, 0) 0 [some (.ref 88), some (.int v), some (.int ch), some (.int co)] [] M
  refine r_aload_n hG dX9_bore_0 rfl ?_
  refine r_iconst hG (0) dX9_bore_1 (by decide) ?_
  refine r_putI hG 0 fp_X9_1 dX9_bore_2 rfl (by decide) rfl rfl rfl ?_
  refine r_aload_n hG dX9_bore_5 rfl ?_
  refine r_iload_n hG dX9_bore_6 rfl ?_
  refine r_cVI1 hG mk_X9_297 dX9_bore_7 rfl (by decide) (ct_X9_isVillage (by exact hR) (c := nv) ((gwI_n (by omega)).trans hnv) (by omega) _) (by decide) ⟨Nat.le_refl _, Nat.le_refl _⟩ (Nat.le_of_ble_eq_true rfl) (fun x9 M9 h9 => ?_)
  obtain ⟨h8, e9⟩ := h9; rw [e9]; rcases h8 with ⟨e8, hw7⟩ | ⟨e8, hw7⟩
  · rw [e8]
    obtain ⟨q7, hq7, hv7⟩ := hw7
    subst hv7
    refine r_if_eq hG 44 dX9_bore_10 (by decide) (fun hc10 => absurd hc10 (by decide)) (fun hc10 => ?_)
    refine r_iload_n hG dX9_bore_13 rfl ?_
    refine r_iconst hG (1) dX9_bore_14 (by decide) ?_
    refine r_sipush hG (1000) dX9_bore_15 (by decide) ?_
    refine r_cSI3 hG mk_X9_282 dX9_bore_18 (ct_X9_within _ _ _) (by decide) ⟨Nat.le_refl _, Nat.le_refl _⟩ (Nat.le_of_ble_eq_true rfl) (fun x9 M9 h9 => ?_)
    obtain ⟨h8, e9⟩ := h9; rw [e9]; rcases h8 with ⟨e8, hw18⟩ | ⟨e8, hw18⟩
    · rw [e8]
      refine r_if_eq hG 44 dX9_bore_21 (by decide) (fun hc21 => absurd hc21 (by decide)) (fun hc21 => ?_)
      refine r_iload_n hG dX9_bore_24 rfl ?_
      refine r_iconst hG (1) dX9_bore_25 (by decide) ?_
      refine r_sipush hG (1000) dX9_bore_26 (by decide) ?_
      refine r_cSI3 hG mk_X9_282 dX9_bore_29 (ct_X9_within _ _ _) (by decide) ⟨Nat.le_refl _, Nat.le_refl _⟩ (Nat.le_of_ble_eq_true rfl) (fun x9 M9 h9 => ?_)
      obtain ⟨h8, e9⟩ := h9; rw [e9]; rcases h8 with ⟨e8, hw29⟩ | ⟨e8, hw29⟩
      · rw [e8]
        refine r_if_eq hG 44 dX9_bore_32 (by decide) (fun hc32 => absurd hc32 (by decide)) (fun hc32 => ?_)
        refine r_aload_n hG dX9_bore_35 rfl ?_
        refine r_getIv hG 62 (nI nb) fk_X9_358 dX9_bore_36 rfl (by decide) rfl ((gwI_n (by omega)).trans hnb) ?_
        refine r_bipush hG (10) dX9_bore_39 (by decide) ?_
        refine r_icmp_ne hG 46 dX9_bore_41 (by decide) (fun hc41 => ?_) (fun hc41 => ?_)
        · have hn41 := neq_f (a := nb) (b := 10) (by omega) (by omega) hc41
          refine r_aload_n hG dX9_bore_46 rfl ?_
          refine r_getR hG 63 132 fk_X9_172 dX9_bore_47 rfl (by decide) rfl (sr hR rfl) ?_
          refine r_aload_n hG dX9_bore_50 rfl ?_
          refine r_getIv hG 62 (nI nb) fk_X9_358 dX9_bore_51 rfl (by decide) rfl ((gwI_n (by omega)).trans hnb) ?_
          refine r_iload_n hG dX9_bore_54 rfl ?_
          refine r_iast hG nb dX9_bore_55 rfl (by decide) rfl (by omega) (by decide) ?_
          refine r_aload_n hG dX9_bore_56 rfl ?_
          refine r_getR hG 64 133 fk_X9_175 dX9_bore_57 rfl (by decide) rfl (sr hR rfl) ?_
          refine r_aload_n hG dX9_bore_60 rfl ?_
          refine r_getIv hG 62 (nI nb) fk_X9_358 dX9_bore_61 rfl (by decide) rfl (((gwI_n (by omega)).trans (gwI_n (by omega))).trans hnb) ?_
          refine r_iload_n hG dX9_bore_64 rfl ?_
          refine r_iast hG nb dX9_bore_65 rfl (by decide) rfl (by omega) (by decide) ?_
          refine r_aload_n hG dX9_bore_66 rfl ?_
          refine r_getR hG 65 134 fk_X9_178 dX9_bore_67 rfl (by decide) rfl (sr hR rfl) ?_
          refine r_aload_n hG dX9_bore_70 rfl ?_
          refine r_getIv hG 62 (nI nb) fk_X9_358 dX9_bore_71 rfl (by decide) rfl (((gwI_n (by omega)).trans ((gwI_n (by omega)).trans (gwI_n (by omega)))).trans hnb) ?_
          refine r_iload_n hG dX9_bore_74 rfl ?_
          refine r_iast hG nb dX9_bore_75 rfl (by decide) rfl (by omega) (by decide) ?_
          refine r_aload_n hG dX9_bore_76 rfl ?_
          refine r_dup hG dX9_bore_77 rfl ?_
          refine r_getIv hG 62 (nI nb) fk_X9_358 dX9_bore_78 rfl (by decide) rfl (((gwI_n (by omega)).trans ((gwI_n (by omega)).trans ((gwI_n (by omega)).trans (gwI_n (by omega))))).trans hnb) ?_
          refine r_iconst hG (1) dX9_bore_81 (by decide) ?_
          refine r_iadd hG dX9_bore_82 ?_
          refine r_putI hG 62 fp_X9_358 dX9_bore_83 rfl (by decide) rfl rfl rfl ?_
          refine r_aload_n hG dX9_bore_86 rfl ?_
          refine r_getIv hG 62 ((nI nb) + (1)) fk_X9_358 dX9_bore_87 rfl (by decide) rfl gwI_s ?_
          refine r_iconst hG (1) dX9_bore_90 (by decide) ?_
          refine r_isub hG dX9_bore_91 ?_
          refine hE _ _ _ _ _ dX9_bore_92 rfl (Nat.le_refl _) (Nat.le_refl _) rfl ?_
          exact Or.inl ⟨⟨⟨_, hq7, rfl⟩, hw18, hw29⟩, by omega, by rw [nI_1, nI_pred], rfl⟩
        · have hn41 := neq_t (a := nb) (b := 10) (by omega) (by omega) hc41
          refine r_iconst hG (-1) dX9_bore_44 (by decide) ?_
          refine hE _ _ _ _ _ dX9_bore_45 rfl (Nat.le_refl _) (Nat.le_refl _) rfl ?_
          refine Or.inr ⟨?_, rfl, rfl⟩
          rintro ⟨⟨q1, q2, q3⟩, q0⟩
          first | exact hw7 q1 | exact hw18 q2 | exact hw29 q3 | omega
      · rw [e8]
        refine r_if_eq hG 44 dX9_bore_32 (by decide) (fun hc32 => ?_) (fun hc32 => absurd hc32 (by decide))
        refine r_iconst hG (-1) dX9_bore_44 (by decide) ?_
        refine hE _ _ _ _ _ dX9_bore_45 rfl (Nat.le_refl _) (Nat.le_refl _) rfl ?_
        refine Or.inr ⟨?_, rfl, rfl⟩
        rintro ⟨⟨q1, q2, q3⟩, q0⟩
        first | exact hw7 q1 | exact hw18 q2 | exact hw29 q3 | omega
    · rw [e8]
      refine r_if_eq hG 44 dX9_bore_21 (by decide) (fun hc21 => ?_) (fun hc21 => absurd hc21 (by decide))
      refine r_iconst hG (-1) dX9_bore_44 (by decide) ?_
      refine hE _ _ _ _ _ dX9_bore_45 rfl (Nat.le_refl _) (Nat.le_refl _) rfl ?_
      refine Or.inr ⟨?_, rfl, rfl⟩
      rintro ⟨⟨q1, q2, q3⟩, q0⟩
      first | exact hw7 q1 | exact hw18 q2 | exact hw29 q3 | omega
  · rw [e8]
    refine r_if_eq hG 44 dX9_bore_10 (by decide) (fun hc10 => ?_) (fun hc10 => absurd hc10 (by decide))
    refine r_iconst hG (-1) dX9_bore_44 (by decide) ?_
    refine hE _ _ _ _ _ dX9_bore_45 rfl (Nat.le_refl _) (Nat.le_refl _) rfl ?_
    refine Or.inr ⟨?_, rfl, rfl⟩
    rintro ⟨⟨q1, q2, q3⟩, q0⟩
    first | exact hw7 q1 | exact hw18 q2 | exact hw29 q3 | omega

def fX9_dip (M : gM) (nd : Nat) (tq : Nat) (t tl di er : Int32) : gM := (gwI (gwI (gwI (gwI (gwI M 88 0 (0)) 137 tq ((M.1 137 tq) + (tl - di))) 138 tq ((M.1 138 tq) + er)) 136 tq ((M.1 136 tq) + (1))) 88 67 ((nI nd) + (1)))
set_option maxRecDepth 100000 in
set_option maxHeartbeats 400000 in
theorem ct_X9_dip {M : gM} {b : Bool} (hR : M.2.2 = stdR b) {nv ns nt nb : Nat} (hnv : M.1 88 26 = nI nv) (lv : nv ≤ 12) (hns : M.1 88 38 = nI ns) (ls : ns ≤ 4) (hnt : M.1 88 43 = nI nt) (lt : nt ≤ 4) (hnb : M.1 88 62 = nI nb) (lb : nb ≤ 10) {nd : Nat} (hnd : M.1 88 67 = nI nd) (ld : nd ≤ 100) (t tl di er : Int32) : gC 1 0 0 yX9_dip cX9_dip 5 (some .int) 140 140 [.ref 88, .int t, .int tl, .int di, .int er] M (gI (fun r M9 => (∃ tq : Nat, t = nI tq ∧ tq < nt ∧ ((vIn t nt) ∧ (0 ≤ tl ∧ tl ≤ 20000) ∧ (0 ≤ di ∧ di ≤ 20000) ∧ (0 ≤ er ∧ er ≤ 2000)) ∧ nd < 100 ∧ r = M.1 136 tq + 1 ∧ M9 = fX9_dip M nd tq t tl di er) ∨ (¬ (((vIn t nt) ∧ (0 ≤ tl ∧ tl ≤ 20000) ∧ (0 ≤ di ∧ di ≤ 20000) ∧ (0 ≤ er ∧ er ≤ 2000)) ∧ nd < 100) ∧ r = (-1) ∧ M9 = gwI M 88 0 0))) := by
  refine gC_i rfl (Nat.le_of_ble_eq_true rfl) (fun G hG hE => ?_)
  change G (140, 0, 0) 0 [some (.ref 88), some (.int t), some (.int tl), some (.int di), some (.int er)] [] M
  refine r_aload_n hG dX9_dip_0 rfl ?_
  refine r_iconst hG (0) dX9_dip_1 (by decide) ?_
  refine r_putI hG 0 fp_X9_1 dX9_dip_2 rfl (by decide) rfl rfl rfl ?_
  refine r_iload_n hG dX9_dip_5 rfl ?_
  refine r_if_lt hG 60 dX9_dip_6 (by decide) (fun hc6 => ?_) (fun hc6 => ?_)
  · refine r_iconst hG (-1) dX9_dip_60 (by decide) ?_
    refine hE _ _ _ _ _ dX9_dip_61 rfl (Nat.le_refl _) (Nat.le_refl _) rfl ?_
    refine Or.inr ⟨?_, rfl, rfl⟩
    rintro ⟨⟨q1, q2, q3, q4⟩, q0⟩
    first | exact vIn_no0 (by omega) hc6 q1 | exact vIn_no1 (by omega) hc14 q1 | exact hw22 q2 | exact hw33 q3 | exact hw45 q4 | omega
  · refine r_iload_n hG dX9_dip_9 rfl ?_
    refine r_aload_n hG dX9_dip_10 rfl ?_
    refine r_getIv hG 43 (nI nt) fk_X9_294 dX9_dip_11 rfl (by decide) rfl ((gwI_n (by omega)).trans hnt) ?_
    refine r_icmp_ge hG 60 dX9_dip_14 (by decide) (fun hc14 => ?_) (fun hc14 => ?_)
    · refine r_iconst hG (-1) dX9_dip_60 (by decide) ?_
      refine hE _ _ _ _ _ dX9_dip_61 rfl (Nat.le_refl _) (Nat.le_refl _) rfl ?_
      refine Or.inr ⟨?_, rfl, rfl⟩
      rintro ⟨⟨q1, q2, q3, q4⟩, q0⟩
      first | exact vIn_no0 (by omega) hc6 q1 | exact vIn_no1 (by omega) hc14 q1 | exact hw22 q2 | exact hw33 q3 | exact hw45 q4 | omega
    · refine r_iload_n hG dX9_dip_17 rfl ?_
      refine r_iconst hG (0) dX9_dip_18 (by decide) ?_
      refine r_sipush hG (20000) dX9_dip_19 (by decide) ?_
      refine r_cSI3 hG mk_X9_282 dX9_dip_22 (ct_X9_within _ _ _) (by decide) ⟨Nat.le_refl _, Nat.le_refl _⟩ (Nat.le_of_ble_eq_true rfl) (fun x9 M9 h9 => ?_)
      obtain ⟨h8, e9⟩ := h9; rw [e9]; rcases h8 with ⟨e8, hw22⟩ | ⟨e8, hw22⟩
      · rw [e8]
        refine r_if_eq hG 60 dX9_dip_25 (by decide) (fun hc25 => absurd hc25 (by decide)) (fun hc25 => ?_)
        refine r_iload_n hG dX9_dip_28 rfl ?_
        refine r_iconst hG (0) dX9_dip_29 (by decide) ?_
        refine r_sipush hG (20000) dX9_dip_30 (by decide) ?_
        refine r_cSI3 hG mk_X9_282 dX9_dip_33 (ct_X9_within _ _ _) (by decide) ⟨Nat.le_refl _, Nat.le_refl _⟩ (Nat.le_of_ble_eq_true rfl) (fun x9 M9 h9 => ?_)
        obtain ⟨h8, e9⟩ := h9; rw [e9]; rcases h8 with ⟨e8, hw33⟩ | ⟨e8, hw33⟩
        · rw [e8]
          refine r_if_eq hG 60 dX9_dip_36 (by decide) (fun hc36 => absurd hc36 (by decide)) (fun hc36 => ?_)
          refine r_iload hG dX9_dip_39 rfl ?_
          refine r_iconst hG (0) dX9_dip_41 (by decide) ?_
          refine r_sipush hG (2000) dX9_dip_42 (by decide) ?_
          refine r_cSI3 hG mk_X9_282 dX9_dip_45 (ct_X9_within _ _ _) (by decide) ⟨Nat.le_refl _, Nat.le_refl _⟩ (Nat.le_of_ble_eq_true rfl) (fun x9 M9 h9 => ?_)
          obtain ⟨h8, e9⟩ := h9; rw [e9]; rcases h8 with ⟨e8, hw45⟩ | ⟨e8, hw45⟩
          · rw [e8]
            refine r_if_eq hG 60 dX9_dip_48 (by decide) (fun hc48 => absurd hc48 (by decide)) (fun hc48 => ?_)
            refine r_aload_n hG dX9_dip_51 rfl ?_
            refine r_getIv hG 67 (nI nd) fk_X9_361 dX9_dip_52 rfl (by decide) rfl ((gwI_n (by omega)).trans hnd) ?_
            refine r_bipush hG (100) dX9_dip_55 (by decide) ?_
            refine r_icmp_ne hG 62 dX9_dip_57 (by decide) (fun hc57 => ?_) (fun hc57 => ?_)
            · have hn57 := neq_f (a := nd) (b := 100) (by omega) (by omega) hc57
              obtain ⟨tq, htq, et⟩ : vIn t nt := vIn_of (by omega) hc6 hc14
              subst et
              refine r_aload_n hG dX9_dip_62 rfl ?_
              refine r_getR hG 69 137 fk_X9_187 dX9_dip_63 rfl (by decide) rfl (sr hR rfl) ?_
              refine r_iload_n hG dX9_dip_66 rfl ?_
              refine r_dup2 hG dX9_dip_67 rfl rfl ?_
              refine r_ialdv hG tq (M.1 137 tq) dX9_dip_68 rfl (by decide) rfl (by omega) (by decide) (gwI_n (by omega)) ?_
              refine r_iload_n hG dX9_dip_69 rfl ?_
              refine r_iload_n hG dX9_dip_70 rfl ?_
              refine r_isub hG dX9_dip_71 ?_
              refine r_iadd hG dX9_dip_72 ?_
              refine r_iast hG tq dX9_dip_73 rfl (by decide) rfl (by omega) (by decide) ?_
              refine r_aload_n hG dX9_dip_74 rfl ?_
              refine r_getR hG 70 138 fk_X9_190 dX9_dip_75 rfl (by decide) rfl (sr hR rfl) ?_
              refine r_iload_n hG dX9_dip_78 rfl ?_
              refine r_dup2 hG dX9_dip_79 rfl rfl ?_
              refine r_ialdv hG tq (M.1 138 tq) dX9_dip_80 rfl (by decide) rfl (by omega) (by decide) ((gwI_n (by omega)).trans (gwI_n (by omega))) ?_
              refine r_iload hG dX9_dip_81 rfl ?_
              refine r_iadd hG dX9_dip_83 ?_
              refine r_iast hG tq dX9_dip_84 rfl (by decide) rfl (by omega) (by decide) ?_
              refine r_aload_n hG dX9_dip_85 rfl ?_
              refine r_getR hG 68 136 fk_X9_184 dX9_dip_86 rfl (by decide) rfl (sr hR rfl) ?_
              refine r_iload_n hG dX9_dip_89 rfl ?_
              refine r_dup2 hG dX9_dip_90 rfl rfl ?_
              refine r_ialdv hG tq (M.1 136 tq) dX9_dip_91 rfl (by decide) rfl (by omega) (by decide) ((gwI_n (by omega)).trans ((gwI_n (by omega)).trans (gwI_n (by omega)))) ?_
              refine r_iconst hG (1) dX9_dip_92 (by decide) ?_
              refine r_iadd hG dX9_dip_93 ?_
              refine r_iast hG tq dX9_dip_94 rfl (by decide) rfl (by omega) (by decide) ?_
              refine r_aload_n hG dX9_dip_95 rfl ?_
              refine r_dup hG dX9_dip_96 rfl ?_
              refine r_getIv hG 67 (nI nd) fk_X9_361 dX9_dip_97 rfl (by decide) rfl (((gwI_n (by omega)).trans ((gwI_n (by omega)).trans ((gwI_n (by omega)).trans (gwI_n (by omega))))).trans hnd) ?_
              refine r_iconst hG (1) dX9_dip_100 (by decide) ?_
              refine r_iadd hG dX9_dip_101 ?_
              refine r_putI hG 67 fp_X9_361 dX9_dip_102 rfl (by decide) rfl rfl rfl ?_
              refine r_aload_n hG dX9_dip_105 rfl ?_
              refine r_getR hG 68 136 fk_X9_184 dX9_dip_106 rfl (by decide) rfl (sr hR rfl) ?_
              refine r_iload_n hG dX9_dip_109 rfl ?_
              refine r_ialdv hG tq ((M.1 136 tq) + (1)) dX9_dip_110 rfl (by decide) rfl (by omega) (by decide) ((gwI_n (by omega)).trans gwI_s) ?_
              refine hE _ _ _ _ _ dX9_dip_111 rfl (Nat.le_refl _) (Nat.le_refl _) rfl ?_
              exact Or.inl ⟨_, rfl, htq, ⟨⟨_, htq, rfl⟩, hw22, hw33, hw45⟩, by omega, rfl, rfl⟩
            · have hn57 := neq_t (a := nd) (b := 100) (by omega) (by omega) hc57
              refine r_iconst hG (-1) dX9_dip_60 (by decide) ?_
              refine hE _ _ _ _ _ dX9_dip_61 rfl (Nat.le_refl _) (Nat.le_refl _) rfl ?_
              refine Or.inr ⟨?_, rfl, rfl⟩
              rintro ⟨⟨q1, q2, q3, q4⟩, q0⟩
              first | exact vIn_no0 (by omega) hc6 q1 | exact vIn_no1 (by omega) hc14 q1 | exact hw22 q2 | exact hw33 q3 | exact hw45 q4 | omega
          · rw [e8]
            refine r_if_eq hG 60 dX9_dip_48 (by decide) (fun hc48 => ?_) (fun hc48 => absurd hc48 (by decide))
            refine r_iconst hG (-1) dX9_dip_60 (by decide) ?_
            refine hE _ _ _ _ _ dX9_dip_61 rfl (Nat.le_refl _) (Nat.le_refl _) rfl ?_
            refine Or.inr ⟨?_, rfl, rfl⟩
            rintro ⟨⟨q1, q2, q3, q4⟩, q0⟩
            first | exact vIn_no0 (by omega) hc6 q1 | exact vIn_no1 (by omega) hc14 q1 | exact hw22 q2 | exact hw33 q3 | exact hw45 q4 | omega
        · rw [e8]
          refine r_if_eq hG 60 dX9_dip_36 (by decide) (fun hc36 => ?_) (fun hc36 => absurd hc36 (by decide))
          refine r_iconst hG (-1) dX9_dip_60 (by decide) ?_
          refine hE _ _ _ _ _ dX9_dip_61 rfl (Nat.le_refl _) (Nat.le_refl _) rfl ?_
          refine Or.inr ⟨?_, rfl, rfl⟩
          rintro ⟨⟨q1, q2, q3, q4⟩, q0⟩
          first | exact vIn_no0 (by omega) hc6 q1 | exact vIn_no1 (by omega) hc14 q1 | exact hw22 q2 | exact hw33 q3 | exact hw45 q4 | omega
      · rw [e8]
        refine r_if_eq hG 60 dX9_dip_25 (by decide) (fun hc25 => ?_) (fun hc25 => absurd hc25 (by decide))
        refine r_iconst hG (-1) dX9_dip_60 (by decide) ?_
        refine hE _ _ _ _ _ dX9_dip_61 rfl (Nat.le_refl _) (Nat.le_refl _) rfl ?_
        refine Or.inr ⟨?_, rfl, rfl⟩
        rintro ⟨⟨q1, q2, q3, q4⟩, q0⟩
        first | exact vIn_no0 (by omega) hc6 q1 | exact vIn_no1 (by omega) hc14 q1 | exact hw22 q2 | exact hw33 q3 | exact hw45 q4 | omega

set_option maxRecDepth 100000 in
set_option maxHeartbeats 400000 in
theorem ct_X9_isShort {M : gM} {b : Bool} (hR : M.2.2 = stdR b) {nv ns nt nb : Nat} (hnv : M.1 88 26 = nI nv) (lv : nv ≤ 12) (hns : M.1 88 38 = nI ns) (ls : ns ≤ 4) (hnt : M.1 88 43 = nI nt) (lt : nt ≤ 4) (hnb : M.1 88 62 = nI nb) (lb : nb ≤ 10) (t : Int32) : gC 0 0 0 yX9_isShort cX9_isShort 2 (some .int) 140 140 [.ref 88, .int t] M (gI (fun r M9 => ((∃ q, q < nt ∧ t = nI q ∧ r = if M.1 136 q < 3 then 0 else if M.1 137 q ≤ M.1 138 q then 0 else 1) ∨ (¬ vIn t nt ∧ r = -1)) ∧ M9 = gwI M 88 0 0)) := by
  refine gC_i rfl (Nat.le_of_ble_eq_true rfl) (fun G hG hE => ?_)
  change G (140, 0, 0) 0 [some (.ref 88), some (.int t)] [] M
  refine r_aload_n hG dX9_isShort_0 rfl ?_
  refine r_iconst hG (0) dX9_isShort_1 (by decide) ?_
  refine r_putI hG 0 fp_X9_1 dX9_isShort_2 rfl (by decide) rfl rfl rfl ?_
  refine r_iload_n hG dX9_isShort_5 rfl ?_
  refine r_if_lt hG 17 dX9_isShort_6 (by decide) (fun hc6 => ?_) (fun hc6 => ?_)
  · refine r_iconst hG (-1) dX9_isShort_17 (by decide) ?_
    refine r_goto hG 51 dX9_isShort_18 (by decide) ?_
    refine hE _ _ _ _ _ dX9_isShort_51 rfl (Nat.le_refl _) (Nat.le_refl _) rfl ?_
    exact ⟨Or.inr ⟨vIn_no0 (by omega) hc6, rfl⟩, rfl⟩
  · refine r_iload_n hG dX9_isShort_9 rfl ?_
    refine r_aload_n hG dX9_isShort_10 rfl ?_
    refine r_getIv hG 43 (nI nt) fk_X9_294 dX9_isShort_11 rfl (by decide) rfl ((gwI_n (by omega)).trans hnt) ?_
    refine r_icmp_lt hG 21 dX9_isShort_14 (by decide) (fun hc14 => ?_) (fun hc14 => ?_)
    · obtain ⟨tq, htq, et⟩ : vIn t nt := vIn_lt (by omega) hc6 hc14
      subst et
      refine r_aload_n hG dX9_isShort_21 rfl ?_
      refine r_getR hG 68 136 fk_X9_184 dX9_isShort_22 rfl (by decide) rfl (sr hR rfl) ?_
      refine r_iload_n hG dX9_isShort_25 rfl ?_
      refine r_ialdv hG tq (M.1 136 tq) dX9_isShort_26 rfl (by decide) rfl (by omega) (by decide) (gwI_n (by omega)) ?_
      refine r_iconst hG (3) dX9_isShort_27 (by decide) ?_
      refine r_icmp_lt hG 50 dX9_isShort_28 (by decide) (fun hc28 => ?_) (fun hc28 => ?_)
      · refine r_iconst hG (0) dX9_isShort_50 (by decide) ?_
        refine hE _ _ _ _ _ dX9_isShort_51 rfl (Nat.le_refl _) (Nat.le_refl _) rfl ?_
        exact ⟨Or.inl ⟨_, htq, rfl, by simp [hc28]⟩, rfl⟩
      · refine r_aload_n hG dX9_isShort_31 rfl ?_
        refine r_getR hG 69 137 fk_X9_187 dX9_isShort_32 rfl (by decide) rfl (sr hR rfl) ?_
        refine r_iload_n hG dX9_isShort_35 rfl ?_
        refine r_ialdv hG tq (M.1 137 tq) dX9_isShort_36 rfl (by decide) rfl (by omega) (by decide) (gwI_n (by omega)) ?_
        refine r_aload_n hG dX9_isShort_37 rfl ?_
        refine r_getR hG 70 138 fk_X9_190 dX9_isShort_38 rfl (by decide) rfl (sr hR rfl) ?_
        refine r_iload_n hG dX9_isShort_41 rfl ?_
        refine r_ialdv hG tq (M.1 138 tq) dX9_isShort_42 rfl (by decide) rfl (by omega) (by decide) (gwI_n (by omega)) ?_
        refine r_icmp_le hG 50 dX9_isShort_43 (by decide) (fun hc43 => ?_) (fun hc43 => ?_)
        · refine r_iconst hG (0) dX9_isShort_50 (by decide) ?_
          refine hE _ _ _ _ _ dX9_isShort_51 rfl (Nat.le_refl _) (Nat.le_refl _) rfl ?_
          exact ⟨Or.inl ⟨_, htq, rfl, by simp [hc28, hc43]⟩, rfl⟩
        · refine r_iconst hG (1) dX9_isShort_46 (by decide) ?_
          refine r_goto hG 51 dX9_isShort_47 (by decide) ?_
          refine hE _ _ _ _ _ dX9_isShort_51 rfl (Nat.le_refl _) (Nat.le_refl _) rfl ?_
          exact ⟨Or.inl ⟨_, htq, rfl, by simp [hc28, hc43]⟩, rfl⟩
    · refine r_iconst hG (-1) dX9_isShort_17 (by decide) ?_
      refine r_goto hG 51 dX9_isShort_18 (by decide) ?_
      refine hE _ _ _ _ _ dX9_isShort_51 rfl (Nat.le_refl _) (Nat.le_refl _) rfl ?_
      exact ⟨Or.inr ⟨vIn_no1 (by omega) (Int32.not_lt.mp hc14), rfl⟩, rfl⟩

set_option maxRecDepth 100000 in
set_option maxHeartbeats 400000 in
theorem ct_X9_flows {M : gM} {b : Bool} (hR : M.2.2 = stdR b) {nv ns nt nb : Nat} (hnv : M.1 88 26 = nI nv) (lv : nv ≤ 12) (hns : M.1 88 38 = nI ns) (ls : ns ≤ 4) (hnt : M.1 88 43 = nI nt) (lt : nt ≤ 4) (hnb : M.1 88 62 = nI nb) (lb : nb ≤ 10) (s w : Int32) : gC 0 0 0 yX9_flows cX9_flows 3 (some .int) 140 140 [.ref 88, .int s, .int w] M (gI (fun r M9 => ((∃ q, q < ns ∧ s = nI q ∧ r = if w = 0 then M.1 115 q else if w = 1 then M.1 117 q else -1) ∨ (¬ vIn s ns ∧ r = -1)) ∧ M9 = gwI M 88 0 0)) := by
  refine gC_i rfl (Nat.le_of_ble_eq_true rfl) (fun G hG hE => ?_)
  change G (140, 0, 0) 0 [some (.ref 88), some (.int s), some (.int w)] [] M
  refine r_aload_n hG dX9_flows_0 rfl ?_
  refine r_iconst hG (0) dX9_flows_1 (by decide) ?_
  refine r_putI hG 0 fp_X9_1 dX9_flows_2 rfl (by decide) rfl rfl rfl ?_
  refine r_iload_n hG dX9_flows_5 rfl ?_
  refine r_if_lt hG 17 dX9_flows_6 (by decide) (fun hc6 => ?_) (fun hc6 => ?_)
  · refine r_iconst hG (-1) dX9_flows_17 (by decide) ?_
    refine r_goto hG 49 dX9_flows_18 (by decide) ?_
    refine hE _ _ _ _ _ dX9_flows_49 rfl (Nat.le_refl _) (Nat.le_refl _) rfl ?_
    exact ⟨Or.inr ⟨vIn_no0 (by omega) hc6, rfl⟩, rfl⟩
  · refine r_iload_n hG dX9_flows_9 rfl ?_
    refine r_aload_n hG dX9_flows_10 rfl ?_
    refine r_getIv hG 38 (nI ns) fk_X9_291 dX9_flows_11 rfl (by decide) rfl ((gwI_n (by omega)).trans hns) ?_
    refine r_icmp_lt hG 21 dX9_flows_14 (by decide) (fun hc14 => ?_) (fun hc14 => ?_)
    · obtain ⟨sq, hsq, es⟩ : vIn s ns := vIn_lt (by omega) hc6 hc14
      subst es
      refine r_iload_n hG dX9_flows_21 rfl ?_
      refine r_if_ne hG 34 dX9_flows_22 (by decide) (fun hc22 => ?_) (fun hc22 => ?_)
      · refine r_iload_n hG dX9_flows_34 rfl ?_
        refine r_iconst hG (1) dX9_flows_35 (by decide) ?_
        refine r_icmp_ne hG 48 dX9_flows_36 (by decide) (fun hc36 => ?_) (fun hc36 => ?_)
        · refine r_iconst hG (-1) dX9_flows_48 (by decide) ?_
          refine hE _ _ _ _ _ dX9_flows_49 rfl (Nat.le_refl _) (Nat.le_refl _) rfl ?_
          exact ⟨Or.inl ⟨_, hsq, rfl, by simp [hc22, hc36]⟩, rfl⟩
        · refine r_aload_n hG dX9_flows_39 rfl ?_
          refine r_getR hG 41 117 fk_X9_127 dX9_flows_40 rfl (by decide) rfl (sr hR rfl) ?_
          refine r_iload_n hG dX9_flows_43 rfl ?_
          refine r_ialdv hG sq (M.1 117 sq) dX9_flows_44 rfl (by decide) rfl (by omega) (by decide) (gwI_n (by omega)) ?_
          refine r_goto hG 49 dX9_flows_45 (by decide) ?_
          refine hE _ _ _ _ _ dX9_flows_49 rfl (Nat.le_refl _) (Nat.le_refl _) rfl ?_
          exact ⟨Or.inl ⟨_, hsq, rfl, by simp [hc22, hc36]⟩, rfl⟩
      · refine r_aload_n hG dX9_flows_25 rfl ?_
        refine r_getR hG 39 115 fk_X9_121 dX9_flows_26 rfl (by decide) rfl (sr hR rfl) ?_
        refine r_iload_n hG dX9_flows_29 rfl ?_
        refine r_ialdv hG sq (M.1 115 sq) dX9_flows_30 rfl (by decide) rfl (by omega) (by decide) (gwI_n (by omega)) ?_
        refine r_goto hG 49 dX9_flows_31 (by decide) ?_
        refine hE _ _ _ _ _ dX9_flows_49 rfl (Nat.le_refl _) (Nat.le_refl _) rfl ?_
        exact ⟨Or.inl ⟨_, hsq, rfl, by simp [hc22]⟩, rfl⟩
    · refine r_iconst hG (-1) dX9_flows_17 (by decide) ?_
      refine r_goto hG 49 dX9_flows_18 (by decide) ?_
      refine hE _ _ _ _ _ dX9_flows_49 rfl (Nat.le_refl _) (Nat.le_refl _) rfl ?_
      exact ⟨Or.inr ⟨vIn_no1 (by omega) (Int32.not_lt.mp hc14), rfl⟩, rfl⟩

set_option maxRecDepth 100000 in
set_option maxHeartbeats 400000 in
theorem ct_X9_goes {M : gM} {b : Bool} (hR : M.2.2 = stdR b) {nv ns nt nb : Nat} (hnv : M.1 88 26 = nI nv) (lv : nv ≤ 12) (hns : M.1 88 38 = nI ns) (ls : ns ≤ 4) (hnt : M.1 88 43 = nI nt) (lt : nt ≤ 4) (hnb : M.1 88 62 = nI nb) (lb : nb ≤ 10) (t w : Int32) : gC 0 0 0 yX9_goes cX9_goes 3 (some .int) 140 140 [.ref 88, .int t, .int w] M (gI (fun r M9 => ((∃ q, q < nt ∧ t = nI q ∧ r = if w = 0 then M.1 122 q else if w = 1 then M.1 123 q else if w = 2 then M.1 124 q else -1) ∨ (¬ vIn t nt ∧ r = -1)) ∧ M9 = gwI M 88 0 0)) := by
  refine gC_i rfl (Nat.le_of_ble_eq_true rfl) (fun G hG hE => ?_)
  change G (140, 0, 0) 0 [some (.ref 88), some (.int t), some (.int w)] [] M
  refine r_aload_n hG dX9_goes_0 rfl ?_
  refine r_iconst hG (0) dX9_goes_1 (by decide) ?_
  refine r_putI hG 0 fp_X9_1 dX9_goes_2 rfl (by decide) rfl rfl rfl ?_
  refine r_iload_n hG dX9_goes_5 rfl ?_
  refine r_if_lt hG 17 dX9_goes_6 (by decide) (fun hc6 => ?_) (fun hc6 => ?_)
  · refine r_iconst hG (-1) dX9_goes_17 (by decide) ?_
    refine r_goto hG 63 dX9_goes_18 (by decide) ?_
    refine hE _ _ _ _ _ dX9_goes_63 rfl (Nat.le_refl _) (Nat.le_refl _) rfl ?_
    exact ⟨Or.inr ⟨vIn_no0 (by omega) hc6, rfl⟩, rfl⟩
  · refine r_iload_n hG dX9_goes_9 rfl ?_
    refine r_aload_n hG dX9_goes_10 rfl ?_
    refine r_getIv hG 43 (nI nt) fk_X9_294 dX9_goes_11 rfl (by decide) rfl ((gwI_n (by omega)).trans hnt) ?_
    refine r_icmp_lt hG 21 dX9_goes_14 (by decide) (fun hc14 => ?_) (fun hc14 => ?_)
    · obtain ⟨tq, htq, et⟩ : vIn t nt := vIn_lt (by omega) hc6 hc14
      subst et
      refine r_iload_n hG dX9_goes_21 rfl ?_
      refine r_if_ne hG 34 dX9_goes_22 (by decide) (fun hc22 => ?_) (fun hc22 => ?_)
      · refine r_iload_n hG dX9_goes_34 rfl ?_
        refine r_iconst hG (1) dX9_goes_35 (by decide) ?_
        refine r_icmp_ne hG 48 dX9_goes_36 (by decide) (fun hc36 => ?_) (fun hc36 => ?_)
        · refine r_iload_n hG dX9_goes_48 rfl ?_
          refine r_iconst hG (2) dX9_goes_49 (by decide) ?_
          refine r_icmp_ne hG 62 dX9_goes_50 (by decide) (fun hc50 => ?_) (fun hc50 => ?_)
          · refine r_iconst hG (-1) dX9_goes_62 (by decide) ?_
            refine hE _ _ _ _ _ dX9_goes_63 rfl (Nat.le_refl _) (Nat.le_refl _) rfl ?_
            exact ⟨Or.inl ⟨_, htq, rfl, by simp [hc22, hc36, hc50]⟩, rfl⟩
          · refine r_aload_n hG dX9_goes_53 rfl ?_
            refine r_getR hG 49 124 fk_X9_148 dX9_goes_54 rfl (by decide) rfl (sr hR rfl) ?_
            refine r_iload_n hG dX9_goes_57 rfl ?_
            refine r_ialdv hG tq (M.1 124 tq) dX9_goes_58 rfl (by decide) rfl (by omega) (by decide) (gwI_n (by omega)) ?_
            refine r_goto hG 63 dX9_goes_59 (by decide) ?_
            refine hE _ _ _ _ _ dX9_goes_63 rfl (Nat.le_refl _) (Nat.le_refl _) rfl ?_
            exact ⟨Or.inl ⟨_, htq, rfl, by simp [hc22, hc36, hc50]⟩, rfl⟩
        · refine r_aload_n hG dX9_goes_39 rfl ?_
          refine r_getR hG 48 123 fk_X9_145 dX9_goes_40 rfl (by decide) rfl (sr hR rfl) ?_
          refine r_iload_n hG dX9_goes_43 rfl ?_
          refine r_ialdv hG tq (M.1 123 tq) dX9_goes_44 rfl (by decide) rfl (by omega) (by decide) (gwI_n (by omega)) ?_
          refine r_goto hG 63 dX9_goes_45 (by decide) ?_
          refine hE _ _ _ _ _ dX9_goes_63 rfl (Nat.le_refl _) (Nat.le_refl _) rfl ?_
          exact ⟨Or.inl ⟨_, htq, rfl, by simp [hc22, hc36]⟩, rfl⟩
      · refine r_aload_n hG dX9_goes_25 rfl ?_
        refine r_getR hG 47 122 fk_X9_142 dX9_goes_26 rfl (by decide) rfl (sr hR rfl) ?_
        refine r_iload_n hG dX9_goes_29 rfl ?_
        refine r_ialdv hG tq (M.1 122 tq) dX9_goes_30 rfl (by decide) rfl (by omega) (by decide) (gwI_n (by omega)) ?_
        refine r_goto hG 63 dX9_goes_31 (by decide) ?_
        refine hE _ _ _ _ _ dX9_goes_63 rfl (Nat.le_refl _) (Nat.le_refl _) rfl ?_
        exact ⟨Or.inl ⟨_, htq, rfl, by simp [hc22]⟩, rfl⟩
    · refine r_iconst hG (-1) dX9_goes_17 (by decide) ?_
      refine r_goto hG 63 dX9_goes_18 (by decide) ?_
      refine hE _ _ _ _ _ dX9_goes_63 rfl (Nat.le_refl _) (Nat.le_refl _) rfl ?_
      exact ⟨Or.inr ⟨vIn_no1 (by omega) (Int32.not_lt.mp hc14), rfl⟩, rfl⟩

set_option maxRecDepth 100000 in
set_option maxHeartbeats 400000 in
theorem ct_X9_drill {M : gM} {b : Bool} (hR : M.2.2 = stdR b) {nv ns nt nb : Nat} (hnv : M.1 88 26 = nI nv) (lv : nv ≤ 12) (hns : M.1 88 38 = nI ns) (ls : ns ≤ 4) (hnt : M.1 88 43 = nI nt) (lt : nt ≤ 4) (hnb : M.1 88 62 = nI nb) (lb : nb ≤ 10) (hbv : ∀ q, q < nb → ∃ u, u < nv ∧ M.1 132 q = nI u) (x y : Int32) : gC 1 0 0 yX9_drill cX9_drill 3 (some .boolean) 140 140 [.ref 88, .int x, .int y] M (gI (fun r M9 => (∃ q u, q < nb ∧ u < nv ∧ M.1 132 q = nI u ∧ x = nI q ∧ M.1 135 q = 0 ∧ (0 ≤ y ∧ y ≤ 5000) ∧ r = 1 ∧ M9 = gwI (gwI (gwI M 88 0 0) 135 q 1) 109 u (M.1 109 u + y)) ∨ (¬ (∃ q, (q < nb ∧ x = nI q) ∧ M.1 135 q = 0 ∧ (0 ≤ y ∧ y ≤ 5000)) ∧ r = 0 ∧ M9 = gwI M 88 0 0))) := by
  refine gC_i rfl (Nat.le_of_ble_eq_true rfl) (fun G hG hE => ?_)
  change G (140, 0, 0) 0 [some (.ref 88), some (.int x), some (.int y)] [] M
  refine r_aload_n hG dX9_drill_0 rfl ?_
  refine r_iconst hG (0) dX9_drill_1 (by decide) ?_
  refine r_putI hG 0 fp_X9_1 dX9_drill_2 rfl (by decide) rfl rfl rfl ?_
  refine r_iload_n hG dX9_drill_5 rfl ?_
  refine r_if_lt hG 37 dX9_drill_6 (by decide) (fun hc6 => ?_) (fun hc6 => ?_)
  · refine r_iconst hG (0) dX9_drill_37 (by decide) ?_
    refine hE _ _ _ _ _ dX9_drill_38 rfl (Nat.le_refl _) (Nat.le_refl _) rfl ?_
    refine Or.inr ⟨?_, rfl, rfl⟩
    rintro ⟨q, ⟨q1, q2⟩, q3, q4⟩
    first | exact vIn_no0 (by omega) hc6 ⟨q, q1, q2⟩ | exact vIn_no1 (by omega) hc14 ⟨q, q1, q2⟩ | exact hw31 q4 | exact hc23 (by rw [neq_t (by omega) (by omega) q2]; exact q3)
  · refine r_iload_n hG dX9_drill_9 rfl ?_
    refine r_aload_n hG dX9_drill_10 rfl ?_
    refine r_getIv hG 62 (nI nb) fk_X9_358 dX9_drill_11 rfl (by decide) rfl ((gwI_n (by omega)).trans hnb) ?_
    refine r_icmp_ge hG 37 dX9_drill_14 (by decide) (fun hc14 => ?_) (fun hc14 => ?_)
    · refine r_iconst hG (0) dX9_drill_37 (by decide) ?_
      refine hE _ _ _ _ _ dX9_drill_38 rfl (Nat.le_refl _) (Nat.le_refl _) rfl ?_
      refine Or.inr ⟨?_, rfl, rfl⟩
      rintro ⟨q, ⟨q1, q2⟩, q3, q4⟩
      first | exact vIn_no0 (by omega) hc6 ⟨q, q1, q2⟩ | exact vIn_no1 (by omega) hc14 ⟨q, q1, q2⟩ | exact hw31 q4 | exact hc23 (by rw [neq_t (by omega) (by omega) q2]; exact q3)
    · obtain ⟨xq, hxq, ex⟩ : vIn x nb := vIn_of (by omega) hc6 hc14
      subst ex
      obtain ⟨u, hu, eu⟩ := hbv xq hxq
      refine r_aload_n hG dX9_drill_17 rfl ?_
      refine r_getR hG 66 135 fk_X9_181 dX9_drill_18 rfl (by decide) rfl (sr hR rfl) ?_
      refine r_iload_n hG dX9_drill_21 rfl ?_
      refine r_zaldv hG xq (M.1 135 xq) dX9_drill_22 rfl (by decide) rfl (by omega) (by decide) (gwI_n (by omega)) ?_
      refine r_if_ne hG 37 dX9_drill_23 (by decide) (fun hc23 => ?_) (fun hc23 => ?_)
      · refine r_iconst hG (0) dX9_drill_37 (by decide) ?_
        refine hE _ _ _ _ _ dX9_drill_38 rfl (Nat.le_refl _) (Nat.le_refl _) rfl ?_
        refine Or.inr ⟨?_, rfl, rfl⟩
        rintro ⟨q, ⟨q1, q2⟩, q3, q4⟩
        first | exact vIn_no0 (by omega) hc6 ⟨q, q1, q2⟩ | exact vIn_no1 (by omega) hc14 ⟨q, q1, q2⟩ | exact hw31 q4 | exact hc23 (by rw [neq_t (by omega) (by omega) q2]; exact q3)
      · refine r_iload_n hG dX9_drill_26 rfl ?_
        refine r_iconst hG (0) dX9_drill_27 (by decide) ?_
        refine r_sipush hG (5000) dX9_drill_28 (by decide) ?_
        refine r_cSI3 hG mk_X9_282 dX9_drill_31 (ct_X9_within _ _ _) (by decide) ⟨Nat.le_refl _, Nat.le_refl _⟩ (Nat.le_of_ble_eq_true rfl) (fun x9 M9 h9 => ?_)
        obtain ⟨h8, e9⟩ := h9; rw [e9]; rcases h8 with ⟨e8, hw31⟩ | ⟨e8, hw31⟩
        · rw [e8]
          refine r_if_ne hG 39 dX9_drill_34 (by decide) (fun hc34 => ?_) (fun hc34 => absurd hc34 (by decide))
          refine r_aload_n hG dX9_drill_39 rfl ?_
          refine r_getR hG 66 135 fk_X9_181 dX9_drill_40 rfl (by decide) rfl (sr hR rfl) ?_
          refine r_iload_n hG dX9_drill_43 rfl ?_
          refine r_iconst hG (1) dX9_drill_44 (by decide) ?_
          refine r_zast hG xq dX9_drill_45 rfl (by decide) rfl (by omega) (by decide) rfl ?_
          refine r_aload_n hG dX9_drill_46 rfl ?_
          refine r_getR hG 31 109 fk_X9_103 dX9_drill_47 rfl (by decide) rfl (sr hR rfl) ?_
          refine r_aload_n hG dX9_drill_50 rfl ?_
          refine r_getR hG 63 132 fk_X9_172 dX9_drill_51 rfl (by decide) rfl (sr hR rfl) ?_
          refine r_iload_n hG dX9_drill_54 rfl ?_
          refine r_ialdv hG xq (nI u) dX9_drill_55 rfl (by decide) rfl (by omega) (by decide) (((gwI_n (by omega)).trans (gwI_n (by omega))).trans eu) ?_
          refine r_dup2 hG dX9_drill_56 rfl rfl ?_
          refine r_ialdv hG u (M.1 109 u) dX9_drill_57 rfl (by decide) rfl (by omega) (by decide) ((gwI_n (by omega)).trans (gwI_n (by omega))) ?_
          refine r_iload_n hG dX9_drill_58 rfl ?_
          refine r_iadd hG dX9_drill_59 ?_
          refine r_iast hG u dX9_drill_60 rfl (by decide) rfl (by omega) (by decide) ?_
          refine r_iconst hG (1) dX9_drill_61 (by decide) ?_
          refine hE _ _ _ _ _ dX9_drill_62 rfl (Nat.le_refl _) (Nat.le_refl _) rfl ?_
          exact Or.inl ⟨_, _, hxq, hu, eu, rfl, hc23, hw31, rfl, rfl⟩
        · rw [e8]
          refine r_if_ne hG 39 dX9_drill_34 (by decide) (fun hc34 => absurd hc34 (by decide)) (fun hc34 => ?_)
          refine r_iconst hG (0) dX9_drill_37 (by decide) ?_
          refine hE _ _ _ _ _ dX9_drill_38 rfl (Nat.le_refl _) (Nat.le_refl _) rfl ?_
          refine Or.inr ⟨?_, rfl, rfl⟩
          rintro ⟨q, ⟨q1, q2⟩, q3, q4⟩
          first | exact vIn_no0 (by omega) hc6 ⟨q, q1, q2⟩ | exact vIn_no1 (by omega) hc14 ⟨q, q1, q2⟩ | exact hw31 q4 | exact hc23 (by rw [neq_t (by omega) (by omega) q2]; exact q3)


def fX8_village (M : gM) (nv : Nat) (p be t x : Int32) : gM := (gwI (gwI (gwI (gwI (gwI M (2 * nv + 42) 0 p) (2 * nv + 42) 1 be) (2 * nv + 42) 2 t) (2 * nv + 42) 3 x) 0 7 ((nI nv) + (1)))
set_option maxRecDepth 100000 in
set_option maxHeartbeats 1000000 in
theorem ct_X8_village {M : gM} {b : Bool} (hR : M.2.2 = stdR b) {nv ns nt nb : Nat} (hnv : M.1 0 7 = nI nv) (lv : nv ≤ 12) (hns : M.1 0 8 = nI ns) (ls : ns ≤ 4) (hnt : M.1 0 9 = nI nt) (lt : nt ≤ 4) (hnb : M.1 0 10 = nI nb) (lb : nb ≤ 10) (p be t x : Int32) : gC 1 0 0 yX8_village cX8_village 7 (some .int) 140 140 [.ref 0, .int p, .int be, .int t, .int x] M (gI (fun r M9 => (((1 ≤ p ∧ p ≤ 2000) ∧ (0 ≤ be ∧ be ≤ 2000) ∧ (1 ≤ t ∧ t ≤ 100000) ∧ (0 ≤ x ∧ x ≤ t)) ∧ nv < 12 ∧ r = nI nv ∧ M9 = fX8_village M nv p be t x) ∨ (¬ (((1 ≤ p ∧ p ≤ 2000) ∧ (0 ≤ be ∧ be ≤ 2000) ∧ (1 ≤ t ∧ t ≤ 100000) ∧ (0 ≤ x ∧ x ≤ t)) ∧ nv < 12) ∧ r = (-1) ∧ M9 = M))) := by
  refine gC_i rfl (Nat.le_of_ble_eq_true rfl) (fun G hG hE => ?_)
  change G (140, 0, 0) 0 [some (.ref 0), some (.int p), some (.int be), some (.int t), some (.int x), none, none] [] M
  refine r_iload_n hG dX8_village_0 rfl ?_
  refine r_iconst hG (1) dX8_village_1 (by decide) ?_
  refine r_sipush hG (2000) dX8_village_2 (by decide) ?_
  refine r_cSI3 hG mk_X8_55 dX8_village_5 (ct_X8_within _ _ _) (by decide) ⟨Nat.le_refl _, Nat.le_refl _⟩ (Nat.le_of_ble_eq_true rfl) (fun x9 M9 h9 => ?_)
  obtain ⟨h8, e9⟩ := h9; rw [e9]; rcases h8 with ⟨e8, hw5⟩ | ⟨e8, hw5⟩
  · rw [e8]
    refine r_if_eq hG 46 dX8_village_8 (by decide) (fun hc8 => absurd hc8 (by decide)) (fun hc8 => ?_)
    refine r_iload_n hG dX8_village_11 rfl ?_
    refine r_iconst hG (0) dX8_village_12 (by decide) ?_
    refine r_sipush hG (2000) dX8_village_13 (by decide) ?_
    refine r_cSI3 hG mk_X8_55 dX8_village_16 (ct_X8_within _ _ _) (by decide) ⟨Nat.le_refl _, Nat.le_refl _⟩ (Nat.le_of_ble_eq_true rfl) (fun x9 M9 h9 => ?_)
    obtain ⟨h8, e9⟩ := h9; rw [e9]; rcases h8 with ⟨e8, hw16⟩ | ⟨e8, hw16⟩
    · rw [e8]
      refine r_if_eq hG 46 dX8_village_19 (by decide) (fun hc19 => absurd hc19 (by decide)) (fun hc19 => ?_)
      refine r_iload_n hG dX8_village_22 rfl ?_
      refine r_iconst hG (1) dX8_village_23 (by decide) ?_
      refine r_ldc hG (100000) dX8_village_24 ck_X8_59 ?_
      refine r_cSI3 hG mk_X8_55 dX8_village_26 (ct_X8_within _ _ _) (by decide) ⟨Nat.le_refl _, Nat.le_refl _⟩ (Nat.le_of_ble_eq_true rfl) (fun x9 M9 h9 => ?_)
      obtain ⟨h8, e9⟩ := h9; rw [e9]; rcases h8 with ⟨e8, hw26⟩ | ⟨e8, hw26⟩
      · rw [e8]
        refine r_if_eq hG 46 dX8_village_29 (by decide) (fun hc29 => absurd hc29 (by decide)) (fun hc29 => ?_)
        refine r_iload hG dX8_village_32 rfl ?_
        refine r_iconst hG (0) dX8_village_34 (by decide) ?_
        refine r_iload_n hG dX8_village_35 rfl ?_
        refine r_cSI3 hG mk_X8_55 dX8_village_36 (ct_X8_within _ _ _) (by decide) ⟨Nat.le_refl _, Nat.le_refl _⟩ (Nat.le_of_ble_eq_true rfl) (fun x9 M9 h9 => ?_)
        obtain ⟨h8, e9⟩ := h9; rw [e9]; rcases h8 with ⟨e8, hw36⟩ | ⟨e8, hw36⟩
        · rw [e8]
          refine r_if_eq hG 46 dX8_village_39 (by decide) (fun hc39 => absurd hc39 (by decide)) (fun hc39 => ?_)
          refine r_iconst hG (1) dX8_village_42 (by decide) ?_
          refine r_goto hG 47 dX8_village_43 (by decide) ?_
          refine r_istore hG dX8_village_47 (by decide) ?_
          refine r_loc [some (.ref 0), some (.int p), some (.int be), some (.int t), some (.int x), some (.int (1)), none] rfl ?_
          refine r_iload hG dX8_village_49 rfl ?_
          refine r_if_eq hG 63 dX8_village_51 (by decide) (fun hc51 => absurd hc51 (by decide)) (fun hc51 => ?_)
          refine r_aload_n hG dX8_village_54 rfl ?_
          refine r_getIv hG 7 (nI nv) fk_X8_60 dX8_village_55 rfl (by decide) rfl hnv ?_
          refine r_bipush hG (12) dX8_village_58 (by decide) ?_
          refine r_icmp_lt hG 65 dX8_village_60 (by decide) (fun hc60 => ?_) (fun hc60 => ?_)
          · have hn60 := nlt_t (a := nv) (b := 12) (by omega) (by omega) hc60
            refine r_aload_n hG dX8_village_65 rfl ?_
            refine r_getR hG 0 1 fk_X8_11 dX8_village_66 rfl (by decide) rfl (sr hR rfl) ?_
            refine r_aload_n hG dX8_village_69 rfl ?_
            refine r_getIv hG 7 (nI nv) fk_X8_60 dX8_village_70 rfl (by decide) rfl hnv ?_
            refine r_aald4 hG nv (2 * nv + 42) dX8_village_73 rfl (by decide) rfl (by omega) (by decide) (sr hR rfl) ?_
            refine r_astore hG dX8_village_74 (by decide) ?_
            refine r_loc [some (.ref 0), some (.int p), some (.int be), some (.int t), some (.int x), some (.int (1)), some (.ref (2 * nv + 42))] rfl ?_
            refine r_aload hG dX8_village_76 rfl ?_
            refine r_iload_n hG dX8_village_78 rfl ?_
            refine r_putI hG 0 fp_X8_64 dX8_village_79 (gkV (by omega)) (show (2 * nv + 42) < 140 by omega) rfl rfl rfl ?_
            refine r_aload hG dX8_village_82 rfl ?_
            refine r_iload_n hG dX8_village_84 rfl ?_
            refine r_putI hG 1 fp_X8_67 dX8_village_85 (gkV (by omega)) (show (2 * nv + 42) < 140 by omega) rfl rfl rfl ?_
            refine r_aload hG dX8_village_88 rfl ?_
            refine r_iload_n hG dX8_village_90 rfl ?_
            refine r_putI hG 2 fp_X8_70 dX8_village_91 (gkV (by omega)) (show (2 * nv + 42) < 140 by omega) rfl rfl rfl ?_
            refine r_aload hG dX8_village_94 rfl ?_
            refine r_iload hG dX8_village_96 rfl ?_
            refine r_putI hG 3 fp_X8_73 dX8_village_98 (gkV (by omega)) (show (2 * nv + 42) < 140 by omega) rfl rfl rfl ?_
            refine r_aload_n hG dX8_village_101 rfl ?_
            refine r_dup hG dX8_village_102 rfl ?_
            refine r_getIv hG 7 (nI nv) fk_X8_60 dX8_village_103 rfl (by decide) rfl (((gwI_n (by omega)).trans ((gwI_n (by omega)).trans ((gwI_n (by omega)).trans (gwI_n (by omega))))).trans hnv) ?_
            refine r_iconst hG (1) dX8_village_106 (by decide) ?_
            refine r_iadd hG dX8_village_107 ?_
            refine r_putI hG 7 fp_X8_60 dX8_village_108 rfl (by decide) rfl rfl rfl ?_
            refine r_aload_n hG dX8_village_111 rfl ?_
            refine r_getIv hG 7 ((nI nv) + (1)) fk_X8_60 dX8_village_112 rfl (by decide) rfl gwI_s ?_
            refine r_iconst hG (1) dX8_village_115 (by decide) ?_
            refine r_isub hG dX8_village_116 ?_
            refine hE _ _ _ _ _ dX8_village_117 rfl (Nat.le_refl _) (Nat.le_refl _) rfl ?_
            exact Or.inl ⟨⟨hw5, hw16, hw26, hw36⟩, by omega, by rw [nI_1, nI_pred], rfl⟩
          · have hn60 := nlt_f (a := nv) (b := 12) (by omega) (by omega) hc60
            refine r_iconst hG (-1) dX8_village_63 (by decide) ?_
            refine hE _ _ _ _ _ dX8_village_64 rfl (Nat.le_refl _) (Nat.le_refl _) rfl ?_
            refine Or.inr ⟨?_, rfl, rfl⟩
            rintro ⟨⟨q1, q2, q3, q4⟩, q0⟩
            first | exact hw5 q1 | exact hw16 q2 | exact hw26 q3 | exact hw36 q4 | omega
        · rw [e8]
          refine r_if_eq hG 46 dX8_village_39 (by decide) (fun hc39 => ?_) (fun hc39 => absurd hc39 (by decide))
          refine r_iconst hG (0) dX8_village_46 (by decide) ?_
          refine r_istore hG dX8_village_47 (by decide) ?_
          refine r_loc [some (.ref 0), some (.int p), some (.int be), some (.int t), some (.int x), some (.int (0)), none] rfl ?_
          refine r_iload hG dX8_village_49 rfl ?_
          refine r_if_eq hG 63 dX8_village_51 (by decide) (fun hc51 => ?_) (fun hc51 => absurd hc51 (by decide))
          refine r_iconst hG (-1) dX8_village_63 (by decide) ?_
          refine hE _ _ _ _ _ dX8_village_64 rfl (Nat.le_refl _) (Nat.le_refl _) rfl ?_
          refine Or.inr ⟨?_, rfl, rfl⟩
          rintro ⟨⟨q1, q2, q3, q4⟩, q0⟩
          first | exact hw5 q1 | exact hw16 q2 | exact hw26 q3 | exact hw36 q4 | omega
      · rw [e8]
        refine r_if_eq hG 46 dX8_village_29 (by decide) (fun hc29 => ?_) (fun hc29 => absurd hc29 (by decide))
        refine r_iconst hG (0) dX8_village_46 (by decide) ?_
        refine r_istore hG dX8_village_47 (by decide) ?_
        refine r_loc [some (.ref 0), some (.int p), some (.int be), some (.int t), some (.int x), some (.int (0)), none] rfl ?_
        refine r_iload hG dX8_village_49 rfl ?_
        refine r_if_eq hG 63 dX8_village_51 (by decide) (fun hc51 => ?_) (fun hc51 => absurd hc51 (by decide))
        refine r_iconst hG (-1) dX8_village_63 (by decide) ?_
        refine hE _ _ _ _ _ dX8_village_64 rfl (Nat.le_refl _) (Nat.le_refl _) rfl ?_
        refine Or.inr ⟨?_, rfl, rfl⟩
        rintro ⟨⟨q1, q2, q3, q4⟩, q0⟩
        first | exact hw5 q1 | exact hw16 q2 | exact hw26 q3 | exact hw36 q4 | omega
    · rw [e8]
      refine r_if_eq hG 46 dX8_village_19 (by decide) (fun hc19 => ?_) (fun hc19 => absurd hc19 (by decide))
      refine r_iconst hG (0) dX8_village_46 (by decide) ?_
      refine r_istore hG dX8_village_47 (by decide) ?_
      refine r_loc [some (.ref 0), some (.int p), some (.int be), some (.int t), some (.int x), some (.int (0)), none] rfl ?_
      refine r_iload hG dX8_village_49 rfl ?_
      refine r_if_eq hG 63 dX8_village_51 (by decide) (fun hc51 => ?_) (fun hc51 => absurd hc51 (by decide))
      refine r_iconst hG (-1) dX8_village_63 (by decide) ?_
      refine hE _ _ _ _ _ dX8_village_64 rfl (Nat.le_refl _) (Nat.le_refl _) rfl ?_
      refine Or.inr ⟨?_, rfl, rfl⟩
      rintro ⟨⟨q1, q2, q3, q4⟩, q0⟩
      first | exact hw5 q1 | exact hw16 q2 | exact hw26 q3 | exact hw36 q4 | omega
  · rw [e8]
    refine r_if_eq hG 46 dX8_village_8 (by decide) (fun hc8 => ?_) (fun hc8 => absurd hc8 (by decide))
    refine r_iconst hG (0) dX8_village_46 (by decide) ?_
    refine r_istore hG dX8_village_47 (by decide) ?_
    refine r_loc [some (.ref 0), some (.int p), some (.int be), some (.int t), some (.int x), some (.int (0)), none] rfl ?_
    refine r_iload hG dX8_village_49 rfl ?_
    refine r_if_eq hG 63 dX8_village_51 (by decide) (fun hc51 => ?_) (fun hc51 => absurd hc51 (by decide))
    refine r_iconst hG (-1) dX8_village_63 (by decide) ?_
    refine hE _ _ _ _ _ dX8_village_64 rfl (Nat.le_refl _) (Nat.le_refl _) rfl ?_
    refine Or.inr ⟨?_, rfl, rfl⟩
    rintro ⟨⟨q1, q2, q3, q4⟩, q0⟩
    first | exact hw5 q1 | exact hw16 q2 | exact hw26 q3 | exact hw36 q4 | omega

def fX8_spring (M : gM) (ns : Nat) (f p fa : Int32) : gM := (gwI (gwI (gwI (gwI (gwI M (2 * ns + 66) 0 f) (2 * ns + 66) 1 p) (2 * ns + 66) 2 p) (2 * ns + 66) 3 fa) 0 8 ((nI ns) + (1)))
set_option maxRecDepth 100000 in
set_option maxHeartbeats 1000000 in
theorem ct_X8_spring {M : gM} {b : Bool} (hR : M.2.2 = stdR b) {nv ns nt nb : Nat} (hnv : M.1 0 7 = nI nv) (lv : nv ≤ 12) (hns : M.1 0 8 = nI ns) (ls : ns ≤ 4) (hnt : M.1 0 9 = nI nt) (lt : nt ≤ 4) (hnb : M.1 0 10 = nI nb) (lb : nb ≤ 10) (f p fa : Int32) : gC 1 0 0 yX8_spring cX8_spring 6 (some .int) 140 140 [.ref 0, .int f, .int p, .int fa] M (gI (fun r M9 => (((0 ≤ f ∧ f ≤ 100000) ∧ (1 ≤ p ∧ p ≤ 200000) ∧ (0 ≤ fa ∧ fa ≤ 100)) ∧ ns < 4 ∧ r = nI ns ∧ M9 = fX8_spring M ns f p fa) ∨ (¬ (((0 ≤ f ∧ f ≤ 100000) ∧ (1 ≤ p ∧ p ≤ 200000) ∧ (0 ≤ fa ∧ fa ≤ 100)) ∧ ns < 4) ∧ r = (-1) ∧ M9 = M))) := by
  refine gC_i rfl (Nat.le_of_ble_eq_true rfl) (fun G hG hE => ?_)
  change G (140, 0, 0) 0 [some (.ref 0), some (.int f), some (.int p), some (.int fa), none, none] [] M
  refine r_iload_n hG dX8_spring_0 rfl ?_
  refine r_iconst hG (0) dX8_spring_1 (by decide) ?_
  refine r_ldc hG (100000) dX8_spring_2 ck_X8_59 ?_
  refine r_cSI3 hG mk_X8_55 dX8_spring_4 (ct_X8_within _ _ _) (by decide) ⟨Nat.le_refl _, Nat.le_refl _⟩ (Nat.le_of_ble_eq_true rfl) (fun x9 M9 h9 => ?_)
  obtain ⟨h8, e9⟩ := h9; rw [e9]; rcases h8 with ⟨e8, hw4⟩ | ⟨e8, hw4⟩
  · rw [e8]
    refine r_if_eq hG 34 dX8_spring_7 (by decide) (fun hc7 => absurd hc7 (by decide)) (fun hc7 => ?_)
    refine r_iload_n hG dX8_spring_10 rfl ?_
    refine r_iconst hG (1) dX8_spring_11 (by decide) ?_
    refine r_ldc hG (200000) dX8_spring_12 ck_X8_76 ?_
    refine r_cSI3 hG mk_X8_55 dX8_spring_14 (ct_X8_within _ _ _) (by decide) ⟨Nat.le_refl _, Nat.le_refl _⟩ (Nat.le_of_ble_eq_true rfl) (fun x9 M9 h9 => ?_)
    obtain ⟨h8, e9⟩ := h9; rw [e9]; rcases h8 with ⟨e8, hw14⟩ | ⟨e8, hw14⟩
    · rw [e8]
      refine r_if_eq hG 34 dX8_spring_17 (by decide) (fun hc17 => absurd hc17 (by decide)) (fun hc17 => ?_)
      refine r_iload_n hG dX8_spring_20 rfl ?_
      refine r_iconst hG (0) dX8_spring_21 (by decide) ?_
      refine r_bipush hG (100) dX8_spring_22 (by decide) ?_
      refine r_cSI3 hG mk_X8_55 dX8_spring_24 (ct_X8_within _ _ _) (by decide) ⟨Nat.le_refl _, Nat.le_refl _⟩ (Nat.le_of_ble_eq_true rfl) (fun x9 M9 h9 => ?_)
      obtain ⟨h8, e9⟩ := h9; rw [e9]; rcases h8 with ⟨e8, hw24⟩ | ⟨e8, hw24⟩
      · rw [e8]
        refine r_if_eq hG 34 dX8_spring_27 (by decide) (fun hc27 => absurd hc27 (by decide)) (fun hc27 => ?_)
        refine r_iconst hG (1) dX8_spring_30 (by decide) ?_
        refine r_goto hG 35 dX8_spring_31 (by decide) ?_
        refine r_istore hG dX8_spring_35 (by decide) ?_
        refine r_loc [some (.ref 0), some (.int f), some (.int p), some (.int fa), some (.int (1)), none] rfl ?_
        refine r_iload hG dX8_spring_37 rfl ?_
        refine r_if_eq hG 50 dX8_spring_39 (by decide) (fun hc39 => absurd hc39 (by decide)) (fun hc39 => ?_)
        refine r_aload_n hG dX8_spring_42 rfl ?_
        refine r_getIv hG 8 (nI ns) fk_X8_77 dX8_spring_43 rfl (by decide) rfl hns ?_
        refine r_iconst hG (4) dX8_spring_46 (by decide) ?_
        refine r_icmp_lt hG 52 dX8_spring_47 (by decide) (fun hc47 => ?_) (fun hc47 => ?_)
        · have hn47 := nlt_t (a := ns) (b := 4) (by omega) (by omega) hc47
          refine r_aload_n hG dX8_spring_52 rfl ?_
          refine r_getR hG 1 2 fk_X8_17 dX8_spring_53 rfl (by decide) rfl (sr hR rfl) ?_
          refine r_aload_n hG dX8_spring_56 rfl ?_
          refine r_getIv hG 8 (nI ns) fk_X8_77 dX8_spring_57 rfl (by decide) rfl hns ?_
          refine r_aald5 hG ns (2 * ns + 66) dX8_spring_60 rfl (by decide) rfl (by omega) (by decide) (sr hR rfl) ?_
          refine r_astore hG dX8_spring_61 (by decide) ?_
          refine r_loc [some (.ref 0), some (.int f), some (.int p), some (.int fa), some (.int (1)), some (.ref (2 * ns + 66))] rfl ?_
          refine r_aload hG dX8_spring_63 rfl ?_
          refine r_iload_n hG dX8_spring_65 rfl ?_
          refine r_putI hG 0 fp_X8_80 dX8_spring_66 (gkS (by omega)) (show (2 * ns + 66) < 140 by omega) rfl rfl rfl ?_
          refine r_aload hG dX8_spring_69 rfl ?_
          refine r_iload_n hG dX8_spring_71 rfl ?_
          refine r_putI hG 1 fp_X8_83 dX8_spring_72 (gkS (by omega)) (show (2 * ns + 66) < 140 by omega) rfl rfl rfl ?_
          refine r_aload hG dX8_spring_75 rfl ?_
          refine r_iload_n hG dX8_spring_77 rfl ?_
          refine r_putI hG 2 fp_X8_86 dX8_spring_78 (gkS (by omega)) (show (2 * ns + 66) < 140 by omega) rfl rfl rfl ?_
          refine r_aload hG dX8_spring_81 rfl ?_
          refine r_iload_n hG dX8_spring_83 rfl ?_
          refine r_putI hG 3 fp_X8_87 dX8_spring_84 (gkS (by omega)) (show (2 * ns + 66) < 140 by omega) rfl rfl rfl ?_
          refine r_aload_n hG dX8_spring_87 rfl ?_
          refine r_dup hG dX8_spring_88 rfl ?_
          refine r_getIv hG 8 (nI ns) fk_X8_77 dX8_spring_89 rfl (by decide) rfl (((gwI_n (by omega)).trans ((gwI_n (by omega)).trans ((gwI_n (by omega)).trans (gwI_n (by omega))))).trans hns) ?_
          refine r_iconst hG (1) dX8_spring_92 (by decide) ?_
          refine r_iadd hG dX8_spring_93 ?_
          refine r_putI hG 8 fp_X8_77 dX8_spring_94 rfl (by decide) rfl rfl rfl ?_
          refine r_aload_n hG dX8_spring_97 rfl ?_
          refine r_getIv hG 8 ((nI ns) + (1)) fk_X8_77 dX8_spring_98 rfl (by decide) rfl gwI_s ?_
          refine r_iconst hG (1) dX8_spring_101 (by decide) ?_
          refine r_isub hG dX8_spring_102 ?_
          refine hE _ _ _ _ _ dX8_spring_103 rfl (Nat.le_refl _) (Nat.le_refl _) rfl ?_
          exact Or.inl ⟨⟨hw4, hw14, hw24⟩, by omega, by rw [nI_1, nI_pred], rfl⟩
        · have hn47 := nlt_f (a := ns) (b := 4) (by omega) (by omega) hc47
          refine r_iconst hG (-1) dX8_spring_50 (by decide) ?_
          refine hE _ _ _ _ _ dX8_spring_51 rfl (Nat.le_refl _) (Nat.le_refl _) rfl ?_
          refine Or.inr ⟨?_, rfl, rfl⟩
          rintro ⟨⟨q1, q2, q3⟩, q0⟩
          first | exact hw4 q1 | exact hw14 q2 | exact hw24 q3 | omega
      · rw [e8]
        refine r_if_eq hG 34 dX8_spring_27 (by decide) (fun hc27 => ?_) (fun hc27 => absurd hc27 (by decide))
        refine r_iconst hG (0) dX8_spring_34 (by decide) ?_
        refine r_istore hG dX8_spring_35 (by decide) ?_
        refine r_loc [some (.ref 0), some (.int f), some (.int p), some (.int fa), some (.int (0)), none] rfl ?_
        refine r_iload hG dX8_spring_37 rfl ?_
        refine r_if_eq hG 50 dX8_spring_39 (by decide) (fun hc39 => ?_) (fun hc39 => absurd hc39 (by decide))
        refine r_iconst hG (-1) dX8_spring_50 (by decide) ?_
        refine hE _ _ _ _ _ dX8_spring_51 rfl (Nat.le_refl _) (Nat.le_refl _) rfl ?_
        refine Or.inr ⟨?_, rfl, rfl⟩
        rintro ⟨⟨q1, q2, q3⟩, q0⟩
        first | exact hw4 q1 | exact hw14 q2 | exact hw24 q3 | omega
    · rw [e8]
      refine r_if_eq hG 34 dX8_spring_17 (by decide) (fun hc17 => ?_) (fun hc17 => absurd hc17 (by decide))
      refine r_iconst hG (0) dX8_spring_34 (by decide) ?_
      refine r_istore hG dX8_spring_35 (by decide) ?_
      refine r_loc [some (.ref 0), some (.int f), some (.int p), some (.int fa), some (.int (0)), none] rfl ?_
      refine r_iload hG dX8_spring_37 rfl ?_
      refine r_if_eq hG 50 dX8_spring_39 (by decide) (fun hc39 => ?_) (fun hc39 => absurd hc39 (by decide))
      refine r_iconst hG (-1) dX8_spring_50 (by decide) ?_
      refine hE _ _ _ _ _ dX8_spring_51 rfl (Nat.le_refl _) (Nat.le_refl _) rfl ?_
      refine Or.inr ⟨?_, rfl, rfl⟩
      rintro ⟨⟨q1, q2, q3⟩, q0⟩
      first | exact hw4 q1 | exact hw14 q2 | exact hw24 q3 | omega
  · rw [e8]
    refine r_if_eq hG 34 dX8_spring_7 (by decide) (fun hc7 => ?_) (fun hc7 => absurd hc7 (by decide))
    refine r_iconst hG (0) dX8_spring_34 (by decide) ?_
    refine r_istore hG dX8_spring_35 (by decide) ?_
    refine r_loc [some (.ref 0), some (.int f), some (.int p), some (.int fa), some (.int (0)), none] rfl ?_
    refine r_iload hG dX8_spring_37 rfl ?_
    refine r_if_eq hG 50 dX8_spring_39 (by decide) (fun hc39 => ?_) (fun hc39 => absurd hc39 (by decide))
    refine r_iconst hG (-1) dX8_spring_50 (by decide) ?_
    refine hE _ _ _ _ _ dX8_spring_51 rfl (Nat.le_refl _) (Nat.le_refl _) rfl ?_
    refine Or.inr ⟨?_, rfl, rfl⟩
    rintro ⟨⟨q1, q2, q3⟩, q0⟩
    first | exact hw4 q1 | exact hw14 q2 | exact hw24 q3 | omega

def fX8_tanker (M : gM) (nt : Nat) (sp h mi : Int32) : gM := (gwI (gwI (gwI (gwI M (nt + 74) 0 sp) (nt + 74) 1 h) (nt + 74) 2 mi) 0 9 ((nI nt) + (1)))
set_option maxRecDepth 100000 in
set_option maxHeartbeats 1000000 in
theorem ct_X8_tanker {M : gM} {b : Bool} (hR : M.2.2 = stdR b) {nv ns nt nb : Nat} (hnv : M.1 0 7 = nI nv) (lv : nv ≤ 12) (hns : M.1 0 8 = nI ns) (ls : ns ≤ 4) (hnt : M.1 0 9 = nI nt) (lt : nt ≤ 4) (hnb : M.1 0 10 = nI nb) (lb : nb ≤ 10) (sp h mi : Int32) : gC 2 0 0 yX8_tanker cX8_tanker 6 (some .int) 140 140 [.ref 0, .int sp, .int h, .int mi] M (gI (fun r M9 => (((vIn sp ns) ∧ (1 ≤ h ∧ h ≤ 20000) ∧ (0 ≤ mi ∧ mi ≤ 999)) ∧ nt < 4 ∧ r = nI nt ∧ M9 = fX8_tanker M nt sp h mi) ∨ (¬ (((vIn sp ns) ∧ (1 ≤ h ∧ h ≤ 20000) ∧ (0 ≤ mi ∧ mi ≤ 999)) ∧ nt < 4) ∧ r = (-1) ∧ M9 = M))) := by
  refine gC_i rfl (Nat.le_of_ble_eq_true rfl) (fun G hG hE => ?_)
  change G (140, 0, 0) 0 [some (.ref 0), some (.int sp), some (.int h), some (.int mi), none, none] [] M
  refine r_aload_n hG dX8_tanker_0 rfl ?_
  refine r_iload_n hG dX8_tanker_1 rfl ?_
  refine r_cVI1 hG mk_X8_90 dX8_tanker_2 rfl (by decide) (ct_X8_isSpring (by exact hR) (c := ns) hns (by omega) _) (by decide) ⟨Nat.le_refl _, Nat.le_refl _⟩ (Nat.le_of_ble_eq_true rfl) (fun x9 M9 h9 => ?_)
  obtain ⟨h8, e9⟩ := h9; rw [e9]; rcases h8 with ⟨e8, hw2⟩ | ⟨e8, hw2⟩
  · rw [e8]
    obtain ⟨q2, hq2, hv2⟩ := hw2
    subst hv2
    refine r_if_eq hG 34 dX8_tanker_5 (by decide) (fun hc5 => absurd hc5 (by decide)) (fun hc5 => ?_)
    refine r_iload_n hG dX8_tanker_8 rfl ?_
    refine r_iconst hG (1) dX8_tanker_9 (by decide) ?_
    refine r_sipush hG (20000) dX8_tanker_10 (by decide) ?_
    refine r_cSI3 hG mk_X8_55 dX8_tanker_13 (ct_X8_within _ _ _) (by decide) ⟨Nat.le_refl _, Nat.le_refl _⟩ (Nat.le_of_ble_eq_true rfl) (fun x9 M9 h9 => ?_)
    obtain ⟨h8, e9⟩ := h9; rw [e9]; rcases h8 with ⟨e8, hw13⟩ | ⟨e8, hw13⟩
    · rw [e8]
      refine r_if_eq hG 34 dX8_tanker_16 (by decide) (fun hc16 => absurd hc16 (by decide)) (fun hc16 => ?_)
      refine r_iload_n hG dX8_tanker_19 rfl ?_
      refine r_iconst hG (0) dX8_tanker_20 (by decide) ?_
      refine r_sipush hG (999) dX8_tanker_21 (by decide) ?_
      refine r_cSI3 hG mk_X8_55 dX8_tanker_24 (ct_X8_within _ _ _) (by decide) ⟨Nat.le_refl _, Nat.le_refl _⟩ (Nat.le_of_ble_eq_true rfl) (fun x9 M9 h9 => ?_)
      obtain ⟨h8, e9⟩ := h9; rw [e9]; rcases h8 with ⟨e8, hw24⟩ | ⟨e8, hw24⟩
      · rw [e8]
        refine r_if_eq hG 34 dX8_tanker_27 (by decide) (fun hc27 => absurd hc27 (by decide)) (fun hc27 => ?_)
        refine r_iconst hG (1) dX8_tanker_30 (by decide) ?_
        refine r_goto hG 35 dX8_tanker_31 (by decide) ?_
        refine r_istore hG dX8_tanker_35 (by decide) ?_
        refine r_loc [some (.ref 0), some (.int (nI q2)), some (.int h), some (.int mi), some (.int (1)), none] rfl ?_
        refine r_iload hG dX8_tanker_37 rfl ?_
        refine r_if_eq hG 50 dX8_tanker_39 (by decide) (fun hc39 => absurd hc39 (by decide)) (fun hc39 => ?_)
        refine r_aload_n hG dX8_tanker_42 rfl ?_
        refine r_getIv hG 9 (nI nt) fk_X8_94 dX8_tanker_43 rfl (by decide) rfl hnt ?_
        refine r_iconst hG (4) dX8_tanker_46 (by decide) ?_
        refine r_icmp_lt hG 52 dX8_tanker_47 (by decide) (fun hc47 => ?_) (fun hc47 => ?_)
        · have hn47 := nlt_t (a := nt) (b := 4) (by omega) (by omega) hc47
          refine r_aload_n hG dX8_tanker_52 rfl ?_
          refine r_getR hG 2 3 fk_X8_23 dX8_tanker_53 rfl (by decide) rfl (sr hR rfl) ?_
          refine r_aload_n hG dX8_tanker_56 rfl ?_
          refine r_getIv hG 9 (nI nt) fk_X8_94 dX8_tanker_57 rfl (by decide) rfl hnt ?_
          refine r_aald6 hG nt (nt + 74) dX8_tanker_60 rfl (by decide) rfl (by omega) (by decide) (sr hR rfl) ?_
          refine r_astore hG dX8_tanker_61 (by decide) ?_
          refine r_loc [some (.ref 0), some (.int (nI q2)), some (.int h), some (.int mi), some (.int (1)), some (.ref (nt + 74))] rfl ?_
          refine r_aload hG dX8_tanker_63 rfl ?_
          refine r_iload_n hG dX8_tanker_65 rfl ?_
          refine r_putI hG 0 fp_X8_97 dX8_tanker_66 (gkT (by omega)) (show (nt + 74) < 140 by omega) rfl rfl rfl ?_
          refine r_aload hG dX8_tanker_69 rfl ?_
          refine r_iload_n hG dX8_tanker_71 rfl ?_
          refine r_putI hG 1 fp_X8_100 dX8_tanker_72 (gkT (by omega)) (show (nt + 74) < 140 by omega) rfl rfl rfl ?_
          refine r_aload hG dX8_tanker_75 rfl ?_
          refine r_iload_n hG dX8_tanker_77 rfl ?_
          refine r_putI hG 2 fp_X8_103 dX8_tanker_78 (gkT (by omega)) (show (nt + 74) < 140 by omega) rfl rfl rfl ?_
          refine r_aload_n hG dX8_tanker_81 rfl ?_
          refine r_dup hG dX8_tanker_82 rfl ?_
          refine r_getIv hG 9 (nI nt) fk_X8_94 dX8_tanker_83 rfl (by decide) rfl (((gwI_n (by omega)).trans ((gwI_n (by omega)).trans (gwI_n (by omega)))).trans hnt) ?_
          refine r_iconst hG (1) dX8_tanker_86 (by decide) ?_
          refine r_iadd hG dX8_tanker_87 ?_
          refine r_putI hG 9 fp_X8_94 dX8_tanker_88 rfl (by decide) rfl rfl rfl ?_
          refine r_aload_n hG dX8_tanker_91 rfl ?_
          refine r_getIv hG 9 ((nI nt) + (1)) fk_X8_94 dX8_tanker_92 rfl (by decide) rfl gwI_s ?_
          refine r_iconst hG (1) dX8_tanker_95 (by decide) ?_
          refine r_isub hG dX8_tanker_96 ?_
          refine hE _ _ _ _ _ dX8_tanker_97 rfl (Nat.le_refl _) (Nat.le_refl _) rfl ?_
          exact Or.inl ⟨⟨⟨_, hq2, rfl⟩, hw13, hw24⟩, by omega, by rw [nI_1, nI_pred], rfl⟩
        · have hn47 := nlt_f (a := nt) (b := 4) (by omega) (by omega) hc47
          refine r_iconst hG (-1) dX8_tanker_50 (by decide) ?_
          refine hE _ _ _ _ _ dX8_tanker_51 rfl (Nat.le_refl _) (Nat.le_refl _) rfl ?_
          refine Or.inr ⟨?_, rfl, rfl⟩
          rintro ⟨⟨q1, q2, q3⟩, q0⟩
          first | exact hw2 q1 | exact hw13 q2 | exact hw24 q3 | omega
      · rw [e8]
        refine r_if_eq hG 34 dX8_tanker_27 (by decide) (fun hc27 => ?_) (fun hc27 => absurd hc27 (by decide))
        refine r_iconst hG (0) dX8_tanker_34 (by decide) ?_
        refine r_istore hG dX8_tanker_35 (by decide) ?_
        refine r_loc [some (.ref 0), some (.int (nI q2)), some (.int h), some (.int mi), some (.int (0)), none] rfl ?_
        refine r_iload hG dX8_tanker_37 rfl ?_
        refine r_if_eq hG 50 dX8_tanker_39 (by decide) (fun hc39 => ?_) (fun hc39 => absurd hc39 (by decide))
        refine r_iconst hG (-1) dX8_tanker_50 (by decide) ?_
        refine hE _ _ _ _ _ dX8_tanker_51 rfl (Nat.le_refl _) (Nat.le_refl _) rfl ?_
        refine Or.inr ⟨?_, rfl, rfl⟩
        rintro ⟨⟨q1, q2, q3⟩, q0⟩
        first | exact hw2 q1 | exact hw13 q2 | exact hw24 q3 | omega
    · rw [e8]
      refine r_if_eq hG 34 dX8_tanker_16 (by decide) (fun hc16 => ?_) (fun hc16 => absurd hc16 (by decide))
      refine r_iconst hG (0) dX8_tanker_34 (by decide) ?_
      refine r_istore hG dX8_tanker_35 (by decide) ?_
      refine r_loc [some (.ref 0), some (.int (nI q2)), some (.int h), some (.int mi), some (.int (0)), none] rfl ?_
      refine r_iload hG dX8_tanker_37 rfl ?_
      refine r_if_eq hG 50 dX8_tanker_39 (by decide) (fun hc39 => ?_) (fun hc39 => absurd hc39 (by decide))
      refine r_iconst hG (-1) dX8_tanker_50 (by decide) ?_
      refine hE _ _ _ _ _ dX8_tanker_51 rfl (Nat.le_refl _) (Nat.le_refl _) rfl ?_
      refine Or.inr ⟨?_, rfl, rfl⟩
      rintro ⟨⟨q1, q2, q3⟩, q0⟩
      first | exact hw2 q1 | exact hw13 q2 | exact hw24 q3 | omega
  · rw [e8]
    refine r_if_eq hG 34 dX8_tanker_5 (by decide) (fun hc5 => ?_) (fun hc5 => absurd hc5 (by decide))
    refine r_iconst hG (0) dX8_tanker_34 (by decide) ?_
    refine r_istore hG dX8_tanker_35 (by decide) ?_
    refine r_loc [some (.ref 0), some (.int sp), some (.int h), some (.int mi), some (.int (0)), none] rfl ?_
    refine r_iload hG dX8_tanker_37 rfl ?_
    refine r_if_eq hG 50 dX8_tanker_39 (by decide) (fun hc39 => ?_) (fun hc39 => absurd hc39 (by decide))
    refine r_iconst hG (-1) dX8_tanker_50 (by decide) ?_
    refine hE _ _ _ _ _ dX8_tanker_51 rfl (Nat.le_refl _) (Nat.le_refl _) rfl ?_
    refine Or.inr ⟨?_, rfl, rfl⟩
    rintro ⟨⟨q1, q2, q3⟩, q0⟩
    first | exact hw2 q1 | exact hw13 q2 | exact hw24 q3 | omega

def fX8_way (M : gM) (spq vq : Nat) (sp v mi : Int32) : gM := (gwI M (2 * spq + 67) vq mi)
set_option maxRecDepth 100000 in
set_option maxHeartbeats 1000000 in
theorem ct_X8_way {M : gM} {b : Bool} (hR : M.2.2 = stdR b) {nv ns nt nb : Nat} (hnv : M.1 0 7 = nI nv) (lv : nv ≤ 12) (hns : M.1 0 8 = nI ns) (ls : ns ≤ 4) (hnt : M.1 0 9 = nI nt) (lt : nt ≤ 4) (hnb : M.1 0 10 = nI nb) (lb : nb ≤ 10) (sp v mi : Int32) : gC 2 0 0 yX8_way cX8_way 4 (some .boolean) 140 140 [.ref 0, .int sp, .int v, .int mi] M (gI (fun r M9 => (∃ spq vq : Nat, sp = nI spq ∧ v = nI vq ∧ spq < ns ∧ vq < nv ∧ ((vIn sp ns) ∧ (vIn v nv) ∧ (1 ≤ mi ∧ mi ≤ 200)) ∧ r = 1 ∧ M9 = fX8_way M spq vq sp v mi) ∨ (¬ (((vIn sp ns) ∧ (vIn v nv) ∧ (1 ≤ mi ∧ mi ≤ 200))) ∧ r = (0) ∧ M9 = M))) := by
  refine gC_i rfl (Nat.le_of_ble_eq_true rfl) (fun G hG hE => ?_)
  change G (140, 0, 0) 0 [some (.ref 0), some (.int sp), some (.int v), some (.int mi)] [] M
  refine r_aload_n hG dX8_way_0 rfl ?_
  refine r_iload_n hG dX8_way_1 rfl ?_
  refine r_cVI1 hG mk_X8_90 dX8_way_2 rfl (by decide) (ct_X8_isSpring (by exact hR) (c := ns) hns (by omega) _) (by decide) ⟨Nat.le_refl _, Nat.le_refl _⟩ (Nat.le_of_ble_eq_true rfl) (fun x9 M9 h9 => ?_)
  obtain ⟨h8, e9⟩ := h9; rw [e9]; rcases h8 with ⟨e8, hw2⟩ | ⟨e8, hw2⟩
  · rw [e8]
    obtain ⟨q2, hq2, hv2⟩ := hw2
    subst hv2
    refine r_if_eq hG 27 dX8_way_5 (by decide) (fun hc5 => absurd hc5 (by decide)) (fun hc5 => ?_)
    refine r_aload_n hG dX8_way_8 rfl ?_
    refine r_iload_n hG dX8_way_9 rfl ?_
    refine r_cVI1 hG mk_X8_106 dX8_way_10 rfl (by decide) (ct_X8_isVillage (by exact hR) (c := nv) hnv (by omega) _) (by decide) ⟨Nat.le_refl _, Nat.le_refl _⟩ (Nat.le_of_ble_eq_true rfl) (fun x9 M9 h9 => ?_)
    obtain ⟨h8, e9⟩ := h9; rw [e9]; rcases h8 with ⟨e8, hw10⟩ | ⟨e8, hw10⟩
    · rw [e8]
      obtain ⟨q10, hq10, hv10⟩ := hw10
      subst hv10
      refine r_if_eq hG 27 dX8_way_13 (by decide) (fun hc13 => absurd hc13 (by decide)) (fun hc13 => ?_)
      refine r_iload_n hG dX8_way_16 rfl ?_
      refine r_iconst hG (1) dX8_way_17 (by decide) ?_
      refine r_sipush hG (200) dX8_way_18 (by decide) ?_
      refine r_cSI3 hG mk_X8_55 dX8_way_21 (ct_X8_within _ _ _) (by decide) ⟨Nat.le_refl _, Nat.le_refl _⟩ (Nat.le_of_ble_eq_true rfl) (fun x9 M9 h9 => ?_)
      obtain ⟨h8, e9⟩ := h9; rw [e9]; rcases h8 with ⟨e8, hw21⟩ | ⟨e8, hw21⟩
      · rw [e8]
        refine r_if_ne hG 29 dX8_way_24 (by decide) (fun hc24 => ?_) (fun hc24 => absurd hc24 (by decide))
        refine r_aload_n hG dX8_way_29 rfl ?_
        refine r_getR hG 1 2 fk_X8_17 dX8_way_30 rfl (by decide) rfl (sr hR rfl) ?_
        refine r_iload_n hG dX8_way_33 rfl ?_
        refine r_aald5 hG q2 (2 * q2 + 66) dX8_way_34 rfl (by decide) rfl (by omega) (by decide) (sr hR rfl) ?_
        refine r_getR hG 4 (2 * q2 + 67) fk_X8_109 dX8_way_35 (gkS (by omega)) (show (2 * q2 + 66) < 140 by omega) rfl (sr hR (sRy (by omega))) ?_
        refine r_iload_n hG dX8_way_38 rfl ?_
        refine r_iload_n hG dX8_way_39 rfl ?_
        refine r_iast hG q10 dX8_way_40 (gkY (by omega)) (show (2 * q2 + 67) < 140 by omega) rfl (by omega) (by decide) ?_
        refine r_iconst hG (1) dX8_way_41 (by decide) ?_
        refine hE _ _ _ _ _ dX8_way_42 rfl (Nat.le_refl _) (Nat.le_refl _) rfl ?_
        exact Or.inl ⟨_, _, rfl, rfl, hq2, hq10, ⟨⟨_, hq2, rfl⟩, ⟨_, hq10, rfl⟩, hw21⟩, rfl, rfl⟩
      · rw [e8]
        refine r_if_ne hG 29 dX8_way_24 (by decide) (fun hc24 => absurd hc24 (by decide)) (fun hc24 => ?_)
        refine r_iconst hG (0) dX8_way_27 (by decide) ?_
        refine hE _ _ _ _ _ dX8_way_28 rfl (Nat.le_refl _) (Nat.le_refl _) rfl ?_
        refine Or.inr ⟨?_, rfl, rfl⟩
        rintro ⟨q1, q2, q3⟩
        first | exact hw2 q1 | exact hw10 q2 | exact hw21 q3 | omega
    · rw [e8]
      refine r_if_eq hG 27 dX8_way_13 (by decide) (fun hc13 => ?_) (fun hc13 => absurd hc13 (by decide))
      refine r_iconst hG (0) dX8_way_27 (by decide) ?_
      refine hE _ _ _ _ _ dX8_way_28 rfl (Nat.le_refl _) (Nat.le_refl _) rfl ?_
      refine Or.inr ⟨?_, rfl, rfl⟩
      rintro ⟨q1, q2, q3⟩
      first | exact hw2 q1 | exact hw10 q2 | exact hw21 q3 | omega
  · rw [e8]
    refine r_if_eq hG 27 dX8_way_5 (by decide) (fun hc5 => ?_) (fun hc5 => absurd hc5 (by decide))
    refine r_iconst hG (0) dX8_way_27 (by decide) ?_
    refine hE _ _ _ _ _ dX8_way_28 rfl (Nat.le_refl _) (Nat.le_refl _) rfl ?_
    refine Or.inr ⟨?_, rfl, rfl⟩
    rintro ⟨q1, q2, q3⟩
    first | exact hw2 q1 | exact hw10 q2 | exact hw21 q3 | omega

def fX8_bore (M : gM) (nb : Nat) (vq : Nat) (v ch co : Int32) : gM := (gwI (gwI (gwI (gwI M (nb + 78) 0 v) (nb + 78) 1 co) (nb + 78) 2 (ch * (M.1 (2 * vq + 42) 0))) 0 10 ((nI nb) + (1)))
set_option maxRecDepth 100000 in
set_option maxHeartbeats 1000000 in
theorem ct_X8_bore {M : gM} {b : Bool} (hR : M.2.2 = stdR b) {nv ns nt nb : Nat} (hnv : M.1 0 7 = nI nv) (lv : nv ≤ 12) (hns : M.1 0 8 = nI ns) (ls : ns ≤ 4) (hnt : M.1 0 9 = nI nt) (lt : nt ≤ 4) (hnb : M.1 0 10 = nI nb) (lb : nb ≤ 10) (v ch co : Int32) : gC 2 0 0 yX8_bore cX8_bore 6 (some .int) 140 140 [.ref 0, .int v, .int ch, .int co] M (gI (fun r M9 => (∃ vq : Nat, v = nI vq ∧ vq < nv ∧ ((vIn v nv) ∧ (1 ≤ ch ∧ ch ≤ 1000) ∧ (1 ≤ co ∧ co ≤ 1000)) ∧ nb < 10 ∧ r = nI nb ∧ M9 = fX8_bore M nb vq v ch co) ∨ (¬ (((vIn v nv) ∧ (1 ≤ ch ∧ ch ≤ 1000) ∧ (1 ≤ co ∧ co ≤ 1000)) ∧ nb < 10) ∧ r = (-1) ∧ M9 = M))) := by
  refine gC_i rfl (Nat.le_of_ble_eq_true rfl) (fun G hG hE => ?_)
  change G (140, 0, 0) 0 [some (.ref 0), some (.int v), some (.int ch), some (.int co), none, none] [] M
  refine r_aload_n hG dX8_bore_0 rfl ?_
  refine r_iload_n hG dX8_bore_1 rfl ?_
  refine r_cVI1 hG mk_X8_106 dX8_bore_2 rfl (by decide) (ct_X8_isVillage (by exact hR) (c := nv) hnv (by omega) _) (by decide) ⟨Nat.le_refl _, Nat.le_refl _⟩ (Nat.le_of_ble_eq_true rfl) (fun x9 M9 h9 => ?_)
  obtain ⟨h8, e9⟩ := h9; rw [e9]; rcases h8 with ⟨e8, hw2⟩ | ⟨e8, hw2⟩
  · rw [e8]
    obtain ⟨q2, hq2, hv2⟩ := hw2
    subst hv2
    refine r_if_eq hG 34 dX8_bore_5 (by decide) (fun hc5 => absurd hc5 (by decide)) (fun hc5 => ?_)
    refine r_iload_n hG dX8_bore_8 rfl ?_
    refine r_iconst hG (1) dX8_bore_9 (by decide) ?_
    refine r_sipush hG (1000) dX8_bore_10 (by decide) ?_
    refine r_cSI3 hG mk_X8_55 dX8_bore_13 (ct_X8_within _ _ _) (by decide) ⟨Nat.le_refl _, Nat.le_refl _⟩ (Nat.le_of_ble_eq_true rfl) (fun x9 M9 h9 => ?_)
    obtain ⟨h8, e9⟩ := h9; rw [e9]; rcases h8 with ⟨e8, hw13⟩ | ⟨e8, hw13⟩
    · rw [e8]
      refine r_if_eq hG 34 dX8_bore_16 (by decide) (fun hc16 => absurd hc16 (by decide)) (fun hc16 => ?_)
      refine r_iload_n hG dX8_bore_19 rfl ?_
      refine r_iconst hG (1) dX8_bore_20 (by decide) ?_
      refine r_sipush hG (1000) dX8_bore_21 (by decide) ?_
      refine r_cSI3 hG mk_X8_55 dX8_bore_24 (ct_X8_within _ _ _) (by decide) ⟨Nat.le_refl _, Nat.le_refl _⟩ (Nat.le_of_ble_eq_true rfl) (fun x9 M9 h9 => ?_)
      obtain ⟨h8, e9⟩ := h9; rw [e9]; rcases h8 with ⟨e8, hw24⟩ | ⟨e8, hw24⟩
      · rw [e8]
        refine r_if_eq hG 34 dX8_bore_27 (by decide) (fun hc27 => absurd hc27 (by decide)) (fun hc27 => ?_)
        refine r_iconst hG (1) dX8_bore_30 (by decide) ?_
        refine r_goto hG 35 dX8_bore_31 (by decide) ?_
        refine r_istore hG dX8_bore_35 (by decide) ?_
        refine r_loc [some (.ref 0), some (.int (nI q2)), some (.int ch), some (.int co), some (.int (1)), none] rfl ?_
        refine r_iload hG dX8_bore_37 rfl ?_
        refine r_if_eq hG 51 dX8_bore_39 (by decide) (fun hc39 => absurd hc39 (by decide)) (fun hc39 => ?_)
        refine r_aload_n hG dX8_bore_42 rfl ?_
        refine r_getIv hG 10 (nI nb) fk_X8_169 dX8_bore_43 rfl (by decide) rfl hnb ?_
        refine r_bipush hG (10) dX8_bore_46 (by decide) ?_
        refine r_icmp_lt hG 53 dX8_bore_48 (by decide) (fun hc48 => ?_) (fun hc48 => ?_)
        · have hn48 := nlt_t (a := nb) (b := 10) (by omega) (by omega) hc48
          refine r_aload_n hG dX8_bore_53 rfl ?_
          refine r_getR hG 3 4 fk_X8_29 dX8_bore_54 rfl (by decide) rfl (sr hR rfl) ?_
          refine r_aload_n hG dX8_bore_57 rfl ?_
          refine r_getIv hG 10 (nI nb) fk_X8_169 dX8_bore_58 rfl (by decide) rfl hnb ?_
          refine r_aald7 hG nb (nb + 78) dX8_bore_61 rfl (by decide) rfl (by omega) (by decide) (sr hR rfl) ?_
          refine r_astore hG dX8_bore_62 (by decide) ?_
          refine r_loc [some (.ref 0), some (.int (nI q2)), some (.int ch), some (.int co), some (.int (1)), some (.ref (nb + 78))] rfl ?_
          refine r_aload hG dX8_bore_64 rfl ?_
          refine r_iload_n hG dX8_bore_66 rfl ?_
          refine r_putI hG 0 fp_X8_172 dX8_bore_67 (gkB (by omega)) (show (nb + 78) < 140 by omega) rfl rfl rfl ?_
          refine r_aload hG dX8_bore_70 rfl ?_
          refine r_iload_n hG dX8_bore_72 rfl ?_
          refine r_putI hG 1 fp_X8_175 dX8_bore_73 (gkB (by omega)) (show (nb + 78) < 140 by omega) rfl rfl rfl ?_
          refine r_aload hG dX8_bore_76 rfl ?_
          refine r_iload_n hG dX8_bore_78 rfl ?_
          refine r_aload_n hG dX8_bore_79 rfl ?_
          refine r_getR hG 0 1 fk_X8_11 dX8_bore_80 rfl (by decide) rfl (sr hR rfl) ?_
          refine r_iload_n hG dX8_bore_83 rfl ?_
          refine r_aald4 hG q2 (2 * q2 + 42) dX8_bore_84 rfl (by decide) rfl (by omega) (by decide) (sr hR rfl) ?_
          refine r_getIv hG 0 (M.1 (2 * q2 + 42) 0) fk_X8_64 dX8_bore_85 (gkV (by omega)) (show (2 * q2 + 42) < 140 by omega) rfl ((gwI_n (by omega)).trans (gwI_n (by omega))) ?_
          refine r_imul hG dX8_bore_88 ?_
          refine r_putI hG 2 fp_X8_178 dX8_bore_89 (gkB (by omega)) (show (nb + 78) < 140 by omega) rfl rfl rfl ?_
          refine r_aload_n hG dX8_bore_92 rfl ?_
          refine r_dup hG dX8_bore_93 rfl ?_
          refine r_getIv hG 10 (nI nb) fk_X8_169 dX8_bore_94 rfl (by decide) rfl (((gwI_n (by omega)).trans ((gwI_n (by omega)).trans (gwI_n (by omega)))).trans hnb) ?_
          refine r_iconst hG (1) dX8_bore_97 (by decide) ?_
          refine r_iadd hG dX8_bore_98 ?_
          refine r_putI hG 10 fp_X8_169 dX8_bore_99 rfl (by decide) rfl rfl rfl ?_
          refine r_aload_n hG dX8_bore_102 rfl ?_
          refine r_getIv hG 10 ((nI nb) + (1)) fk_X8_169 dX8_bore_103 rfl (by decide) rfl gwI_s ?_
          refine r_iconst hG (1) dX8_bore_106 (by decide) ?_
          refine r_isub hG dX8_bore_107 ?_
          refine hE _ _ _ _ _ dX8_bore_108 rfl (Nat.le_refl _) (Nat.le_refl _) rfl ?_
          exact Or.inl ⟨_, rfl, hq2, ⟨⟨_, hq2, rfl⟩, hw13, hw24⟩, by omega, by rw [nI_1, nI_pred], rfl⟩
        · have hn48 := nlt_f (a := nb) (b := 10) (by omega) (by omega) hc48
          refine r_iconst hG (-1) dX8_bore_51 (by decide) ?_
          refine hE _ _ _ _ _ dX8_bore_52 rfl (Nat.le_refl _) (Nat.le_refl _) rfl ?_
          refine Or.inr ⟨?_, rfl, rfl⟩
          rintro ⟨⟨q1, q2, q3⟩, q0⟩
          first | exact hw2 q1 | exact hw13 q2 | exact hw24 q3 | omega
      · rw [e8]
        refine r_if_eq hG 34 dX8_bore_27 (by decide) (fun hc27 => ?_) (fun hc27 => absurd hc27 (by decide))
        refine r_iconst hG (0) dX8_bore_34 (by decide) ?_
        refine r_istore hG dX8_bore_35 (by decide) ?_
        refine r_loc [some (.ref 0), some (.int (nI q2)), some (.int ch), some (.int co), some (.int (0)), none] rfl ?_
        refine r_iload hG dX8_bore_37 rfl ?_
        refine r_if_eq hG 51 dX8_bore_39 (by decide) (fun hc39 => ?_) (fun hc39 => absurd hc39 (by decide))
        refine r_iconst hG (-1) dX8_bore_51 (by decide) ?_
        refine hE _ _ _ _ _ dX8_bore_52 rfl (Nat.le_refl _) (Nat.le_refl _) rfl ?_
        refine Or.inr ⟨?_, rfl, rfl⟩
        rintro ⟨⟨q1, q2, q3⟩, q0⟩
        first | exact hw2 q1 | exact hw13 q2 | exact hw24 q3 | omega
    · rw [e8]
      refine r_if_eq hG 34 dX8_bore_16 (by decide) (fun hc16 => ?_) (fun hc16 => absurd hc16 (by decide))
      refine r_iconst hG (0) dX8_bore_34 (by decide) ?_
      refine r_istore hG dX8_bore_35 (by decide) ?_
      refine r_loc [some (.ref 0), some (.int (nI q2)), some (.int ch), some (.int co), some (.int (0)), none] rfl ?_
      refine r_iload hG dX8_bore_37 rfl ?_
      refine r_if_eq hG 51 dX8_bore_39 (by decide) (fun hc39 => ?_) (fun hc39 => absurd hc39 (by decide))
      refine r_iconst hG (-1) dX8_bore_51 (by decide) ?_
      refine hE _ _ _ _ _ dX8_bore_52 rfl (Nat.le_refl _) (Nat.le_refl _) rfl ?_
      refine Or.inr ⟨?_, rfl, rfl⟩
      rintro ⟨⟨q1, q2, q3⟩, q0⟩
      first | exact hw2 q1 | exact hw13 q2 | exact hw24 q3 | omega
  · rw [e8]
    refine r_if_eq hG 34 dX8_bore_5 (by decide) (fun hc5 => ?_) (fun hc5 => absurd hc5 (by decide))
    refine r_iconst hG (0) dX8_bore_34 (by decide) ?_
    refine r_istore hG dX8_bore_35 (by decide) ?_
    refine r_loc [some (.ref 0), some (.int v), some (.int ch), some (.int co), some (.int (0)), none] rfl ?_
    refine r_iload hG dX8_bore_37 rfl ?_
    refine r_if_eq hG 51 dX8_bore_39 (by decide) (fun hc39 => ?_) (fun hc39 => absurd hc39 (by decide))
    refine r_iconst hG (-1) dX8_bore_51 (by decide) ?_
    refine hE _ _ _ _ _ dX8_bore_52 rfl (Nat.le_refl _) (Nat.le_refl _) rfl ?_
    refine Or.inr ⟨?_, rfl, rfl⟩
    rintro ⟨⟨q1, q2, q3⟩, q0⟩
    first | exact hw2 q1 | exact hw13 q2 | exact hw24 q3 | omega

def fX8_dip (M : gM) (nd : Nat) (tq : Nat) (t tl di er : Int32) : gM := (gwI (gwI (gwI (gwI M (tq + 74) 6 ((M.1 (tq + 74) 6) + (1))) (tq + 74) 7 ((M.1 (tq + 74) 7) + (tl - di))) (tq + 74) 8 ((M.1 (tq + 74) 8) + er)) 0 11 ((nI nd) + (1)))
set_option maxRecDepth 100000 in
set_option maxHeartbeats 1000000 in
theorem ct_X8_dip {M : gM} {b : Bool} (hR : M.2.2 = stdR b) {nv ns nt nb : Nat} (hnv : M.1 0 7 = nI nv) (lv : nv ≤ 12) (hns : M.1 0 8 = nI ns) (ls : ns ≤ 4) (hnt : M.1 0 9 = nI nt) (lt : nt ≤ 4) (hnb : M.1 0 10 = nI nb) (lb : nb ≤ 10) {nd : Nat} (hnd : M.1 0 11 = nI nd) (ld : nd ≤ 100) (t tl di er : Int32) : gC 2 0 0 yX8_dip cX8_dip 7 (some .int) 140 140 [.ref 0, .int t, .int tl, .int di, .int er] M (gI (fun r M9 => (∃ tq : Nat, t = nI tq ∧ tq < nt ∧ ((vIn t nt) ∧ (0 ≤ tl ∧ tl ≤ 20000) ∧ (0 ≤ di ∧ di ≤ 20000) ∧ (0 ≤ er ∧ er ≤ 2000)) ∧ nd < 100 ∧ r = M.1 (tq + 74) 6 + 1 ∧ M9 = fX8_dip M nd tq t tl di er) ∨ (¬ (((vIn t nt) ∧ (0 ≤ tl ∧ tl ≤ 20000) ∧ (0 ≤ di ∧ di ≤ 20000) ∧ (0 ≤ er ∧ er ≤ 2000)) ∧ nd < 100) ∧ r = (-1) ∧ M9 = M))) := by
  refine gC_i rfl (Nat.le_of_ble_eq_true rfl) (fun G hG hE => ?_)
  change G (140, 0, 0) 0 [some (.ref 0), some (.int t), some (.int tl), some (.int di), some (.int er), none, none] [] M
  refine r_aload_n hG dX8_dip_0 rfl ?_
  refine r_iload_n hG dX8_dip_1 rfl ?_
  refine r_cVI1 hG mk_X8_195 dX8_dip_2 rfl (by decide) (ct_X8_isTanker (by exact hR) (c := nt) hnt (by omega) _) (by decide) ⟨Nat.le_refl _, Nat.le_refl _⟩ (Nat.le_of_ble_eq_true rfl) (fun x9 M9 h9 => ?_)
  obtain ⟨h8, e9⟩ := h9; rw [e9]; rcases h8 with ⟨e8, hw2⟩ | ⟨e8, hw2⟩
  · rw [e8]
    obtain ⟨q2, hq2, hv2⟩ := hw2
    subst hv2
    refine r_if_eq hG 46 dX8_dip_5 (by decide) (fun hc5 => absurd hc5 (by decide)) (fun hc5 => ?_)
    refine r_iload_n hG dX8_dip_8 rfl ?_
    refine r_iconst hG (0) dX8_dip_9 (by decide) ?_
    refine r_sipush hG (20000) dX8_dip_10 (by decide) ?_
    refine r_cSI3 hG mk_X8_55 dX8_dip_13 (ct_X8_within _ _ _) (by decide) ⟨Nat.le_refl _, Nat.le_refl _⟩ (Nat.le_of_ble_eq_true rfl) (fun x9 M9 h9 => ?_)
    obtain ⟨h8, e9⟩ := h9; rw [e9]; rcases h8 with ⟨e8, hw13⟩ | ⟨e8, hw13⟩
    · rw [e8]
      refine r_if_eq hG 46 dX8_dip_16 (by decide) (fun hc16 => absurd hc16 (by decide)) (fun hc16 => ?_)
      refine r_iload_n hG dX8_dip_19 rfl ?_
      refine r_iconst hG (0) dX8_dip_20 (by decide) ?_
      refine r_sipush hG (20000) dX8_dip_21 (by decide) ?_
      refine r_cSI3 hG mk_X8_55 dX8_dip_24 (ct_X8_within _ _ _) (by decide) ⟨Nat.le_refl _, Nat.le_refl _⟩ (Nat.le_of_ble_eq_true rfl) (fun x9 M9 h9 => ?_)
      obtain ⟨h8, e9⟩ := h9; rw [e9]; rcases h8 with ⟨e8, hw24⟩ | ⟨e8, hw24⟩
      · rw [e8]
        refine r_if_eq hG 46 dX8_dip_27 (by decide) (fun hc27 => absurd hc27 (by decide)) (fun hc27 => ?_)
        refine r_iload hG dX8_dip_30 rfl ?_
        refine r_iconst hG (0) dX8_dip_32 (by decide) ?_
        refine r_sipush hG (2000) dX8_dip_33 (by decide) ?_
        refine r_cSI3 hG mk_X8_55 dX8_dip_36 (ct_X8_within _ _ _) (by decide) ⟨Nat.le_refl _, Nat.le_refl _⟩ (Nat.le_of_ble_eq_true rfl) (fun x9 M9 h9 => ?_)
        obtain ⟨h8, e9⟩ := h9; rw [e9]; rcases h8 with ⟨e8, hw36⟩ | ⟨e8, hw36⟩
        · rw [e8]
          refine r_if_eq hG 46 dX8_dip_39 (by decide) (fun hc39 => absurd hc39 (by decide)) (fun hc39 => ?_)
          refine r_iconst hG (1) dX8_dip_42 (by decide) ?_
          refine r_goto hG 47 dX8_dip_43 (by decide) ?_
          refine r_istore hG dX8_dip_47 (by decide) ?_
          refine r_loc [some (.ref 0), some (.int (nI q2)), some (.int tl), some (.int di), some (.int er), some (.int (1)), none] rfl ?_
          refine r_iload hG dX8_dip_49 rfl ?_
          refine r_if_eq hG 63 dX8_dip_51 (by decide) (fun hc51 => absurd hc51 (by decide)) (fun hc51 => ?_)
          refine r_aload_n hG dX8_dip_54 rfl ?_
          refine r_getIv hG 11 (nI nd) fk_X8_198 dX8_dip_55 rfl (by decide) rfl hnd ?_
          refine r_bipush hG (100) dX8_dip_58 (by decide) ?_
          refine r_icmp_lt hG 65 dX8_dip_60 (by decide) (fun hc60 => ?_) (fun hc60 => ?_)
          · have hn60 := nlt_t (a := nd) (b := 100) (by omega) (by omega) hc60
            refine r_aload_n hG dX8_dip_65 rfl ?_
            refine r_getR hG 2 3 fk_X8_23 dX8_dip_66 rfl (by decide) rfl (sr hR rfl) ?_
            refine r_iload_n hG dX8_dip_69 rfl ?_
            refine r_aald6 hG q2 (q2 + 74) dX8_dip_70 rfl (by decide) rfl (by omega) (by decide) (sr hR rfl) ?_
            refine r_astore hG dX8_dip_71 (by decide) ?_
            refine r_loc [some (.ref 0), some (.int (nI q2)), some (.int tl), some (.int di), some (.int er), some (.int (1)), some (.ref (q2 + 74))] rfl ?_
            refine r_aload hG dX8_dip_73 rfl ?_
            refine r_dup hG dX8_dip_75 rfl ?_
            refine r_getI hG 6 fk_X8_201 dX8_dip_76 (gkT (by omega)) (show (q2 + 74) < 140 by omega) rfl ?_
            refine r_iconst hG (1) dX8_dip_79 (by decide) ?_
            refine r_iadd hG dX8_dip_80 ?_
            refine r_putI hG 6 fp_X8_201 dX8_dip_81 (gkT (by omega)) (show (q2 + 74) < 140 by omega) rfl rfl rfl ?_
            refine r_aload hG dX8_dip_84 rfl ?_
            refine r_dup hG dX8_dip_86 rfl ?_
            refine r_getIv hG 7 (M.1 (q2 + 74) 7) fk_X8_204 dX8_dip_87 (gkT (by omega)) (show (q2 + 74) < 140 by omega) rfl (gwI_n (by omega)) ?_
            refine r_iload_n hG dX8_dip_90 rfl ?_
            refine r_iload_n hG dX8_dip_91 rfl ?_
            refine r_isub hG dX8_dip_92 ?_
            refine r_iadd hG dX8_dip_93 ?_
            refine r_putI hG 7 fp_X8_204 dX8_dip_94 (gkT (by omega)) (show (q2 + 74) < 140 by omega) rfl rfl rfl ?_
            refine r_aload hG dX8_dip_97 rfl ?_
            refine r_dup hG dX8_dip_99 rfl ?_
            refine r_getIv hG 8 (M.1 (q2 + 74) 8) fk_X8_207 dX8_dip_100 (gkT (by omega)) (show (q2 + 74) < 140 by omega) rfl ((gwI_n (by omega)).trans (gwI_n (by omega))) ?_
            refine r_iload hG dX8_dip_103 rfl ?_
            refine r_iadd hG dX8_dip_105 ?_
            refine r_putI hG 8 fp_X8_207 dX8_dip_106 (gkT (by omega)) (show (q2 + 74) < 140 by omega) rfl rfl rfl ?_
            refine r_aload_n hG dX8_dip_109 rfl ?_
            refine r_dup hG dX8_dip_110 rfl ?_
            refine r_getIv hG 11 (nI nd) fk_X8_198 dX8_dip_111 rfl (by decide) rfl (((gwI_n (by omega)).trans ((gwI_n (by omega)).trans (gwI_n (by omega)))).trans hnd) ?_
            refine r_iconst hG (1) dX8_dip_114 (by decide) ?_
            refine r_iadd hG dX8_dip_115 ?_
            refine r_putI hG 11 fp_X8_198 dX8_dip_116 rfl (by decide) rfl rfl rfl ?_
            refine r_aload hG dX8_dip_119 rfl ?_
            refine r_getIv hG 6 ((M.1 (q2 + 74) 6) + (1)) fk_X8_201 dX8_dip_121 (gkT (by omega)) (show (q2 + 74) < 140 by omega) rfl ((gwI_n (by omega)).trans ((gwI_n (by omega)).trans ((gwI_n (by omega)).trans gwI_s))) ?_
            refine hE _ _ _ _ _ dX8_dip_124 rfl (Nat.le_refl _) (Nat.le_refl _) rfl ?_
            exact Or.inl ⟨_, rfl, hq2, ⟨⟨_, hq2, rfl⟩, hw13, hw24, hw36⟩, by omega, rfl, rfl⟩
          · have hn60 := nlt_f (a := nd) (b := 100) (by omega) (by omega) hc60
            refine r_iconst hG (-1) dX8_dip_63 (by decide) ?_
            refine hE _ _ _ _ _ dX8_dip_64 rfl (Nat.le_refl _) (Nat.le_refl _) rfl ?_
            refine Or.inr ⟨?_, rfl, rfl⟩
            rintro ⟨⟨q1, q2, q3, q4⟩, q0⟩
            first | exact hw2 q1 | exact hw13 q2 | exact hw24 q3 | exact hw36 q4 | omega
        · rw [e8]
          refine r_if_eq hG 46 dX8_dip_39 (by decide) (fun hc39 => ?_) (fun hc39 => absurd hc39 (by decide))
          refine r_iconst hG (0) dX8_dip_46 (by decide) ?_
          refine r_istore hG dX8_dip_47 (by decide) ?_
          refine r_loc [some (.ref 0), some (.int (nI q2)), some (.int tl), some (.int di), some (.int er), some (.int (0)), none] rfl ?_
          refine r_iload hG dX8_dip_49 rfl ?_
          refine r_if_eq hG 63 dX8_dip_51 (by decide) (fun hc51 => ?_) (fun hc51 => absurd hc51 (by decide))
          refine r_iconst hG (-1) dX8_dip_63 (by decide) ?_
          refine hE _ _ _ _ _ dX8_dip_64 rfl (Nat.le_refl _) (Nat.le_refl _) rfl ?_
          refine Or.inr ⟨?_, rfl, rfl⟩
          rintro ⟨⟨q1, q2, q3, q4⟩, q0⟩
          first | exact hw2 q1 | exact hw13 q2 | exact hw24 q3 | exact hw36 q4 | omega
      · rw [e8]
        refine r_if_eq hG 46 dX8_dip_27 (by decide) (fun hc27 => ?_) (fun hc27 => absurd hc27 (by decide))
        refine r_iconst hG (0) dX8_dip_46 (by decide) ?_
        refine r_istore hG dX8_dip_47 (by decide) ?_
        refine r_loc [some (.ref 0), some (.int (nI q2)), some (.int tl), some (.int di), some (.int er), some (.int (0)), none] rfl ?_
        refine r_iload hG dX8_dip_49 rfl ?_
        refine r_if_eq hG 63 dX8_dip_51 (by decide) (fun hc51 => ?_) (fun hc51 => absurd hc51 (by decide))
        refine r_iconst hG (-1) dX8_dip_63 (by decide) ?_
        refine hE _ _ _ _ _ dX8_dip_64 rfl (Nat.le_refl _) (Nat.le_refl _) rfl ?_
        refine Or.inr ⟨?_, rfl, rfl⟩
        rintro ⟨⟨q1, q2, q3, q4⟩, q0⟩
        first | exact hw2 q1 | exact hw13 q2 | exact hw24 q3 | exact hw36 q4 | omega
    · rw [e8]
      refine r_if_eq hG 46 dX8_dip_16 (by decide) (fun hc16 => ?_) (fun hc16 => absurd hc16 (by decide))
      refine r_iconst hG (0) dX8_dip_46 (by decide) ?_
      refine r_istore hG dX8_dip_47 (by decide) ?_
      refine r_loc [some (.ref 0), some (.int (nI q2)), some (.int tl), some (.int di), some (.int er), some (.int (0)), none] rfl ?_
      refine r_iload hG dX8_dip_49 rfl ?_
      refine r_if_eq hG 63 dX8_dip_51 (by decide) (fun hc51 => ?_) (fun hc51 => absurd hc51 (by decide))
      refine r_iconst hG (-1) dX8_dip_63 (by decide) ?_
      refine hE _ _ _ _ _ dX8_dip_64 rfl (Nat.le_refl _) (Nat.le_refl _) rfl ?_
      refine Or.inr ⟨?_, rfl, rfl⟩
      rintro ⟨⟨q1, q2, q3, q4⟩, q0⟩
      first | exact hw2 q1 | exact hw13 q2 | exact hw24 q3 | exact hw36 q4 | omega
  · rw [e8]
    refine r_if_eq hG 46 dX8_dip_5 (by decide) (fun hc5 => ?_) (fun hc5 => absurd hc5 (by decide))
    refine r_iconst hG (0) dX8_dip_46 (by decide) ?_
    refine r_istore hG dX8_dip_47 (by decide) ?_
    refine r_loc [some (.ref 0), some (.int t), some (.int tl), some (.int di), some (.int er), some (.int (0)), none] rfl ?_
    refine r_iload hG dX8_dip_49 rfl ?_
    refine r_if_eq hG 63 dX8_dip_51 (by decide) (fun hc51 => ?_) (fun hc51 => absurd hc51 (by decide))
    refine r_iconst hG (-1) dX8_dip_63 (by decide) ?_
    refine hE _ _ _ _ _ dX8_dip_64 rfl (Nat.le_refl _) (Nat.le_refl _) rfl ?_
    refine Or.inr ⟨?_, rfl, rfl⟩
    rintro ⟨⟨q1, q2, q3, q4⟩, q0⟩
    first | exact hw2 q1 | exact hw13 q2 | exact hw24 q3 | exact hw36 q4 | omega

def fShort (M : gM) (k : Nat) : Int32 := if M.1 k 6 < 3 then 0 else if M.1 k 7 ≤ M.1 k 8 then 0 else 1
set_option maxRecDepth 100000 in
set_option maxHeartbeats 1000000 in
theorem ct_X8_isShort {M : gM} {b : Bool} (hR : M.2.2 = stdR b) {nv ns nt nb : Nat} (hnv : M.1 0 7 = nI nv) (lv : nv ≤ 12) (hns : M.1 0 8 = nI ns) (ls : ns ≤ 4) (hnt : M.1 0 9 = nI nt) (lt : nt ≤ 4) (hnb : M.1 0 10 = nI nb) (lb : nb ≤ 10) (t : Int32) : gC 2 0 0 yX8_isShort cX8_isShort 3 (some .int) 140 140 [.ref 0, .int t] M (gI (fun r M9 => ((∃ q, q < nt ∧ t = nI q ∧ r = fShort M (q + 74)) ∨ (¬ vIn t nt ∧ r = -1)) ∧ M9 = M)) := by
  refine gC_i rfl (Nat.le_of_ble_eq_true rfl) (fun G hG hE => ?_)
  change G (140, 0, 0) 0 [some (.ref 0), some (.int t), none] [] M
  refine r_aload_n hG dX8_isShort_0 rfl ?_
  refine r_iload_n hG dX8_isShort_1 rfl ?_
  refine r_cVI1 hG mk_X8_195 dX8_isShort_2 rfl (by decide) (ct_X8_isTanker (by exact hR) (c := nt) hnt (by omega) _) (by decide) ⟨Nat.le_refl _, Nat.le_refl _⟩ (Nat.le_of_ble_eq_true rfl) (fun x9 M9 h9 => ?_)
  obtain ⟨h8, e9⟩ := h9; rw [e9]; rcases h8 with ⟨e8, hw2⟩ | ⟨e8, hw2⟩
  · rw [e8]
    obtain ⟨q2, hq2, hv2⟩ := hw2
    subst hv2
    refine r_if_ne hG 10 dX8_isShort_5 (by decide) (fun hc5 => ?_) (fun hc5 => absurd hc5 (by decide))
    refine r_aload_n hG dX8_isShort_10 rfl ?_
    refine r_getR hG 2 3 fk_X8_23 dX8_isShort_11 rfl (by decide) rfl (sr hR rfl) ?_
    refine r_iload_n hG dX8_isShort_14 rfl ?_
    refine r_aald6 hG q2 (q2 + 74) dX8_isShort_15 rfl (by decide) rfl (by omega) (by decide) (sr hR rfl) ?_
    refine r_astore_n hG dX8_isShort_16 (by decide) ?_
    refine r_loc [some (.ref 0), some (.int (nI q2)), some (.ref (q2 + 74))] rfl ?_
    refine r_aload_n hG dX8_isShort_17 rfl ?_
    refine r_getI hG 6 fk_X8_201 dX8_isShort_18 (gkT (by omega)) (show (q2 + 74) < 140 by omega) rfl ?_
    refine r_iconst hG (3) dX8_isShort_21 (by decide) ?_
    refine r_icmp_lt hG 40 dX8_isShort_22 (by decide) (fun hc22 => ?_) (fun hc22 => ?_)
    · refine r_iconst hG (0) dX8_isShort_40 (by decide) ?_
      refine hE _ _ _ _ _ dX8_isShort_41 rfl (Nat.le_refl _) (Nat.le_refl _) rfl ?_
      exact ⟨Or.inl ⟨_, hq2, rfl, by simp [fShort, hc22]⟩, rfl⟩
    · refine r_aload_n hG dX8_isShort_25 rfl ?_
      refine r_getI hG 7 fk_X8_204 dX8_isShort_26 (gkT (by omega)) (show (q2 + 74) < 140 by omega) rfl ?_
      refine r_aload_n hG dX8_isShort_29 rfl ?_
      refine r_getI hG 8 fk_X8_207 dX8_isShort_30 (gkT (by omega)) (show (q2 + 74) < 140 by omega) rfl ?_
      refine r_icmp_le hG 40 dX8_isShort_33 (by decide) (fun hc33 => ?_) (fun hc33 => ?_)
      · refine r_iconst hG (0) dX8_isShort_40 (by decide) ?_
        refine hE _ _ _ _ _ dX8_isShort_41 rfl (Nat.le_refl _) (Nat.le_refl _) rfl ?_
        exact ⟨Or.inl ⟨_, hq2, rfl, by simp [fShort, hc22, hc33]⟩, rfl⟩
      · refine r_iconst hG (1) dX8_isShort_36 (by decide) ?_
        refine r_goto hG 41 dX8_isShort_37 (by decide) ?_
        refine hE _ _ _ _ _ dX8_isShort_41 rfl (Nat.le_refl _) (Nat.le_refl _) rfl ?_
        exact ⟨Or.inl ⟨_, hq2, rfl, by simp [fShort, hc22, hc33]⟩, rfl⟩
  · rw [e8]
    refine r_if_ne hG 10 dX8_isShort_5 (by decide) (fun hc5 => absurd hc5 (by decide)) (fun hc5 => ?_)
    refine r_iconst hG (-1) dX8_isShort_8 (by decide) ?_
    refine hE _ _ _ _ _ dX8_isShort_9 rfl (Nat.le_refl _) (Nat.le_refl _) rfl ?_
    exact ⟨Or.inr ⟨hw2, rfl⟩, rfl⟩

set_option maxRecDepth 100000 in
set_option maxHeartbeats 1000000 in
theorem ct_X8_flows {M : gM} {b : Bool} (hR : M.2.2 = stdR b) {nv ns nt nb : Nat} (hnv : M.1 0 7 = nI nv) (lv : nv ≤ 12) (hns : M.1 0 8 = nI ns) (ls : ns ≤ 4) (hnt : M.1 0 9 = nI nt) (lt : nt ≤ 4) (hnb : M.1 0 10 = nI nb) (lb : nb ≤ 10) (s w : Int32) : gC 2 0 0 yX8_flows cX8_flows 3 (some .int) 140 140 [.ref 0, .int s, .int w] M (gI (fun r M9 => ((∃ q, q < ns ∧ s = nI q ∧ (0 ≤ w ∧ w ≤ 1) ∧ r = if w = 0 then M.1 (2 * q + 66) 0 else M.1 (2 * q + 66) 2) ∨ (¬ (vIn s ns ∧ (0 ≤ w ∧ w ≤ 1)) ∧ r = -1)) ∧ M9 = M)) := by
  refine gC_i rfl (Nat.le_of_ble_eq_true rfl) (fun G hG hE => ?_)
  change G (140, 0, 0) 0 [some (.ref 0), some (.int s), some (.int w)] [] M
  refine r_aload_n hG dX8_flows_0 rfl ?_
  refine r_iload_n hG dX8_flows_1 rfl ?_
  refine r_cVI1 hG mk_X8_90 dX8_flows_2 rfl (by decide) (ct_X8_isSpring (by exact hR) (c := ns) hns (by omega) _) (by decide) ⟨Nat.le_refl _, Nat.le_refl _⟩ (Nat.le_of_ble_eq_true rfl) (fun x9 M9 h9 => ?_)
  obtain ⟨h8, e9⟩ := h9; rw [e9]; rcases h8 with ⟨e8, hw2⟩ | ⟨e8, hw2⟩
  · rw [e8]
    obtain ⟨q2, hq2, hv2⟩ := hw2
    subst hv2
    refine r_if_eq hG 17 dX8_flows_5 (by decide) (fun hc5 => absurd hc5 (by decide)) (fun hc5 => ?_)
    refine r_iload_n hG dX8_flows_8 rfl ?_
    refine r_iconst hG (0) dX8_flows_9 (by decide) ?_
    refine r_iconst hG (1) dX8_flows_10 (by decide) ?_
    refine r_cSI3 hG mk_X8_55 dX8_flows_11 (ct_X8_within _ _ _) (by decide) ⟨Nat.le_refl _, Nat.le_refl _⟩ (Nat.le_of_ble_eq_true rfl) (fun x9 M9 h9 => ?_)
    obtain ⟨h8, e9⟩ := h9; rw [e9]; rcases h8 with ⟨e8, hw11⟩ | ⟨e8, hw11⟩
    · rw [e8]
      refine r_if_ne hG 19 dX8_flows_14 (by decide) (fun hc14 => ?_) (fun hc14 => absurd hc14 (by decide))
      refine r_iload_n hG dX8_flows_19 rfl ?_
      refine r_if_ne hG 35 dX8_flows_20 (by decide) (fun hc20 => ?_) (fun hc20 => ?_)
      · refine r_aload_n hG dX8_flows_35 rfl ?_
        refine r_getR hG 1 2 fk_X8_17 dX8_flows_36 rfl (by decide) rfl (sr hR rfl) ?_
        refine r_iload_n hG dX8_flows_39 rfl ?_
        refine r_aald5 hG q2 (2 * q2 + 66) dX8_flows_40 rfl (by decide) rfl (by omega) (by decide) (sr hR rfl) ?_
        refine r_getI hG 2 fk_X8_86 dX8_flows_41 (gkS (by omega)) (show (2 * q2 + 66) < 140 by omega) rfl ?_
        refine hE _ _ _ _ _ dX8_flows_44 rfl (Nat.le_refl _) (Nat.le_refl _) rfl ?_
        exact ⟨Or.inl ⟨_, hq2, rfl, hw11, by simp [hc20]⟩, rfl⟩
      · refine r_aload_n hG dX8_flows_23 rfl ?_
        refine r_getR hG 1 2 fk_X8_17 dX8_flows_24 rfl (by decide) rfl (sr hR rfl) ?_
        refine r_iload_n hG dX8_flows_27 rfl ?_
        refine r_aald5 hG q2 (2 * q2 + 66) dX8_flows_28 rfl (by decide) rfl (by omega) (by decide) (sr hR rfl) ?_
        refine r_getI hG 0 fk_X8_80 dX8_flows_29 (gkS (by omega)) (show (2 * q2 + 66) < 140 by omega) rfl ?_
        refine r_goto hG 44 dX8_flows_32 (by decide) ?_
        refine hE _ _ _ _ _ dX8_flows_44 rfl (Nat.le_refl _) (Nat.le_refl _) rfl ?_
        exact ⟨Or.inl ⟨_, hq2, rfl, hw11, by simp [hc20]⟩, rfl⟩
    · rw [e8]
      refine r_if_ne hG 19 dX8_flows_14 (by decide) (fun hc14 => absurd hc14 (by decide)) (fun hc14 => ?_)
      refine r_iconst hG (-1) dX8_flows_17 (by decide) ?_
      refine hE _ _ _ _ _ dX8_flows_18 rfl (Nat.le_refl _) (Nat.le_refl _) rfl ?_
      refine ⟨Or.inr ⟨?_, rfl⟩, rfl⟩
      rintro ⟨q1, q2⟩
      first | exact hw2 q1 | exact hw11 q2
  · rw [e8]
    refine r_if_eq hG 17 dX8_flows_5 (by decide) (fun hc5 => ?_) (fun hc5 => absurd hc5 (by decide))
    refine r_iconst hG (-1) dX8_flows_17 (by decide) ?_
    refine hE _ _ _ _ _ dX8_flows_18 rfl (Nat.le_refl _) (Nat.le_refl _) rfl ?_
    refine ⟨Or.inr ⟨?_, rfl⟩, rfl⟩
    rintro ⟨q1, q2⟩
    first | exact hw2 q1 | exact hw11 q2

set_option maxRecDepth 100000 in
set_option maxHeartbeats 1000000 in
theorem ct_X8_goes {M : gM} {b : Bool} (hR : M.2.2 = stdR b) {nv ns nt nb : Nat} (hnv : M.1 0 7 = nI nv) (lv : nv ≤ 12) (hns : M.1 0 8 = nI ns) (ls : ns ≤ 4) (hnt : M.1 0 9 = nI nt) (lt : nt ≤ 4) (hnb : M.1 0 10 = nI nb) (lb : nb ≤ 10) (t w : Int32) : gC 2 0 0 yX8_goes cX8_goes 4 (some .int) 140 140 [.ref 0, .int t, .int w] M (gI (fun r M9 => ((∃ q, q < nt ∧ t = nI q ∧ (0 ≤ w ∧ w ≤ 2) ∧ r = if w = 0 then M.1 (q + 74) 3 else if w = 1 then M.1 (q + 74) 4 else M.1 (q + 74) 5) ∨ (¬ (vIn t nt ∧ (0 ≤ w ∧ w ≤ 2)) ∧ r = -1)) ∧ M9 = M)) := by
  refine gC_i rfl (Nat.le_of_ble_eq_true rfl) (fun G hG hE => ?_)
  change G (140, 0, 0) 0 [some (.ref 0), some (.int t), some (.int w), none] [] M
  refine r_aload_n hG dX8_goes_0 rfl ?_
  refine r_iload_n hG dX8_goes_1 rfl ?_
  refine r_cVI1 hG mk_X8_195 dX8_goes_2 rfl (by decide) (ct_X8_isTanker (by exact hR) (c := nt) hnt (by omega) _) (by decide) ⟨Nat.le_refl _, Nat.le_refl _⟩ (Nat.le_of_ble_eq_true rfl) (fun x9 M9 h9 => ?_)
  obtain ⟨h8, e9⟩ := h9; rw [e9]; rcases h8 with ⟨e8, hw2⟩ | ⟨e8, hw2⟩
  · rw [e8]
    obtain ⟨q2, hq2, hv2⟩ := hw2
    subst hv2
    refine r_if_eq hG 17 dX8_goes_5 (by decide) (fun hc5 => absurd hc5 (by decide)) (fun hc5 => ?_)
    refine r_iload_n hG dX8_goes_8 rfl ?_
    refine r_iconst hG (0) dX8_goes_9 (by decide) ?_
    refine r_iconst hG (2) dX8_goes_10 (by decide) ?_
    refine r_cSI3 hG mk_X8_55 dX8_goes_11 (ct_X8_within _ _ _) (by decide) ⟨Nat.le_refl _, Nat.le_refl _⟩ (Nat.le_of_ble_eq_true rfl) (fun x9 M9 h9 => ?_)
    obtain ⟨h8, e9⟩ := h9; rw [e9]; rcases h8 with ⟨e8, hw11⟩ | ⟨e8, hw11⟩
    · rw [e8]
      refine r_if_ne hG 19 dX8_goes_14 (by decide) (fun hc14 => ?_) (fun hc14 => absurd hc14 (by decide))
      refine r_aload_n hG dX8_goes_19 rfl ?_
      refine r_getR hG 2 3 fk_X8_23 dX8_goes_20 rfl (by decide) rfl (sr hR rfl) ?_
      refine r_iload_n hG dX8_goes_23 rfl ?_
      refine r_aald6 hG q2 (q2 + 74) dX8_goes_24 rfl (by decide) rfl (by omega) (by decide) (sr hR rfl) ?_
      refine r_astore_n hG dX8_goes_25 (by decide) ?_
      refine r_loc [some (.ref 0), some (.int (nI q2)), some (.int w), some (.ref (q2 + 74))] rfl ?_
      refine r_iload_n hG dX8_goes_26 rfl ?_
      refine r_if_ne hG 35 dX8_goes_27 (by decide) (fun hc27 => ?_) (fun hc27 => ?_)
      · refine r_iload_n hG dX8_goes_35 rfl ?_
        refine r_iconst hG (1) dX8_goes_36 (by decide) ?_
        refine r_icmp_ne hG 47 dX8_goes_37 (by decide) (fun hc37 => ?_) (fun hc37 => ?_)
        · refine r_aload_n hG dX8_goes_47 rfl ?_
          refine r_getI hG 5 fk_X8_225 dX8_goes_48 (gkT (by omega)) (show (q2 + 74) < 140 by omega) rfl ?_
          refine hE _ _ _ _ _ dX8_goes_51 rfl (Nat.le_refl _) (Nat.le_refl _) rfl ?_
          exact ⟨Or.inl ⟨_, hq2, rfl, hw11, by simp [hc27, hc37]⟩, rfl⟩
        · refine r_aload_n hG dX8_goes_40 rfl ?_
          refine r_getI hG 4 fk_X8_222 dX8_goes_41 (gkT (by omega)) (show (q2 + 74) < 140 by omega) rfl ?_
          refine r_goto hG 51 dX8_goes_44 (by decide) ?_
          refine hE _ _ _ _ _ dX8_goes_51 rfl (Nat.le_refl _) (Nat.le_refl _) rfl ?_
          exact ⟨Or.inl ⟨_, hq2, rfl, hw11, by simp [hc27, hc37]⟩, rfl⟩
      · refine r_aload_n hG dX8_goes_30 rfl ?_
        refine r_getI hG 3 fk_X8_219 dX8_goes_31 (gkT (by omega)) (show (q2 + 74) < 140 by omega) rfl ?_
        refine hE _ _ _ _ _ dX8_goes_34 rfl (Nat.le_refl _) (Nat.le_refl _) rfl ?_
        exact ⟨Or.inl ⟨_, hq2, rfl, hw11, by simp [hc27]⟩, rfl⟩
    · rw [e8]
      refine r_if_ne hG 19 dX8_goes_14 (by decide) (fun hc14 => absurd hc14 (by decide)) (fun hc14 => ?_)
      refine r_iconst hG (-1) dX8_goes_17 (by decide) ?_
      refine hE _ _ _ _ _ dX8_goes_18 rfl (Nat.le_refl _) (Nat.le_refl _) rfl ?_
      refine ⟨Or.inr ⟨?_, rfl⟩, rfl⟩
      rintro ⟨q1, q2⟩
      first | exact hw2 q1 | exact hw11 q2
  · rw [e8]
    refine r_if_eq hG 17 dX8_goes_5 (by decide) (fun hc5 => ?_) (fun hc5 => absurd hc5 (by decide))
    refine r_iconst hG (-1) dX8_goes_17 (by decide) ?_
    refine hE _ _ _ _ _ dX8_goes_18 rfl (Nat.le_refl _) (Nat.le_refl _) rfl ?_
    refine ⟨Or.inr ⟨?_, rfl⟩, rfl⟩
    rintro ⟨q1, q2⟩
    first | exact hw2 q1 | exact hw11 q2


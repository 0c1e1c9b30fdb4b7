theorem le99 {t : Nat × Int32} {so : Int32} {va : Int64} (h : tokR t so va) (h0 : t.1 = 0) (hc : lg_cmp va 99 ≤ 0) : ¬ 99 < t.2 := by
  have h1 := (lg_cmp_le _ _).mp hc
  rw [nu_va h h0] at h1
  intro z
  have h2 := Int64.le_iff_toInt_le.mp h1
  have h3 := Int32.lt_iff_toInt_lt.mp z
  rw [Int32.toInt_toInt64] at h2
  have e1 : (99 : Int64).toInt = 99 := by decide
  have e2 : (99 : Int32).toInt = 99 := by decide
  omega
theorem lt99 {t : Nat × Int32} {so : Int32} {va : Int64} (h : tokR t so va) (h0 : t.1 = 0) (hc : ¬ lg_cmp va 99 ≤ 0) : 99 < t.2 := by
  have h1 : ¬ va ≤ 99 := fun z => hc ((lg_cmp_le _ _).mpr z)
  rw [nu_va h h0] at h1
  refine Int32.lt_iff_toInt_lt.mpr ?_
  have h2 : ¬ t.2.toInt64.toInt ≤ (99 : Int64).toInt := fun z => h1 (Int64.le_iff_toInt_le.mpr z)
  rw [Int32.toInt_toInt64] at h2
  have e1 : (99 : Int64).toInt = 99 := by decide
  have e2 : (99 : Int32).toInt = 99 := by decide
  omega
set_option maxRecDepth 100000 in
set_option maxHeartbeats 400000 in
theorem ct_X9_line {M : gM} {b : Bool} (hR : M.2.2 = stdR b) {q : kS} (hk : tkM M q) (tw : tkW q) (wd : wdM M) {h : Nat} (lh : h ≤ 1) (h17 : M.1 88 17 = nI h) {s : oT} (hs : ordMp M h s) (hO : oOK s) {a : Nat} (h7 : M.1 88 7 = nI a) (h8 : M.1 88 8 = 0) (ha : a < q.1) (hu : s.2.2.2.1 s.1 ≤ a) : gC 3 0 0 yX9_line cX9_line 4 none 140 140 [.ref 88] M (gV (fun M9 => lnM q h s a M M9)) := by
  refine gC_v rfl (Nat.le_of_ble_eq_true rfl) (fun G hG hE => ?_)
  change G (140, 0, 0) 0 [some (.ref 88), none, none, none] [] M
  have h601 := tw.2.1
  have h16 := hO.1
  refine r_aload_n hG dX9_line_0 rfl ?_
  refine r_iconst hG (1) dX9_line_1 (by decide) ?_
  refine r_cVI1 hG mk_X9_229 dX9_line_2 rfl (by decide) (ct_X9_isWord hR hk tw.2.1 h7 ha h8 wd (w := 1) (by decide) rfl) (by decide) ⟨Nat.le_refl _, Nat.le_refl _⟩ (Nat.le_of_ble_eq_true rfl) (fun x9 M9 h9 => ?_)
  obtain ⟨h8, e9⟩ := h9; rw [e9]; rcases h8 with ⟨e8, hw2⟩ | ⟨e8, hw2⟩
  · rw [e8]
    refine r_istore_n hG dX9_line_5 (by decide) ?_
    refine r_loc [some (.ref 88), some (.int (1)), none, none] rfl ?_
    refine r_iload_n hG dX9_line_6 rfl ?_
    refine r_if_ne hG 26 dX9_line_7 (by decide) (fun hc7 => ?_) (fun hc7 => absurd hc7 (by decide))
    refine r_aload_n hG dX9_line_26 rfl ?_
    refine r_getR hG 10 94 fk_X9_57 dX9_line_27 rfl (by decide) rfl (sr hR rfl) ?_
    refine r_aload_n hG dX9_line_30 rfl ?_
    refine r_getIv hG 17 (nI h) fk_X9_235 dX9_line_31 rfl (by decide) rfl h17 ?_
    refine r_ialdv hG h (nI s.1) dX9_line_34 rfl (by decide) rfl (by omega) (by decide) hs.1 ?_
    refine r_bipush hG (16) dX9_line_35 (by decide) ?_
    refine r_icmp_ne hG 45 dX9_line_37 (by decide) (fun hc37 => ?_) (fun hc37 => ?_)
    · have hn37 := neq_f (a := s.1) (b := 16) (by omega) (by omega) hc37
      refine r_aload_n hG dX9_line_45 rfl ?_
      refine r_getIv hG 8 (0) fk_X9_219 dX9_line_46 rfl (by decide) rfl h8 ?_
      refine r_if_le hG 53 dX9_line_49 (by decide) (fun hc49 => ?_) (fun hc49 => absurd hc49 (by decide))
      have hkd : (q.2.1 a).1 = 12 ∨ (q.2.1 a).1 = 13 := Or.inr hw2
      have hn1 := tw.nx ha (by omega)
      have hn16 : s.1 ≠ 16 := by omega
      refine r_aload_n hG dX9_line_53 rfl ?_
      refine r_dup hG dX9_line_54 rfl ?_
      refine r_getIv hG 7 (nI a) fk_X9_216 dX9_line_55 rfl (by decide) rfl h7 ?_
      refine r_iconst hG (1) dX9_line_58 (by decide) ?_
      refine r_iadd hG dX9_line_59 ?_
      refine r_top (nI (a + 1)) (nI_1 a) ?_
      refine r_putI hG 7 fp_X9_216 dX9_line_60 rfl (by decide) rfl rfl rfl ?_
      refine r_bipush hG (16) dX9_line_63 (by decide) ?_
      refine r_aload_n hG dX9_line_65 rfl ?_
      refine r_getIv hG 17 (nI h) fk_X9_235 dX9_line_66 rfl (by decide) rfl ((gwI_n (by omega)).trans h17) ?_
      refine r_imul hG dX9_line_69 ?_
      refine r_aload_n hG dX9_line_70 rfl ?_
      refine r_getR hG 10 94 fk_X9_57 dX9_line_71 rfl (by decide) rfl (sr hR rfl) ?_
      refine r_aload_n hG dX9_line_74 rfl ?_
      refine r_getIv hG 17 (nI h) fk_X9_235 dX9_line_75 rfl (by decide) rfl ((gwI_n (by omega)).trans h17) ?_
      refine r_ialdv hG h (nI s.1) dX9_line_78 rfl (by decide) rfl (by omega) (by decide) ((gwI_n (by omega)).trans hs.1) ?_
      refine r_iadd hG dX9_line_79 ?_
      refine r_top (nI (16 * h + s.1)) (by rw [show (16 : Int32) = nI 16 from rfl, mulAdd]) ?_
      refine r_istore_n hG dX9_line_80 (by decide) ?_
      refine r_loc [some (.ref 88), some (.int (1)), some (.int (nI (16 * h + s.1))), none] rfl ?_
      refine r_aload_n hG dX9_line_81 rfl ?_
      refine r_getR hG 4 90 fk_X9_24 dX9_line_82 rfl (by decide) rfl (sr hR rfl) ?_
      refine r_aload_n hG dX9_line_85 rfl ?_
      refine r_getIv hG 7 (nI (a + 1)) fk_X9_216 dX9_line_86 rfl (by decide) rfl gwI_s ?_
      refine r_ialdv hG (a + 1) (M.1 90 (a + 1)) dX9_line_89 rfl (by decide) rfl (by omega) (by decide) (gwI_n (by omega)) ?_
      refine r_iconst hG (2) dX9_line_90 (by decide) ?_
      refine r_icmp_eq hG 102 dX9_line_91 (by decide) (fun hc91 => ?_) (fun hc91 => ?_)
      · refine r_aload_n hG dX9_line_102 rfl ?_
        refine r_getR hG 6 92 fk_X9_30 dX9_line_103 rfl (by decide) rfl (sr hR rfl) ?_
        refine r_aload_n hG dX9_line_106 rfl ?_
        refine r_getIv hG 7 (nI (a + 1)) fk_X9_216 dX9_line_107 rfl (by decide) rfl gwI_s ?_
        refine r_lald hG (a + 1) dX9_line_110 rfl (by decide) rfl (by omega) (by decide) ?_
        refine r_ldc2 hG (99) dX9_line_111 ck_X9_250 ?_
        refine r_lcmp hG dX9_line_114 ?_
        refine r_if_le hG 123 dX9_line_115 (by decide) (fun hc115 => ?_) (fun hc115 => ?_)
        · have h0 := (nu_is (hk (a + 1) hn1).1).mp hc91
          have hn2 : a + 2 < q.1 := tw.nx hn1 (by omega)
          have h99 := le99 (hk (a + 1) hn1).1 h0 hc115
          refine r_aload_n hG dX9_line_123 rfl ?_
          refine r_getR hG 11 95 fk_X9_60 dX9_line_124 rfl (by decide) rfl (sr hR rfl) ?_
          refine r_iload_n hG dX9_line_127 rfl ?_
          refine r_iload_n hG dX9_line_128 rfl ?_
          refine r_zast hG (16 * h + s.1) dX9_line_129 rfl (by decide) rfl (by omega) (by decide) rfl ?_
          refine r_aload_n hG dX9_line_130 rfl ?_
          refine r_getR hG 12 96 fk_X9_64 dX9_line_131 rfl (by decide) rfl (sr hR rfl) ?_
          refine r_iload_n hG dX9_line_134 rfl ?_
          refine r_aload_n hG dX9_line_135 rfl ?_
          refine r_getIv hG 8 (0) fk_X9_219 dX9_line_136 rfl (by decide) rfl (((gwI_n (by omega)).trans (gwI_n (by omega))).trans h8) ?_
          refine r_if_le hG 146 dX9_line_139 (by decide) (fun hc139 => ?_) (fun hc139 => absurd hc139 (by decide))
          refine r_aload_n hG dX9_line_146 rfl ?_
          refine r_getR hG 6 92 fk_X9_30 dX9_line_147 rfl (by decide) rfl (sr hR rfl) ?_
          refine r_aload_n hG dX9_line_150 rfl ?_
          refine r_getIv hG 7 (nI (a + 1)) fk_X9_216 dX9_line_151 rfl (by decide) rfl ((gwI_n (by omega)).trans gwI_s) ?_
          refine r_lald hG (a + 1) dX9_line_154 rfl (by decide) rfl (by omega) (by decide) ?_
          refine r_l2i hG dX9_line_155 ?_
          refine r_iast hG (16 * h + s.1) dX9_line_156 rfl (by decide) rfl (by omega) (by decide) ?_
          refine r_aload_n hG dX9_line_157 rfl ?_
          refine r_dup hG dX9_line_158 rfl ?_
          refine r_getIv hG 7 (nI (a + 1)) fk_X9_216 dX9_line_159 rfl (by decide) rfl ((gwI_n (by omega)).trans ((gwI_n (by omega)).trans gwI_s)) ?_
          refine r_iconst hG (1) dX9_line_162 (by decide) ?_
          refine r_iadd hG dX9_line_163 ?_
          refine r_top (nI (a + 2)) (nI_1 (a + 1)) ?_
          refine r_putI hG 7 fp_X9_216 dX9_line_164 rfl (by decide) rfl rfl rfl ?_
          refine sl167 hG hE hR hk tw wd lh h17 hs hO hn2 hu hkd hn16 h0 h99 ((((gEq.rf.put (by unfold SLn SM; omega)).put (by unfold SLn SM; omega)).put (by unfold SLn SM; omega)).put (by unfold SLn SM; omega)) ?_ ?_ (fun M9 g => g) ?_ gwI_s ?_ ?_
          · rw [gwI_n (by omega), gwI_n (by omega), gwI_s]; rw [if_pos (decide_eq_true (show (q.2.1 a).1 = 13 from hw2))]
          · rw [gwI_n (by omega), gwI_s]; show (M.2.1 92 (a + 1)).toInt32 = _; rw [nu_va (hk (a + 1) hn1).1 h0, i32_64]
          · rw [gwI_n (by omega), gwI_n (by omega), gwI_n (by omega), gwI_n (by omega)]; exact hs.2.1
          · rw [gwI_n (by omega), gwI_n (by omega), gwI_n (by omega), gwI_n (by omega)]; exact h8
          · rw [gwI_n (by omega), gwI_n (by omega), gwI_n (by omega), gwI_n (by omega)]; exact hs.1
        · refine r_aload_n hG dX9_line_118 rfl ?_
          refine r_iconst hG (4) dX9_line_119 (by decide) ?_
          refine r_cVV1 hG mk_X9_225 dX9_line_120 rfl (by decide) (ct_X9_wrong (M := (gwI M 88 7 (nI (a + 1)))) (by exact hR) (hk.mv (S := SLn h s.1 (s.2.2.2.1 s.1)) (gEq.rf.put (by unfold SLn SM; omega)) SLn_no) tw.2.1 gwI_s hn1 (by rw [gwI_n (by omega)]; exact h8) _) (by decide) ⟨Nat.le_refl _, Nat.le_refl _⟩ (Nat.le_of_ble_eq_true rfl) (fun M9 h9 => ?_)
          rw [h9]
          have h0 := (nu_is (hk (a + 1) hn1).1).mp hc91
          have hn2 : a + 2 < q.1 := tw.nx hn1 (by omega)
          have h99 := lt99 (hk (a + 1) hn1).1 h0 hc115
          refine r_aload_n hG dX9_line_123 rfl ?_
          refine r_getR hG 11 95 fk_X9_60 dX9_line_124 rfl (by decide) rfl (sr hR rfl) ?_
          refine r_iload_n hG dX9_line_127 rfl ?_
          refine r_iload_n hG dX9_line_128 rfl ?_
          refine r_zast hG (16 * h + s.1) dX9_line_129 rfl (by decide) rfl (by omega) (by decide) rfl ?_
          refine r_aload_n hG dX9_line_130 rfl ?_
          refine r_getR hG 12 96 fk_X9_64 dX9_line_131 rfl (by decide) rfl (sr hR rfl) ?_
          refine r_iload_n hG dX9_line_134 rfl ?_
          refine r_aload_n hG dX9_line_135 rfl ?_
          refine r_getIv hG 8 (4 + 16 * nI (q.2.2 (a + 1))) fk_X9_219 dX9_line_136 rfl (by decide) rfl ((gwI_n (by omega)).trans gwI_s) ?_
          refine r_if_le hG 146 dX9_line_139 (by decide) (fun hc139 => absurd hc139 (flt_no (k := 4) rfl ⟨by omega, by omega⟩ (tw.2.2.2.2.2 (a + 1) hn1))) (fun hc139 => ?_)
          refine r_iconst hG (0) dX9_line_142 (by decide) ?_
          refine r_goto hG 156 dX9_line_143 (by decide) ?_
          refine r_iast hG (16 * h + s.1) dX9_line_156 rfl (by decide) rfl (by omega) (by decide) ?_
          refine r_aload_n hG dX9_line_157 rfl ?_
          refine r_dup hG dX9_line_158 rfl ?_
          refine r_getIv hG 7 (nI (a + 1)) fk_X9_216 dX9_line_159 rfl (by decide) rfl ((gwI_n (by omega)).trans ((gwI_n (by omega)).trans ((gwI_n (by omega)).trans gwI_s))) ?_
          refine r_iconst hG (1) dX9_line_162 (by decide) ?_
          refine r_iadd hG dX9_line_163 ?_
          refine r_top (nI (a + 2)) (nI_1 (a + 1)) ?_
          refine r_putI hG 7 fp_X9_216 dX9_line_164 rfl (by decide) rfl rfl rfl ?_
          exact sl167f hG hE hR lh h17 (by omega) gwI_s (((((gEq.rf.put (by unfold SLn SM; omega)).put (by unfold SLn SM; omega)).put (by unfold SLn SM; omega)).put (by unfold SLn SM; omega)).put (by unfold SLn SM; omega)) (z := s.1 + (s.2.2.2.1 s.1)) (by omega) (Nat.le_refl _) (by rw [gwI_n (by omega), gwI_n (by omega), gwI_n (by omega), gwI_n (by omega), gwI_n (by omega)]; exact hs.2.1) (v := 4 + 16 * nI (q.2.2 (a + 1))) (by rw [gwI_n (by omega), gwI_n (by omega), gwI_n (by omega), gwI_s]) (flt_nz (k := 4) rfl ⟨by omega, by omega⟩ (tw.2.2.2.2.2 _ hn1)) (fun M9 q1 q2 => ⟨q1, 4, a + 1, _, _, ln_4 hkd hn16 h0 h99, hn1, Or.inr ⟨by omega, by omega, q2⟩⟩)
      · refine r_aload_n hG dX9_line_94 rfl ?_
        refine r_iconst hG (1) dX9_line_95 (by decide) ?_
        refine r_cVV1 hG mk_X9_225 dX9_line_96 rfl (by decide) (ct_X9_wrong (M := (gwI M 88 7 (nI (a + 1)))) (by exact hR) (hk.mv (S := SLn h s.1 (s.2.2.2.1 s.1)) (gEq.rf.put (by unfold SLn SM; omega)) SLn_no) tw.2.1 gwI_s hn1 (by rw [gwI_n (by omega)]; exact h8) _) (by decide) ⟨Nat.le_refl _, Nat.le_refl _⟩ (Nat.le_of_ble_eq_true rfl) (fun M9 h9 => ?_)
        rw [h9]
        refine r_goto hG 123 dX9_line_99 (by decide) ?_
        skip
        refine r_aload_n hG dX9_line_123 rfl ?_
        refine r_getR hG 11 95 fk_X9_60 dX9_line_124 rfl (by decide) rfl (sr hR rfl) ?_
        refine r_iload_n hG dX9_line_127 rfl ?_
        refine r_iload_n hG dX9_line_128 rfl ?_
        refine r_zast hG (16 * h + s.1) dX9_line_129 rfl (by decide) rfl (by omega) (by decide) rfl ?_
        refine r_aload_n hG dX9_line_130 rfl ?_
        refine r_getR hG 12 96 fk_X9_64 dX9_line_131 rfl (by decide) rfl (sr hR rfl) ?_
        refine r_iload_n hG dX9_line_134 rfl ?_
        refine r_aload_n hG dX9_line_135 rfl ?_
        refine r_getIv hG 8 (1 + 16 * nI (q.2.2 (a + 1))) fk_X9_219 dX9_line_136 rfl (by decide) rfl ((gwI_n (by omega)).trans gwI_s) ?_
        refine r_if_le hG 146 dX9_line_139 (by decide) (fun hc139 => absurd hc139 (flt_no (k := 1) rfl ⟨by omega, by omega⟩ (tw.2.2.2.2.2 (a + 1) hn1))) (fun hc139 => ?_)
        refine r_iconst hG (0) dX9_line_142 (by decide) ?_
        refine r_goto hG 156 dX9_line_143 (by decide) ?_
        refine r_iast hG (16 * h + s.1) dX9_line_156 rfl (by decide) rfl (by omega) (by decide) ?_
        refine r_aload_n hG dX9_line_157 rfl ?_
        refine r_dup hG dX9_line_158 rfl ?_
        refine r_getIv hG 7 (nI (a + 1)) fk_X9_216 dX9_line_159 rfl (by decide) rfl ((gwI_n (by omega)).trans ((gwI_n (by omega)).trans ((gwI_n (by omega)).trans gwI_s))) ?_
        refine r_iconst hG (1) dX9_line_162 (by decide) ?_
        refine r_iadd hG dX9_line_163 ?_
        refine r_top (nI (a + 2)) (nI_1 (a + 1)) ?_
        refine r_putI hG 7 fp_X9_216 dX9_line_164 rfl (by decide) rfl rfl rfl ?_
        exact sl167f hG hE hR lh h17 (by omega) gwI_s (((((gEq.rf.put (by unfold SLn SM; omega)).put (by unfold SLn SM; omega)).put (by unfold SLn SM; omega)).put (by unfold SLn SM; omega)).put (by unfold SLn SM; omega)) (z := s.1 + (s.2.2.2.1 s.1)) (by omega) (Nat.le_refl _) (by rw [gwI_n (by omega), gwI_n (by omega), gwI_n (by omega), gwI_n (by omega), gwI_n (by omega)]; exact hs.2.1) (v := 1 + 16 * nI (q.2.2 (a + 1))) (by rw [gwI_n (by omega), gwI_n (by omega), gwI_n (by omega), gwI_s]) (flt_nz (k := 1) rfl ⟨by omega, by omega⟩ (tw.2.2.2.2.2 _ hn1)) (fun M9 q1 q2 => ⟨q1, 1, a + 1, _, _, ln_3 hkd hn16 (fun z => hc91 ((nu_is (hk (a + 1) hn1).1).mpr z)), hn1, Or.inr ⟨by omega, by omega, q2⟩⟩)
    · have hn37 := neq_t (a := s.1) (b := 16) (by omega) (by omega) hc37
      refine r_aload_n hG dX9_line_40 rfl ?_
      refine r_iconst hG (5) dX9_line_41 (by decide) ?_
      refine r_cVV1 hG mk_X9_225 dX9_line_42 rfl (by decide) (ct_X9_wrong hR hk tw.2.1 h7 ha h8 _) (by decide) ⟨Nat.le_refl _, Nat.le_refl _⟩ (Nat.le_of_ble_eq_true rfl) (fun M9 h9 => ?_)
      rw [h9]
      refine r_aload_n hG dX9_line_45 rfl ?_
      refine r_getIv hG 8 (5 + 16 * nI (q.2.2 a)) fk_X9_219 dX9_line_46 rfl (by decide) rfl gwI_s ?_
      refine r_if_le hG 53 dX9_line_49 (by decide) (fun hc49 => absurd hc49 (flt_no (k := 5) rfl ⟨by omega, by omega⟩ (tw.2.2.2.2.2 a ha))) (fun hc49 => ?_)
      refine hE _ _ _ _ dX9_line_52 rfl (Nat.le_refl _) (Nat.le_refl _) ?_
      have hkd : (q.2.1 a).1 = 12 ∨ (q.2.1 a).1 = 13 := Or.inr hw2
      exact ⟨(gEq.rf.put (by unfold SLn SM; omega)), 5, a, _, _, (by rw [hn37]; exact ln_2 hkd), ha, Or.inr ⟨by omega, by omega, gwI_s⟩⟩
  · rw [e8]
    refine r_istore_n hG dX9_line_5 (by decide) ?_
    refine r_loc [some (.ref 88), some (.int (0)), none, none] rfl ?_
    refine r_iload_n hG dX9_line_6 rfl ?_
    refine r_if_ne hG 26 dX9_line_7 (by decide) (fun hc7 => absurd hc7 (by decide)) (fun hc7 => ?_)
    refine r_aload_n hG dX9_line_10 rfl ?_
    refine r_iconst hG (0) dX9_line_11 (by decide) ?_
    refine r_cVI1 hG mk_X9_229 dX9_line_12 rfl (by decide) (ct_X9_isWord hR hk tw.2.1 h7 ha h8 wd (w := 0) (by decide) rfl) (by decide) ⟨Nat.le_refl _, Nat.le_refl _⟩ (Nat.le_of_ble_eq_true rfl) (fun x9 M9 h9 => ?_)
    obtain ⟨h8, e9⟩ := h9; rw [e9]; rcases h8 with ⟨e8, hw12⟩ | ⟨e8, hw12⟩
    · rw [e8]
      refine r_if_ne hG 26 dX9_line_15 (by decide) (fun hc15 => ?_) (fun hc15 => absurd hc15 (by decide))
      refine r_aload_n hG dX9_line_26 rfl ?_
      refine r_getR hG 10 94 fk_X9_57 dX9_line_27 rfl (by decide) rfl (sr hR rfl) ?_
      refine r_aload_n hG dX9_line_30 rfl ?_
      refine r_getIv hG 17 (nI h) fk_X9_235 dX9_line_31 rfl (by decide) rfl h17 ?_
      refine r_ialdv hG h (nI s.1) dX9_line_34 rfl (by decide) rfl (by omega) (by decide) hs.1 ?_
      refine r_bipush hG (16) dX9_line_35 (by decide) ?_
      refine r_icmp_ne hG 45 dX9_line_37 (by decide) (fun hc37 => ?_) (fun hc37 => ?_)
      · have hn37 := neq_f (a := s.1) (b := 16) (by omega) (by omega) hc37
        refine r_aload_n hG dX9_line_45 rfl ?_
        refine r_getIv hG 8 (0) fk_X9_219 dX9_line_46 rfl (by decide) rfl h8 ?_
        refine r_if_le hG 53 dX9_line_49 (by decide) (fun hc49 => ?_) (fun hc49 => absurd hc49 (by decide))
        have hkd : (q.2.1 a).1 = 12 ∨ (q.2.1 a).1 = 13 := Or.inl hw12
        have hn1 := tw.nx ha (by omega)
        have hn16 : s.1 ≠ 16 := by omega
        refine r_aload_n hG dX9_line_53 rfl ?_
        refine r_dup hG dX9_line_54 rfl ?_
        refine r_getIv hG 7 (nI a) fk_X9_216 dX9_line_55 rfl (by decide) rfl h7 ?_
        refine r_iconst hG (1) dX9_line_58 (by decide) ?_
        refine r_iadd hG dX9_line_59 ?_
        refine r_top (nI (a + 1)) (nI_1 a) ?_
        refine r_putI hG 7 fp_X9_216 dX9_line_60 rfl (by decide) rfl rfl rfl ?_
        refine r_bipush hG (16) dX9_line_63 (by decide) ?_
        refine r_aload_n hG dX9_line_65 rfl ?_
        refine r_getIv hG 17 (nI h) fk_X9_235 dX9_line_66 rfl (by decide) rfl ((gwI_n (by omega)).trans h17) ?_
        refine r_imul hG dX9_line_69 ?_
        refine r_aload_n hG dX9_line_70 rfl ?_
        refine r_getR hG 10 94 fk_X9_57 dX9_line_71 rfl (by decide) rfl (sr hR rfl) ?_
        refine r_aload_n hG dX9_line_74 rfl ?_
        refine r_getIv hG 17 (nI h) fk_X9_235 dX9_line_75 rfl (by decide) rfl ((gwI_n (by omega)).trans h17) ?_
        refine r_ialdv hG h (nI s.1) dX9_line_78 rfl (by decide) rfl (by omega) (by decide) ((gwI_n (by omega)).trans hs.1) ?_
        refine r_iadd hG dX9_line_79 ?_
        refine r_top (nI (16 * h + s.1)) (by rw [show (16 : Int32) = nI 16 from rfl, mulAdd]) ?_
        refine r_istore_n hG dX9_line_80 (by decide) ?_
        refine r_loc [some (.ref 88), some (.int (0)), some (.int (nI (16 * h + s.1))), none] rfl ?_
        refine r_aload_n hG dX9_line_81 rfl ?_
        refine r_getR hG 4 90 fk_X9_24 dX9_line_82 rfl (by decide) rfl (sr hR rfl) ?_
        refine r_aload_n hG dX9_line_85 rfl ?_
        refine r_getIv hG 7 (nI (a + 1)) fk_X9_216 dX9_line_86 rfl (by decide) rfl gwI_s ?_
        refine r_ialdv hG (a + 1) (M.1 90 (a + 1)) dX9_line_89 rfl (by decide) rfl (by omega) (by decide) (gwI_n (by omega)) ?_
        refine r_iconst hG (2) dX9_line_90 (by decide) ?_
        refine r_icmp_eq hG 102 dX9_line_91 (by decide) (fun hc91 => ?_) (fun hc91 => ?_)
        · refine r_aload_n hG dX9_line_102 rfl ?_
          refine r_getR hG 6 92 fk_X9_30 dX9_line_103 rfl (by decide) rfl (sr hR rfl) ?_
          refine r_aload_n hG dX9_line_106 rfl ?_
          refine r_getIv hG 7 (nI (a + 1)) fk_X9_216 dX9_line_107 rfl (by decide) rfl gwI_s ?_
          refine r_lald hG (a + 1) dX9_line_110 rfl (by decide) rfl (by omega) (by decide) ?_
          refine r_ldc2 hG (99) dX9_line_111 ck_X9_250 ?_
          refine r_lcmp hG dX9_line_114 ?_
          refine r_if_le hG 123 dX9_line_115 (by decide) (fun hc115 => ?_) (fun hc115 => ?_)
          · have h0 := (nu_is (hk (a + 1) hn1).1).mp hc91
            have hn2 : a + 2 < q.1 := tw.nx hn1 (by omega)
            have h99 := le99 (hk (a + 1) hn1).1 h0 hc115
            refine r_aload_n hG dX9_line_123 rfl ?_
            refine r_getR hG 11 95 fk_X9_60 dX9_line_124 rfl (by decide) rfl (sr hR rfl) ?_
            refine r_iload_n hG dX9_line_127 rfl ?_
            refine r_iload_n hG dX9_line_128 rfl ?_
            refine r_zast hG (16 * h + s.1) dX9_line_129 rfl (by decide) rfl (by omega) (by decide) rfl ?_
            refine r_aload_n hG dX9_line_130 rfl ?_
            refine r_getR hG 12 96 fk_X9_64 dX9_line_131 rfl (by decide) rfl (sr hR rfl) ?_
            refine r_iload_n hG dX9_line_134 rfl ?_
            refine r_aload_n hG dX9_line_135 rfl ?_
            refine r_getIv hG 8 (0) fk_X9_219 dX9_line_136 rfl (by decide) rfl (((gwI_n (by omega)).trans (gwI_n (by omega))).trans h8) ?_
            refine r_if_le hG 146 dX9_line_139 (by decide) (fun hc139 => ?_) (fun hc139 => absurd hc139 (by decide))
            refine r_aload_n hG dX9_line_146 rfl ?_
            refine r_getR hG 6 92 fk_X9_30 dX9_line_147 rfl (by decide) rfl (sr hR rfl) ?_
            refine r_aload_n hG dX9_line_150 rfl ?_
            refine r_getIv hG 7 (nI (a + 1)) fk_X9_216 dX9_line_151 rfl (by decide) rfl ((gwI_n (by omega)).trans gwI_s) ?_
            refine r_lald hG (a + 1) dX9_line_154 rfl (by decide) rfl (by omega) (by decide) ?_
            refine r_l2i hG dX9_line_155 ?_
            refine r_iast hG (16 * h + s.1) dX9_line_156 rfl (by decide) rfl (by omega) (by decide) ?_
            refine r_aload_n hG dX9_line_157 rfl ?_
            refine r_dup hG dX9_line_158 rfl ?_
            refine r_getIv hG 7 (nI (a + 1)) fk_X9_216 dX9_line_159 rfl (by decide) rfl ((gwI_n (by omega)).trans ((gwI_n (by omega)).trans gwI_s)) ?_
            refine r_iconst hG (1) dX9_line_162 (by decide) ?_
            refine r_iadd hG dX9_line_163 ?_
            refine r_top (nI (a + 2)) (nI_1 (a + 1)) ?_
            refine r_putI hG 7 fp_X9_216 dX9_line_164 rfl (by decide) rfl rfl rfl ?_
            refine sl167 hG hE hR hk tw wd lh h17 hs hO hn2 hu hkd hn16 h0 h99 ((((gEq.rf.put (by unfold SLn SM; omega)).put (by unfold SLn SM; omega)).put (by unfold SLn SM; omega)).put (by unfold SLn SM; omega)) ?_ ?_ (fun M9 g => g) ?_ gwI_s ?_ ?_
            · rw [gwI_n (by omega), gwI_n (by omega), gwI_s]; rw [if_neg (show ¬ decide ((q.2.1 a).1 = 13) = true from fun z => hw2 (of_decide_eq_true z))]
            · rw [gwI_n (by omega), gwI_s]; show (M.2.1 92 (a + 1)).toInt32 = _; rw [nu_va (hk (a + 1) hn1).1 h0, i32_64]
            · rw [gwI_n (by omega), gwI_n (by omega), gwI_n (by omega), gwI_n (by omega)]; exact hs.2.1
            · rw [gwI_n (by omega), gwI_n (by omega), gwI_n (by omega), gwI_n (by omega)]; exact h8
            · rw [gwI_n (by omega), gwI_n (by omega), gwI_n (by omega), gwI_n (by omega)]; exact hs.1
          · refine r_aload_n hG dX9_line_118 rfl ?_
            refine r_iconst hG (4) dX9_line_119 (by decide) ?_
            refine r_cVV1 hG mk_X9_225 dX9_line_120 rfl (by decide) (ct_X9_wrong (M := (gwI M 88 7 (nI (a + 1)))) (by exact hR) (hk.mv (S := SLn h s.1 (s.2.2.2.1 s.1)) (gEq.rf.put (by unfold SLn SM; omega)) SLn_no) tw.2.1 gwI_s hn1 (by rw [gwI_n (by omega)]; exact h8) _) (by decide) ⟨Nat.le_refl _, Nat.le_refl _⟩ (Nat.le_of_ble_eq_true rfl) (fun M9 h9 => ?_)
            rw [h9]
            have h0 := (nu_is (hk (a + 1) hn1).1).mp hc91
            have hn2 : a + 2 < q.1 := tw.nx hn1 (by omega)
            have h99 := lt99 (hk (a + 1) hn1).1 h0 hc115
            refine r_aload_n hG dX9_line_123 rfl ?_
            refine r_getR hG 11 95 fk_X9_60 dX9_line_124 rfl (by decide) rfl (sr hR rfl) ?_
            refine r_iload_n hG dX9_line_127 rfl ?_
            refine r_iload_n hG dX9_line_128 rfl ?_
            refine r_zast hG (16 * h + s.1) dX9_line_129 rfl (by decide) rfl (by omega) (by decide) rfl ?_
            refine r_aload_n hG dX9_line_130 rfl ?_
            refine r_getR hG 12 96 fk_X9_64 dX9_line_131 rfl (by decide) rfl (sr hR rfl) ?_
            refine r_iload_n hG dX9_line_134 rfl ?_
            refine r_aload_n hG dX9_line_135 rfl ?_
            refine r_getIv hG 8 (4 + 16 * nI (q.2.2 (a + 1))) fk_X9_219 dX9_line_136 rfl (by decide) rfl ((gwI_n (by omega)).trans gwI_s) ?_
            refine r_if_le hG 146 dX9_line_139 (by decide) (fun hc139 => absurd hc139 (flt_no (k := 4) rfl ⟨by omega, by omega⟩ (tw.2.2.2.2.2 (a + 1) hn1))) (fun hc139 => ?_)
            refine r_iconst hG (0) dX9_line_142 (by decide) ?_
            refine r_goto hG 156 dX9_line_143 (by decide) ?_
            refine r_iast hG (16 * h + s.1) dX9_line_156 rfl (by decide) rfl (by omega) (by decide) ?_
            refine r_aload_n hG dX9_line_157 rfl ?_
            refine r_dup hG dX9_line_158 rfl ?_
            refine r_getIv hG 7 (nI (a + 1)) fk_X9_216 dX9_line_159 rfl (by decide) rfl ((gwI_n (by omega)).trans ((gwI_n (by omega)).trans ((gwI_n (by omega)).trans gwI_s))) ?_
            refine r_iconst hG (1) dX9_line_162 (by decide) ?_
            refine r_iadd hG dX9_line_163 ?_
            refine r_top (nI (a + 2)) (nI_1 (a + 1)) ?_
            refine r_putI hG 7 fp_X9_216 dX9_line_164 rfl (by decide) rfl rfl rfl ?_
            exact sl167f hG hE hR lh h17 (by omega) gwI_s (((((gEq.rf.put (by unfold SLn SM; omega)).put (by unfold SLn SM; omega)).put (by unfold SLn SM; omega)).put (by unfold SLn SM; omega)).put (by unfold SLn SM; omega)) (z := s.1 + (s.2.2.2.1 s.1)) (by omega) (Nat.le_refl _) (by rw [gwI_n (by omega), gwI_n (by omega), gwI_n (by omega), gwI_n (by omega), gwI_n (by omega)]; exact hs.2.1) (v := 4 + 16 * nI (q.2.2 (a + 1))) (by rw [gwI_n (by omega), gwI_n (by omega), gwI_n (by omega), gwI_s]) (flt_nz (k := 4) rfl ⟨by omega, by omega⟩ (tw.2.2.2.2.2 _ hn1)) (fun M9 q1 q2 => ⟨q1, 4, a + 1, _, _, ln_4 hkd hn16 h0 h99, hn1, Or.inr ⟨by omega, by omega, q2⟩⟩)
        · refine r_aload_n hG dX9_line_94 rfl ?_
          refine r_iconst hG (1) dX9_line_95 (by decide) ?_
          refine r_cVV1 hG mk_X9_225 dX9_line_96 rfl (by decide) (ct_X9_wrong (M := (gwI M 88 7 (nI (a + 1)))) (by exact hR) (hk.mv (S := SLn h s.1 (s.2.2.2.1 s.1)) (gEq.rf.put (by unfold SLn SM; omega)) SLn_no) tw.2.1 gwI_s hn1 (by rw [gwI_n (by omega)]; exact h8) _) (by decide) ⟨Nat.le_refl _, Nat.le_refl _⟩ (Nat.le_of_ble_eq_true rfl) (fun M9 h9 => ?_)
          rw [h9]
          refine r_goto hG 123 dX9_line_99 (by decide) ?_
          skip
          refine r_aload_n hG dX9_line_123 rfl ?_
          refine r_getR hG 11 95 fk_X9_60 dX9_line_124 rfl (by decide) rfl (sr hR rfl) ?_
          refine r_iload_n hG dX9_line_127 rfl ?_
          refine r_iload_n hG dX9_line_128 rfl ?_
          refine r_zast hG (16 * h + s.1) dX9_line_129 rfl (by decide) rfl (by omega) (by decide) rfl ?_
          refine r_aload_n hG dX9_line_130 rfl ?_
          refine r_getR hG 12 96 fk_X9_64 dX9_line_131 rfl (by decide) rfl (sr hR rfl) ?_
          refine r_iload_n hG dX9_line_134 rfl ?_
          refine r_aload_n hG dX9_line_135 rfl ?_
          refine r_getIv hG 8 (1 + 16 * nI (q.2.2 (a + 1))) fk_X9_219 dX9_line_136 rfl (by decide) rfl ((gwI_n (by omega)).trans gwI_s) ?_
          refine r_if_le hG 146 dX9_line_139 (by decide) (fun hc139 => absurd hc139 (flt_no (k := 1) rfl ⟨by omega, by omega⟩ (tw.2.2.2.2.2 (a + 1) hn1))) (fun hc139 => ?_)
          refine r_iconst hG (0) dX9_line_142 (by decide) ?_
          refine r_goto hG 156 dX9_line_143 (by decide) ?_
          refine r_iast hG (16 * h + s.1) dX9_line_156 rfl (by decide) rfl (by omega) (by decide) ?_
          refine r_aload_n hG dX9_line_157 rfl ?_
          refine r_dup hG dX9_line_158 rfl ?_
          refine r_getIv hG 7 (nI (a + 1)) fk_X9_216 dX9_line_159 rfl (by decide) rfl ((gwI_n (by omega)).trans ((gwI_n (by omega)).trans ((gwI_n (by omega)).trans gwI_s))) ?_
          refine r_iconst hG (1) dX9_line_162 (by decide) ?_
          refine r_iadd hG dX9_line_163 ?_
          refine r_top (nI (a + 2)) (nI_1 (a + 1)) ?_
          refine r_putI hG 7 fp_X9_216 dX9_line_164 rfl (by decide) rfl rfl rfl ?_
          exact sl167f hG hE hR lh h17 (by omega) gwI_s (((((gEq.rf.put (by unfold SLn SM; omega)).put (by unfold SLn SM; omega)).put (by unfold SLn SM; omega)).put (by unfold SLn SM; omega)).put (by unfold SLn SM; omega)) (z := s.1 + (s.2.2.2.1 s.1)) (by omega) (Nat.le_refl _) (by rw [gwI_n (by omega), gwI_n (by omega), gwI_n (by omega), gwI_n (by omega), gwI_n (by omega)]; exact hs.2.1) (v := 1 + 16 * nI (q.2.2 (a + 1))) (by rw [gwI_n (by omega), gwI_n (by omega), gwI_n (by omega), gwI_s]) (flt_nz (k := 1) rfl ⟨by omega, by omega⟩ (tw.2.2.2.2.2 _ hn1)) (fun M9 q1 q2 => ⟨q1, 1, a + 1, _, _, ln_3 hkd hn16 (fun z => hc91 ((nu_is (hk (a + 1) hn1).1).mpr z)), hn1, Or.inr ⟨by omega, by omega, q2⟩⟩)
      · have hn37 := neq_t (a := s.1) (b := 16) (by omega) (by omega) hc37
        refine r_aload_n hG dX9_line_40 rfl ?_
        refine r_iconst hG (5) dX9_line_41 (by decide) ?_
        refine r_cVV1 hG mk_X9_225 dX9_line_42 rfl (by decide) (ct_X9_wrong hR hk tw.2.1 h7 ha h8 _) (by decide) ⟨Nat.le_refl _, Nat.le_refl _⟩ (Nat.le_of_ble_eq_true rfl) (fun M9 h9 => ?_)
        rw [h9]
        refine r_aload_n hG dX9_line_45 rfl ?_
        refine r_getIv hG 8 (5 + 16 * nI (q.2.2 a)) fk_X9_219 dX9_line_46 rfl (by decide) rfl gwI_s ?_
        refine r_if_le hG 53 dX9_line_49 (by decide) (fun hc49 => absurd hc49 (flt_no (k := 5) rfl ⟨by omega, by omega⟩ (tw.2.2.2.2.2 a ha))) (fun hc49 => ?_)
        refine hE _ _ _ _ dX9_line_52 rfl (Nat.le_refl _) (Nat.le_refl _) ?_
        have hkd : (q.2.1 a).1 = 12 ∨ (q.2.1 a).1 = 13 := Or.inl hw12
        exact ⟨(gEq.rf.put (by unfold SLn SM; omega)), 5, a, _, _, (by rw [hn37]; exact ln_2 hkd), ha, Or.inr ⟨by omega, by omega, gwI_s⟩⟩
    · rw [e8]
      refine r_if_ne hG 26 dX9_line_15 (by decide) (fun hc15 => absurd hc15 (by decide)) (fun hc15 => ?_)
      refine r_aload_n hG dX9_line_18 rfl ?_
      refine r_iconst hG (1) dX9_line_19 (by decide) ?_
      refine r_cVV1 hG mk_X9_225 dX9_line_20 rfl (by decide) (ct_X9_wrong hR hk tw.2.1 h7 ha h8 _) (by decide) ⟨Nat.le_refl _, Nat.le_refl _⟩ (Nat.le_of_ble_eq_true rfl) (fun M9 h9 => ?_)
      rw [h9]
      refine r_goto hG 45 dX9_line_23 (by decide) ?_
      refine r_aload_n hG dX9_line_45 rfl ?_
      refine r_getIv hG 8 (1 + 16 * nI (q.2.2 a)) fk_X9_219 dX9_line_46 rfl (by decide) rfl gwI_s ?_
      refine r_if_le hG 53 dX9_line_49 (by decide) (fun hc49 => absurd hc49 (flt_no (k := 1) rfl ⟨by omega, by omega⟩ (tw.2.2.2.2.2 a ha))) (fun hc49 => ?_)
      refine hE _ _ _ _ dX9_line_52 rfl (Nat.le_refl _) (Nat.le_refl _) ?_
      exact ⟨(gEq.rf.put (by unfold SLn SM; omega)), 1, a, _, _, ln_1 (fun z => z.elim hw12 hw2), ha, Or.inr ⟨by omega, by omega, gwI_s⟩⟩

def SLh (h k j : Nat) : Prop := (k = 94 ∧ j = h) ∨ ((k = 95 ∨ k = 96 ∨ k = 97) ∧ 16 * h ≤ j ∧ j < 16 * h + 16) ∨ SM (660 * h) (660 * h + 660) k j
theorem SLn_h {h n st k j : Nat} (hn : n < 16) (q : SLn h n st k j) : SLh h k j := by
  unfold SLn SM at q
  unfold SLh SM
  omega
def ordMs (M : gM) (h : Nat) (s : oT) : Prop := ordM M h s.1 s.2.1 s.2.2.1 s.2.2.2.1 s.2.2.2.2
theorem ordMp.full {M : gM} {h : Nat} {s : oT} (p : ordMp M h s) (hO : oOK s) (lh : h ≤ 1) (e : M.1 88 16 = nI h) : ordMs M h s :=
  ⟨lh, hO.1, e, p.1, hO.2.1, fun i hi => ⟨(hO.2.2.1 i hi).1, (p.2.2 i hi).1, (p.2.2 i hi).2.1, (p.2.2 i hi).2.2.1, (hO.2.2.1 i hi).2, (p.2.2 i hi).2.2.2.1, (p.2.2 i hi).2.2.2.2⟩⟩
def S51 (h k j : Nat) : Prop := k = 90 ∨ k = 91 ∨ (k = 88 ∧ (j = 0 ∨ j = 2 ∨ j = 3 ∨ j = 16 ∨ j = 17)) ∨ SLh h k j
/-- what text does in the model -/
def txM (q : kS) (g : Nat) (M : gM) (r : Int32) (M9 : gM) : Prop := ∃ k a' s', txG q.2.1 18 0 oT0 = (k, a', s') ∧ gEl (S51 (1 - g)) M M9 ∧ M9.1 88 2 = 0 ∧ M9.1 88 0 = 0 ∧ ((k = 0 ∧ r = 0 ∧ ordMs M9 (1 - g) s') ∨ (1 ≤ k ∧ k ≤ 5 ∧ a' < q.1 ∧ r = nI k + 16 * nI (q.2.2 a') ∧ M9.1 88 16 = M.1 88 16))
theorem gEl.up {S S' : Nat → Nat → Prop} {M M1 M2 : gM} (h : gEl S M M1) (h' : gEq S' M1 M2) {S2 : Nat → Nat → Prop} (h1 : ∀ k j, S k j → S2 k j) (h2 : ∀ k j, S' k j → S2 k j) : gEl S2 M M2 := (h.mono h1).trans ((h'.mono h2).l)
set_option maxRecDepth 100000 in
set_option maxHeartbeats 400000 in
theorem lp_X9_text {G : gJ} {P : Int32 → gM → Prop} (hG : gS 4 0 0 yX9_text.cls cX9_text 1 G) (hE : gEi 140 0 0 cX9_text .int P G) {M0 : gM} {b : Bool} (hR0 : M0.2.2 = stdR b) {q : kS} (hk0 : tkM M0 q) (tw : tkW q) (wd0 : wdM M0) {h : Nat} (lh : h ≤ 1) (h170 : M0.1 88 17 = nI h) : ∀ (r : Nat) (s : oT) (a : Nat) (M : gM), s.1 + r = 18 → gEq (SLh h) M0 M → ordMp M h s → oOK s → M.1 88 7 = nI a → M.1 88 8 = 0 → a < q.1 → s.2.2.2.1 s.1 ≤ a → (∀ y M9, (∃ k a' s', txG q.2.1 r a s = (k, a', s') ∧ gEq (fun k j => SLh h k j ∨ (k = 88 ∧ j = 16)) M0 M9 ∧ ((k = 0 ∧ y = 0 ∧ M9.1 88 16 = nI h ∧ ordMp M9 h s' ∧ oOK s') ∨ (1 ≤ k ∧ k ≤ 5 ∧ a' < q.1 ∧ y = nI k + 16 * nI (q.2.2 a') ∧ M9.1 88 16 = M0.1 88 16))) → P y M9) → G (140, 0, 0) 34 [some (.ref 88)] [] M := by
  intro r
  induction r with
  | zero =>
    intro s a M hsr hg hs hO
    have := hO.1
    omega
  | succ r ih =>
    intro s a M hsr hg hs hO h7 h8 ha hu hP
    have hR : M.2.2 = stdR b := by rw [hg.1]; exact hR0
    have h17 : M.1 88 17 = nI h := (hg.2 88 17 (by unfold SLh SM; omega)).trans h170
    have hno : ∀ k j, SLh h k j → k ≠ 90 ∧ k ≠ 91 := by intro k j z; unfold SLh SM at z; omega
    have hk : tkM M q := hk0.mv hg hno
    have wd : wdM M := wd0.mv hg.1
    have h601 := tw.2.1
    have h16 := hO.1
    refine r_aload_n hG dX9_text_34 rfl ?_
    refine r_getIv hG 8 (0) fk_X9_219 dX9_text_35 rfl (by decide) rfl h8 ?_
    refine r_if_ne hG 60 dX9_text_38 (by decide) (fun hc38 => absurd hc38 (by decide)) (fun hc38 => ?_)
    refine r_aload_n hG dX9_text_41 rfl ?_
    refine r_getR hG 4 90 fk_X9_24 dX9_text_42 rfl (by decide) rfl (sr hR rfl) ?_
    refine r_aload_n hG dX9_text_45 rfl ?_
    refine r_getIv hG 7 (nI a) fk_X9_216 dX9_text_46 rfl (by decide) rfl h7 ?_
    refine r_iald hG a dX9_text_49 rfl (by decide) rfl (by omega) (by decide) ?_
    refine r_if_eq hG 60 dX9_text_50 (by decide) (fun hc50 => ?_) (fun hc50 => ?_)
    · refine r_aload_n hG dX9_text_60 rfl ?_
      refine r_getIv hG 8 (0) fk_X9_219 dX9_text_61 rfl (by decide) rfl h8 ?_
      refine r_if_ne hG 75 dX9_text_64 (by decide) (fun hc64 => absurd hc64 (by decide)) (fun hc64 => ?_)
      refine r_aload_n hG dX9_text_67 rfl ?_
      refine r_aload_n hG dX9_text_68 rfl ?_
      refine r_getIv hG 17 (nI h) fk_X9_235 dX9_text_69 rfl (by decide) rfl h17 ?_
      refine r_putI hG 16 fp_X9_244 dX9_text_72 rfl (by decide) rfl rfl rfl ?_
      refine r_aload_n hG dX9_text_75 rfl ?_
      refine r_getIv hG 8 (0) fk_X9_219 dX9_text_76 rfl (by decide) rfl h8 ?_
      refine hE _ _ _ _ _ dX9_text_79 rfl (Nat.le_refl _) (Nat.le_refl _) rfl ?_
      refine hP _ _ ⟨0, a, s, tx_0 ((en_is (hk a ha).1).mp hc50), (hg.mono (fun k j z => Or.inl z)).put (Or.inr ⟨rfl, rfl⟩), Or.inl ⟨rfl, rfl, gwI_s, ?_, hO⟩⟩
      refine ⟨by rw [gwI_n (by omega)]; exact hs.1, by rw [gwI_n (by omega)]; exact hs.2.1, fun i hi => ?_⟩
      rw [gwI_n (by omega), gwI_n (by omega), gwI_n (by omega), gwI_n (by omega)]
      refine ⟨(hs.2.2 i hi).1, (hs.2.2 i hi).2.1, (hs.2.2 i hi).2.2.1, fun j g1 g2 => ?_, (hs.2.2 i hi).2.2.2.2⟩
      rw [gwI_n (by omega), gwI_n (by omega)]
      exact (hs.2.2 i hi).2.2.2.1 j g1 g2
    · have h18 : (q.2.1 a).1 ≠ 18 := fun z => hc50 ((en_is (hk a ha).1).mpr z)
      refine r_aload_n hG dX9_text_53 rfl ?_
      refine r_cVV0 hG mk_X9_247 dX9_text_54 rfl (by decide) (ct_X9_line hR hk tw wd lh h17 hs hO h7 h8 ha hu) (by decide) ⟨Nat.le_refl _, Nat.le_refl _⟩ (Nat.le_of_ble_eq_true rfl) (fun M1 h9 => ?_)
      obtain ⟨hg1, k, a1, u1, c1, hl, ha1, ⟨rfl, ho1, hk1, e7, e8, l1, l2⟩ | ⟨k1, k2, ef⟩⟩ := h9
      · have hs16 : s.1 < 16 := by have : s.1 + 1 ≤ 16 := hk1.1; omega
        refine r_goto hG 34 dX9_text_57 (by decide) ?_
        refine ih (oTn s (decide ((q.2.1 a).1 = 13)) (q.2.1 (a + 1)).2 u1 c1) a1 M1 (by show s.1 + 1 + r = 18; omega) (hg.trans (hg1.mono (fun _ _ => SLn_h hs16))) ho1 hk1 e7 e8 ha1 ?_ (fun y M9 g => ?_)
        · show (if s.1 + 1 = s.1 + 1 then u1 else _) ≤ a1
          rw [if_pos rfl]; exact l1
        · refine hP y M9 ?_
          rw [tx_s h18 hl]
          exact g
      · have hf0 : ¬ M1.1 88 8 = 0 := by rw [ef]; exact flt_nz rfl ⟨k1, k2⟩ (tw.2.2.2.2.2 _ ha1)
        refine r_goto hG 34 dX9_text_57 (by decide) ?_
        refine r_aload_n hG dX9_text_34 rfl ?_
        refine r_getIv hG 8 (M1.1 88 8) fk_X9_219 dX9_text_35 rfl (by decide) rfl rfl ?_
        refine r_if_ne hG 60 dX9_text_38 (by decide) (fun hc38 => ?_) (fun hc38 => absurd hc38 hf0)
        refine r_aload_n hG dX9_text_60 rfl ?_
        refine r_getIv hG 8 (M1.1 88 8) fk_X9_219 dX9_text_61 rfl (by decide) rfl rfl ?_
        refine r_if_ne hG 75 dX9_text_64 (by decide) (fun hc64 => ?_) (fun hc64 => absurd hc64 hf0)
        refine r_aload_n hG dX9_text_75 rfl ?_
        refine r_getIv hG 8 (M1.1 88 8) fk_X9_219 dX9_text_76 rfl (by decide) rfl rfl ?_
        refine hE _ _ _ _ _ dX9_text_79 rfl (Nat.le_refl _) (Nat.le_refl _) rfl ?_
        refine hP _ _ ⟨k, a1, s, tx_f h18 hl (by omega), ⟨by rw [hg1.1]; exact hg.1, fun x j z => ?_⟩, Or.inr ⟨k1, k2, ha1, ef, ?_⟩⟩
        · rw [hg1.2 x j (fun y => z (by unfold SLn SM at y; unfold SLh SM; omega)), hg.2 x j (fun y => z (Or.inl y))]
        · rw [hg1.2 88 16 (by unfold SLn SM; omega), hg.2 88 16 (by unfold SLh SM; omega)]

set_option maxRecDepth 100000 in
set_option maxHeartbeats 400000 in
theorem ct_X9_text {M : gM} {b : Bool} (hR : M.2.2 = stdR b) {s : tS} (hs : tpM M s) (wd : wdM M) {g : Nat} (hgl : g ≤ 1) (hgh : M.1 88 16 = nI g) : gC 4 0 0 yX9_text cX9_text 1 (some .int) 140 140 [.ref 88] M (gI (fun r M9 => txM (toks s) g M r M9)) := by
  refine gC_i rfl (Nat.le_of_ble_eq_true rfl) (fun G hG hE => ?_)
  change G (140, 0, 0) 0 [some (.ref 88)] [] M
  have tw : tkW (toks s) := toks_ok hs.2.1
  refine r_aload_n hG dX9_text_0 rfl ?_
  refine r_iconst hG (0) dX9_text_1 (by decide) ?_
  refine r_putI hG 0 fp_X9_1 dX9_text_2 rfl (by decide) rfl rfl rfl ?_
  refine r_aload_n hG dX9_text_5 rfl ?_
  refine r_cVV0 hG mk_X9_241 dX9_text_6 rfl (by decide) (ct_X9_cutAll (M := (gwI M 88 0 0)) (by exact hR) (hs.c (fun k j z => gwI_n (by unfold S89 at z; omega)))) (by decide) ⟨Nat.le_refl _, Nat.le_refl _⟩ (Nat.le_of_ble_eq_true rfl) (fun M1 h9 => ?_)
  obtain ⟨hk1, hg1, h21, h71, h81⟩ := h9
  have hR1 : M1.2.2 = stdR b := by rw [hg1.1]; exact hR
  refine r_aload_n hG dX9_text_9 rfl ?_
  refine r_iconst hG (1) dX9_text_10 (by decide) ?_
  refine r_aload_n hG dX9_text_11 rfl ?_
  refine r_getIv hG 16 (nI g) fk_X9_244 dX9_text_12 rfl (by decide) rfl ((hg1.2.2 88 16 (by omega)).trans ((gwI_n (by omega)).trans hgh)) ?_
  refine r_isub hG dX9_text_15 ?_
  refine r_top (nI (1 - g)) (pk_sub (a := 1) (b := g) (by omega)) ?_
  refine r_putI hG 17 fp_X9_235 dX9_text_16 rfl (by decide) rfl rfl rfl ?_
  refine r_aload_n hG dX9_text_19 rfl ?_
  refine r_getR hG 10 94 fk_X9_57 dX9_text_20 rfl (by decide) rfl (sr hR1 rfl) ?_
  refine r_aload_n hG dX9_text_23 rfl ?_
  refine r_getIv hG 17 (nI (1 - g)) fk_X9_235 dX9_text_24 rfl (by decide) rfl gwI_s ?_
  refine r_iconst hG (0) dX9_text_27 (by decide) ?_
  refine r_iast hG (1 - g) dX9_text_28 rfl (by decide) rfl (by omega) (by decide) ?_
  refine r_aload_n hG dX9_text_29 rfl ?_
  refine r_iconst hG (0) dX9_text_30 (by decide) ?_
  refine r_putI hG 18 fp_X9_238 dX9_text_31 rfl (by decide) rfl rfl rfl ?_
  have hg0 : gEl (fun k j => k = 90 ∨ k = 91 ∨ (k = 88 ∧ (j = 0 ∨ j = 2 ∨ j = 3 ∨ j = 7 ∨ j = 8))) M M1 := (gEq.put (gEq.rf) (by omega)).l.trans (hg1.mono (by intro k j z; omega))
  have hz0 : tkM (gwI (gwI (gwI M1 88 17 (nI (1 - g))) 94 (1 - g) 0) 88 18 0) (toks s) := hk1.mv (S := fun k j => k = 88 ∨ k = 94) (((gEq.rf.put (by omega)).put (by omega)).put (by omega)) (by intro k j z; omega)
  have hz1 : wdM (gwI (gwI (gwI M1 88 17 (nI (1 - g))) 94 (1 - g) 0) 88 18 0) := fun w hw => (hg1.2.1 93 w (by omega)).trans (wd w hw)
  refine lp_X9_text hG hE (M0 := (gwI (gwI (gwI M1 88 17 (nI (1 - g))) 94 (1 - g) 0) 88 18 0)) (by exact hR1) hz0 tw hz1 (h := 1 - g) (by omega) (by rw [gwI_n (by omega), gwI_n (by omega), gwI_s]) 18 oT0 0 _ rfl gEq.rf ⟨by rw [gwI_n (by omega), gwI_s]; rfl, by rw [gwI_s]; rfl, fun i hi => absurd hi (Nat.not_lt_zero i)⟩ ⟨Nat.zero_le _, Nat.zero_le _, fun i hi => absurd hi (Nat.not_lt_zero i), fun j hj => absurd hj (Nat.not_lt_zero j)⟩ (by rw [gwI_n (by omega), gwI_n (by omega), gwI_n (by omega)]; exact h71) (by rw [gwI_n (by omega), gwI_n (by omega), gwI_n (by omega)]; exact h81) (by have := tw.1; omega) (Nat.le_refl 0) (fun y M9 hh => ?_)
  obtain ⟨k, a', s', e1, e2, e3⟩ := hh
  have f0 : gEl (S51 (1 - g)) M M9 := by
    refine gEl.up (gEl.up (S' := fun k j => (k = 88 ∧ (j = 17 ∨ j = 18)) ∨ (k = 94 ∧ j = 1 - g)) (S2 := S51 (1 - g)) (M := M) hg0 (((gEq.rf.put (by omega)).put (by omega)).put (by omega)) ?_ ?_) e2 (fun _ _ z => z) ?_
    · intro k j z; unfold S51 SLh SM; omega
    · intro k j z; unfold S51 SLh SM; omega
    · intro k j z
      rcases z with z | z
      · exact Or.inr (Or.inr (Or.inr z))
      · unfold S51; omega
  refine ⟨k, a', s', e1, f0, ?_, ?_, ?_⟩
  · rw [e2.2 88 2 (by unfold SLh SM; omega), gwI_n (by omega), gwI_n (by omega), gwI_n (by omega)]; exact h21
  · rw [e2.2 88 0 (by unfold SLh SM; omega), gwI_n (by omega), gwI_n (by omega), gwI_n (by omega), hg1.2.2 88 0 (by omega), gwI_s]
  · rcases e3 with ⟨g1, g2, g3, g4, g5⟩ | ⟨g1, g2, g3, g4, g5⟩
    · exact Or.inl ⟨g1, g2, g4.full g5 (by omega) g3⟩
    · refine Or.inr ⟨g1, g2, g3, g4, ?_⟩
      rw [g5, gwI_n (by omega), gwI_n (by omega), gwI_n (by omega), hg1.2.2 88 16 (by omega), gwI_n (by omega)]


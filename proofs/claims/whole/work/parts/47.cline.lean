def ordCs (M : gM) (o : Nat) (s : oT) : Prop := ordC M o s.1 s.2.1 s.2.2.1 s.2.2.2.1 s.2.2.2.2
theorem ordCs.ok {M : gM} {o : Nat} {s : oT} (h : ordCs M o s) : oOK s := ⟨h.1, h.2.2.2.1, fun i hi => ⟨(h.2.2.2.2.1 i hi).1, (h.2.2.2.2.1 i hi).2.2.2.2⟩, fun j hj => (h.2.2.2.2.2 j hj).2⟩
theorem ordCs.ps {M : gM} {o a : Nat} {s : oT} (h : ordCs M o s) (h3 : M.1 6 3 = nI a) (h4 : M.1 6 4 = 0) : psC M o a (s.2.2.2.1 s.1) s.2.2.2.2 := ⟨h3, h4, h.2.2.1, fun j hj => (h.2.2.2.2.2 j hj).1⟩
theorem ordCs.nx {M M9 : gM} {o : Nat} {s : oT} (h : ordCs M o s) (h16 : s.1 < 16) {be : Bool} {li : Int32} {a' u' : Nat} {c' : cS} (hk : oOK (oTn s be li u' c')) (hp : psC M9 o a' u' c') (h5 : M9.1 o 5 = nI (s.1 + 1)) (hl : ∀ i, i < s.1 → M9.1 (o + 1) i = M.1 (o + 1) i ∧ M9.1 (o + 2) i = M.1 (o + 2) i ∧ M9.1 (o + 3) i = M.1 (o + 3) i) (hn : M9.1 (o + 1) s.1 = (if be then tk 12 else tk 11) ∧ M9.1 (o + 2) s.1 = li ∧ M9.1 (o + 3) s.1 = nI (s.2.2.2.1 s.1)) : ordCs M9 o (oTn s be li u' c') := by
  have e1 : (oTn s be li u' c').2.2.2.1 (s.1 + 1) = u' := if_pos rfl
  have e : ∀ i, i ≤ s.1 → (oTn s be li u' c').2.2.2.1 i = s.2.2.2.1 i := fun i hi => if_neg (by omega)
  refine ⟨hk.1, h5, ?_, hk.2.1, fun i (hi : i < s.1 + 1) => ⟨(hk.2.2.1 i hi).1, ?_, ?_, ?_, (hk.2.2.1 i hi).2⟩, fun j hj => ⟨?_, hk.2.2.2 j hj⟩⟩
  · rw [show (oTn s be li u' c').1 = s.1 + 1 from rfl, e1]; exact hp.2.2.1
  · by_cases ei : i = s.1
    · subst ei
      rw [hn.1]
      show _ = (if (if s.1 = s.1 then be else _) = true then _ else _)
      rw [if_pos rfl]
    · rw [(hl i (by omega)).1, (h.2.2.2.2.1 i (by omega)).2.1]
      show _ = (if (if i = s.1 then be else s.2.1 i) = true then _ else _)
      rw [if_neg ei]
  · by_cases ei : i = s.1
    · subst ei
      rw [hn.2.1]
      exact (if_pos rfl).symm
    · rw [(hl i (by omega)).2.1, (h.2.2.2.2.1 i (by omega)).2.2.1]
      exact (if_neg ei).symm
  · rw [e i (by omega)]
    by_cases ei : i = s.1
    · subst ei
      exact hn.2.2
    · rw [(hl i (by omega)).2.2, (h.2.2.2.2.1 i (by omega)).2.2.2.1]
  · rw [show (oTn s be li u' c').1 = s.1 + 1 from rfl, e1] at hj
    exact hp.2.2.2 j hj
def So (o k j : Nat) : Prop := (o < k ∧ k ≤ o + 4) ∨ (k = o ∧ (j = 5 ∨ j = 6)) ∨ (k = 6 ∧ (j = 3 ∨ j = 4))
theorem S46So {o k j : Nat} (h : S46 o k j) : So o k j := by unfold S46 at h; unfold So; omega
def lnP (q : kS) (o : Nat) (s : oT) (a : Nat) (M : gM) (r : Int32) (M9 : gM) : Prop := ∃ k a' u' c', lnG q.2.1 s.1 a (s.2.2.2.1 s.1) s.2.2.2.2 = (k, a', u', c') ∧ a' < q.1 ∧ gEq (So o) M M9 ∧ ((r = 1 ∧ k = 0 ∧ ordCs M9 o (oTn s (decide ((q.2.1 a).1 = 13)) (q.2.1 (a + 1)).2 u' c') ∧ M9.1 6 3 = nI a' ∧ M9.1 6 4 = 0 ∧ u' ≤ a' ∧ a < a') ∨ (r = 0 ∧ 1 ≤ k ∧ k ≤ 5 ∧ M9.1 6 4 = nI k + 16 * nI (q.2.2 a')))
theorem stv_0 {t : Nat × Int32} (h : t.1 = 0) : stv t = t.2 := by
  obtain ⟨n, x⟩ := t
  cases h
  rfl
theorem lnP.bad {q : kS} {o : Nat} {s : oT} {a : Nat} {M M9 : gM} (k : Nat) {a' u' : Nat} {c' : cS} {x : Int32} (hl : lnG q.2.1 s.1 a (s.2.2.2.1 s.1) s.2.2.2.2 = (k, a', u', c')) (hk : 1 ≤ k ∧ k ≤ 5) (ha : a' < q.1) (hg : gEq (So o) M M9) (hx : x = nI k) : lnP q o s a M 0 (gwI M9 6 4 (x + 16 * nI (q.2.2 a'))) :=
  ⟨k, a', u', c', hl, ha, hg.put (Or.inr (Or.inr ⟨rfl, Or.inr rfl⟩)), Or.inr ⟨rfl, hk.1, hk.2, by rw [gwI_s, hx]⟩⟩
set_option maxRecDepth 100000 in
set_option maxHeartbeats 400000 in
theorem ct_X3_readLine {M : gM} {b : Bool} (hR : M.2.2 = stdR b) {o : Nat} (hob : o = if b then 11 else 17) {q : kS} (hq : tkC M q) (tw : tkW q) {s : oT} (hs : ordCs M o s) {a : Nat} (h3 : M.1 6 3 = nI a) (h4 : M.1 6 4 = 0) (ha : a < q.1) (hu : s.2.2.2.1 s.1 ≤ a) : gC 26 0 0 yX3_readLine cX3_readLine 3 (some .boolean) 140 140 [.ref 6] M (gI (fun r M9 => lnP q o s a M r M9)) := by
  refine gC_i rfl (Nat.le_of_ble_eq_true rfl) (fun G hG hE => ?_)
  change G (140, 0, 0) 0 [some (.ref 6), none, none] [] M
  have ho : o = 11 ∨ o = 17 := by cases b <;> simp at hob <;> omega
  have h601 := tw.2.1
  have ht : tW (q.2.1 a) := tw.2.2.2.2.1 a
  have ht1 : tW (q.2.1 (a + 1)) := tw.2.2.2.2.1 (a + 1)
  have ht2 : tW (q.2.1 (a + 2)) := tw.2.2.2.2.1 (a + 2)
  have h16 := hs.1
  refine r_aload_n hG dX3_readLine_0 rfl ?_
  refine r_cVI0 hG mk_X3_41 dX3_readLine_1 rfl (by decide) (ct_X3_token hR hq tw h3 ha) (by decide) ⟨Nat.le_refl _, Nat.le_refl _⟩ (Nat.le_of_ble_eq_true rfl) (fun x9 M9 h9 => ?_)
  obtain ⟨e8, e9⟩ := h9
  rw [e8, e9]
  refine r_istore_n hG dX3_readLine_4 (by decide) ?_
  refine r_loc [some (.ref 6), some (.int (stv (q.2.1 a))), none] rfl ?_
  refine r_iload_n hG dX3_readLine_5 rfl ?_
  refine r_bipush hG (-12) dX3_readLine_6 (by decide) ?_
  refine r_icmp_eq hG 23 dX3_readLine_8 (by decide) (fun hc8 => ?_) (fun hc8 => ?_)
  · have hk : (q.2.1 a).1 = 12 ∨ (q.2.1 a).1 = 13 := Or.inl ((stI ht 11 (by decide) (by decide)).mp hc8)
    refine r_aload_n hG dX3_readLine_23 rfl ?_
    refine r_getR hG 2 o fk_X3_25 dX3_readLine_24 rfl (by decide) rfl (sr hR (by rw [hob]; rfl)) ?_
    refine r_getIv hG 5 (nI s.1) fk_X3_60 dX3_readLine_27 (gkO ho) (show o < 140 by omega) rfl hs.2.1 ?_
    refine r_bipush hG (16) dX3_readLine_30 (by decide) ?_
    refine r_icmp_lt hG 41 dX3_readLine_32 (by decide) (fun hc32 => ?_) (fun hc32 => ?_)
    · have hn32 := nlt_t (a := s.1) (b := 16) (by omega) (by omega) hc32
      have hn1 := tw.nx ha (by omega)
      have hn16 : s.1 ≠ 16 := by omega
      refine r_aload_n hG dX3_readLine_41 rfl ?_
      refine r_dup hG dX3_readLine_42 rfl ?_
      refine r_getIv hG 3 (nI a) fk_X3_34 dX3_readLine_43 rfl (by decide) rfl h3 ?_
      refine r_iconst hG (1) dX3_readLine_46 (by decide) ?_
      refine r_iadd hG dX3_readLine_47 ?_
      refine r_top (nI (a + 1)) (nI_1 a) ?_
      refine r_putI hG 3 fp_X3_34 dX3_readLine_48 rfl (by decide) rfl rfl rfl ?_
      refine r_aload_n hG dX3_readLine_51 rfl ?_
      refine r_cVI0 hG mk_X3_41 dX3_readLine_52 rfl (by decide) (ct_X3_token (M := (gwI M 6 3 (nI (a + 1)))) (by exact hR) (hq.mv (sdA gEq.rf) (S46_no ho)) tw gwI_s hn1) (by decide) ⟨Nat.le_refl _, Nat.le_refl _⟩ (Nat.le_of_ble_eq_true rfl) (fun x9 M9 h9 => ?_)
      obtain ⟨e8, e9⟩ := h9
      rw [e8, e9]
      refine r_istore_n hG dX3_readLine_55 (by decide) ?_
      refine r_loc [some (.ref 6), some (.int (stv (q.2.1 a))), some (.int (stv (q.2.1 (a + 1))))] rfl ?_
      refine r_iload_n hG dX3_readLine_56 rfl ?_
      refine r_if_ge hG 66 dX3_readLine_57 (by decide) (fun hc57 => ?_) (fun hc57 => ?_)
      · have h0 := (stv_num ht1).mp (Int32.not_lt.mpr hc57)
        refine r_iload_n hG dX3_readLine_66 rfl ?_
        refine r_bipush hG (99) dX3_readLine_67 (by decide) ?_
        refine r_icmp_le hG 78 dX3_readLine_69 (by decide) (fun hc69 => ?_) (fun hc69 => ?_)
        · have h99 : ¬ 99 < (q.2.1 (a + 1)).2 := by rw [← stv_0 h0]; exact Int32.not_lt.mpr hc69
          have hn2 : a + 2 < q.1 := tw.nx hn1 (by omega)
          have hgA : gEq (So o) M (gwI (gwI (gwI (gwI (gwI (gwI M 6 3 (nI (a + 1))) 6 3 (nI (a + 2))) (o + 1) s.1 (stv (q.2.1 a))) (o + 2) s.1 (stv (q.2.1 (a + 1)))) (o + 3) s.1 (nI (s.2.2.2.1 s.1))) o 5 (nI s.1 + 1)) := ((((((gEq.rf.put (by unfold So; omega)).put (by unfold So; omega)).put (by unfold So; omega)).put (by unfold So; omega)).put (by unfold So; omega)).put (by unfold So; omega))
          have hqA : tkC (gwI (gwI (gwI (gwI (gwI (gwI M 6 3 (nI (a + 1))) 6 3 (nI (a + 2))) (o + 1) s.1 (stv (q.2.1 a))) (o + 2) s.1 (stv (q.2.1 (a + 1)))) (o + 3) s.1 (nI (s.2.2.2.1 s.1))) o 5 (nI s.1 + 1)) q := hq.mv hgA (by intro k j h; unfold So at h; omega)
          have h3A : (gwI (gwI (gwI (gwI (gwI (gwI M 6 3 (nI (a + 1))) 6 3 (nI (a + 2))) (o + 1) s.1 (stv (q.2.1 a))) (o + 2) s.1 (stv (q.2.1 (a + 1)))) (o + 3) s.1 (nI (s.2.2.2.1 s.1))) o 5 (nI s.1 + 1)).1 6 3 = nI (a + 2) := by rw [gwI_n (by omega), gwI_n (by omega), gwI_n (by omega), gwI_n (by omega), gwI_s]
          have h4A : (gwI (gwI (gwI (gwI (gwI (gwI M 6 3 (nI (a + 1))) 6 3 (nI (a + 2))) (o + 1) s.1 (stv (q.2.1 a))) (o + 2) s.1 (stv (q.2.1 (a + 1)))) (o + 3) s.1 (nI (s.2.2.2.1 s.1))) o 5 (nI s.1 + 1)).1 6 4 = 0 := by rw [gwI_n (by omega), gwI_n (by omega), gwI_n (by omega), gwI_n (by omega), gwI_n (by omega), gwI_n (by omega)]; exact h4
          have hpA : psC (gwI (gwI (gwI (gwI (gwI (gwI M 6 3 (nI (a + 1))) 6 3 (nI (a + 2))) (o + 1) s.1 (stv (q.2.1 a))) (o + 2) s.1 (stv (q.2.1 (a + 1)))) (o + 3) s.1 (nI (s.2.2.2.1 s.1))) o 5 (nI s.1 + 1)) o (a + 2) (s.2.2.2.1 s.1) s.2.2.2.2 := ⟨h3A, h4A, by rw [gwI_n (by omega), gwI_n (by omega), gwI_n (by omega), gwI_n (by omega), gwI_n (by omega), gwI_n (by omega)]; exact hs.2.2.1, fun j hj => by rw [gwI_n (by omega), gwI_n (by omega), gwI_n (by omega), gwI_n (by omega), gwI_n (by omega), gwI_n (by omega)]; exact (hs.2.2.2.2.2 j hj).1⟩
          refine r_aload_n hG dX3_readLine_78 rfl ?_
          refine r_dup hG dX3_readLine_79 rfl ?_
          refine r_getIv hG 3 (nI (a + 1)) fk_X3_34 dX3_readLine_80 rfl (by decide) rfl gwI_s ?_
          refine r_iconst hG (1) dX3_readLine_83 (by decide) ?_
          refine r_iadd hG dX3_readLine_84 ?_
          refine r_top (nI (a + 2)) (nI_1 (a + 1)) ?_
          refine r_putI hG 3 fp_X3_34 dX3_readLine_85 rfl (by decide) rfl rfl rfl ?_
          refine r_aload_n hG dX3_readLine_88 rfl ?_
          refine r_getR hG 2 o fk_X3_25 dX3_readLine_89 rfl (by decide) rfl (sr hR (by rw [hob]; rfl)) ?_
          refine r_iload_n hG dX3_readLine_92 rfl ?_
          refine r_iload_n hG dX3_readLine_93 rfl ?_
          refine r_cVV2 hG mk_X3_63 dX3_readLine_94 (gkO ho) (show o < 140 by omega) (ct_X1_addLine (M := (gwI (gwI M 6 3 (nI (a + 1))) 6 3 (nI (a + 2)))) (by exact hR) ho (nl := s.1) (u := (s.2.2.2.1 s.1)) (by rw [gwI_n (by omega), gwI_n (by omega)]; exact hs.2.1) (by rw [gwI_n (by omega), gwI_n (by omega)]; exact hs.2.2.1) (by omega) _ _) (by decide) ⟨Nat.le_refl _, Nat.le_refl _⟩ (Nat.le_of_ble_eq_true rfl) (fun M9 h9 => ?_)
          rw [h9]
          refine r_aload_n hG dX3_readLine_97 rfl ?_
          refine r_bipush hG (-14) dX3_readLine_98 (by decide) ?_
          refine r_cVI1 hG mk_X3_67 dX3_readLine_100 rfl (by decide) (ct_X3_take (by exact hR) hqA tw h3A hn2 _) (by decide) ⟨Nat.le_refl _, Nat.le_refl _⟩ (Nat.le_of_ble_eq_true rfl) (fun x9 M4 h9 => ?_)
          rcases h9 with ⟨rfl, hc100, rfl⟩ | ⟨rfl, hc100, rfl⟩
          · have h14 := (stI ht2 13 (by decide) (by decide)).mp hc100
            have hn3 := tw.nx hn2 (by omega)
            refine r_if_eq hG 127 dX3_readLine_103 (by decide) (fun hc103 => absurd hc103 (by decide)) (fun hc103 => ?_)
            refine r_aload_n hG dX3_readLine_106 rfl ?_
            refine r_iconst hG (1) dX3_readLine_107 (by decide) ?_
            refine r_top (nI (0 + 1)) rfl ?_
            refine r_cVI1 hG mk_X3_70 dX3_readLine_108 rfl (by decide) (cTests_5 _ b o q (a + 2 + 1) (s.2.2.2.1 s.1) 0 Wz s.2.2.2.2 (by exact hR) hob (hqA.mv (sdA gEq.rf) (S46_no ho)) tw (hpA.at ho) hn3 (by omega) (by omega) rfl rfl rfl) (by decide) ⟨Nat.le_refl _, Nat.le_refl _⟩ (Nat.le_of_ble_eq_true rfl) (fun x9 M5 h9 => ?_)
            obtain ⟨hg1, ⟨rfl, a1, u1, c1, W1, hr1, hw1, hp1, l1, l2, l3⟩ | ⟨rfl, hf⟩⟩ := h9
            · have hR1 : M5.2.2 = stdR b := by rw [hg1.1]; exact hR
              have hg2 := (hgA.trans ((sdA gEq.rf).mono (fun _ _ => S46So))).trans (hg1.mono (fun _ _ => S46So))
              have hq1 : tkC M5 q := hq.mv hg2 (by intro k j h; unfold So at h; omega)
              have hr8 := hr1.trans (Run.st st7_0)
              have ht5 : tW (q.2.1 a1) := tw.2.2.2.2.1 a1
              refine r_if_eq hG 127 dX3_readLine_111 (by decide) (fun hc111 => absurd hc111 (by decide)) (fun hc111 => ?_)
              refine r_aload_n hG dX3_readLine_114 rfl ?_
              refine r_bipush hG (-17) dX3_readLine_115 (by decide) ?_
              refine r_cVI1 hG mk_X3_67 dX3_readLine_117 rfl (by decide) (ct_X3_take hR1 hq1 tw hp1.1 l2 _) (by decide) ⟨Nat.le_refl _, Nat.le_refl _⟩ (Nat.le_of_ble_eq_true rfl) (fun x9 M6 h9 => ?_)
              rcases h9 with ⟨rfl, hc117, rfl⟩ | ⟨rfl, hc117, rfl⟩
              · skip
                refine r_if_eq hG 127 dX3_readLine_120 (by decide) (fun hc120 => absurd hc120 (by decide)) (fun hc120 => ?_)
                refine r_iconst hG (1) dX3_readLine_123 (by decide) ?_
                refine r_goto hG 128 dX3_readLine_124 (by decide) ?_
                refine hE _ _ _ _ _ dX3_readLine_128 rfl (Nat.le_refl _) (Nat.le_refl _) rfl ?_
                have h17 := (stI ht5 16 (by decide) (by decide)).mp hc117
                refine ⟨0, a1 + 1, u1, c1, ln_8 hk hn16 h0 h99 h14 hr8 h17, tw.nx l2 (by omega), hg2.put (by unfold So; omega), Or.inl ⟨rfl, rfl, ?_, by rw [gwI_s, nI_1], by rw [gwI_n (by omega)]; exact hp1.2.1, by omega, by omega⟩⟩
                have hK := (hs.ok.nx tw.2.2.2.2.1 (by omega) (be := decide ((q.2.1 a).1 = 13)) (li := (q.2.1 (a + 1)).2) hr8 (by omega)).1
                have hx : ∀ k j, (k = o ∧ j = 5) ∨ k = o + 1 ∨ k = o + 2 ∨ k = o + 3 → (gwI M5 6 3 (nI a1 + 1)).1 k j = (gwI (gwI (gwI (gwI (gwI (gwI M 6 3 (nI (a + 1))) 6 3 (nI (a + 2))) (o + 1) s.1 (stv (q.2.1 a))) (o + 2) s.1 (stv (q.2.1 (a + 1)))) (o + 3) s.1 (nI (s.2.2.2.1 s.1))) o 5 (nI s.1 + 1)).1 k j := fun k j h => by
                  rw [gwI_n (by omega), hg1.2 k j (by unfold S46; omega), gwI_n (by omega)]
                refine hs.nx (by omega) hK (hp1.at ho) ?_ (fun i hi => ⟨?_, ?_, ?_⟩) ⟨?_, ?_, ?_⟩
                · rw [hx _ _ (by omega), gwI_s, nI_1]
                · rw [hx _ _ (by omega), gwI_n (by omega), gwI_n (by omega), gwI_n (by omega), gwI_n (by omega), gwI_n (by omega), gwI_n (by omega)]
                · rw [hx _ _ (by omega), gwI_n (by omega), gwI_n (by omega), gwI_n (by omega), gwI_n (by omega), gwI_n (by omega), gwI_n (by omega)]
                · rw [hx _ _ (by omega), gwI_n (by omega), gwI_n (by omega), gwI_n (by omega), gwI_n (by omega), gwI_n (by omega), gwI_n (by omega)]
                · rw [hx _ _ (by omega), gwI_n (by omega), gwI_n (by omega), gwI_n (by omega), gwI_s]
                  rcases hk with hk | hk
                  · rw [(stI ht 11 (by decide) rfl).mpr hk, hk]; rfl
                  · rw [(stI ht 12 (by decide) rfl).mpr hk, hk]; rfl
                · rw [hx _ _ (by omega), gwI_n (by omega), gwI_n (by omega), gwI_s, stv_0 h0]
                · rw [hx _ _ (by omega), gwI_n (by omega), gwI_s]
              · skip
                refine r_if_eq hG 127 dX3_readLine_120 (by decide) (fun hc120 => ?_) (fun hc120 => absurd hc120 (by decide))
                refine r_iconst hG (0) dX3_readLine_127 (by decide) ?_
                refine hE _ _ _ _ _ dX3_readLine_128 rfl (Nat.le_refl _) (Nat.le_refl _) rfl ?_
                exact lnP.bad 1 (ln_7 hk hn16 h0 h99 h14 hr8 (fun z => hc117 ((stI ht5 16 (by decide) (by decide)).mpr z))) ⟨by omega, by omega⟩ l2 hg2 rfl
            · obtain ⟨k, a2, d2, u2, W2, c2, f1, f2, f3, f4, f5, f6⟩ := hf
              refine r_if_eq hG 127 dX3_readLine_111 (by decide) (fun hc111 => ?_) (fun hc111 => absurd hc111 (by decide))
              refine r_iconst hG (0) dX3_readLine_127 (by decide) ?_
              refine hE _ _ _ _ _ dX3_readLine_128 rfl (Nat.le_refl _) (Nat.le_refl _) rfl ?_
              exact ⟨k, a2, _, _, ln_6 hk hn16 h0 h99 h14 f1, f4, (hgA.trans ((sdA gEq.rf).mono (fun _ _ => S46So))).trans (hg1.mono (fun _ _ => S46So)), Or.inr ⟨rfl, f2, f3, f5⟩⟩
          · skip
            refine r_if_eq hG 127 dX3_readLine_103 (by decide) (fun hc103 => ?_) (fun hc103 => absurd hc103 (by decide))
            refine r_iconst hG (0) dX3_readLine_127 (by decide) ?_
            refine hE _ _ _ _ _ dX3_readLine_128 rfl (Nat.le_refl _) (Nat.le_refl _) rfl ?_
            exact lnP.bad 1 (ln_5 hk hn16 h0 h99 (fun z => hc100 ((stI ht2 13 (by decide) (by decide)).mpr z))) ⟨by omega, by omega⟩ hn2 hgA rfl
        · refine r_aload_n hG dX3_readLine_72 rfl ?_
          refine r_iconst hG (4) dX3_readLine_73 (by decide) ?_
          refine r_cVI1 hG mk_X3_56 dX3_readLine_74 rfl (by decide) (ct_X3_wrong (M := (gwI M 6 3 (nI (a + 1)))) (by exact hR) (hq.mv (sdA gEq.rf) (S46_no ho)) tw gwI_s hn1 _) (by decide) ⟨Nat.le_refl _, Nat.le_refl _⟩ (Nat.le_of_ble_eq_true rfl) (fun x9 M9 h9 => ?_)
          obtain ⟨e8, e9⟩ := h9
          rw [e8, e9]
          refine hE _ _ _ _ _ dX3_readLine_77 rfl (Nat.le_refl _) (Nat.le_refl _) rfl ?_
          exact lnP.bad 4 (ln_4 hk hn16 h0 (by rw [← stv_0 h0]; exact Int32.not_le.mp hc69)) ⟨by omega, by omega⟩ hn1 (gEq.rf.put (by unfold So; omega)) rfl
      · refine r_aload_n hG dX3_readLine_60 rfl ?_
        refine r_iconst hG (1) dX3_readLine_61 (by decide) ?_
        refine r_cVI1 hG mk_X3_56 dX3_readLine_62 rfl (by decide) (ct_X3_wrong (M := (gwI M 6 3 (nI (a + 1)))) (by exact hR) (hq.mv (sdA gEq.rf) (S46_no ho)) tw gwI_s hn1 _) (by decide) ⟨Nat.le_refl _, Nat.le_refl _⟩ (Nat.le_of_ble_eq_true rfl) (fun x9 M9 h9 => ?_)
        obtain ⟨e8, e9⟩ := h9
        rw [e8, e9]
        refine hE _ _ _ _ _ dX3_readLine_65 rfl (Nat.le_refl _) (Nat.le_refl _) rfl ?_
        exact lnP.bad 1 (ln_3 hk hn16 (fun z => hc57 (Int32.not_lt.mp ((stv_num ht1).mpr z)))) ⟨by omega, by omega⟩ hn1 (gEq.rf.put (by unfold So; omega)) rfl
    · have hn32 := nlt_f (a := s.1) (b := 16) (by omega) (by omega) hc32
      refine r_aload_n hG dX3_readLine_35 rfl ?_
      refine r_iconst hG (5) dX3_readLine_36 (by decide) ?_
      refine r_cVI1 hG mk_X3_56 dX3_readLine_37 rfl (by decide) (ct_X3_wrong (by exact hR) hq tw h3 ha _) (by decide) ⟨Nat.le_refl _, Nat.le_refl _⟩ (Nat.le_of_ble_eq_true rfl) (fun x9 M9 h9 => ?_)
      obtain ⟨e8, e9⟩ := h9
      rw [e8, e9]
      refine hE _ _ _ _ _ dX3_readLine_40 rfl (Nat.le_refl _) (Nat.le_refl _) rfl ?_
      have e16 : s.1 = 16 := by omega
      exact lnP.bad 5 (by rw [e16]; exact ln_2 hk) ⟨by omega, by omega⟩ ha gEq.rf rfl
  · refine r_iload_n hG dX3_readLine_11 rfl ?_
    refine r_bipush hG (-13) dX3_readLine_12 (by decide) ?_
    refine r_icmp_eq hG 23 dX3_readLine_14 (by decide) (fun hc14 => ?_) (fun hc14 => ?_)
    · have hk : (q.2.1 a).1 = 12 ∨ (q.2.1 a).1 = 13 := Or.inr ((stI ht 12 (by decide) (by decide)).mp hc14)
      refine r_aload_n hG dX3_readLine_23 rfl ?_
      refine r_getR hG 2 o fk_X3_25 dX3_readLine_24 rfl (by decide) rfl (sr hR (by rw [hob]; rfl)) ?_
      refine r_getIv hG 5 (nI s.1) fk_X3_60 dX3_readLine_27 (gkO ho) (show o < 140 by omega) rfl hs.2.1 ?_
      refine r_bipush hG (16) dX3_readLine_30 (by decide) ?_
      refine r_icmp_lt hG 41 dX3_readLine_32 (by decide) (fun hc32 => ?_) (fun hc32 => ?_)
      · have hn32 := nlt_t (a := s.1) (b := 16) (by omega) (by omega) hc32
        have hn1 := tw.nx ha (by omega)
        have hn16 : s.1 ≠ 16 := by omega
        refine r_aload_n hG dX3_readLine_41 rfl ?_
        refine r_dup hG dX3_readLine_42 rfl ?_
        refine r_getIv hG 3 (nI a) fk_X3_34 dX3_readLine_43 rfl (by decide) rfl h3 ?_
        refine r_iconst hG (1) dX3_readLine_46 (by decide) ?_
        refine r_iadd hG dX3_readLine_47 ?_
        refine r_top (nI (a + 1)) (nI_1 a) ?_
        refine r_putI hG 3 fp_X3_34 dX3_readLine_48 rfl (by decide) rfl rfl rfl ?_
        refine r_aload_n hG dX3_readLine_51 rfl ?_
        refine r_cVI0 hG mk_X3_41 dX3_readLine_52 rfl (by decide) (ct_X3_token (M := (gwI M 6 3 (nI (a + 1)))) (by exact hR) (hq.mv (sdA gEq.rf) (S46_no ho)) tw gwI_s hn1) (by decide) ⟨Nat.le_refl _, Nat.le_refl _⟩ (Nat.le_of_ble_eq_true rfl) (fun x9 M9 h9 => ?_)
        obtain ⟨e8, e9⟩ := h9
        rw [e8, e9]
        refine r_istore_n hG dX3_readLine_55 (by decide) ?_
        refine r_loc [some (.ref 6), some (.int (stv (q.2.1 a))), some (.int (stv (q.2.1 (a + 1))))] rfl ?_
        refine r_iload_n hG dX3_readLine_56 rfl ?_
        refine r_if_ge hG 66 dX3_readLine_57 (by decide) (fun hc57 => ?_) (fun hc57 => ?_)
        · have h0 := (stv_num ht1).mp (Int32.not_lt.mpr hc57)
          refine r_iload_n hG dX3_readLine_66 rfl ?_
          refine r_bipush hG (99) dX3_readLine_67 (by decide) ?_
          refine r_icmp_le hG 78 dX3_readLine_69 (by decide) (fun hc69 => ?_) (fun hc69 => ?_)
          · have h99 : ¬ 99 < (q.2.1 (a + 1)).2 := by rw [← stv_0 h0]; exact Int32.not_lt.mpr hc69
            have hn2 : a + 2 < q.1 := tw.nx hn1 (by omega)
            have hgA : gEq (So o) M (gwI (gwI (gwI (gwI (gwI (gwI M 6 3 (nI (a + 1))) 6 3 (nI (a + 2))) (o + 1) s.1 (stv (q.2.1 a))) (o + 2) s.1 (stv (q.2.1 (a + 1)))) (o + 3) s.1 (nI (s.2.2.2.1 s.1))) o 5 (nI s.1 + 1)) := ((((((gEq.rf.put (by unfold So; omega)).put (by unfold So; omega)).put (by unfold So; omega)).put (by unfold So; omega)).put (by unfold So; omega)).put (by unfold So; omega))
            have hqA : tkC (gwI (gwI (gwI (gwI (gwI (gwI M 6 3 (nI (a + 1))) 6 3 (nI (a + 2))) (o + 1) s.1 (stv (q.2.1 a))) (o + 2) s.1 (stv (q.2.1 (a + 1)))) (o + 3) s.1 (nI (s.2.2.2.1 s.1))) o 5 (nI s.1 + 1)) q := hq.mv hgA (by intro k j h; unfold So at h; omega)
            have h3A : (gwI (gwI (gwI (gwI (gwI (gwI M 6 3 (nI (a + 1))) 6 3 (nI (a + 2))) (o + 1) s.1 (stv (q.2.1 a))) (o + 2) s.1 (stv (q.2.1 (a + 1)))) (o + 3) s.1 (nI (s.2.2.2.1 s.1))) o 5 (nI s.1 + 1)).1 6 3 = nI (a + 2) := by rw [gwI_n (by omega), gwI_n (by omega), gwI_n (by omega), gwI_n (by omega), gwI_s]
            have h4A : (gwI (gwI (gwI (gwI (gwI (gwI M 6 3 (nI (a + 1))) 6 3 (nI (a + 2))) (o + 1) s.1 (stv (q.2.1 a))) (o + 2) s.1 (stv (q.2.1 (a + 1)))) (o + 3) s.1 (nI (s.2.2.2.1 s.1))) o 5 (nI s.1 + 1)).1 6 4 = 0 := by rw [gwI_n (by omega), gwI_n (by omega), gwI_n (by omega), gwI_n (by omega), gwI_n (by omega), gwI_n (by omega)]; exact h4
            have hpA : psC (gwI (gwI (gwI (gwI (gwI (gwI M 6 3 (nI (a + 1))) 6 3 (nI (a + 2))) (o + 1) s.1 (stv (q.2.1 a))) (o + 2) s.1 (stv (q.2.1 (a + 1)))) (o + 3) s.1 (nI (s.2.2.2.1 s.1))) o 5 (nI s.1 + 1)) o (a + 2) (s.2.2.2.1 s.1) s.2.2.2.2 := ⟨h3A, h4A, by rw [gwI_n (by omega), gwI_n (by omega), gwI_n (by omega), gwI_n (by omega), gwI_n (by omega), gwI_n (by omega)]; exact hs.2.2.1, fun j hj => by rw [gwI_n (by omega), gwI_n (by omega), gwI_n (by omega), gwI_n (by omega), gwI_n (by omega), gwI_n (by omega)]; exact (hs.2.2.2.2.2 j hj).1⟩
            refine r_aload_n hG dX3_readLine_78 rfl ?_
            refine r_dup hG dX3_readLine_79 rfl ?_
            refine r_getIv hG 3 (nI (a + 1)) fk_X3_34 dX3_readLine_80 rfl (by decide) rfl gwI_s ?_
            refine r_iconst hG (1) dX3_readLine_83 (by decide) ?_
            refine r_iadd hG dX3_readLine_84 ?_
            refine r_top (nI (a + 2)) (nI_1 (a + 1)) ?_
            refine r_putI hG 3 fp_X3_34 dX3_readLine_85 rfl (by decide) rfl rfl rfl ?_
            refine r_aload_n hG dX3_readLine_88 rfl ?_
            refine r_getR hG 2 o fk_X3_25 dX3_readLine_89 rfl (by decide) rfl (sr hR (by rw [hob]; rfl)) ?_
            refine r_iload_n hG dX3_readLine_92 rfl ?_
            refine r_iload_n hG dX3_readLine_93 rfl ?_
            refine r_cVV2 hG mk_X3_63 dX3_readLine_94 (gkO ho) (show o < 140 by omega) (ct_X1_addLine (M := (gwI (gwI M 6 3 (nI (a + 1))) 6 3 (nI (a + 2)))) (by exact hR) ho (nl := s.1) (u := (s.2.2.2.1 s.1)) (by rw [gwI_n (by omega), gwI_n (by omega)]; exact hs.2.1) (by rw [gwI_n (by omega), gwI_n (by omega)]; exact hs.2.2.1) (by omega) _ _) (by decide) ⟨Nat.le_refl _, Nat.le_refl _⟩ (Nat.le_of_ble_eq_true rfl) (fun M9 h9 => ?_)
            rw [h9]
            refine r_aload_n hG dX3_readLine_97 rfl ?_
            refine r_bipush hG (-14) dX3_readLine_98 (by decide) ?_
            refine r_cVI1 hG mk_X3_67 dX3_readLine_100 rfl (by decide) (ct_X3_take (by exact hR) hqA tw h3A hn2 _) (by decide) ⟨Nat.le_refl _, Nat.le_refl _⟩ (Nat.le_of_ble_eq_true rfl) (fun x9 M4 h9 => ?_)
            rcases h9 with ⟨rfl, hc100, rfl⟩ | ⟨rfl, hc100, rfl⟩
            · have h14 := (stI ht2 13 (by decide) (by decide)).mp hc100
              have hn3 := tw.nx hn2 (by omega)
              refine r_if_eq hG 127 dX3_readLine_103 (by decide) (fun hc103 => absurd hc103 (by decide)) (fun hc103 => ?_)
              refine r_aload_n hG dX3_readLine_106 rfl ?_
              refine r_iconst hG (1) dX3_readLine_107 (by decide) ?_
              refine r_top (nI (0 + 1)) rfl ?_
              refine r_cVI1 hG mk_X3_70 dX3_readLine_108 rfl (by decide) (cTests_5 _ b o q (a + 2 + 1) (s.2.2.2.1 s.1) 0 Wz s.2.2.2.2 (by exact hR) hob (hqA.mv (sdA gEq.rf) (S46_no ho)) tw (hpA.at ho) hn3 (by omega) (by omega) rfl rfl rfl) (by decide) ⟨Nat.le_refl _, Nat.le_refl _⟩ (Nat.le_of_ble_eq_true rfl) (fun x9 M5 h9 => ?_)
              obtain ⟨hg1, ⟨rfl, a1, u1, c1, W1, hr1, hw1, hp1, l1, l2, l3⟩ | ⟨rfl, hf⟩⟩ := h9
              · have hR1 : M5.2.2 = stdR b := by rw [hg1.1]; exact hR
                have hg2 := (hgA.trans ((sdA gEq.rf).mono (fun _ _ => S46So))).trans (hg1.mono (fun _ _ => S46So))
                have hq1 : tkC M5 q := hq.mv hg2 (by intro k j h; unfold So at h; omega)
                have hr8 := hr1.trans (Run.st st7_0)
                have ht5 : tW (q.2.1 a1) := tw.2.2.2.2.1 a1
                refine r_if_eq hG 127 dX3_readLine_111 (by decide) (fun hc111 => absurd hc111 (by decide)) (fun hc111 => ?_)
                refine r_aload_n hG dX3_readLine_114 rfl ?_
                refine r_bipush hG (-17) dX3_readLine_115 (by decide) ?_
                refine r_cVI1 hG mk_X3_67 dX3_readLine_117 rfl (by decide) (ct_X3_take hR1 hq1 tw hp1.1 l2 _) (by decide) ⟨Nat.le_refl _, Nat.le_refl _⟩ (Nat.le_of_ble_eq_true rfl) (fun x9 M6 h9 => ?_)
                rcases h9 with ⟨rfl, hc117, rfl⟩ | ⟨rfl, hc117, rfl⟩
                · skip
                  refine r_if_eq hG 127 dX3_readLine_120 (by decide) (fun hc120 => absurd hc120 (by decide)) (fun hc120 => ?_)
                  refine r_iconst hG (1) dX3_readLine_123 (by decide) ?_
                  refine r_goto hG 128 dX3_readLine_124 (by decide) ?_
                  refine hE _ _ _ _ _ dX3_readLine_128 rfl (Nat.le_refl _) (Nat.le_refl _) rfl ?_
                  have h17 := (stI ht5 16 (by decide) (by decide)).mp hc117
                  refine ⟨0, a1 + 1, u1, c1, ln_8 hk hn16 h0 h99 h14 hr8 h17, tw.nx l2 (by omega), hg2.put (by unfold So; omega), Or.inl ⟨rfl, rfl, ?_, by rw [gwI_s, nI_1], by rw [gwI_n (by omega)]; exact hp1.2.1, by omega, by omega⟩⟩
                  have hK := (hs.ok.nx tw.2.2.2.2.1 (by omega) (be := decide ((q.2.1 a).1 = 13)) (li := (q.2.1 (a + 1)).2) hr8 (by omega)).1
                  have hx : ∀ k j, (k = o ∧ j = 5) ∨ k = o + 1 ∨ k = o + 2 ∨ k = o + 3 → (gwI M5 6 3 (nI a1 + 1)).1 k j = (gwI (gwI (gwI (gwI (gwI (gwI M 6 3 (nI (a + 1))) 6 3 (nI (a + 2))) (o + 1) s.1 (stv (q.2.1 a))) (o + 2) s.1 (stv (q.2.1 (a + 1)))) (o + 3) s.1 (nI (s.2.2.2.1 s.1))) o 5 (nI s.1 + 1)).1 k j := fun k j h => by
                    rw [gwI_n (by omega), hg1.2 k j (by unfold S46; omega), gwI_n (by omega)]
                  refine hs.nx (by omega) hK (hp1.at ho) ?_ (fun i hi => ⟨?_, ?_, ?_⟩) ⟨?_, ?_, ?_⟩
                  · rw [hx _ _ (by omega), gwI_s, nI_1]
                  · rw [hx _ _ (by omega), gwI_n (by omega), gwI_n (by omega), gwI_n (by omega), gwI_n (by omega), gwI_n (by omega), gwI_n (by omega)]
                  · rw [hx _ _ (by omega), gwI_n (by omega), gwI_n (by omega), gwI_n (by omega), gwI_n (by omega), gwI_n (by omega), gwI_n (by omega)]
                  · rw [hx _ _ (by omega), gwI_n (by omega), gwI_n (by omega), gwI_n (by omega), gwI_n (by omega), gwI_n (by omega), gwI_n (by omega)]
                  · rw [hx _ _ (by omega), gwI_n (by omega), gwI_n (by omega), gwI_n (by omega), gwI_s]
                    rcases hk with hk | hk
                    · rw [(stI ht 11 (by decide) rfl).mpr hk, hk]; rfl
                    · rw [(stI ht 12 (by decide) rfl).mpr hk, hk]; rfl
                  · rw [hx _ _ (by omega), gwI_n (by omega), gwI_n (by omega), gwI_s, stv_0 h0]
                  · rw [hx _ _ (by omega), gwI_n (by omega), gwI_s]
                · skip
                  refine r_if_eq hG 127 dX3_readLine_120 (by decide) (fun hc120 => ?_) (fun hc120 => absurd hc120 (by decide))
                  refine r_iconst hG (0) dX3_readLine_127 (by decide) ?_
                  refine hE _ _ _ _ _ dX3_readLine_128 rfl (Nat.le_refl _) (Nat.le_refl _) rfl ?_
                  exact lnP.bad 1 (ln_7 hk hn16 h0 h99 h14 hr8 (fun z => hc117 ((stI ht5 16 (by decide) (by decide)).mpr z))) ⟨by omega, by omega⟩ l2 hg2 rfl
              · obtain ⟨k, a2, d2, u2, W2, c2, f1, f2, f3, f4, f5, f6⟩ := hf
                refine r_if_eq hG 127 dX3_readLine_111 (by decide) (fun hc111 => ?_) (fun hc111 => absurd hc111 (by decide))
                refine r_iconst hG (0) dX3_readLine_127 (by decide) ?_
                refine hE _ _ _ _ _ dX3_readLine_128 rfl (Nat.le_refl _) (Nat.le_refl _) rfl ?_
                exact ⟨k, a2, _, _, ln_6 hk hn16 h0 h99 h14 f1, f4, (hgA.trans ((sdA gEq.rf).mono (fun _ _ => S46So))).trans (hg1.mono (fun _ _ => S46So)), Or.inr ⟨rfl, f2, f3, f5⟩⟩
            · skip
              refine r_if_eq hG 127 dX3_readLine_103 (by decide) (fun hc103 => ?_) (fun hc103 => absurd hc103 (by decide))
              refine r_iconst hG (0) dX3_readLine_127 (by decide) ?_
              refine hE _ _ _ _ _ dX3_readLine_128 rfl (Nat.le_refl _) (Nat.le_refl _) rfl ?_
              exact lnP.bad 1 (ln_5 hk hn16 h0 h99 (fun z => hc100 ((stI ht2 13 (by decide) (by decide)).mpr z))) ⟨by omega, by omega⟩ hn2 hgA rfl
          · refine r_aload_n hG dX3_readLine_72 rfl ?_
            refine r_iconst hG (4) dX3_readLine_73 (by decide) ?_
            refine r_cVI1 hG mk_X3_56 dX3_readLine_74 rfl (by decide) (ct_X3_wrong (M := (gwI M 6 3 (nI (a + 1)))) (by exact hR) (hq.mv (sdA gEq.rf) (S46_no ho)) tw gwI_s hn1 _) (by decide) ⟨Nat.le_refl _, Nat.le_refl _⟩ (Nat.le_of_ble_eq_true rfl) (fun x9 M9 h9 => ?_)
            obtain ⟨e8, e9⟩ := h9
            rw [e8, e9]
            refine hE _ _ _ _ _ dX3_readLine_77 rfl (Nat.le_refl _) (Nat.le_refl _) rfl ?_
            exact lnP.bad 4 (ln_4 hk hn16 h0 (by rw [← stv_0 h0]; exact Int32.not_le.mp hc69)) ⟨by omega, by omega⟩ hn1 (gEq.rf.put (by unfold So; omega)) rfl
        · refine r_aload_n hG dX3_readLine_60 rfl ?_
          refine r_iconst hG (1) dX3_readLine_61 (by decide) ?_
          refine r_cVI1 hG mk_X3_56 dX3_readLine_62 rfl (by decide) (ct_X3_wrong (M := (gwI M 6 3 (nI (a + 1)))) (by exact hR) (hq.mv (sdA gEq.rf) (S46_no ho)) tw gwI_s hn1 _) (by decide) ⟨Nat.le_refl _, Nat.le_refl _⟩ (Nat.le_of_ble_eq_true rfl) (fun x9 M9 h9 => ?_)
          obtain ⟨e8, e9⟩ := h9
          rw [e8, e9]
          refine hE _ _ _ _ _ dX3_readLine_65 rfl (Nat.le_refl _) (Nat.le_refl _) rfl ?_
          exact lnP.bad 1 (ln_3 hk hn16 (fun z => hc57 (Int32.not_lt.mp ((stv_num ht1).mpr z)))) ⟨by omega, by omega⟩ hn1 (gEq.rf.put (by unfold So; omega)) rfl
      · have hn32 := nlt_f (a := s.1) (b := 16) (by omega) (by omega) hc32
        refine r_aload_n hG dX3_readLine_35 rfl ?_
        refine r_iconst hG (5) dX3_readLine_36 (by decide) ?_
        refine r_cVI1 hG mk_X3_56 dX3_readLine_37 rfl (by decide) (ct_X3_wrong (by exact hR) hq tw h3 ha _) (by decide) ⟨Nat.le_refl _, Nat.le_refl _⟩ (Nat.le_of_ble_eq_true rfl) (fun x9 M9 h9 => ?_)
        obtain ⟨e8, e9⟩ := h9
        rw [e8, e9]
        refine hE _ _ _ _ _ dX3_readLine_40 rfl (Nat.le_refl _) (Nat.le_refl _) rfl ?_
        have e16 : s.1 = 16 := by omega
        exact lnP.bad 5 (by rw [e16]; exact ln_2 hk) ⟨by omega, by omega⟩ ha gEq.rf rfl
    · refine r_aload_n hG dX3_readLine_17 rfl ?_
      refine r_iconst hG (1) dX3_readLine_18 (by decide) ?_
      refine r_cVI1 hG mk_X3_56 dX3_readLine_19 rfl (by decide) (ct_X3_wrong (by exact hR) hq tw h3 ha _) (by decide) ⟨Nat.le_refl _, Nat.le_refl _⟩ (Nat.le_of_ble_eq_true rfl) (fun x9 M9 h9 => ?_)
      obtain ⟨e8, e9⟩ := h9
      rw [e8, e9]
      refine hE _ _ _ _ _ dX3_readLine_22 rfl (Nat.le_refl _) (Nat.le_refl _) rfl ?_
      exact lnP.bad 1 (ln_1 (fun z => z.elim (fun z => hc8 ((stI ht 11 (by decide) (by decide)).mpr z)) (fun z => hc14 ((stI ht 12 (by decide) (by decide)).mpr z)))) ⟨by omega, by omega⟩ ha gEq.rf rfl

theorem r_memw {d mc ms : Nat} {own : String} {cc : ByteArray} {nL : Nat} {G : gJ} (hG : gS d mc ms own cc nL G) {Z : Nat × Nat × Nat} {pc : Nat} {L : List (Option Value)} {st : List Value} {M : gM} (M' : gM) (e : ∀ dA ad, gw dA ad Z.1 M = gw dA ad Z.1 M') (k : G Z pc L st M') : G Z pc L st M := by
  obtain ⟨p, l, e1, R, s, m, args, below, meth, c, D, dA, n0, ad0, Q, ⟨hx, hb, hml, hown, hts, hK, hlk, hfr, hlo, hX⟩, hmc, hms, rfl⟩ := hG
  intro ad H locs ls he hP hD hS hl
  rw [e dA ad] at hP hD
  exact k ad H locs ls he hP hD hS hl
theorem stdR_b {b b' : Bool} {k j : Nat} (h : k ≠ 6) : stdR b k j = stdR b' k j := by
  unfold stdR
  rw [if_neg h, if_neg h]
theorem sw_mem {M : gM} {b : Bool} (hR : M.2.2 = stdR b) {o o' : Nat} (hob : o = if b then 11 else 17) (hob' : o' = if b then 17 else 11) (dA : Nat → ClassId) (ad : Nat → Nat) (n : Nat) : gw dA ad n (gwR (gwR M 6 1 (some o)) 6 2 (some o')) = gw dA ad n (M.1, M.2.1, stdR (!b)) := by
  unfold gw
  refine List.map_congr_left fun k _ => ?_
  congr 1
  by_cases h6 : k = 6
  · subst h6
    rw [ge_obj (k := 6) (show gK 6 = (0, 3, (gK 6).2.2) by decide), ge_obj (k := 6) (show gK 6 = (0, 3, (gK 6).2.2) by decide)]
    congr 2
    unfold gfs
    refine List.map_congr_left fun j hj => ?_
    have hj5 : j < 5 := by rw [List.mem_range] at hj; exact hj
    rcases (show j = 0 ∨ j = 1 ∨ j = 2 ∨ j = 3 ∨ j = 4 by omega) with rfl | rfl | rfl | rfl | rfl
    · show va_rf ((M.2.2 6 0).map ad) = va_rf ((stdR (!b) 6 0).map ad)
      rw [hR]; rfl
    · show va_rf ((some o).map ad) = va_rf ((stdR (!b) 6 1).map ad)
      rw [hob]; cases b <;> rfl
    · show va_rf ((some o').map ad) = va_rf ((stdR (!b) 6 2).map ad)
      rw [hob']; cases b <;> rfl
    · rfl
    · rfl
  · have e : (gwR (gwR M 6 1 (some o)) 6 2 (some o')).2.2 k = stdR (!b) k := by
      funext j
      show (if k = 6 ∧ j = 2 then _ else if k = 6 ∧ j = 1 then _ else M.2.2 k j) = _
      rw [if_neg (fun z => h6 z.1), if_neg (fun z => h6 z.1), hR]
      exact stdR_b h6
    exact ge_row rfl rfl e
def S47t (o k j : Nat) : Prop := So o k j ∨ k = 9 ∨ k = 10 ∨ (k = 7 ∧ (j = 3 ∨ j = 4))
/-- what text does in the class -/
def txP (q : kS) (b : Bool) (o : Nat) (M : gM) (r : Int32) (M9 : gM) : Prop := ∃ k a' s', txG q.2.1 18 0 oT0 = (k, a', s') ∧ M9.2.1 = M.2.1 ∧ (∀ k j, ¬ S47t o k j → M9.1 k j = M.1 k j) ∧ M9.1 7 3 = 0 ∧ ((k = 0 ∧ r = 0 ∧ M9.2.2 = stdR (!b) ∧ ordCs M9 o s') ∨ (1 ≤ k ∧ k ≤ 5 ∧ a' < q.1 ∧ r = nI k + 16 * nI (q.2.2 a') ∧ M9.2.2 = stdR b))
set_option maxRecDepth 100000 in
set_option maxHeartbeats 400000 in
theorem lp_X3_text {G : gJ} {P : Int32 → gM → Prop} {M0 : gM} {b : Bool} (hR0 : M0.2.2 = stdR b) {o o' : Nat} (hob : o = if b then 11 else 17) (hob' : o' = if b then 17 else 11) {q : kS} (hq0 : tkC M0 q) (tw : tkW q) (hG : gS (27) 0 0 yX3_readText.cls cX3_readText 3 G) (hE : gEi 140 0 0 cX3_readText .int P G) :
    ∀ (r : Nat) (s : oT) (a : Nat) (M : gM), s.1 + r = 18 → gEq (So o) M0 M → ordCs M o s → M.1 6 3 = nI a → M.1 6 4 = 0 → a < q.1 → s.2.2.2.1 s.1 ≤ a → (∀ y M9, (∃ k a' s', txG q.2.1 r a s = (k, a', s') ∧ M9.2.1 = M0.2.1 ∧ (∀ k j, ¬ So o k j → M9.1 k j = M0.1 k j) ∧ ((k = 0 ∧ y = 0 ∧ M9.2.2 = stdR (!b) ∧ ordCs M9 o s') ∨ (1 ≤ k ∧ k ≤ 5 ∧ a' < q.1 ∧ y = nI k + 16 * nI (q.2.2 a') ∧ M9.2.2 = stdR b))) → P y M9) → G (140, 0, 0) 28 [some (.ref 6), some (.int (1)), some (.int (nI s.1))] [] M := by
  intro r
  induction r with
  | zero =>
    intro s a M hsr hg hs h3 h4 ha hu hP
    have := hs.1
    omega
  | succ r ih =>
    intro s a M hsr hg hs h3 h4 ha hu hP
    have ho : o = 11 ∨ o = 17 := by cases b <;> simp at hob <;> omega
    have h601 := tw.2.1
    have hR : M.2.2 = stdR b := by rw [hg.1]; exact hR0
    have hq : tkC M q := hq0.mv hg (by intro k j h; unfold So at h; omega)
    have ht : tW (q.2.1 a) := tw.2.2.2.2.1 a
    have h16 := hs.1
    refine r_iload_n hG dX3_readText_28 rfl ?_
    refine r_bipush hG (16) dX3_readText_29 (by decide) ?_
    refine r_icmp_gt hG 58 dX3_readText_31 (by decide) (fun hc31 => absurd (nlt_t (a := 16) (b := s.1) (by omega) (by omega) hc31) (by omega)) (fun hc31 => ?_)
    refine r_iload_n hG dX3_readText_34 rfl ?_
    refine r_if_eq hG 58 dX3_readText_35 (by decide) (fun hc35 => absurd hc35 (by decide)) (fun hc35 => ?_)
    refine r_aload_n hG dX3_readText_38 rfl ?_
    refine r_cVI0 hG mk_X3_41 dX3_readText_39 rfl (by decide) (ct_X3_token hR hq tw h3 ha) (by omega) ⟨Nat.le_refl _, Nat.le_refl _⟩ (Nat.le_of_ble_eq_true rfl) (fun x9 M9 h9 => ?_)
    obtain ⟨e8, e9⟩ := h9
    rw [e8, e9]
    refine r_bipush hG (-18) dX3_readText_42 (by decide) ?_
    refine r_icmp_eq hG 58 dX3_readText_44 (by decide) (fun hc44 => ?_) (fun hc44 => ?_)
    · refine r_iload_n hG dX3_readText_58 rfl ?_
      refine r_if_eq hG 80 dX3_readText_59 (by decide) (fun hc59 => absurd hc59 (by decide)) (fun hc59 => ?_)
      refine r_aload_n hG dX3_readText_62 rfl ?_
      refine r_getR hG 1 o' fk_X3_21 dX3_readText_63 rfl (by decide) rfl (sr hR (by rw [hob']; rfl)) ?_
      refine r_astore_n hG dX3_readText_66 (by decide) ?_
      refine r_loc [some (.ref 6), some (.int (1)), some (.ref o')] rfl ?_
      refine r_aload_n hG dX3_readText_67 rfl ?_
      refine r_aload_n hG dX3_readText_68 rfl ?_
      refine r_getR hG 2 o fk_X3_25 dX3_readText_69 rfl (by decide) rfl (sr hR (by rw [hob]; rfl)) ?_
      refine r_putR hG 1 fp_X3_21 dX3_readText_72 rfl (by decide) rfl (fun _ => rfl) (fun _ => rfl) ?_
      refine r_aload_n hG dX3_readText_75 rfl ?_
      refine r_aload_n hG dX3_readText_76 rfl ?_
      refine r_putR hG 2 fp_X3_25 dX3_readText_77 rfl (by decide) rfl (fun _ => rfl) (fun _ => rfl) ?_
      refine r_memw hG (M.1, M.2.1, stdR (!b)) (fun dA ad => sw_mem hR hob hob' dA ad _) ?_
      refine r_aload_n hG dX3_readText_80 rfl ?_
      refine r_getIv hG 4 (0) fk_X3_38 dX3_readText_81 rfl (by decide) rfl h4 ?_
      refine hE _ _ _ _ _ dX3_readText_84 rfl (Nat.le_refl _) (Nat.le_refl _) rfl ?_
      exact hP _ _ ⟨0, a, s, tx_0 ((stI ht 17 (by decide) (by decide)).mp hc44), by show M.2.1 = M0.2.1; rw [hg.1], hg.2, Or.inl ⟨rfl, rfl, rfl, hs⟩⟩
    · have h18 : (q.2.1 a).1 ≠ 18 := fun z => hc44 ((stI ht 17 (by decide) (by decide)).mpr z)
      refine r_aload_n hG dX3_readText_47 rfl ?_
      refine r_cVI0 hG mk_X3_45 dX3_readText_48 rfl (by decide) (ct_X3_readLine hR hob hq tw hs h3 h4 ha hu) (by omega) ⟨Nat.le_refl _, Nat.le_refl _⟩ (Nat.le_of_ble_eq_true rfl) (fun x9 M1 h9 => ?_)
      obtain ⟨k, a1, u1, c1, hl, ha1, hg1, ⟨rfl, rfl, hs1, e3, e4, l1, l2⟩ | ⟨rfl, k1, k2, ef⟩⟩ := h9
      · skip
        refine r_istore_n hG dX3_readText_51 (by decide) ?_
        refine r_loc [some (.ref 6), some (.int (1)), some (.int (nI s.1))] rfl ?_
        refine r_iinc hG (1) dX3_readText_52 (by decide) rfl ?_
        refine r_loc [some (.ref 6), some (.int (1)), some (.int ((nI s.1) + (1)))] rfl ?_
        refine r_goto hG 28 dX3_readText_55 (by decide) ?_
        rw [nI_1]
        refine ih (oTn s (decide ((q.2.1 a).1 = 13)) (q.2.1 (a + 1)).2 u1 c1) a1 M1 (by show s.1 + 1 + r = 18; omega) (hg.trans hg1) hs1 e3 e4 ha1 ?_ ?_
        · show (if s.1 + 1 = s.1 + 1 then u1 else _) ≤ a1
          rw [if_pos rfl]; exact l1
        · intro y M9 h
          refine hP y M9 ?_
          rw [tx_s h18 hl]
          exact h
      · skip
        refine r_istore_n hG dX3_readText_51 (by decide) ?_
        refine r_loc [some (.ref 6), some (.int (0)), some (.int (nI s.1))] rfl ?_
        refine r_iinc hG (1) dX3_readText_52 (by decide) rfl ?_
        refine r_loc [some (.ref 6), some (.int (0)), some (.int ((nI s.1) + (1)))] rfl ?_
        refine r_goto hG 28 dX3_readText_55 (by decide) ?_
        refine r_iload_n hG dX3_readText_28 rfl ?_
        refine r_bipush hG (16) dX3_readText_29 (by decide) ?_
        refine r_icmp_gt hG 58 dX3_readText_31 (by decide) (fun hc31 => ?_) (fun hc31 => ?_)
        · refine r_iload_n hG dX3_readText_58 rfl ?_
          refine r_if_eq hG 80 dX3_readText_59 (by decide) (fun hc59 => ?_) (fun hc59 => absurd hc59 (by decide))
          skip
          refine r_aload_n hG dX3_readText_80 rfl ?_
          refine r_getIv hG 4 (M1.1 6 4) fk_X3_38 dX3_readText_81 rfl (by decide) rfl rfl ?_
          refine hE _ _ _ _ _ dX3_readText_84 rfl (Nat.le_refl _) (Nat.le_refl _) rfl ?_
          exact hP _ _ ⟨k, a1, s, tx_f h18 hl (by omega), by rw [(hg.trans hg1).1], (hg.trans hg1).2, Or.inr ⟨k1, k2, ha1, ef, by rw [(hg.trans hg1).1]; exact hR0⟩⟩
        · refine r_iload_n hG dX3_readText_34 rfl ?_
          refine r_if_eq hG 58 dX3_readText_35 (by decide) (fun hc35 => ?_) (fun hc35 => absurd hc35 (by decide))
          refine r_iload_n hG dX3_readText_58 rfl ?_
          refine r_if_eq hG 80 dX3_readText_59 (by decide) (fun hc59 => ?_) (fun hc59 => absurd hc59 (by decide))
          skip
          refine r_aload_n hG dX3_readText_80 rfl ?_
          refine r_getIv hG 4 (M1.1 6 4) fk_X3_38 dX3_readText_81 rfl (by decide) rfl rfl ?_
          refine hE _ _ _ _ _ dX3_readText_84 rfl (Nat.le_refl _) (Nat.le_refl _) rfl ?_
          exact hP _ _ ⟨k, a1, s, tx_f h18 hl (by omega), by rw [(hg.trans hg1).1], (hg.trans hg1).2, Or.inr ⟨k1, k2, ha1, ef, by rw [(hg.trans hg1).1]; exact hR0⟩⟩

/-! the tokens of a tape are such as are read -/
def kI (q : kS) : Prop := (∀ i, i < q.1 → (q.2.1 i).1 ≠ 18) ∧ (∀ i, tW (q.2.1 i)) ∧ ∀ i, i < q.1 → q.2.2 i ≤ 600
theorem tokC_ok {s : tS} {a : Nat} (ha : a < s.1) : tW (tokC s a (eor s a)) ∧ (tokC s a (eor s a)).1 ≠ 18 := by
  unfold tokC
  by_cases h1 : isLet (s.2 a)
  · rw [if_pos h1]
    rcases wtk_is (f := s.2) (a := a) (l := eor s a - a) with ⟨i, hi, -, e⟩ | ⟨-, e⟩
    · rw [e]
      have := (by decide : ∀ i, i < 10 → 1 ≤ wcd i ∧ wcd i ≤ 14) i hi
      exact ⟨⟨by show wcd i ≤ 19; omega, fun z => by simp only at z; omega⟩, by show wcd i ≠ 18; omega⟩
    · rw [e]
      exact ⟨⟨Nat.le_refl 19, fun z => by simp at z⟩, by decide⟩
  · rw [if_neg h1]
    by_cases h2 : isDig (s.2 a)
    · rw [if_pos h2]
      by_cases h4 : 4 < eor s a - a
      · rw [if_pos h4]
        exact ⟨⟨Nat.le_refl 19, fun z => by simp at z⟩, by decide⟩
      · rw [if_neg h4]
        have := eor_lt s a
        obtain ⟨v, g1, g2, -⟩ := num_ok (f := s.2) (a := a) (l := eor s a - a) (by omega) (fun j hj => eor_dig h1 h2 (by omega) (by omega))
        exact ⟨⟨Nat.zero_le _, fun _ => ⟨v, g1, g2⟩⟩, Nat.succ_ne_zero 17 ∘ Eq.symm⟩
    · rw [if_neg h2]
      have : stk (s.2 a) ≤ 19 ∧ stk (s.2 a) ≠ 0 ∧ stk (s.2 a) ≠ 18 := by
        unfold stk
        repeat' split
        all_goals decide
      exact ⟨⟨this.1, fun z => absurd z this.2.1⟩, this.2.2⟩
theorem kI.push {q : kS} (h : kI q) {t : Nat × Int32} {p : Nat} (ht : tW t) (h18 : t.1 ≠ 18) (hp : p ≤ 600) : kI (kpush t p q) := by
  obtain ⟨h1, h2, h3⟩ := h
  refine ⟨fun i (hi : i < q.1 + 1) => ?_, fun i => ?_, fun i (hi : i < q.1 + 1) => ?_⟩
  · show (if i = q.1 then t else q.2.1 i).1 ≠ 18
    by_cases e : i = q.1
    · rw [if_pos e]; exact h18
    · rw [if_neg e]; exact h1 i (by omega)
  · show tW (if i = q.1 then t else q.2.1 i)
    by_cases e : i = q.1
    · rw [if_pos e]; exact ht
    · rw [if_neg e]; exact h2 i
  · show (if i = q.1 then p else q.2.2 i) ≤ 600
    by_cases e : i = q.1
    · rw [if_pos e]; exact hp
    · rw [if_neg e]; exact h3 i (by omega)
theorem scn_ok {s : tS} (h600 : s.1 ≤ 600) : ∀ r a q, a ≤ s.1 → q.1 ≤ a → kI q → kI (scn s r a q) ∧ (scn s r a q).1 ≤ s.1 := by
  intro r
  induction r with
  | zero => intro a q h1 h2 h3; exact ⟨h3, Nat.le_trans h2 h1⟩
  | succ r ih =>
    intro a q h1 h2 h3
    unfold scn
    by_cases ha : a < s.1
    · rw [if_pos ha]
      have hlt := eor_lt s a
      by_cases hb : isBlk (s.2 a)
      · rw [if_pos hb]
        exact ih _ _ (eor_le ha) (by omega) h3
      · rw [if_neg hb]
        exact ih _ _ (eor_le ha) (by show q.1 + 1 ≤ _; omega) (h3.push (tokC_ok ha).1 (tokC_ok ha).2 (by omega))
    · rw [if_neg ha]
      exact ⟨h3, Nat.le_trans h2 h1⟩
theorem toks_ok {s : tS} (h600 : s.1 ≤ 600) : tkW (toks s) := by
  have h0 : kI (0, (fun _ => (18, 0)), fun _ => 0) := ⟨fun i hi => absurd hi (Nat.not_lt_zero i), fun i => ⟨show (18 : Nat) ≤ 19 by decide, fun z => absurd (show (18 : Nat) = 0 from z) (by decide)⟩, fun i hi => Nat.zero_le _⟩
  obtain ⟨⟨h1, h2, h3⟩, h4⟩ := scn_ok h600 s.1 0 _ (Nat.zero_le _) (Nat.le_refl 0) h0
  unfold toks
  generalize scn s s.1 0 (0, (fun _ => (18, 0)), fun _ => 0) = q at h1 h2 h3 h4
  refine ⟨Nat.succ_le_succ (Nat.zero_le _), by show q.1 + 1 ≤ 601; omega, ?_, fun i (hi : i < q.1 + 1 - 1) => ?_, fun i => ?_, fun i (hi : i < q.1 + 1) => ?_⟩
  · show (if q.1 + 1 - 1 = q.1 then ((18, 0) : Nat × Int32) else _).1 = 18
    rw [if_pos (by omega)]
  · show (if i = q.1 then ((18, 0) : Nat × Int32) else q.2.1 i).1 ≠ 18
    rw [if_neg (by omega)]; exact h1 i (by omega)
  · show tW (if i = q.1 then (18, 0) else q.2.1 i)
    by_cases e : i = q.1
    · rw [if_pos e]; exact ⟨by decide, fun z => by simp at z⟩
    · rw [if_neg e]; exact h2 i
  · show (if i = q.1 then s.1 else q.2.2 i) ≤ 600
    by_cases e : i = q.1
    · rw [if_pos e]; exact h600
    · rw [if_neg e]; exact h3 i (by omega)
set_option maxRecDepth 100000 in
set_option maxHeartbeats 400000 in
theorem ct_X3_readText {M : gM} {b : Bool} (hR : M.2.2 = stdR b) {o o' : Nat} (hob : o = if b then 11 else 17) (hob' : o' = if b then 17 else 11) {s : tS} (hs : tpC M s) : gC 27 0 0 yX3_readText cX3_readText 3 (some .int) 140 140 [.ref 6] M (gI (fun r M9 => txP (toks s) b o M r M9)) := by
  refine gC_i rfl (Nat.le_of_ble_eq_true rfl) (fun G hG hE => ?_)
  change G (140, 0, 0) 0 [some (.ref 6), none, none] [] M
  have ho : o = 11 ∨ o = 17 := by cases b <;> simp at hob <;> omega
  have tw : tkW (toks s) := toks_ok hs.2.1
  refine r_aload_n hG dX3_readText_0 rfl ?_
  refine r_getR hG 0 7 fk_X3_12 dX3_readText_1 rfl (by decide) rfl (sr hR rfl) ?_
  refine r_cVV0 hG mk_X3_28 dX3_readText_4 rfl (by decide) (ct_X6_scan hR hs) (by decide) ⟨Nat.le_refl _, Nat.le_refl _⟩ (Nat.le_of_ble_eq_true rfl) (fun M1 h9 => ?_)
  obtain ⟨hk1, hg1, h73⟩ := h9
  have hR1 : M1.2.2 = stdR b := by rw [hg1.1]; exact hR
  refine r_aload_n hG dX3_readText_7 rfl ?_
  refine r_getR hG 2 o fk_X3_25 dX3_readText_8 rfl (by decide) rfl (sr hR1 (by rw [hob]; rfl)) ?_
  refine r_cVV0 hG mk_X3_31 dX3_readText_11 (gkO ho) (show o < 140 by omega) (ct_X1_clear hR1 ho) (by decide) ⟨Nat.le_refl _, Nat.le_refl _⟩ (Nat.le_of_ble_eq_true rfl) (fun M9 h9 => ?_)
  rw [h9]
  refine r_aload_n hG dX3_readText_14 rfl ?_
  refine r_iconst hG (0) dX3_readText_15 (by decide) ?_
  refine r_putI hG 3 fp_X3_34 dX3_readText_16 rfl (by decide) rfl rfl rfl ?_
  refine r_aload_n hG dX3_readText_19 rfl ?_
  refine r_iconst hG (0) dX3_readText_20 (by decide) ?_
  refine r_putI hG 4 fp_X3_38 dX3_readText_21 rfl (by decide) rfl rfl rfl ?_
  refine r_iconst hG (1) dX3_readText_24 (by decide) ?_
  refine r_istore_n hG dX3_readText_25 (by decide) ?_
  refine r_loc [some (.ref 6), some (.int (1)), none] rfl ?_
  refine r_iconst hG (0) dX3_readText_26 (by decide) ?_
  refine r_istore_n hG dX3_readText_27 (by decide) ?_
  refine r_loc [some (.ref 6), some (.int (1)), some (.int (0))] rfl ?_
  have hgz : gEq (So o) M1 (gwI (gwI (gwI (gwI M1 o 5 0) o 6 0) 6 3 0) 6 4 0) := (((gEq.rf.put (by unfold So; omega)).put (by unfold So; omega)).put (by unfold So; omega)).put (by unfold So; omega)
  have h0t := tw.1
  refine lp_X3_text (M0 := M1) hR1 hob hob' hk1 tw hG hE 18 oT0 0 (gwI (gwI (gwI (gwI M1 o 5 0) o 6 0) 6 3 0) 6 4 0) rfl hgz ?_ ?_ gwI_s (by omega) (Nat.le_refl 0) (fun y M9 h => ?_)
  · exact ⟨Nat.zero_le _, by rw [gwI_n (by omega), gwI_n (by omega), gwI_n (by omega), gwI_s]; rfl, by rw [gwI_n (by omega), gwI_n (by omega), gwI_s]; rfl, Nat.zero_le _, fun i hi => absurd hi (Nat.not_lt_zero i), fun j hj => absurd hj (Nat.not_lt_zero j)⟩
  · rw [gwI_n (by omega), gwI_s]; rfl
  · obtain ⟨k, a', s', e1, e2, e3, e4⟩ := h
    refine ⟨k, a', s', e1, by rw [e2, hg1.1], fun x j hn => ?_, ?_, e4⟩
    · rw [e3 x j (fun z => hn (Or.inl z)), hg1.2 x j (fun z => hn (by unfold S9 at z; unfold S47t; omega))]
    · rw [e3 7 3 (by unfold So; omega)]; exact h73

set_option maxRecDepth 100000 in
set_option maxHeartbeats 400000 in
theorem ct_X8_text {M : gM} {b : Bool} (hR : M.2.2 = stdR b) {o o' : Nat} (hob : o = if b then 11 else 17) (hob' : o' = if b then 17 else 11) {s : tS} (hs : tpC M s) : gC 28 0 0 yX8_text cX8_text 1 (some .int) 140 140 [.ref 0] M (gI (fun r M9 => txP (toks s) b o M r M9)) := by
  refine gC_i rfl (Nat.le_of_ble_eq_true rfl) (fun G hG hE => ?_)
  change G (140, 0, 0) 0 [some (.ref 0)] [] M
  refine r_aload_n hG dX8_text_0 rfl ?_
  refine r_getR hG 5 6 fk_X8_40 dX8_text_1 rfl (by decide) rfl (sr hR rfl) ?_
  refine r_cVI0 hG mk_X8_125 dX8_text_4 rfl (by decide) (ct_X3_readText hR hob hob' hs) (by decide) ⟨Nat.le_refl _, Nat.le_refl _⟩ (Nat.le_of_ble_eq_true rfl) (fun x9 M9 h9 => ?_)
  skip
  refine hE _ _ _ _ _ dX8_text_7 rfl (Nat.le_refl _) (Nat.le_refl _) rfl ?_
  exact h9


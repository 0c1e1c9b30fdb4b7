/-- the model's form of a step -/
def opv (e : Nat × Int32) : Int32 := if e.1 = 0 then 1 else if e.1 < 7 then 2 else nI (e.1 - 4)
def onev (e : Nat × Int32) : Int32 := if e.1 = 0 then e.2 else if e.1 < 7 then nI (e.1 - 1) else 0
/-- the orders that the model holds in its half h -/
def ordM (M : gM) (h nl : Nat) (B : Nat → Bool) (A : Nat → Int32) (ST : Nat → Nat) (C : Nat → Nat × Int32) : Prop :=
  h ≤ 1 ∧ nl ≤ 16 ∧ M.1 88 16 = nI h ∧ M.1 94 h = nI nl ∧ ST nl ≤ 600 ∧ (∀ i, i < nl → ST i ≤ ST (i + 1) ∧ M.1 95 (16 * h + i) = (if B i then 1 else 0) ∧ M.1 96 (16 * h + i) = A i ∧ M.1 97 (16 * h + i) = nI (660 * h + i + ST i) ∧ hchk C (ST i) (ST (i + 1) - ST i) 0 ∧ (∀ j, ST i ≤ j → j < ST (i + 1) → M.1 98 (660 * h + i + j) = opv (C j) ∧ M.1 99 (660 * h + i + j) = onev (C j)) ∧ M.1 98 (660 * h + i + ST (i + 1)) = 0)
def Sm (k j : Nat) : Prop := k = 103 ∨ k = 104
theorem ordM.sm {M M' : gM} {h nl : Nat} {B : Nat → Bool} {A : Nat → Int32} {ST : Nat → Nat} {C : Nat → Nat × Int32} (ho : ordM M h nl B A ST C) (hq : ∀ k j, (k = 88 ∧ j = 16) ∨ (94 ≤ k ∧ k ≤ 99) → M'.1 k j = M.1 k j) : ordM M' h nl B A ST C := by
  obtain ⟨a1, a2, a3, a4, a5, a6⟩ := ho
  refine ⟨a1, a2, by rw [hq 88 16 (by omega)]; exact a3, by rw [hq 94 h (by omega)]; exact a4, a5, fun i hi => ?_⟩
  obtain ⟨g1, g2, g3, g4, g5, g6, g7⟩ := a6 i hi
  refine ⟨g1, by rw [hq 95 _ (by omega)]; exact g2, by rw [hq 96 _ (by omega)]; exact g3, by rw [hq 97 _ (by omega)]; exact g4, g5, fun j h1 h2 => ?_, by rw [hq 98 _ (by omega)]; exact g7⟩
  rw [hq 98 _ (by omega), hq 99 _ (by omega)]
  exact g6 j h1 h2
theorem m2 (h : Nat) : nI (h + 2) + (-1) - 1 = nI h := by rw [show nI (h + 2) + (-1) = nI (h + 1) from pk_m1 (h + 1)]; exact nI_pred h
set_option maxRecDepth 100000 in
set_option maxHeartbeats 400000 in
theorem lp_X9_worth  {G : gJ} {P : Int32 → gM → Prop} (hG : gS 0 0 0 yX9_worth.cls cX9_worth 7 G) (hE : gEi 140 0 0 cX9_worth .int P G) {M0 : gM} {b : Bool} (hR0 : M0.2.2 = stdR b) {F : Nat → Int32} {C : Nat → Nat × Int32} {a e q : Nat} (le : e ≤ 600) (lq : q ≤ 700) (hS : ∀ j, a ≤ j → j < e → M0.1 98 (q + j) = opv (C j) ∧ M0.1 99 (q + j) = onev (C j)) (h0 : M0.1 98 (q + e) = 0) (hF0 : ∀ w, w < 6 → M0.1 103 w = F w) :
    ∀ (n j h : Nat) (f : Nat → Int32) (M : gM), a ≤ j ∧ j + n = e → h ≤ 20 → hchk C j n h → gEq (fun k j => k = 104) M0 M → (∀ t, t < h → M.1 104 t = f t) → (∀ M9, gEq (fun k j => k = 104) M0 M9 → P ((evs F C j n (h, f)).2 0) M9) → ∀ (x1 : Int32) (x4 x5 x6 : Option Value), G (140, 0, 0) 4 [some (.ref 88), some (.int x1), some (.int (nI (q + j))), some (.int (nI h)), x4, x5, x6] [] M := by
  intro n
  induction n with
  | zero =>
    intro j h f M hj hl20 hk hq hf hP x1 x4 x5 x6
    obtain ⟨hj1, hj2⟩ := hj
    have hj2 : e = j := by omega
    have hR : M.2.2 = stdR b := by rw [hq.1]; exact hR0
    have hk1 : h = 1 := hk
    subst hk1
    refine r_aload_n hG dX9_worth_4 rfl ?_
    refine r_getR hG 14 98 fk_X9_70 dX9_worth_5 rfl (by decide) rfl (sr hR rfl) ?_
    refine r_iload_n hG dX9_worth_8 rfl ?_
    refine r_ialdv hG (q + j) (0) dX9_worth_9 rfl (by decide) rfl (by omega) (by decide) ((hq.2 98 _ (by omega)).trans (hj2 ▸ h0)) ?_
    refine r_if_eq hG 192 dX9_worth_10 (by decide) (fun hc10 => ?_) (fun hc10 => absurd hc10 (by decide))
    refine r_aload_n hG dX9_worth_192 rfl ?_
    refine r_getR hG 24 104 fk_X9_88 dX9_worth_193 rfl (by decide) rfl (sr hR rfl) ?_
    refine r_iconst hG (0) dX9_worth_196 (by decide) ?_
    refine r_iald hG 0 dX9_worth_197 rfl (by decide) rfl (by decide) (by decide) ?_
    refine hE _ _ _ _ _ dX9_worth_198 rfl (Nat.le_refl _) (Nat.le_refl _) rfl ?_
    rw [hf 0 (by omega)]
    exact hP M hq
  | succ n ih =>
    intro j h f M hj hl20 hk hq hf hP x1 x4 x5 x6
    obtain ⟨hj1, hj3⟩ := hj
    have hR : M.2.2 = stdR b := by rw [hq.1]; exact hR0
    have hF : ∀ w, w < 6 → M.1 103 w = F w := fun w hw => (hq.2 103 w (by omega)).trans (hF0 w hw)
    obtain ⟨hs, h1⟩ := hS j (by omega) (by omega)
    rw [← hq.2 98 (q + j) (by omega)] at hs
    rw [← hq.2 99 (q + j) (by omega)] at h1
    unfold hchk at hk
    rcases hC : C j with ⟨t, v⟩
    rw [hC] at hs hk h1
    have hcs : t = 0 ∨ (∃ w, w < 6 ∧ t = w + 1) ∨ t = 7 ∨ t = 8 ∨ t = 9 ∨ t = 10 ∨ t = 11 := by
      by_cases q1 : t < 7
      · by_cases q2 : t = 0
        · exact Or.inl q2
        · exact Or.inr (Or.inl ⟨t - 1, by omega, by omega⟩)
      · rw [if_neg q1] at hk
        have := hk.1
        omega
    rcases hcs with rfl | ⟨w, hw, rfl⟩ | rfl | rfl | rfl | rfl | rfl
    · have hs : M.1 98 (q + j) = 1 := hs
      have h1 : M.1 99 (q + j) = v := h1
      rw [if_pos (show (0 : Nat) < 7 by decide)] at hk
      obtain ⟨hk1, hk2⟩ := hk
      refine r_aload_n hG dX9_worth_4 rfl ?_
      refine r_getR hG 14 98 fk_X9_70 dX9_worth_5 rfl (by decide) rfl (sr hR rfl) ?_
      refine r_iload_n hG dX9_worth_8 rfl ?_
      refine r_ialdv hG (q + j) (1) dX9_worth_9 rfl (by decide) rfl (by omega) (by decide) hs ?_
      refine r_if_eq hG 192 dX9_worth_10 (by decide) (fun hc10 => absurd hc10 (by decide)) (fun hc10 => ?_)
      refine r_aload_n hG dX9_worth_13 rfl ?_
      refine r_getR hG 14 98 fk_X9_70 dX9_worth_14 rfl (by decide) rfl (sr hR rfl) ?_
      refine r_iload_n hG dX9_worth_17 rfl ?_
      refine r_ialdv hG (q + j) (1) dX9_worth_18 rfl (by decide) rfl (by omega) (by decide) hs ?_
      refine r_istore hG dX9_worth_19 (by decide) ?_
      refine r_loc [some (.ref 88), some (.int x1), some (.int (nI (q + j))), some (.int (nI h)), some (.int (1)), x5, x6] rfl ?_
      refine r_iload hG dX9_worth_21 rfl ?_
      refine r_iconst hG (1) dX9_worth_23 (by decide) ?_
      refine r_icmp_eq hG 33 dX9_worth_24 (by decide) (fun hc24 => ?_) (fun hc24 => absurd hc24 (by decide))
      refine r_aload_n hG dX9_worth_33 rfl ?_
      refine r_getR hG 24 104 fk_X9_88 dX9_worth_34 rfl (by decide) rfl (sr hR rfl) ?_
      refine r_iload_n hG dX9_worth_37 rfl ?_
      refine r_iload hG dX9_worth_38 rfl ?_
      refine r_iconst hG (1) dX9_worth_40 (by decide) ?_
      refine r_icmp_ne hG 53 dX9_worth_41 (by decide) (fun hc41 => absurd hc41 (by decide)) (fun hc41 => ?_)
      refine r_aload_n hG dX9_worth_44 rfl ?_
      refine r_getR hG 15 99 fk_X9_73 dX9_worth_45 rfl (by decide) rfl (sr hR rfl) ?_
      refine r_iload_n hG dX9_worth_48 rfl ?_
      refine r_ialdv hG (q + j) (v) dX9_worth_49 rfl (by decide) rfl (by omega) (by decide) h1 ?_
      refine r_goto hG 64 dX9_worth_50 (by decide) ?_
      refine r_iast hG h dX9_worth_64 rfl (by decide) rfl (by omega) (by decide) ?_
      refine r_iinc hG (1) dX9_worth_65 (by decide) rfl ?_
      refine r_loc [some (.ref 88), some (.int x1), some (.int (nI (q + j))), some (.int ((nI h) + (1))), some (.int (1)), x5, x6] rfl ?_
      refine r_goto hG 186 dX9_worth_68 (by decide) ?_
      refine r_iinc hG (1) dX9_worth_186 (by decide) rfl ?_
      refine r_loc [some (.ref 88), some (.int x1), some (.int ((nI (q + j)) + (1))), some (.int ((nI h) + (1))), some (.int (1)), x5, x6] rfl ?_
      refine r_goto hG 4 dX9_worth_189 (by decide) ?_
      rw [nI_1, nI_1]
      refine ih (j + 1) (h + 1) (upd f h v) _ (by omega) (by omega) hk2 (hq.put rfl) ?_ ?_ _ _ _ _
      · intro t ht
        by_cases e2 : t = h
        · subst e2
          rw [gwI_s]
          simp [upd]
        · rw [gwI_n (by omega), hf t (by omega)]
          simp [upd, e2]
      · have e3 : evs F C j (n + 1) (h, f) = evs F C (j + 1) n (h + 1, upd f h v) := by
          simp only [evs, sst, hC]
        rw [← e3]
        exact hP
    · have hs : M.1 98 (q + j) = 2 := by rw [hs]; unfold opv; rw [if_neg (show ¬ w + 1 = 0 by omega), if_pos (show w + 1 < 7 by omega)]
      have h1 : M.1 99 (q + j) = nI w := by rw [h1]; unfold onev; rw [if_neg (show ¬ w + 1 = 0 by omega), if_pos (show w + 1 < 7 by omega)]; rfl
      rw [if_pos (show w + 1 < 7 by omega)] at hk
      obtain ⟨hk1, hk2⟩ := hk
      refine r_aload_n hG dX9_worth_4 rfl ?_
      refine r_getR hG 14 98 fk_X9_70 dX9_worth_5 rfl (by decide) rfl (sr hR rfl) ?_
      refine r_iload_n hG dX9_worth_8 rfl ?_
      refine r_ialdv hG (q + j) (2) dX9_worth_9 rfl (by decide) rfl (by omega) (by decide) hs ?_
      refine r_if_eq hG 192 dX9_worth_10 (by decide) (fun hc10 => absurd hc10 (by decide)) (fun hc10 => ?_)
      refine r_aload_n hG dX9_worth_13 rfl ?_
      refine r_getR hG 14 98 fk_X9_70 dX9_worth_14 rfl (by decide) rfl (sr hR rfl) ?_
      refine r_iload_n hG dX9_worth_17 rfl ?_
      refine r_ialdv hG (q + j) (2) dX9_worth_18 rfl (by decide) rfl (by omega) (by decide) hs ?_
      refine r_istore hG dX9_worth_19 (by decide) ?_
      refine r_loc [some (.ref 88), some (.int x1), some (.int (nI (q + j))), some (.int (nI h)), some (.int (2)), x5, x6] rfl ?_
      refine r_iload hG dX9_worth_21 rfl ?_
      refine r_iconst hG (1) dX9_worth_23 (by decide) ?_
      refine r_icmp_eq hG 33 dX9_worth_24 (by decide) (fun hc24 => absurd hc24 (by decide)) (fun hc24 => ?_)
      refine r_iload hG dX9_worth_27 rfl ?_
      refine r_iconst hG (2) dX9_worth_29 (by decide) ?_
      refine r_icmp_ne hG 71 dX9_worth_30 (by decide) (fun hc30 => absurd hc30 (by decide)) (fun hc30 => ?_)
      refine r_aload_n hG dX9_worth_33 rfl ?_
      refine r_getR hG 24 104 fk_X9_88 dX9_worth_34 rfl (by decide) rfl (sr hR rfl) ?_
      refine r_iload_n hG dX9_worth_37 rfl ?_
      refine r_iload hG dX9_worth_38 rfl ?_
      refine r_iconst hG (1) dX9_worth_40 (by decide) ?_
      refine r_icmp_ne hG 53 dX9_worth_41 (by decide) (fun hc41 => ?_) (fun hc41 => absurd hc41 (by decide))
      refine r_aload_n hG dX9_worth_53 rfl ?_
      refine r_getR hG 23 103 fk_X9_85 dX9_worth_54 rfl (by decide) rfl (sr hR rfl) ?_
      refine r_aload_n hG dX9_worth_57 rfl ?_
      refine r_getR hG 15 99 fk_X9_73 dX9_worth_58 rfl (by decide) rfl (sr hR rfl) ?_
      refine r_iload_n hG dX9_worth_61 rfl ?_
      refine r_ialdv hG (q + j) (nI w) dX9_worth_62 rfl (by decide) rfl (by omega) (by decide) h1 ?_
      refine r_ialdv hG w (F w) dX9_worth_63 rfl (by decide) rfl (by omega) (by decide) (hF w hw) ?_
      refine r_iast hG h dX9_worth_64 rfl (by decide) rfl (by omega) (by decide) ?_
      refine r_iinc hG (1) dX9_worth_65 (by decide) rfl ?_
      refine r_loc [some (.ref 88), some (.int x1), some (.int (nI (q + j))), some (.int ((nI h) + (1))), some (.int (2)), x5, x6] rfl ?_
      refine r_goto hG 186 dX9_worth_68 (by decide) ?_
      refine r_iinc hG (1) dX9_worth_186 (by decide) rfl ?_
      refine r_loc [some (.ref 88), some (.int x1), some (.int ((nI (q + j)) + (1))), some (.int ((nI h) + (1))), some (.int (2)), x5, x6] rfl ?_
      refine r_goto hG 4 dX9_worth_189 (by decide) ?_
      rw [nI_1, nI_1]
      refine ih (j + 1) (h + 1) (upd f h (F w)) _ (by omega) (by omega) hk2 (hq.put rfl) ?_ ?_ _ _ _ _
      · intro t ht
        by_cases e2 : t = h
        · subst e2
          rw [gwI_s]
          simp [upd]
        · rw [gwI_n (by omega), hf t (by omega)]
          simp [upd, e2]
      · have e3 : evs F C j (n + 1) (h, f) = evs F C (j + 1) n (h + 1, upd f h (F w)) := by
          simp only [evs, sst, hC, hw, if_true]
        rw [← e3]
        exact hP
    · have hs : M.1 98 (q + j) = 3 := hs
      rw [if_neg (show ¬ 7 < 7 by decide)] at hk
      obtain ⟨-, hk1, hk2⟩ := hk
      obtain ⟨h, rfl⟩ : ∃ h', h = h' + 2 := ⟨h - 2, by omega⟩
      refine r_aload_n hG dX9_worth_4 rfl ?_
      refine r_getR hG 14 98 fk_X9_70 dX9_worth_5 rfl (by decide) rfl (sr hR rfl) ?_
      refine r_iload_n hG dX9_worth_8 rfl ?_
      refine r_ialdv hG (q + j) (3) dX9_worth_9 rfl (by decide) rfl (by omega) (by decide) hs ?_
      refine r_if_eq hG 192 dX9_worth_10 (by decide) (fun hc10 => absurd hc10 (by decide)) (fun hc10 => ?_)
      refine r_aload_n hG dX9_worth_13 rfl ?_
      refine r_getR hG 14 98 fk_X9_70 dX9_worth_14 rfl (by decide) rfl (sr hR rfl) ?_
      refine r_iload_n hG dX9_worth_17 rfl ?_
      refine r_ialdv hG (q + j) (3) dX9_worth_18 rfl (by decide) rfl (by omega) (by decide) hs ?_
      refine r_istore hG dX9_worth_19 (by decide) ?_
      refine r_loc [some (.ref 88), some (.int x1), some (.int (nI (q + j))), some (.int (nI (h + 2))), some (.int (3)), x5, x6] rfl ?_
      refine r_iload hG dX9_worth_21 rfl ?_
      refine r_iconst hG (1) dX9_worth_23 (by decide) ?_
      refine r_icmp_eq hG 33 dX9_worth_24 (by decide) (fun hc24 => absurd hc24 (by decide)) (fun hc24 => ?_)
      refine r_iload hG dX9_worth_27 rfl ?_
      refine r_iconst hG (2) dX9_worth_29 (by decide) ?_
      refine r_icmp_ne hG 71 dX9_worth_30 (by decide) (fun hc30 => ?_) (fun hc30 => absurd hc30 (by decide))
      refine r_iinc hG (-1) dX9_worth_71 (by decide) rfl ?_
      refine r_loc [some (.ref 88), some (.int x1), some (.int (nI (q + j))), some (.int ((nI (h + 2)) + (-1))), some (.int (3)), x5, x6] rfl ?_
      refine r_aload_n hG dX9_worth_74 rfl ?_
      refine r_getR hG 24 104 fk_X9_88 dX9_worth_75 rfl (by decide) rfl (sr hR rfl) ?_
      refine r_iload_n hG dX9_worth_78 rfl ?_
      refine r_top (nI (h + 1)) (pk_m1 (h + 1)) ?_
      refine r_iald hG (h + 1) dX9_worth_79 rfl (by decide) rfl (by omega) (by decide) ?_
      refine r_istore hG dX9_worth_80 (by decide) ?_
      refine r_loc [some (.ref 88), some (.int x1), some (.int (nI (q + j))), some (.int ((nI (h + 2)) + (-1))), some (.int (3)), some (.int (M.1 104 (h + 1))), x6] rfl ?_
      refine r_aload_n hG dX9_worth_82 rfl ?_
      refine r_getR hG 24 104 fk_X9_88 dX9_worth_83 rfl (by decide) rfl (sr hR rfl) ?_
      refine r_iload_n hG dX9_worth_86 rfl ?_
      refine r_iconst hG (1) dX9_worth_87 (by decide) ?_
      refine r_isub hG dX9_worth_88 ?_
      refine r_top (nI h) (m2 h) ?_
      refine r_iald hG h dX9_worth_89 rfl (by decide) rfl (by omega) (by decide) ?_
      refine r_istore hG dX9_worth_90 (by decide) ?_
      refine r_loc [some (.ref 88), some (.int x1), some (.int (nI (q + j))), some (.int ((nI (h + 2)) + (-1))), some (.int (3)), some (.int (M.1 104 (h + 1))), some (.int (M.1 104 h))] rfl ?_
      refine r_aload_n hG dX9_worth_92 rfl ?_
      refine r_getR hG 24 104 fk_X9_88 dX9_worth_93 rfl (by decide) rfl (sr hR rfl) ?_
      refine r_iload_n hG dX9_worth_96 rfl ?_
      refine r_iconst hG (1) dX9_worth_97 (by decide) ?_
      refine r_isub hG dX9_worth_98 ?_
      refine r_top (nI h) (m2 h) ?_
      refine r_iload hG dX9_worth_99 rfl ?_
      refine r_iconst hG (3) dX9_worth_101 (by decide) ?_
      refine r_icmp_ne hG 113 dX9_worth_102 (by decide) (fun hc102 => absurd hc102 (by decide)) (fun hc102 => ?_)
      refine r_iload hG dX9_worth_105 rfl ?_
      refine r_iload hG dX9_worth_107 rfl ?_
      refine r_iadd hG dX9_worth_109 ?_
      refine r_goto hG 185 dX9_worth_110 (by decide) ?_
      refine r_iast hG h dX9_worth_185 rfl (by decide) rfl (by omega) (by decide) ?_
      refine r_iinc hG (1) dX9_worth_186 (by decide) rfl ?_
      refine r_loc [some (.ref 88), some (.int x1), some (.int ((nI (q + j)) + (1))), some (.int ((nI (h + 2)) + (-1))), some (.int (3)), some (.int (M.1 104 (h + 1))), some (.int (M.1 104 h))] rfl ?_
      refine r_goto hG 4 dX9_worth_189 (by decide) ?_
      rw [nI_1, show nI (h + 2) + (-1) = nI (h + 1) from pk_m1 (h + 1)]
      have ej : ((M.1 104 h) + (M.1 104 (h + 1))) = fJoin 0 (M.1 104 h) (M.1 104 (h + 1)) := rfl
      refine ih (j + 1) (h + 1) (upd f h (fJoin 0 (f h) (f (h + 1)))) _ (by omega) (by omega) hk2 (hq.put rfl) ?_ ?_ _ _ _ _
      · intro t ht
        by_cases e2 : t = h
        · subst e2
          rw [gwI_s, ej, hf t (by omega), hf (t + 1) (by omega)]
          simp [upd]
        · rw [gwI_n (by omega), hf t (by omega)]
          simp [upd, e2]
      · have e3 : evs F C j (n + 1) (h + 2, f) = evs F C (j + 1) n (h + 1, upd f h (fJoin 0 (f h) (f (h + 1)))) := by
          simp only [evs, sst, hC]
          rw [if_neg (by omega)]
          simp
        rw [← e3]
        exact hP
    · have hs : M.1 98 (q + j) = 4 := hs
      rw [if_neg (show ¬ 8 < 7 by decide)] at hk
      obtain ⟨-, hk1, hk2⟩ := hk
      obtain ⟨h, rfl⟩ : ∃ h', h = h' + 2 := ⟨h - 2, by omega⟩
      refine r_aload_n hG dX9_worth_4 rfl ?_
      refine r_getR hG 14 98 fk_X9_70 dX9_worth_5 rfl (by decide) rfl (sr hR rfl) ?_
      refine r_iload_n hG dX9_worth_8 rfl ?_
      refine r_ialdv hG (q + j) (4) dX9_worth_9 rfl (by decide) rfl (by omega) (by decide) hs ?_
      refine r_if_eq hG 192 dX9_worth_10 (by decide) (fun hc10 => absurd hc10 (by decide)) (fun hc10 => ?_)
      refine r_aload_n hG dX9_worth_13 rfl ?_
      refine r_getR hG 14 98 fk_X9_70 dX9_worth_14 rfl (by decide) rfl (sr hR rfl) ?_
      refine r_iload_n hG dX9_worth_17 rfl ?_
      refine r_ialdv hG (q + j) (4) dX9_worth_18 rfl (by decide) rfl (by omega) (by decide) hs ?_
      refine r_istore hG dX9_worth_19 (by decide) ?_
      refine r_loc [some (.ref 88), some (.int x1), some (.int (nI (q + j))), some (.int (nI (h + 2))), some (.int (4)), x5, x6] rfl ?_
      refine r_iload hG dX9_worth_21 rfl ?_
      refine r_iconst hG (1) dX9_worth_23 (by decide) ?_
      refine r_icmp_eq hG 33 dX9_worth_24 (by decide) (fun hc24 => absurd hc24 (by decide)) (fun hc24 => ?_)
      refine r_iload hG dX9_worth_27 rfl ?_
      refine r_iconst hG (2) dX9_worth_29 (by decide) ?_
      refine r_icmp_ne hG 71 dX9_worth_30 (by decide) (fun hc30 => ?_) (fun hc30 => absurd hc30 (by decide))
      refine r_iinc hG (-1) dX9_worth_71 (by decide) rfl ?_
      refine r_loc [some (.ref 88), some (.int x1), some (.int (nI (q + j))), some (.int ((nI (h + 2)) + (-1))), some (.int (4)), x5, x6] rfl ?_
      refine r_aload_n hG dX9_worth_74 rfl ?_
      refine r_getR hG 24 104 fk_X9_88 dX9_worth_75 rfl (by decide) rfl (sr hR rfl) ?_
      refine r_iload_n hG dX9_worth_78 rfl ?_
      refine r_top (nI (h + 1)) (pk_m1 (h + 1)) ?_
      refine r_iald hG (h + 1) dX9_worth_79 rfl (by decide) rfl (by omega) (by decide) ?_
      refine r_istore hG dX9_worth_80 (by decide) ?_
      refine r_loc [some (.ref 88), some (.int x1), some (.int (nI (q + j))), some (.int ((nI (h + 2)) + (-1))), some (.int (4)), some (.int (M.1 104 (h + 1))), x6] rfl ?_
      refine r_aload_n hG dX9_worth_82 rfl ?_
      refine r_getR hG 24 104 fk_X9_88 dX9_worth_83 rfl (by decide) rfl (sr hR rfl) ?_
      refine r_iload_n hG dX9_worth_86 rfl ?_
      refine r_iconst hG (1) dX9_worth_87 (by decide) ?_
      refine r_isub hG dX9_worth_88 ?_
      refine r_top (nI h) (m2 h) ?_
      refine r_iald hG h dX9_worth_89 rfl (by decide) rfl (by omega) (by decide) ?_
      refine r_istore hG dX9_worth_90 (by decide) ?_
      refine r_loc [some (.ref 88), some (.int x1), some (.int (nI (q + j))), some (.int ((nI (h + 2)) + (-1))), some (.int (4)), some (.int (M.1 104 (h + 1))), some (.int (M.1 104 h))] rfl ?_
      refine r_aload_n hG dX9_worth_92 rfl ?_
      refine r_getR hG 24 104 fk_X9_88 dX9_worth_93 rfl (by decide) rfl (sr hR rfl) ?_
      refine r_iload_n hG dX9_worth_96 rfl ?_
      refine r_iconst hG (1) dX9_worth_97 (by decide) ?_
      refine r_isub hG dX9_worth_98 ?_
      refine r_top (nI h) (m2 h) ?_
      refine r_iload hG dX9_worth_99 rfl ?_
      refine r_iconst hG (3) dX9_worth_101 (by decide) ?_
      refine r_icmp_ne hG 113 dX9_worth_102 (by decide) (fun hc102 => ?_) (fun hc102 => absurd hc102 (by decide))
      refine r_iload hG dX9_worth_113 rfl ?_
      refine r_iconst hG (4) dX9_worth_115 (by decide) ?_
      refine r_icmp_ne hG 127 dX9_worth_116 (by decide) (fun hc116 => absurd hc116 (by decide)) (fun hc116 => ?_)
      refine r_iload hG dX9_worth_119 rfl ?_
      refine r_iload hG dX9_worth_121 rfl ?_
      refine r_isub hG dX9_worth_123 ?_
      refine r_goto hG 185 dX9_worth_124 (by decide) ?_
      refine r_iast hG h dX9_worth_185 rfl (by decide) rfl (by omega) (by decide) ?_
      refine r_iinc hG (1) dX9_worth_186 (by decide) rfl ?_
      refine r_loc [some (.ref 88), some (.int x1), some (.int ((nI (q + j)) + (1))), some (.int ((nI (h + 2)) + (-1))), some (.int (4)), some (.int (M.1 104 (h + 1))), some (.int (M.1 104 h))] rfl ?_
      refine r_goto hG 4 dX9_worth_189 (by decide) ?_
      rw [nI_1, show nI (h + 2) + (-1) = nI (h + 1) from pk_m1 (h + 1)]
      have ej : ((M.1 104 h) - (M.1 104 (h + 1))) = fJoin 1 (M.1 104 h) (M.1 104 (h + 1)) := rfl
      refine ih (j + 1) (h + 1) (upd f h (fJoin 1 (f h) (f (h + 1)))) _ (by omega) (by omega) hk2 (hq.put rfl) ?_ ?_ _ _ _ _
      · intro t ht
        by_cases e2 : t = h
        · subst e2
          rw [gwI_s, ej, hf t (by omega), hf (t + 1) (by omega)]
          simp [upd]
        · rw [gwI_n (by omega), hf t (by omega)]
          simp [upd, e2]
      · have e3 : evs F C j (n + 1) (h + 2, f) = evs F C (j + 1) n (h + 1, upd f h (fJoin 1 (f h) (f (h + 1)))) := by
          simp only [evs, sst, hC]
          rw [if_neg (by omega)]
          simp
        rw [← e3]
        exact hP
    · have hs : M.1 98 (q + j) = 5 := hs
      rw [if_neg (show ¬ 9 < 7 by decide)] at hk
      obtain ⟨-, hk1, hk2⟩ := hk
      obtain ⟨h, rfl⟩ : ∃ h', h = h' + 2 := ⟨h - 2, by omega⟩
      refine r_aload_n hG dX9_worth_4 rfl ?_
      refine r_getR hG 14 98 fk_X9_70 dX9_worth_5 rfl (by decide) rfl (sr hR rfl) ?_
      refine r_iload_n hG dX9_worth_8 rfl ?_
      refine r_ialdv hG (q + j) (5) dX9_worth_9 rfl (by decide) rfl (by omega) (by decide) hs ?_
      refine r_if_eq hG 192 dX9_worth_10 (by decide) (fun hc10 => absurd hc10 (by decide)) (fun hc10 => ?_)
      refine r_aload_n hG dX9_worth_13 rfl ?_
      refine r_getR hG 14 98 fk_X9_70 dX9_worth_14 rfl (by decide) rfl (sr hR rfl) ?_
      refine r_iload_n hG dX9_worth_17 rfl ?_
      refine r_ialdv hG (q + j) (5) dX9_worth_18 rfl (by decide) rfl (by omega) (by decide) hs ?_
      refine r_istore hG dX9_worth_19 (by decide) ?_
      refine r_loc [some (.ref 88), some (.int x1), some (.int (nI (q + j))), some (.int (nI (h + 2))), some (.int (5)), x5, x6] rfl ?_
      refine r_iload hG dX9_worth_21 rfl ?_
      refine r_iconst hG (1) dX9_worth_23 (by decide) ?_
      refine r_icmp_eq hG 33 dX9_worth_24 (by decide) (fun hc24 => absurd hc24 (by decide)) (fun hc24 => ?_)
      refine r_iload hG dX9_worth_27 rfl ?_
      refine r_iconst hG (2) dX9_worth_29 (by decide) ?_
      refine r_icmp_ne hG 71 dX9_worth_30 (by decide) (fun hc30 => ?_) (fun hc30 => absurd hc30 (by decide))
      refine r_iinc hG (-1) dX9_worth_71 (by decide) rfl ?_
      refine r_loc [some (.ref 88), some (.int x1), some (.int (nI (q + j))), some (.int ((nI (h + 2)) + (-1))), some (.int (5)), x5, x6] rfl ?_
      refine r_aload_n hG dX9_worth_74 rfl ?_
      refine r_getR hG 24 104 fk_X9_88 dX9_worth_75 rfl (by decide) rfl (sr hR rfl) ?_
      refine r_iload_n hG dX9_worth_78 rfl ?_
      refine r_top (nI (h + 1)) (pk_m1 (h + 1)) ?_
      refine r_iald hG (h + 1) dX9_worth_79 rfl (by decide) rfl (by omega) (by decide) ?_
      refine r_istore hG dX9_worth_80 (by decide) ?_
      refine r_loc [some (.ref 88), some (.int x1), some (.int (nI (q + j))), some (.int ((nI (h + 2)) + (-1))), some (.int (5)), some (.int (M.1 104 (h + 1))), x6] rfl ?_
      refine r_aload_n hG dX9_worth_82 rfl ?_
      refine r_getR hG 24 104 fk_X9_88 dX9_worth_83 rfl (by decide) rfl (sr hR rfl) ?_
      refine r_iload_n hG dX9_worth_86 rfl ?_
      refine r_iconst hG (1) dX9_worth_87 (by decide) ?_
      refine r_isub hG dX9_worth_88 ?_
      refine r_top (nI h) (m2 h) ?_
      refine r_iald hG h dX9_worth_89 rfl (by decide) rfl (by omega) (by decide) ?_
      refine r_istore hG dX9_worth_90 (by decide) ?_
      refine r_loc [some (.ref 88), some (.int x1), some (.int (nI (q + j))), some (.int ((nI (h + 2)) + (-1))), some (.int (5)), some (.int (M.1 104 (h + 1))), some (.int (M.1 104 h))] rfl ?_
      refine r_aload_n hG dX9_worth_92 rfl ?_
      refine r_getR hG 24 104 fk_X9_88 dX9_worth_93 rfl (by decide) rfl (sr hR rfl) ?_
      refine r_iload_n hG dX9_worth_96 rfl ?_
      refine r_iconst hG (1) dX9_worth_97 (by decide) ?_
      refine r_isub hG dX9_worth_98 ?_
      refine r_top (nI h) (m2 h) ?_
      refine r_iload hG dX9_worth_99 rfl ?_
      refine r_iconst hG (3) dX9_worth_101 (by decide) ?_
      refine r_icmp_ne hG 113 dX9_worth_102 (by decide) (fun hc102 => ?_) (fun hc102 => absurd hc102 (by decide))
      refine r_iload hG dX9_worth_113 rfl ?_
      refine r_iconst hG (4) dX9_worth_115 (by decide) ?_
      refine r_icmp_ne hG 127 dX9_worth_116 (by decide) (fun hc116 => ?_) (fun hc116 => absurd hc116 (by decide))
      refine r_iload hG dX9_worth_127 rfl ?_
      refine r_iconst hG (5) dX9_worth_129 (by decide) ?_
      refine r_icmp_ne hG 148 dX9_worth_130 (by decide) (fun hc130 => absurd hc130 (by decide)) (fun hc130 => ?_)
      refine r_iload hG dX9_worth_133 rfl ?_
      refine r_iload hG dX9_worth_135 rfl ?_
      refine r_icmp_ge hG 144 dX9_worth_137 (by decide) (fun hc137 => ?_) (fun hc137 => ?_)
      · refine r_iconst hG (0) dX9_worth_144 (by decide) ?_
        refine r_goto hG 185 dX9_worth_145 (by decide) ?_
        refine r_iast hG h dX9_worth_185 rfl (by decide) rfl (by omega) (by decide) ?_
        refine r_iinc hG (1) dX9_worth_186 (by decide) rfl ?_
        refine r_loc [some (.ref 88), some (.int x1), some (.int ((nI (q + j)) + (1))), some (.int ((nI (h + 2)) + (-1))), some (.int (5)), some (.int (M.1 104 (h + 1))), some (.int (M.1 104 h))] rfl ?_
        refine r_goto hG 4 dX9_worth_189 (by decide) ?_
        rw [nI_1, show nI (h + 2) + (-1) = nI (h + 1) from pk_m1 (h + 1)]
        have ej : (0) = fJoin 2 (M.1 104 h) (M.1 104 (h + 1)) := (by simp [fJoin, Int32.not_lt.mpr hc137])
        refine ih (j + 1) (h + 1) (upd f h (fJoin 2 (f h) (f (h + 1)))) _ (by omega) (by omega) hk2 (hq.put rfl) ?_ ?_ _ _ _ _
        · intro t ht
          by_cases e2 : t = h
          · subst e2
            rw [gwI_s, ej, hf t (by omega), hf (t + 1) (by omega)]
            simp [upd]
          · rw [gwI_n (by omega), hf t (by omega)]
            simp [upd, e2]
        · have e3 : evs F C j (n + 1) (h + 2, f) = evs F C (j + 1) n (h + 1, upd f h (fJoin 2 (f h) (f (h + 1)))) := by
            simp only [evs, sst, hC]
            rw [if_neg (by omega)]
            simp
          rw [← e3]
          exact hP
      · refine r_iconst hG (1) dX9_worth_140 (by decide) ?_
        refine r_goto hG 185 dX9_worth_141 (by decide) ?_
        refine r_iast hG h dX9_worth_185 rfl (by decide) rfl (by omega) (by decide) ?_
        refine r_iinc hG (1) dX9_worth_186 (by decide) rfl ?_
        refine r_loc [some (.ref 88), some (.int x1), some (.int ((nI (q + j)) + (1))), some (.int ((nI (h + 2)) + (-1))), some (.int (5)), some (.int (M.1 104 (h + 1))), some (.int (M.1 104 h))] rfl ?_
        refine r_goto hG 4 dX9_worth_189 (by decide) ?_
        rw [nI_1, show nI (h + 2) + (-1) = nI (h + 1) from pk_m1 (h + 1)]
        have ej : (1) = fJoin 2 (M.1 104 h) (M.1 104 (h + 1)) := (by simp [fJoin, Int32.not_le.mp hc137])
        refine ih (j + 1) (h + 1) (upd f h (fJoin 2 (f h) (f (h + 1)))) _ (by omega) (by omega) hk2 (hq.put rfl) ?_ ?_ _ _ _ _
        · intro t ht
          by_cases e2 : t = h
          · subst e2
            rw [gwI_s, ej, hf t (by omega), hf (t + 1) (by omega)]
            simp [upd]
          · rw [gwI_n (by omega), hf t (by omega)]
            simp [upd, e2]
        · have e3 : evs F C j (n + 1) (h + 2, f) = evs F C (j + 1) n (h + 1, upd f h (fJoin 2 (f h) (f (h + 1)))) := by
            simp only [evs, sst, hC]
            rw [if_neg (by omega)]
            simp
          rw [← e3]
          exact hP
    · have hs : M.1 98 (q + j) = 6 := hs
      rw [if_neg (show ¬ 10 < 7 by decide)] at hk
      obtain ⟨-, hk1, hk2⟩ := hk
      obtain ⟨h, rfl⟩ : ∃ h', h = h' + 2 := ⟨h - 2, by omega⟩
      refine r_aload_n hG dX9_worth_4 rfl ?_
      refine r_getR hG 14 98 fk_X9_70 dX9_worth_5 rfl (by decide) rfl (sr hR rfl) ?_
      refine r_iload_n hG dX9_worth_8 rfl ?_
      refine r_ialdv hG (q + j) (6) dX9_worth_9 rfl (by decide) rfl (by omega) (by decide) hs ?_
      refine r_if_eq hG 192 dX9_worth_10 (by decide) (fun hc10 => absurd hc10 (by decide)) (fun hc10 => ?_)
      refine r_aload_n hG dX9_worth_13 rfl ?_
      refine r_getR hG 14 98 fk_X9_70 dX9_worth_14 rfl (by decide) rfl (sr hR rfl) ?_
      refine r_iload_n hG dX9_worth_17 rfl ?_
      refine r_ialdv hG (q + j) (6) dX9_worth_18 rfl (by decide) rfl (by omega) (by decide) hs ?_
      refine r_istore hG dX9_worth_19 (by decide) ?_
      refine r_loc [some (.ref 88), some (.int x1), some (.int (nI (q + j))), some (.int (nI (h + 2))), some (.int (6)), x5, x6] rfl ?_
      refine r_iload hG dX9_worth_21 rfl ?_
      refine r_iconst hG (1) dX9_worth_23 (by decide) ?_
      refine r_icmp_eq hG 33 dX9_worth_24 (by decide) (fun hc24 => absurd hc24 (by decide)) (fun hc24 => ?_)
      refine r_iload hG dX9_worth_27 rfl ?_
      refine r_iconst hG (2) dX9_worth_29 (by decide) ?_
      refine r_icmp_ne hG 71 dX9_worth_30 (by decide) (fun hc30 => ?_) (fun hc30 => absurd hc30 (by decide))
      refine r_iinc hG (-1) dX9_worth_71 (by decide) rfl ?_
      refine r_loc [some (.ref 88), some (.int x1), some (.int (nI (q + j))), some (.int ((nI (h + 2)) + (-1))), some (.int (6)), x5, x6] rfl ?_
      refine r_aload_n hG dX9_worth_74 rfl ?_
      refine r_getR hG 24 104 fk_X9_88 dX9_worth_75 rfl (by decide) rfl (sr hR rfl) ?_
      refine r_iload_n hG dX9_worth_78 rfl ?_
      refine r_top (nI (h + 1)) (pk_m1 (h + 1)) ?_
      refine r_iald hG (h + 1) dX9_worth_79 rfl (by decide) rfl (by omega) (by decide) ?_
      refine r_istore hG dX9_worth_80 (by decide) ?_
      refine r_loc [some (.ref 88), some (.int x1), some (.int (nI (q + j))), some (.int ((nI (h + 2)) + (-1))), some (.int (6)), some (.int (M.1 104 (h + 1))), x6] rfl ?_
      refine r_aload_n hG dX9_worth_82 rfl ?_
      refine r_getR hG 24 104 fk_X9_88 dX9_worth_83 rfl (by decide) rfl (sr hR rfl) ?_
      refine r_iload_n hG dX9_worth_86 rfl ?_
      refine r_iconst hG (1) dX9_worth_87 (by decide) ?_
      refine r_isub hG dX9_worth_88 ?_
      refine r_top (nI h) (m2 h) ?_
      refine r_iald hG h dX9_worth_89 rfl (by decide) rfl (by omega) (by decide) ?_
      refine r_istore hG dX9_worth_90 (by decide) ?_
      refine r_loc [some (.ref 88), some (.int x1), some (.int (nI (q + j))), some (.int ((nI (h + 2)) + (-1))), some (.int (6)), some (.int (M.1 104 (h + 1))), some (.int (M.1 104 h))] rfl ?_
      refine r_aload_n hG dX9_worth_92 rfl ?_
      refine r_getR hG 24 104 fk_X9_88 dX9_worth_93 rfl (by decide) rfl (sr hR rfl) ?_
      refine r_iload_n hG dX9_worth_96 rfl ?_
      refine r_iconst hG (1) dX9_worth_97 (by decide) ?_
      refine r_isub hG dX9_worth_98 ?_
      refine r_top (nI h) (m2 h) ?_
      refine r_iload hG dX9_worth_99 rfl ?_
      refine r_iconst hG (3) dX9_worth_101 (by decide) ?_
      refine r_icmp_ne hG 113 dX9_worth_102 (by decide) (fun hc102 => ?_) (fun hc102 => absurd hc102 (by decide))
      refine r_iload hG dX9_worth_113 rfl ?_
      refine r_iconst hG (4) dX9_worth_115 (by decide) ?_
      refine r_icmp_ne hG 127 dX9_worth_116 (by decide) (fun hc116 => ?_) (fun hc116 => absurd hc116 (by decide))
      refine r_iload hG dX9_worth_127 rfl ?_
      refine r_iconst hG (5) dX9_worth_129 (by decide) ?_
      refine r_icmp_ne hG 148 dX9_worth_130 (by decide) (fun hc130 => ?_) (fun hc130 => absurd hc130 (by decide))
      refine r_iload hG dX9_worth_148 rfl ?_
      refine r_bipush hG (6) dX9_worth_150 (by decide) ?_
      refine r_icmp_ne hG 170 dX9_worth_152 (by decide) (fun hc152 => absurd hc152 (by decide)) (fun hc152 => ?_)
      refine r_iload hG dX9_worth_155 rfl ?_
      refine r_iload hG dX9_worth_157 rfl ?_
      refine r_icmp_ne hG 166 dX9_worth_159 (by decide) (fun hc159 => ?_) (fun hc159 => ?_)
      · refine r_iconst hG (0) dX9_worth_166 (by decide) ?_
        refine r_goto hG 185 dX9_worth_167 (by decide) ?_
        refine r_iast hG h dX9_worth_185 rfl (by decide) rfl (by omega) (by decide) ?_
        refine r_iinc hG (1) dX9_worth_186 (by decide) rfl ?_
        refine r_loc [some (.ref 88), some (.int x1), some (.int ((nI (q + j)) + (1))), some (.int ((nI (h + 2)) + (-1))), some (.int (6)), some (.int (M.1 104 (h + 1))), some (.int (M.1 104 h))] rfl ?_
        refine r_goto hG 4 dX9_worth_189 (by decide) ?_
        rw [nI_1, show nI (h + 2) + (-1) = nI (h + 1) from pk_m1 (h + 1)]
        have ej : (0) = fJoin 3 (M.1 104 h) (M.1 104 (h + 1)) := (by simp [fJoin, hc159])
        refine ih (j + 1) (h + 1) (upd f h (fJoin 3 (f h) (f (h + 1)))) _ (by omega) (by omega) hk2 (hq.put rfl) ?_ ?_ _ _ _ _
        · intro t ht
          by_cases e2 : t = h
          · subst e2
            rw [gwI_s, ej, hf t (by omega), hf (t + 1) (by omega)]
            simp [upd]
          · rw [gwI_n (by omega), hf t (by omega)]
            simp [upd, e2]
        · have e3 : evs F C j (n + 1) (h + 2, f) = evs F C (j + 1) n (h + 1, upd f h (fJoin 3 (f h) (f (h + 1)))) := by
            simp only [evs, sst, hC]
            rw [if_neg (by omega)]
            simp
          rw [← e3]
          exact hP
      · refine r_iconst hG (1) dX9_worth_162 (by decide) ?_
        refine r_goto hG 185 dX9_worth_163 (by decide) ?_
        refine r_iast hG h dX9_worth_185 rfl (by decide) rfl (by omega) (by decide) ?_
        refine r_iinc hG (1) dX9_worth_186 (by decide) rfl ?_
        refine r_loc [some (.ref 88), some (.int x1), some (.int ((nI (q + j)) + (1))), some (.int ((nI (h + 2)) + (-1))), some (.int (6)), some (.int (M.1 104 (h + 1))), some (.int (M.1 104 h))] rfl ?_
        refine r_goto hG 4 dX9_worth_189 (by decide) ?_
        rw [nI_1, show nI (h + 2) + (-1) = nI (h + 1) from pk_m1 (h + 1)]
        have ej : (1) = fJoin 3 (M.1 104 h) (M.1 104 (h + 1)) := (by simp [fJoin, hc159])
        refine ih (j + 1) (h + 1) (upd f h (fJoin 3 (f h) (f (h + 1)))) _ (by omega) (by omega) hk2 (hq.put rfl) ?_ ?_ _ _ _ _
        · intro t ht
          by_cases e2 : t = h
          · subst e2
            rw [gwI_s, ej, hf t (by omega), hf (t + 1) (by omega)]
            simp [upd]
          · rw [gwI_n (by omega), hf t (by omega)]
            simp [upd, e2]
        · have e3 : evs F C j (n + 1) (h + 2, f) = evs F C (j + 1) n (h + 1, upd f h (fJoin 3 (f h) (f (h + 1)))) := by
            simp only [evs, sst, hC]
            rw [if_neg (by omega)]
            simp
          rw [← e3]
          exact hP
    · have hs : M.1 98 (q + j) = 7 := hs
      rw [if_neg (show ¬ 11 < 7 by decide)] at hk
      obtain ⟨-, hk1, hk2⟩ := hk
      obtain ⟨h, rfl⟩ : ∃ h', h = h' + 2 := ⟨h - 2, by omega⟩
      refine r_aload_n hG dX9_worth_4 rfl ?_
      refine r_getR hG 14 98 fk_X9_70 dX9_worth_5 rfl (by decide) rfl (sr hR rfl) ?_
      refine r_iload_n hG dX9_worth_8 rfl ?_
      refine r_ialdv hG (q + j) (7) dX9_worth_9 rfl (by decide) rfl (by omega) (by decide) hs ?_
      refine r_if_eq hG 192 dX9_worth_10 (by decide) (fun hc10 => absurd hc10 (by decide)) (fun hc10 => ?_)
      refine r_aload_n hG dX9_worth_13 rfl ?_
      refine r_getR hG 14 98 fk_X9_70 dX9_worth_14 rfl (by decide) rfl (sr hR rfl) ?_
      refine r_iload_n hG dX9_worth_17 rfl ?_
      refine r_ialdv hG (q + j) (7) dX9_worth_18 rfl (by decide) rfl (by omega) (by decide) hs ?_
      refine r_istore hG dX9_worth_19 (by decide) ?_
      refine r_loc [some (.ref 88), some (.int x1), some (.int (nI (q + j))), some (.int (nI (h + 2))), some (.int (7)), x5, x6] rfl ?_
      refine r_iload hG dX9_worth_21 rfl ?_
      refine r_iconst hG (1) dX9_worth_23 (by decide) ?_
      refine r_icmp_eq hG 33 dX9_worth_24 (by decide) (fun hc24 => absurd hc24 (by decide)) (fun hc24 => ?_)
      refine r_iload hG dX9_worth_27 rfl ?_
      refine r_iconst hG (2) dX9_worth_29 (by decide) ?_
      refine r_icmp_ne hG 71 dX9_worth_30 (by decide) (fun hc30 => ?_) (fun hc30 => absurd hc30 (by decide))
      refine r_iinc hG (-1) dX9_worth_71 (by decide) rfl ?_
      refine r_loc [some (.ref 88), some (.int x1), some (.int (nI (q + j))), some (.int ((nI (h + 2)) + (-1))), some (.int (7)), x5, x6] rfl ?_
      refine r_aload_n hG dX9_worth_74 rfl ?_
      refine r_getR hG 24 104 fk_X9_88 dX9_worth_75 rfl (by decide) rfl (sr hR rfl) ?_
      refine r_iload_n hG dX9_worth_78 rfl ?_
      refine r_top (nI (h + 1)) (pk_m1 (h + 1)) ?_
      refine r_iald hG (h + 1) dX9_worth_79 rfl (by decide) rfl (by omega) (by decide) ?_
      refine r_istore hG dX9_worth_80 (by decide) ?_
      refine r_loc [some (.ref 88), some (.int x1), some (.int (nI (q + j))), some (.int ((nI (h + 2)) + (-1))), some (.int (7)), some (.int (M.1 104 (h + 1))), x6] rfl ?_
      refine r_aload_n hG dX9_worth_82 rfl ?_
      refine r_getR hG 24 104 fk_X9_88 dX9_worth_83 rfl (by decide) rfl (sr hR rfl) ?_
      refine r_iload_n hG dX9_worth_86 rfl ?_
      refine r_iconst hG (1) dX9_worth_87 (by decide) ?_
      refine r_isub hG dX9_worth_88 ?_
      refine r_top (nI h) (m2 h) ?_
      refine r_iald hG h dX9_worth_89 rfl (by decide) rfl (by omega) (by decide) ?_
      refine r_istore hG dX9_worth_90 (by decide) ?_
      refine r_loc [some (.ref 88), some (.int x1), some (.int (nI (q + j))), some (.int ((nI (h + 2)) + (-1))), some (.int (7)), some (.int (M.1 104 (h + 1))), some (.int (M.1 104 h))] rfl ?_
      refine r_aload_n hG dX9_worth_92 rfl ?_
      refine r_getR hG 24 104 fk_X9_88 dX9_worth_93 rfl (by decide) rfl (sr hR rfl) ?_
      refine r_iload_n hG dX9_worth_96 rfl ?_
      refine r_iconst hG (1) dX9_worth_97 (by decide) ?_
      refine r_isub hG dX9_worth_98 ?_
      refine r_top (nI h) (m2 h) ?_
      refine r_iload hG dX9_worth_99 rfl ?_
      refine r_iconst hG (3) dX9_worth_101 (by decide) ?_
      refine r_icmp_ne hG 113 dX9_worth_102 (by decide) (fun hc102 => ?_) (fun hc102 => absurd hc102 (by decide))
      refine r_iload hG dX9_worth_113 rfl ?_
      refine r_iconst hG (4) dX9_worth_115 (by decide) ?_
      refine r_icmp_ne hG 127 dX9_worth_116 (by decide) (fun hc116 => ?_) (fun hc116 => absurd hc116 (by decide))
      refine r_iload hG dX9_worth_127 rfl ?_
      refine r_iconst hG (5) dX9_worth_129 (by decide) ?_
      refine r_icmp_ne hG 148 dX9_worth_130 (by decide) (fun hc130 => ?_) (fun hc130 => absurd hc130 (by decide))
      refine r_iload hG dX9_worth_148 rfl ?_
      refine r_bipush hG (6) dX9_worth_150 (by decide) ?_
      refine r_icmp_ne hG 170 dX9_worth_152 (by decide) (fun hc152 => ?_) (fun hc152 => absurd hc152 (by decide))
      refine r_iload hG dX9_worth_170 rfl ?_
      refine r_if_eq hG 184 dX9_worth_172 (by decide) (fun hc172 => ?_) (fun hc172 => ?_)
      · refine r_iconst hG (0) dX9_worth_184 (by decide) ?_
        refine r_iast hG h dX9_worth_185 rfl (by decide) rfl (by omega) (by decide) ?_
        refine r_iinc hG (1) dX9_worth_186 (by decide) rfl ?_
        refine r_loc [some (.ref 88), some (.int x1), some (.int ((nI (q + j)) + (1))), some (.int ((nI (h + 2)) + (-1))), some (.int (7)), some (.int (M.1 104 (h + 1))), some (.int (M.1 104 h))] rfl ?_
        refine r_goto hG 4 dX9_worth_189 (by decide) ?_
        rw [nI_1, show nI (h + 2) + (-1) = nI (h + 1) from pk_m1 (h + 1)]
        have ej : (0) = fJoin 4 (M.1 104 h) (M.1 104 (h + 1)) := (by simp [fJoin, hc172])
        refine ih (j + 1) (h + 1) (upd f h (fJoin 4 (f h) (f (h + 1)))) _ (by omega) (by omega) hk2 (hq.put rfl) ?_ ?_ _ _ _ _
        · intro t ht
          by_cases e2 : t = h
          · subst e2
            rw [gwI_s, ej, hf t (by omega), hf (t + 1) (by omega)]
            simp [upd]
          · rw [gwI_n (by omega), hf t (by omega)]
            simp [upd, e2]
        · have e3 : evs F C j (n + 1) (h + 2, f) = evs F C (j + 1) n (h + 1, upd f h (fJoin 4 (f h) (f (h + 1)))) := by
            simp only [evs, sst, hC]
            rw [if_neg (by omega)]
            simp
          rw [← e3]
          exact hP
      · refine r_iload hG dX9_worth_175 rfl ?_
        refine r_if_eq hG 184 dX9_worth_177 (by decide) (fun hc177 => ?_) (fun hc177 => ?_)
        · refine r_iconst hG (0) dX9_worth_184 (by decide) ?_
          refine r_iast hG h dX9_worth_185 rfl (by decide) rfl (by omega) (by decide) ?_
          refine r_iinc hG (1) dX9_worth_186 (by decide) rfl ?_
          refine r_loc [some (.ref 88), some (.int x1), some (.int ((nI (q + j)) + (1))), some (.int ((nI (h + 2)) + (-1))), some (.int (7)), some (.int (M.1 104 (h + 1))), some (.int (M.1 104 h))] rfl ?_
          refine r_goto hG 4 dX9_worth_189 (by decide) ?_
          rw [nI_1, show nI (h + 2) + (-1) = nI (h + 1) from pk_m1 (h + 1)]
          have ej : (0) = fJoin 4 (M.1 104 h) (M.1 104 (h + 1)) := (by simp [fJoin, hc172, hc177])
          refine ih (j + 1) (h + 1) (upd f h (fJoin 4 (f h) (f (h + 1)))) _ (by omega) (by omega) hk2 (hq.put rfl) ?_ ?_ _ _ _ _
          · intro t ht
            by_cases e2 : t = h
            · subst e2
              rw [gwI_s, ej, hf t (by omega), hf (t + 1) (by omega)]
              simp [upd]
            · rw [gwI_n (by omega), hf t (by omega)]
              simp [upd, e2]
          · have e3 : evs F C j (n + 1) (h + 2, f) = evs F C (j + 1) n (h + 1, upd f h (fJoin 4 (f h) (f (h + 1)))) := by
              simp only [evs, sst, hC]
              rw [if_neg (by omega)]
              simp
            rw [← e3]
            exact hP
        · refine r_iconst hG (1) dX9_worth_180 (by decide) ?_
          refine r_goto hG 185 dX9_worth_181 (by decide) ?_
          refine r_iast hG h dX9_worth_185 rfl (by decide) rfl (by omega) (by decide) ?_
          refine r_iinc hG (1) dX9_worth_186 (by decide) rfl ?_
          refine r_loc [some (.ref 88), some (.int x1), some (.int ((nI (q + j)) + (1))), some (.int ((nI (h + 2)) + (-1))), some (.int (7)), some (.int (M.1 104 (h + 1))), some (.int (M.1 104 h))] rfl ?_
          refine r_goto hG 4 dX9_worth_189 (by decide) ?_
          rw [nI_1, show nI (h + 2) + (-1) = nI (h + 1) from pk_m1 (h + 1)]
          have ej : (1) = fJoin 4 (M.1 104 h) (M.1 104 (h + 1)) := (by simp [fJoin, hc172, hc177])
          refine ih (j + 1) (h + 1) (upd f h (fJoin 4 (f h) (f (h + 1)))) _ (by omega) (by omega) hk2 (hq.put rfl) ?_ ?_ _ _ _ _
          · intro t ht
            by_cases e2 : t = h
            · subst e2
              rw [gwI_s, ej, hf t (by omega), hf (t + 1) (by omega)]
              simp [upd]
            · rw [gwI_n (by omega), hf t (by omega)]
              simp [upd, e2]
          · have e3 : evs F C j (n + 1) (h + 2, f) = evs F C (j + 1) n (h + 1, upd f h (fJoin 4 (f h) (f (h + 1)))) := by
              simp only [evs, sst, hC]
              rw [if_neg (by omega)]
              simp
            rw [← e3]
            exact hP


/-- a step of a test's code: (0, v) the number v; (w + 1, _) fact w, w < 6; (c + 7, _) sign c, c < 5 -/
def stv (e : Nat × Int32) : Int32 := match e.1 with
  | 0 => e.2
  | n + 1 => tk n
def sst (F : Nat → Int32) (e : Nat × Int32) (q : Nat × (Nat → Int32)) : Nat × (Nat → Int32) := match e.1 with
  | 0 => (q.1 + 1, upd q.2 q.1 e.2)
  | n + 1 => if n < 6 then (q.1 + 1, upd q.2 q.1 (F n)) else (q.1 - 1, upd q.2 (q.1 - 2) (fJoin (n - 6) (q.2 (q.1 - 2)) (q.2 (q.1 - 1))))
def evs (F : Nat → Int32) (C : Nat → Nat × Int32) : Nat → Nat → Nat × (Nat → Int32) → Nat × (Nat → Int32)
  | _, 0, q => q
  | i, n + 1, q => evs F C (i + 1) n (sst F (C i) q)
/-- the stack's height goes well -/
def hchk (C : Nat → Nat × Int32) : Nat → Nat → Nat → Prop
  | _, 0, h => h = 1
  | i, n + 1, h => if (C i).1 < 7 then h < 20 ∧ hchk C (i + 1) n (h + 1) else (C i).1 < 12 ∧ 2 ≤ h ∧ hchk C (i + 1) n (h - 1)
def evv (F : Nat → Int32) (C : Nat → Nat × Int32) (a e : Nat) : Int32 := (evs F C a (e - a) (0, fun _ => 0)).2 0
/-- the orders in the cell o, as a text: nl lines, B beast?, A litres, ST starts, C code -/
def ordC (M : gM) (o nl : Nat) (B : Nat → Bool) (A : Nat → Int32) (ST : Nat → Nat) (C : Nat → Nat × Int32) : Prop :=
  nl ≤ 16 ∧ M.1 o 5 = nI nl ∧ M.1 o 6 = nI (ST nl) ∧ ST nl ≤ 600 ∧ (∀ i, i < nl → ST i ≤ ST (i + 1) ∧ M.1 (o + 1) i = (if B i then tk 12 else tk 11) ∧ M.1 (o + 2) i = A i ∧ M.1 (o + 3) i = nI (ST i) ∧ hchk C (ST i) (ST (i + 1) - ST i) 0) ∧ (∀ j, j < ST nl → M.1 (o + 4) j = stv (C j) ∧ ((C j).1 = 0 → 0 ≤ (C j).2))
theorem ST_le {nl : Nat} {ST : Nat → Nat} (h : ∀ i, i < nl → ST i ≤ ST (i + 1)) : ∀ i, i ≤ nl → ST i ≤ ST nl := by
  intro i hi
  induction nl with
  | zero => rw [show i = 0 by omega]; exact Nat.le_refl _
  | succ n ih =>
    by_cases e : i = n + 1
    · rw [e]; exact Nat.le_refl _
    · exact Nat.le_trans (ih (fun k hk => h k (by omega)) (by omega)) (h n (by omega))
theorem tk_idx : ∀ w, w < 20 → -1 - tk w = nI w := by decide
theorem tk_neg : ∀ w, w < 20 → tk w < 0 := by decide
theorem ordC.same {M M' : gM} {o nl : Nat} {B : Nat → Bool} {A : Nat → Int32} {ST : Nat → Nat} {C : Nat → Nat × Int32} (ho : o = 11 ∨ o = 17) (h : ordC M o nl B A ST C) (hq : gEq Sc M M') : ordC M' o nl B A ST C := by
  obtain ⟨h1, h2, h3, h4, h5, h6⟩ := h
  refine ⟨h1, ?_, ?_, h4, fun i hi => ?_, fun j hj => ?_⟩
  · rw [hq.2 o 5 (by unfold Sc; omega)]; exact h2
  · rw [hq.2 o 6 (by unfold Sc; omega)]; exact h3
  · obtain ⟨g1, g2, g3, g4, g5⟩ := h5 i hi
    refine ⟨g1, ?_, ?_, ?_, g5⟩
    · rw [hq.2 (o + 1) i (by unfold Sc; omega)]; exact g2
    · rw [hq.2 (o + 2) i (by unfold Sc; omega)]; exact g3
    · rw [hq.2 (o + 3) i (by unfold Sc; omega)]; exact g4
  · rw [hq.2 (o + 4) j (by unfold Sc; omega)]; exact h6 j hj
set_option maxRecDepth 100000 in
set_option maxHeartbeats 4000000 in
theorem lp_X1_valueOf {G : gJ} {P : Int32 → gM → Prop} (hG : gS 1 0 0 yX1_valueOf.cls cX1_valueOf 9 G) (hE : gEi 140 0 0 cX1_valueOf .int P G) {M0 : gM} {b : Bool} (hR0 : M0.2.2 = stdR b) {o : Nat} (ho : o = 11 ∨ o = 17) {F : Nat → Int32} {C : Nat → Nat × Int32} {i e : Nat} (le : e ≤ 600) (hS : ∀ j, j < e → M0.1 (o + 4) j = stv (C j) ∧ ((C j).1 = 0 → 0 ≤ (C j).2)) (hF0 : ∀ M, gEq (fun k j => k = 16 ∨ k = 22 ∨ ((k = 11 ∨ k = 17) ∧ j = 7)) M0 M → ∀ w, w < 6 → M.1 5 w = F w) :
    ∀ (n j h : Nat) (f : Nat → Int32) (M : gM), j + n = e → h ≤ 20 → hchk C j n h → gEq (fun k j => k = 16 ∨ k = 22 ∨ ((k = 11 ∨ k = 17) ∧ j = 7)) M0 M → M.1 o 7 = nI h → (∀ t, t < h → M.1 (o + 5) t = f t) → (∀ M9, gEq (fun k j => k = 16 ∨ k = 22 ∨ ((k = 11 ∨ k = 17) ∧ j = 7)) M0 M9 → P ((evs F C j n (h, f)).2 0) M9) →
      ∀ x5 x6 x7 x8, G (140, 0, 0) 39 [some (.ref o), some (.int (nI i)), some (.ref 5), some (.int (nI e)), some (.int (nI j)), x5, x6, x7, x8] [] M := by
  intro n
  induction n with
  | zero =>
    intro j h f M hj hl20 hk hq hh hf hP x5 x6 x7 x8
    have hR : M.2.2 = stdR b := by rw [hq.1]; exact hR0
    have hk1 : h = 1 := hk
    subst hk1
    have hj2 : j = e := by omega
    refine r_iload hG dX1_valueOf_39 rfl ?_
    refine r_iload_n hG dX1_valueOf_41 rfl ?_
    refine r_icmp_ge hG 123 dX1_valueOf_42 (by decide) (fun hc42 => ?_) (fun hc42 => absurd (nle_f (a := e) (b := j) (by omega) (by omega) hc42) (by omega))
    refine r_aload_n hG dX1_valueOf_123 rfl ?_
    refine r_cVI0 hG mk_X1_45 dX1_valueOf_124 (gkO ho) (show o < 140 by omega) (ct_X1_pop hR ho (h := 0) hh (by omega)) (by decide) ⟨Nat.le_refl _, Nat.le_refl _⟩ (Nat.le_of_ble_eq_true rfl) (fun x9 M9 h9 => ?_)
    obtain ⟨e8, e9⟩ := h9
    rw [e8, e9]
    refine hE _ _ _ _ _ dX1_valueOf_127 rfl (Nat.le_refl _) (Nat.le_refl _) rfl ?_
    rw [hf 0 (by omega)]
    exact hP _ (hq.put (by omega))
  | succ n ih =>
    intro j h f M hj hl20 hk hq hh hf hP x5 x6 x7 x8
    have hR : M.2.2 = stdR b := by rw [hq.1]; exact hR0
    have hF : ∀ w, w < 6 → M.1 5 w = F w := hF0 M hq
    obtain ⟨hs, hv0⟩ := hS j (by omega)
    rw [← hq.2 (o + 4) j (by omega)] at hs
    unfold hchk at hk
    rcases hC : C j with ⟨t, v⟩
    rw [hC] at hs hk hv0
    have hcs : t = 0 ∨ (∃ w, w < 6 ∧ t = w + 1) ∨ (∃ c, c < 5 ∧ t = c + 7) := by
      by_cases q1 : t < 7
      · by_cases q2 : t = 0
        · exact Or.inl q2
        · exact Or.inr (Or.inl ⟨t - 1, by omega, by omega⟩)
      · rw [if_neg q1] at hk
        exact Or.inr (Or.inr ⟨t - 7, by have := hk.1; omega, by omega⟩)
    rcases hcs with rfl | ⟨w, hw, rfl⟩ | ⟨c, hc, rfl⟩
    · have hv : 0 ≤ v := hv0 rfl
      have hs : M.1 (o + 4) j = v := hs
      rw [if_pos (show (0 : Nat) < 7 by decide)] at hk
      obtain ⟨hk1, hk2⟩ := hk
      refine r_iload hG dX1_valueOf_39 rfl ?_
      refine r_iload_n hG dX1_valueOf_41 rfl ?_
      refine r_icmp_ge hG 123 dX1_valueOf_42 (by decide) (fun hc42 => absurd (nle_t (a := e) (b := j) (by omega) (by omega) hc42) (by omega)) (fun hc42 => ?_)
      refine r_aload_n hG dX1_valueOf_45 rfl ?_
      refine r_getR hG 3 (o + 4) fk_X1_21 dX1_valueOf_46 (gkO ho) (show o < 140 by omega) rfl (sr hR (sRo ho)) ?_
      refine r_iload hG dX1_valueOf_49 rfl ?_
      refine r_ialdv hG j (v) dX1_valueOf_51 (gkO4 ho) (show (o + 4) < 140 by omega) rfl (by omega) (by decide) hs ?_
      refine r_istore hG dX1_valueOf_52 (by decide) ?_
      refine r_loc [some (.ref o), some (.int (nI i)), some (.ref 5), some (.int (nI e)), some (.int (nI j)), some (.int v), x6, x7, x8] rfl ?_
      refine r_iconst hG (-1) dX1_valueOf_54 (by decide) ?_
      refine r_iload hG dX1_valueOf_55 rfl ?_
      refine r_isub hG dX1_valueOf_57 ?_
      refine r_istore hG dX1_valueOf_58 (by decide) ?_
      refine r_loc [some (.ref o), some (.int (nI i)), some (.ref 5), some (.int (nI e)), some (.int (nI j)), some (.int v), some (.int ((-1) - v)), x7, x8] rfl ?_
      refine r_iload hG dX1_valueOf_60 rfl ?_
      refine r_if_lt hG 74 dX1_valueOf_62 (by decide) (fun hc62 => absurd hc62 (Int32.not_lt.mpr hv)) (fun hc62 => ?_)
      refine r_aload_n hG dX1_valueOf_65 rfl ?_
      refine r_iload hG dX1_valueOf_66 rfl ?_
      refine r_cVV1 hG mk_X1_41 dX1_valueOf_68 (gkO ho) (show o < 140 by omega) (ct_X1_push hR ho hh (by omega) _) (by decide) ⟨Nat.le_refl _, Nat.le_refl _⟩ (Nat.le_of_ble_eq_true rfl) (fun M9 h9 => ?_)
      rw [h9]
      refine r_goto hG 117 dX1_valueOf_71 (by decide) ?_
      refine r_iinc hG (1) dX1_valueOf_117 (by decide) rfl ?_
      refine r_loc [some (.ref o), some (.int (nI i)), some (.ref 5), some (.int (nI e)), some (.int ((nI j) + (1))), some (.int v), some (.int ((-1) - v)), x7, x8] rfl ?_
      refine r_goto hG 39 dX1_valueOf_120 (by decide) ?_
      rw [nI_1, nI_1]
      refine ih (j + 1) (h + 1) (upd f h v) _ (by omega) (by omega) hk2 ((hq.put (by omega)).put (by omega)) gwI_s ?_ ?_ _ _ _ _
      · intro t ht
        rw [gwI_n (by omega)]
        by_cases e2 : t = h
        · subst e2
          rw [gwI_s]
          simp [upd]
        · rw [gwI_n (by omega), hf t (by omega)]
          simp [upd, e2]
      · have e3 : evs F C j (n + 1) (h, f) = evs F C (j + 1) n (h + 1, upd f h v) := by
          simp only [evs, sst, hC]
        rw [← e3]
        exact hP
    · have hs : M.1 (o + 4) j = tk w := hs
      rw [if_pos (show w + 1 < 7 by omega)] at hk
      obtain ⟨hk1, hk2⟩ := hk
      refine r_iload hG dX1_valueOf_39 rfl ?_
      refine r_iload_n hG dX1_valueOf_41 rfl ?_
      refine r_icmp_ge hG 123 dX1_valueOf_42 (by decide) (fun hc42 => absurd (nle_t (a := e) (b := j) (by omega) (by omega) hc42) (by omega)) (fun hc42 => ?_)
      refine r_aload_n hG dX1_valueOf_45 rfl ?_
      refine r_getR hG 3 (o + 4) fk_X1_21 dX1_valueOf_46 (gkO ho) (show o < 140 by omega) rfl (sr hR (sRo ho)) ?_
      refine r_iload hG dX1_valueOf_49 rfl ?_
      refine r_ialdv hG j (tk w) dX1_valueOf_51 (gkO4 ho) (show (o + 4) < 140 by omega) rfl (by omega) (by decide) hs ?_
      refine r_istore hG dX1_valueOf_52 (by decide) ?_
      refine r_loc [some (.ref o), some (.int (nI i)), some (.ref 5), some (.int (nI e)), some (.int (nI j)), some (.int (tk w)), x6, x7, x8] rfl ?_
      refine r_iconst hG (-1) dX1_valueOf_54 (by decide) ?_
      refine r_iload hG dX1_valueOf_55 rfl ?_
      refine r_isub hG dX1_valueOf_57 ?_
      refine r_top (nI w) (tk_idx w (by omega)) ?_
      refine r_istore hG dX1_valueOf_58 (by decide) ?_
      refine r_loc [some (.ref o), some (.int (nI i)), some (.ref 5), some (.int (nI e)), some (.int (nI j)), some (.int (tk w)), some (.int (nI w)), x7, x8] rfl ?_
      refine r_iload hG dX1_valueOf_60 rfl ?_
      refine r_if_lt hG 74 dX1_valueOf_62 (by decide) (fun hc62 => ?_) (fun hc62 => absurd (tk_neg w (by omega)) hc62)
      refine r_iload hG dX1_valueOf_74 rfl ?_
      refine r_bipush hG (6) dX1_valueOf_76 (by decide) ?_
      refine r_icmp_ge hG 92 dX1_valueOf_78 (by decide) (fun hc78 => absurd (nle_t (a := 6) (b := w) (by omega) (by omega) hc78) (by omega)) (fun hc78 => ?_)
      refine r_aload_n hG dX1_valueOf_81 rfl ?_
      refine r_aload_n hG dX1_valueOf_82 rfl ?_
      refine r_iload hG dX1_valueOf_83 rfl ?_
      refine r_ialdv hG w (F w) dX1_valueOf_85 rfl (by decide) rfl (by omega) (by decide) (hF w hw) ?_
      refine r_cVV1 hG mk_X1_41 dX1_valueOf_86 (gkO ho) (show o < 140 by omega) (ct_X1_push hR ho hh (by omega) _) (by decide) ⟨Nat.le_refl _, Nat.le_refl _⟩ (Nat.le_of_ble_eq_true rfl) (fun M9 h9 => ?_)
      rw [h9]
      refine r_goto hG 117 dX1_valueOf_89 (by decide) ?_
      refine r_iinc hG (1) dX1_valueOf_117 (by decide) rfl ?_
      refine r_loc [some (.ref o), some (.int (nI i)), some (.ref 5), some (.int (nI e)), some (.int ((nI j) + (1))), some (.int (tk w)), some (.int (nI w)), x7, x8] rfl ?_
      refine r_goto hG 39 dX1_valueOf_120 (by decide) ?_
      rw [nI_1, nI_1]
      refine ih (j + 1) (h + 1) (upd f h (F w)) _ (by omega) (by omega) hk2 ((hq.put (by omega)).put (by omega)) gwI_s ?_ ?_ _ _ _ _
      · intro t ht
        rw [gwI_n (by omega)]
        by_cases e2 : t = h
        · subst e2
          rw [gwI_s]
          simp [upd]
        · rw [gwI_n (by omega), hf t (by omega)]
          simp [upd, e2]
      · have e3 : evs F C j (n + 1) (h, f) = evs F C (j + 1) n (h + 1, upd f h (F w)) := by
          simp only [evs, sst, hC, hw, if_true]
        rw [← e3]
        exact hP
    · have hs : M.1 (o + 4) j = tk (6 + c) := by rw [hs, Nat.add_comm 6 c]; rfl
      rw [if_neg (show ¬ c + 7 < 7 by omega)] at hk
      obtain ⟨-, hk1, hk2⟩ := hk
      obtain ⟨h, rfl⟩ : ∃ h', h = h' + 2 := ⟨h - 2, by omega⟩
      refine r_iload hG dX1_valueOf_39 rfl ?_
      refine r_iload_n hG dX1_valueOf_41 rfl ?_
      refine r_icmp_ge hG 123 dX1_valueOf_42 (by decide) (fun hc42 => absurd (nle_t (a := e) (b := j) (by omega) (by omega) hc42) (by omega)) (fun hc42 => ?_)
      refine r_aload_n hG dX1_valueOf_45 rfl ?_
      refine r_getR hG 3 (o + 4) fk_X1_21 dX1_valueOf_46 (gkO ho) (show o < 140 by omega) rfl (sr hR (sRo ho)) ?_
      refine r_iload hG dX1_valueOf_49 rfl ?_
      refine r_ialdv hG j (tk (6 + c)) dX1_valueOf_51 (gkO4 ho) (show (o + 4) < 140 by omega) rfl (by omega) (by decide) hs ?_
      refine r_istore hG dX1_valueOf_52 (by decide) ?_
      refine r_loc [some (.ref o), some (.int (nI i)), some (.ref 5), some (.int (nI e)), some (.int (nI j)), some (.int (tk (6 + c))), x6, x7, x8] rfl ?_
      refine r_iconst hG (-1) dX1_valueOf_54 (by decide) ?_
      refine r_iload hG dX1_valueOf_55 rfl ?_
      refine r_isub hG dX1_valueOf_57 ?_
      refine r_top (nI (6 + c)) (tk_idx (6 + c) (by omega)) ?_
      refine r_istore hG dX1_valueOf_58 (by decide) ?_
      refine r_loc [some (.ref o), some (.int (nI i)), some (.ref 5), some (.int (nI e)), some (.int (nI j)), some (.int (tk (6 + c))), some (.int (nI (6 + c))), x7, x8] rfl ?_
      refine r_iload hG dX1_valueOf_60 rfl ?_
      refine r_if_lt hG 74 dX1_valueOf_62 (by decide) (fun hc62 => ?_) (fun hc62 => absurd (tk_neg (6 + c) (by omega)) hc62)
      refine r_iload hG dX1_valueOf_74 rfl ?_
      refine r_bipush hG (6) dX1_valueOf_76 (by decide) ?_
      refine r_icmp_ge hG 92 dX1_valueOf_78 (by decide) (fun hc78 => ?_) (fun hc78 => absurd (nle_f (a := 6) (b := (6 + c)) (by omega) (by omega) hc78) (by omega))
      refine r_aload_n hG dX1_valueOf_92 rfl ?_
      refine r_cVI0 hG mk_X1_45 dX1_valueOf_93 (gkO ho) (show o < 140 by omega) (ct_X1_pop hR ho (h := h + 1) hh (by omega)) (by decide) ⟨Nat.le_refl _, Nat.le_refl _⟩ (Nat.le_of_ble_eq_true rfl) (fun x9 M9 h9 => ?_)
      obtain ⟨e8, e9⟩ := h9
      rw [e8, e9]
      refine r_istore hG dX1_valueOf_96 (by decide) ?_
      refine r_loc [some (.ref o), some (.int (nI i)), some (.ref 5), some (.int (nI e)), some (.int (nI j)), some (.int (tk (6 + c))), some (.int (nI (6 + c))), some (.int (M.1 (o + 5) (h + 1))), x8] rfl ?_
      refine r_aload_n hG dX1_valueOf_98 rfl ?_
      refine r_cVI0 hG mk_X1_45 dX1_valueOf_99 (gkO ho) (show o < 140 by omega) (ct_X1_pop (M := gwI M o 7 (nI (h + 1))) hR ho (h := h) gwI_s (by omega)) (by decide) ⟨Nat.le_refl _, Nat.le_refl _⟩ (Nat.le_of_ble_eq_true rfl) (fun x9 M9 h9 => ?_)
      obtain ⟨e8, e9⟩ := h9
      rw [e8, e9, gwI_n (by omega)]
      refine r_istore hG dX1_valueOf_102 (by decide) ?_
      refine r_loc [some (.ref o), some (.int (nI i)), some (.ref 5), some (.int (nI e)), some (.int (nI j)), some (.int (tk (6 + c))), some (.int (nI (6 + c))), some (.int (M.1 (o + 5) (h + 1))), some (.int (M.1 (o + 5) h))] rfl ?_
      refine r_aload_n hG dX1_valueOf_104 rfl ?_
      refine r_iload hG dX1_valueOf_105 rfl ?_
      refine r_iload hG dX1_valueOf_107 rfl ?_
      refine r_iload hG dX1_valueOf_109 rfl ?_
      refine r_cSI3 hG mk_X1_49 dX1_valueOf_111 (ct_X1_joined c hc _ _) (by decide) ⟨Nat.le_refl _, Nat.le_refl _⟩ (Nat.le_of_ble_eq_true rfl) (fun x9 M9 h9 => ?_)
      obtain ⟨e8, e9⟩ := h9
      rw [e8, e9]
      refine r_cVV1 hG mk_X1_41 dX1_valueOf_114 (gkO ho) (show o < 140 by omega) (ct_X1_push (M := gwI (gwI M o 7 (nI (h + 1))) o 7 (nI h)) hR ho (h := h) gwI_s (by omega) _) (by decide) ⟨Nat.le_refl _, Nat.le_refl _⟩ (Nat.le_of_ble_eq_true rfl) (fun M9 h9 => ?_)
      rw [h9]
      refine r_iinc hG (1) dX1_valueOf_117 (by decide) rfl ?_
      refine r_loc [some (.ref o), some (.int (nI i)), some (.ref 5), some (.int (nI e)), some (.int ((nI j) + (1))), some (.int (tk (6 + c))), some (.int (nI (6 + c))), some (.int (M.1 (o + 5) (h + 1))), some (.int (M.1 (o + 5) h))] rfl ?_
      refine r_goto hG 39 dX1_valueOf_120 (by decide) ?_
      rw [nI_1, nI_1]
      refine ih (j + 1) (h + 1) (upd f h (fJoin c (f h) (f (h + 1)))) _ (by omega) (by omega) hk2 (((((hq.put (by omega)).put (by omega)).put (by omega))).put (by omega)) gwI_s ?_ ?_ _ _ _ _
      · intro t ht
        rw [gwI_n (by omega)]
        by_cases e2 : t = h
        · subst e2
          rw [gwI_s]
          simp [upd, hf t (by omega), hf (t + 1) (by omega)]
        · rw [gwI_n (by omega), gwI_n (by omega), gwI_n (by omega), hf t (by omega)]
          simp [upd, e2]
      · have e3 : evs F C j (n + 1) (h + 2, f) = evs F C (j + 1) n (h + 1, upd f h (fJoin c (f h) (f (h + 1)))) := by
          simp only [evs, sst, hC]
          rw [if_neg (by omega)]
          simp
        rw [← e3]
        exact hP


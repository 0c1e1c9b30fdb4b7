def mShare (M : gM) (q nw : Nat) : Int32 := if nw = 0 then 0 else (sumL (fun j => M.1 113 (400 * q + ((nw + 1 - min nw 7) + j))) (min nw 7) * 100 / ((M.1 105 q).toInt64 * (nI (min nw 7)).toInt64)).toInt32
theorem mmin7 {nw : Nat} (h : nw < 400) : mmin (nI nw) 7 = nI (min nw 7) := by
  show (if nI 7 < nI nw then nI 7 else nI nw) = _
  by_cases e : nw ≤ 7
  · rw [if_neg (Int32.not_lt.mpr (show nI nw ≤ nI 7 from nI_le e (by omega))), Nat.min_eq_left e]
  · rw [if_pos (Int32.not_le.mp (show ¬ nI nw ≤ nI 7 from nI_ge (by omega) (by omega))), Nat.min_eq_right (by omega)]
theorem subP {a b : Nat} (h : b ≤ a) : nI a - nI b + 1 = nI (a + 1 - b) := by
  have e : nI a = nI (a - b) + nI b := by rw [nI_add, Nat.sub_add_cancel h]
  rw [e, show nI (a - b) + nI b - nI b = nI (a - b) by rw [Int32.sub_eq_add_neg, Int32.add_assoc, Int32.add_right_neg, Int32.add_zero], nI_1]
  congr 1
  omega
set_option maxRecDepth 100000 in
set_option maxHeartbeats 400000 in
theorem ct_X9_share {M : gM} {b : Bool} (hR : M.2.2 = stdR b) {nv ns nt nb : Nat} (hnv : M.1 88 26 = nI nv) (lv : nv ≤ 12) (hns : M.1 88 38 = nI ns) (ls : ns ≤ 4) (hnt : M.1 88 43 = nI nt) (lt : nt ≤ 4) (hnb : M.1 88 62 = nI nb) (lb : nb ≤ 10) {nw : Nat} (hnw : M.1 88 25 = nI nw) (lw : nw < 400) (hpe : ∀ v d, v < nv → 0 < d → d ≤ 7 → ¬ (M.1 105 v).toInt64 * (nI d).toInt64 = 0) (v : Int32) : gC 1 0 0 yX9_share cX9_share 6 (some .int) 140 140 [.ref 88, .int v] M (gI (fun r M9 => ((∃ q, q < nv ∧ v = nI q ∧ r = mShare M q nw) ∨ (¬ vIn v nv ∧ r = -1)) ∧ M9 = gwI M 88 0 0)) := by
  refine gC_i rfl (Nat.le_of_ble_eq_true rfl) (fun G hG hE => ?_)
  change G (140, 0, 0) 0 [some (.ref 88), some (.int v), none, none, none, none] [] M
  refine r_aload_n hG dX9_share_0 rfl ?_
  refine r_iconst hG (0) dX9_share_1 (by decide) ?_
  refine r_putI hG 0 fp_X9_1 dX9_share_2 rfl (by decide) rfl rfl rfl ?_
  refine r_aload_n hG dX9_share_5 rfl ?_
  refine r_iload_n hG dX9_share_6 rfl ?_
  refine r_cVI1 hG mk_X9_297 dX9_share_7 rfl (by decide) (ct_X9_isVillage (by exact hR) (c := nv) ((gwI_n (by omega)).trans hnv) (by omega) _) (by decide) ⟨Nat.le_refl _, Nat.le_refl _⟩ (Nat.le_of_ble_eq_true rfl) (fun x9 M9 h9 => ?_)
  obtain ⟨h8, e9⟩ := h9; rw [e9]; rcases h8 with ⟨e8, hw7⟩ | ⟨e8, hw7⟩
  · rw [e8]
    obtain ⟨q7, hq7, hv7⟩ := hw7
    subst hv7
    refine r_if_ne hG 15 dX9_share_10 (by decide) (fun hc10 => ?_) (fun hc10 => absurd hc10 (by decide))
    refine r_bipush hG (7) dX9_share_15 (by decide) ?_
    refine r_aload_n hG dX9_share_17 rfl ?_
    refine r_getIv hG 25 (nI nw) fk_X9_312 dX9_share_18 rfl (by decide) rfl ((gwI_n (by omega)).trans hnw) ?_
    refine r_cSI2 hG mk_X9_325 dX9_share_21 (ct_X9_least _ _) (by decide) ⟨Nat.le_refl _, Nat.le_refl _⟩ (Nat.le_of_ble_eq_true rfl) (fun x9 M9 h9 => ?_)
    obtain ⟨e8, e9⟩ := h9
    rw [e8, e9]
    refine r_top (nI (min nw 7)) (mmin7 lw) ?_
    refine r_istore_n hG dX9_share_24 (by decide) ?_
    refine r_loc [some (.ref 88), some (.int (nI q7)), some (.int (nI (min nw 7))), none, none, none] rfl ?_
    refine r_lconst hG (0) dX9_share_25 (by decide) ?_
    refine r_lstore_n hG dX9_share_26 (by decide) ?_
    refine r_loc [some (.ref 88), some (.int (nI q7)), some (.int (nI (min nw 7))), some (.long (0)), none, none] rfl ?_
    refine r_aload_n hG dX9_share_27 rfl ?_
    refine r_getIv hG 25 (nI nw) fk_X9_312 dX9_share_28 rfl (by decide) rfl ((gwI_n (by omega)).trans hnw) ?_
    refine r_iload_n hG dX9_share_31 rfl ?_
    refine r_isub hG dX9_share_32 ?_
    refine r_iconst hG (1) dX9_share_33 (by decide) ?_
    refine r_iadd hG dX9_share_34 ?_
    refine r_top (nI (nw + 1 - min nw 7)) (subP (Nat.min_le_left _ _)) ?_
    refine r_istore hG dX9_share_35 (by decide) ?_
    refine r_loc [some (.ref 88), some (.int (nI q7)), some (.int (nI (min nw 7))), some (.long (0)), none, some (.int (nI (nw + 1 - min nw 7)))] rfl ?_
    refine lp_X9_share (M := gwI M 88 0 0) hG hE (by exact hR) ((gwI_n (by omega)).trans hnv) lv ((gwI_n (by omega)).trans hns) ls ((gwI_n (by omega)).trans hnt) lt ((gwI_n (by omega)).trans hnb) lb ((gwI_n (by omega)).trans hnw) lw (q := q7) (dd := min nw 7) (a0 := nw + 1 - min nw 7) (by omega) (by omega) (by omega) (min nw 7) 0 (by omega) (fun h0 => ⟨Or.inl ⟨_, hq7, rfl, ?_⟩, rfl⟩) (fun h0 => ⟨Or.inl ⟨_, hq7, rfl, ?_⟩, rfl⟩) (fun h => ?_)
    · unfold mShare
      rw [if_pos (by omega)]
    · unfold mShare
      rw [if_neg (by omega)]
      have e : (fun j => (gwI M 88 0 0).1 113 (400 * q7 + (nw + 1 - min nw 7 + j))) = (fun j => M.1 113 (400 * q7 + (nw + 1 - min nw 7 + j))) := funext fun j => gwI_n (by omega)
      rw [e, gwI_n (by omega)]
    · rw [gwI_n (by omega)] at h
      exact hpe q7 (min nw 7) hq7 h.1 (by omega) h.2
  · rw [e8]
    refine r_if_ne hG 15 dX9_share_10 (by decide) (fun hc10 => absurd hc10 (by decide)) (fun hc10 => ?_)
    refine r_iconst hG (-1) dX9_share_13 (by decide) ?_
    refine hE _ _ _ _ _ dX9_share_14 rfl (Nat.le_refl _) (Nat.le_refl _) rfl ?_
    exact ⟨Or.inr ⟨hw7, rfl⟩, rfl⟩

theorem r_top2 {G : gJ} {Z : Nat × Nat × Nat} {pc : Nat} {L : List (Option Value)} {st : List Value} {M : gM} {x : Int32} {z : Value} (y : Int32) (h : x = y) (kk : G Z pc L (z :: .int y :: st) M) : G Z pc L (z :: .int x :: st) M := h ▸ kk
def mbW (M : gM) (bo : Nat → Nat) (s b : Nat) : Int32 := sumI (fun i => if bitv s i = 1 then M.1 133 i * M.1 105 (bo i) else 0) b
def mbC (M : gM) (s b : Nat) : Int32 := sumI (fun i => if bitv s i = 1 then M.1 134 i else 0) b
def mbO (M : gM) (s b : Nat) : Prop := ∀ t, t < b → bitv s t = 1 → M.1 135 t = 0
def mbTake (M : gM) (bo : Nat → Nat) (nb : Nat) (pu : Int32) (s : Nat) (q : Int32 × Int32 × Int32) : Prop := (q.2.1 < mbW M bo s nb ∨ (mbW M bo s nb = q.2.1 ∧ ¬ q.2.2 ≤ mbC M s nb)) ∧ ¬ pu < mbC M s nb ∧ mbO M s nb
def mbBest (M : gM) (bo : Nat → Nat) (nb : Nat) (pu : Int32) : Nat → Int32 × Int32 × Int32 → Prop
  | 0, q => q = (0, 0, 0)
  | m + 1, q => ∃ q0, mbBest M bo nb pu m q0 ∧ ((mbTake M bo nb pu (m + 1) q0 ∧ q = (nI (m + 1), mbW M bo (m + 1) nb, mbC M (m + 1) nb)) ∨ (¬ mbTake M bo nb pu (m + 1) q0 ∧ q = q0))
theorem mbW_s {M : gM} {bo : Nat → Nat} {s b : Nat} (h : bitv s b = 1) : mbW M bo s b + M.1 133 b * M.1 105 (bo b) = mbW M bo s (b + 1) := by
  show _ = mbW M bo s b + (if bitv s b = 1 then _ else _)
  rw [if_pos h]
theorem mbC_s {M : gM} {s b : Nat} (h : bitv s b = 1) : mbC M s b + M.1 134 b = mbC M s (b + 1) := by
  show _ = mbC M s b + (if bitv s b = 1 then _ else _)
  rw [if_pos h]
theorem mbW_n {M : gM} {bo : Nat → Nat} {s b : Nat} (h : ¬ bitv s b = 1) : mbW M bo s (b + 1) = mbW M bo s b := by
  show mbW M bo s b + (if bitv s b = 1 then _ else _) = _
  rw [if_neg h, Int32.add_zero]
theorem mbC_n {M : gM} {s b : Nat} (h : ¬ bitv s b = 1) : mbC M s (b + 1) = mbC M s b := by
  show mbC M s b + (if bitv s b = 1 then _ else _) = _
  rw [if_neg h, Int32.add_zero]
theorem mbO_n {M : gM} {s b : Nat} {r : Int32} (h : ¬ bitv s b = 1) (hr : bI (mbO M s b) r) : bI (mbO M s (b + 1)) r := by
  have e : mbO M s (b + 1) ↔ mbO M s b := ⟨fun q t ht => q t (by omega), fun q t ht hb => by
    by_cases e : t = b
    · subst e; exact absurd hb h
    · exact q t (by omega) hb⟩
  rcases hr with ⟨h1, h2⟩ | ⟨h1, h2⟩
  · exact Or.inl ⟨h1, e.mpr h2⟩
  · exact Or.inr ⟨h1, fun q => h2 (e.mp q)⟩
set_option maxRecDepth 100000 in
set_option maxHeartbeats 400000 in
theorem lp_X9_best1  {G : gJ} {P : Int32 → gM → Prop} (hG : gS 1 0 0 yX9_best.cls cX9_best 10 G) (hE : gEi 140 0 0 cX9_best .int P G) {M : gM} {b : Bool} (hR : M.2.2 = stdR b) {nv ns nt nb : Nat} (hnv : M.1 88 26 = nI nv) (lv : nv ≤ 12) (hns : M.1 88 38 = nI ns) (ls : ns ≤ 4) (hnt : M.1 88 43 = nI nt) (lt : nt ≤ 4) (hnb : M.1 88 62 = nI nb) (lb : nb ≤ 10) {bo : Nat → Nat} (hbo : ∀ i, i < nb → M.1 132 i = nI (bo i) ∧ bo i < 12) {pu z w c : Int32} {s : Nat} :
    ∀ (r b9 : Nat) (op : Int32), b9 + r = nb → bI (mbO M s b9) op → (∀ op, bI (mbO M s nb) op → G (140, 0, 0) 136 [some (.ref 88), some (.int pu), some (.int z), some (.int w), some (.int c), some (.int (nI s)), some (.int (mbW M bo s nb)), some (.int (mbC M s nb)), some (.int op), some (.int (nI nb))] [] M) → G (140, 0, 0) 51 [some (.ref 88), some (.int pu), some (.int z), some (.int w), some (.int c), some (.int (nI s)), some (.int (mbW M bo s b9)), some (.int (mbC M s b9)), some (.int op), some (.int (nI b9))] [] M := by
  intro r
  induction r with
  | zero =>
    intro b9 op hb hop hK
    refine r_iload hG dX9_best_51 rfl ?_
    refine r_aload_n hG dX9_best_53 rfl ?_
    refine r_getIv hG 62 (nI nb) fk_X9_358 dX9_best_54 rfl (by decide) rfl hnb ?_
    refine r_icmp_ge hG 136 dX9_best_57 (by decide) (fun hc57 => ?_) (fun hc57 => absurd (nle_f (a := nb) (b := b9) (by omega) (by omega) hc57) (by omega))
    have e : b9 = nb := by omega
    rw [e]
    rw [e] at hop
    exact hK op hop
  | succ r ih =>
    intro b9 op hb hop hK
    refine r_iload hG dX9_best_51 rfl ?_
    refine r_aload_n hG dX9_best_53 rfl ?_
    refine r_getIv hG 62 (nI nb) fk_X9_358 dX9_best_54 rfl (by decide) rfl hnb ?_
    refine r_icmp_ge hG 136 dX9_best_57 (by decide) (fun hc57 => absurd (nle_t (a := nb) (b := b9) (by omega) (by omega) hc57) (by omega)) (fun hc57 => ?_)
    refine r_iload hG dX9_best_60 rfl ?_
    refine r_iload hG dX9_best_62 rfl ?_
    refine r_ishr hG dX9_best_64 ?_
    refine r_iconst hG (1) dX9_best_65 (by decide) ?_
    refine r_iand hG dX9_best_66 ?_
    refine r_iconst hG (1) dX9_best_67 (by decide) ?_
    refine r_top2 (bitv s b9) rfl ?_
    refine r_icmp_ne hG 130 dX9_best_68 (by decide) (fun hc68 => ?_) (fun hc68 => ?_)
    · refine r_iinc hG (1) dX9_best_130 (by decide) rfl ?_
      refine r_loc [some (.ref 88), some (.int pu), some (.int z), some (.int w), some (.int c), some (.int (nI s)), some (.int (mbW M bo s b9)), some (.int (mbC M s b9)), some (.int op), some (.int ((nI b9) + (1)))] rfl ?_
      refine r_goto hG 51 dX9_best_133 (by decide) ?_
      rw [nI_1, ← mbW_n (M := M) (bo := bo) hc68, ← mbC_n (M := M) hc68]
      exact ih (b9 + 1) _ (by omega) (mbO_n hc68 hop) hK
    · refine r_iload hG dX9_best_71 rfl ?_
      refine r_aload_n hG dX9_best_73 rfl ?_
      refine r_getR hG 64 133 fk_X9_175 dX9_best_74 rfl (by decide) rfl (sr hR rfl) ?_
      refine r_iload hG dX9_best_77 rfl ?_
      refine r_iald hG b9 dX9_best_79 rfl (by decide) rfl (by omega) (by decide) ?_
      refine r_aload_n hG dX9_best_80 rfl ?_
      refine r_getR hG 27 105 fk_X9_91 dX9_best_81 rfl (by decide) rfl (sr hR rfl) ?_
      refine r_aload_n hG dX9_best_84 rfl ?_
      refine r_getR hG 63 132 fk_X9_172 dX9_best_85 rfl (by decide) rfl (sr hR rfl) ?_
      refine r_iload hG dX9_best_88 rfl ?_
      refine r_ialdv hG b9 (nI (bo b9)) dX9_best_90 rfl (by decide) rfl (by omega) (by decide) (hbo b9 (by omega)).1 ?_
      refine r_iald hG (bo b9) dX9_best_91 rfl (by decide) rfl (hbo b9 (by omega)).2 (by decide) ?_
      refine r_imul hG dX9_best_92 ?_
      refine r_iadd hG dX9_best_93 ?_
      refine r_istore hG dX9_best_94 (by decide) ?_
      refine r_loc [some (.ref 88), some (.int pu), some (.int z), some (.int w), some (.int c), some (.int (nI s)), some (.int ((mbW M bo s b9) + ((M.1 133 b9) * (M.1 105 (bo b9))))), some (.int (mbC M s b9)), some (.int op), some (.int (nI b9))] rfl ?_
      refine r_iload hG dX9_best_96 rfl ?_
      refine r_aload_n hG dX9_best_98 rfl ?_
      refine r_getR hG 65 134 fk_X9_178 dX9_best_99 rfl (by decide) rfl (sr hR rfl) ?_
      refine r_iload hG dX9_best_102 rfl ?_
      refine r_iald hG b9 dX9_best_104 rfl (by decide) rfl (by omega) (by decide) ?_
      refine r_iadd hG dX9_best_105 ?_
      refine r_istore hG dX9_best_106 (by decide) ?_
      refine r_loc [some (.ref 88), some (.int pu), some (.int z), some (.int w), some (.int c), some (.int (nI s)), some (.int ((mbW M bo s b9) + ((M.1 133 b9) * (M.1 105 (bo b9))))), some (.int ((mbC M s b9) + (M.1 134 b9))), some (.int op), some (.int (nI b9))] rfl ?_
      refine r_iload hG dX9_best_108 rfl ?_
      refine r_if_eq hG 127 dX9_best_110 (by decide) (fun hc110 => ?_) (fun hc110 => ?_)
      · refine r_iconst hG (0) dX9_best_127 (by decide) ?_
        refine r_istore hG dX9_best_128 (by decide) ?_
        refine r_loc [some (.ref 88), some (.int pu), some (.int z), some (.int w), some (.int c), some (.int (nI s)), some (.int ((mbW M bo s b9) + ((M.1 133 b9) * (M.1 105 (bo b9))))), some (.int ((mbC M s b9) + (M.1 134 b9))), some (.int (0)), some (.int (nI b9))] rfl ?_
        refine r_iinc hG (1) dX9_best_130 (by decide) rfl ?_
        refine r_loc [some (.ref 88), some (.int pu), some (.int z), some (.int w), some (.int c), some (.int (nI s)), some (.int ((mbW M bo s b9) + ((M.1 133 b9) * (M.1 105 (bo b9))))), some (.int ((mbC M s b9) + (M.1 134 b9))), some (.int (0)), some (.int ((nI b9) + (1)))] rfl ?_
        refine r_goto hG 51 dX9_best_133 (by decide) ?_
        rw [nI_1, mbW_s hc68, mbC_s hc68]
        refine ih (b9 + 1) _ (by omega) ?_ hK
        exact Or.inr ⟨rfl, fun q => by
            rcases hop with ⟨h1, _⟩ | ⟨_, h2⟩
            · rw [h1] at hc110; exact absurd hc110 (by decide)
            · exact h2 (fun t ht => q t (by omega))⟩
      · refine r_aload_n hG dX9_best_113 rfl ?_
        refine r_getR hG 66 135 fk_X9_181 dX9_best_114 rfl (by decide) rfl (sr hR rfl) ?_
        refine r_iload hG dX9_best_117 rfl ?_
        refine r_zald hG b9 dX9_best_119 rfl (by decide) rfl (by omega) (by decide) ?_
        refine r_if_ne hG 127 dX9_best_120 (by decide) (fun hc120 => ?_) (fun hc120 => ?_)
        · refine r_iconst hG (0) dX9_best_127 (by decide) ?_
          refine r_istore hG dX9_best_128 (by decide) ?_
          refine r_loc [some (.ref 88), some (.int pu), some (.int z), some (.int w), some (.int c), some (.int (nI s)), some (.int ((mbW M bo s b9) + ((M.1 133 b9) * (M.1 105 (bo b9))))), some (.int ((mbC M s b9) + (M.1 134 b9))), some (.int (0)), some (.int (nI b9))] rfl ?_
          refine r_iinc hG (1) dX9_best_130 (by decide) rfl ?_
          refine r_loc [some (.ref 88), some (.int pu), some (.int z), some (.int w), some (.int c), some (.int (nI s)), some (.int ((mbW M bo s b9) + ((M.1 133 b9) * (M.1 105 (bo b9))))), some (.int ((mbC M s b9) + (M.1 134 b9))), some (.int (0)), some (.int ((nI b9) + (1)))] rfl ?_
          refine r_goto hG 51 dX9_best_133 (by decide) ?_
          rw [nI_1, mbW_s hc68, mbC_s hc68]
          refine ih (b9 + 1) _ (by omega) ?_ hK
          exact Or.inr ⟨rfl, fun q => hc120 (q b9 (by omega) hc68)⟩
        · refine r_iconst hG (1) dX9_best_123 (by decide) ?_
          refine r_goto hG 128 dX9_best_124 (by decide) ?_
          refine r_istore hG dX9_best_128 (by decide) ?_
          refine r_loc [some (.ref 88), some (.int pu), some (.int z), some (.int w), some (.int c), some (.int (nI s)), some (.int ((mbW M bo s b9) + ((M.1 133 b9) * (M.1 105 (bo b9))))), some (.int ((mbC M s b9) + (M.1 134 b9))), some (.int (1)), some (.int (nI b9))] rfl ?_
          refine r_iinc hG (1) dX9_best_130 (by decide) rfl ?_
          refine r_loc [some (.ref 88), some (.int pu), some (.int z), some (.int w), some (.int c), some (.int (nI s)), some (.int ((mbW M bo s b9) + ((M.1 133 b9) * (M.1 105 (bo b9))))), some (.int ((mbC M s b9) + (M.1 134 b9))), some (.int (1)), some (.int ((nI b9) + (1)))] rfl ?_
          refine r_goto hG 51 dX9_best_133 (by decide) ?_
          rw [nI_1, mbW_s hc68, mbC_s hc68]
          refine ih (b9 + 1) _ (by omega) ?_ hK
          refine Or.inl ⟨rfl, fun t ht hb => ?_⟩
          rcases hop with ⟨_, h2⟩ | ⟨h1, _⟩
          · by_cases e : t = b9
            · subst e; exact hc120
            · exact h2 t (by omega) hb
          · exact absurd h1 hc110

set_option maxRecDepth 100000 in
set_option maxHeartbeats 400000 in
theorem lp_X9_best  {G : gJ} {P : Int32 → gM → Prop} (hG : gS 1 0 0 yX9_best.cls cX9_best 10 G) (hE : gEi 140 0 0 cX9_best .int P G) {M : gM} {b : Bool} (hR : M.2.2 = stdR b) {nv ns nt nb : Nat} (hnv : M.1 88 26 = nI nv) (lv : nv ≤ 12) (hns : M.1 88 38 = nI ns) (ls : ns ≤ 4) (hnt : M.1 88 43 = nI nt) (lt : nt ≤ 4) (hnb : M.1 88 62 = nI nb) (lb : nb ≤ 10) {bo : Nat → Nat} (hbo : ∀ i, i < nb → M.1 132 i = nI (bo i) ∧ bo i < 12) {pu : Int32} :
    ∀ (n m : Nat) (z w c : Int32) (x6 x7 x8 x9 : Option Value), m + 1 + n = 2 ^ nb → mbBest M bo nb pu m (z, w, c) → (∀ q, mbBest M bo nb pu (2 ^ nb - 1) q → P q.1 M) → G (140, 0, 0) 28 [some (.ref 88), some (.int pu), some (.int z), some (.int w), some (.int c), some (.int (nI (m + 1))), x6, x7, x8, x9] [] M := by
  intro n
  induction n with
  | zero =>
    intro m z w c x6 x7 x8 x9 hm hB hP
    have h10 : 2 ^ nb ≤ 2 ^ 10 := Nat.pow_le_pow_right (by decide) lb
    refine r_iload hG dX9_best_28 rfl ?_
    refine r_iconst hG (1) dX9_best_30 (by decide) ?_
    refine r_aload_n hG dX9_best_31 rfl ?_
    refine r_getIv hG 62 (nI nb) fk_X9_358 dX9_best_32 rfl (by decide) rfl hnb ?_
    refine r_ishl hG dX9_best_35 ?_
    refine r_top (nI (2 ^ nb)) (shl1 nb lb) ?_
    refine r_icmp_ge hG 182 dX9_best_36 (by decide) (fun hc36 => ?_) (fun hc36 => absurd (nle_f (a := (2 ^ nb)) (b := (m + 1)) (by omega) (by omega) hc36) (by omega))
    refine r_iload_n hG dX9_best_182 rfl ?_
    refine hE _ _ _ _ _ dX9_best_183 rfl (Nat.le_refl _) (Nat.le_refl _) rfl ?_
    refine hP (z, w, c) ?_
    rw [show 2 ^ nb - 1 = m by omega]
    exact hB
  | succ n ih =>
    intro m z w c x6 x7 x8 x9 hm hB hP
    have h10 : 2 ^ nb ≤ 2 ^ 10 := Nat.pow_le_pow_right (by decide) lb
    refine r_iload hG dX9_best_28 rfl ?_
    refine r_iconst hG (1) dX9_best_30 (by decide) ?_
    refine r_aload_n hG dX9_best_31 rfl ?_
    refine r_getIv hG 62 (nI nb) fk_X9_358 dX9_best_32 rfl (by decide) rfl hnb ?_
    refine r_ishl hG dX9_best_35 ?_
    refine r_top (nI (2 ^ nb)) (shl1 nb lb) ?_
    refine r_icmp_ge hG 182 dX9_best_36 (by decide) (fun hc36 => absurd (nle_t (a := (2 ^ nb)) (b := (m + 1)) (by omega) (by omega) hc36) (by omega)) (fun hc36 => ?_)
    refine r_iconst hG (0) dX9_best_39 (by decide) ?_
    refine r_istore hG dX9_best_40 (by decide) ?_
    refine r_loc [some (.ref 88), some (.int pu), some (.int z), some (.int w), some (.int c), some (.int (nI (m + 1))), some (.int (0)), x7, x8, x9] rfl ?_
    refine r_iconst hG (0) dX9_best_42 (by decide) ?_
    refine r_istore hG dX9_best_43 (by decide) ?_
    refine r_loc [some (.ref 88), some (.int pu), some (.int z), some (.int w), some (.int c), some (.int (nI (m + 1))), some (.int (0)), some (.int (0)), x8, x9] rfl ?_
    refine r_iconst hG (1) dX9_best_45 (by decide) ?_
    refine r_istore hG dX9_best_46 (by decide) ?_
    refine r_loc [some (.ref 88), some (.int pu), some (.int z), some (.int w), some (.int c), some (.int (nI (m + 1))), some (.int (0)), some (.int (0)), some (.int (1)), x9] rfl ?_
    refine r_iconst hG (0) dX9_best_48 (by decide) ?_
    refine r_istore hG dX9_best_49 (by decide) ?_
    refine r_loc [some (.ref 88), some (.int pu), some (.int z), some (.int w), some (.int c), some (.int (nI (m + 1))), some (.int (0)), some (.int (0)), some (.int (1)), some (.int (0))] rfl ?_
    refine lp_X9_best1 hG hE hR hnv lv hns ls hnt lt hnb lb hbo nb 0 1 (by omega) (Or.inl ⟨rfl, fun t ht => absurd ht (by omega)⟩) (fun op hop => ?_)
    rcases hop with ⟨rfl, hopn⟩ | ⟨rfl, hopn⟩
    · skip
      refine r_iload hG dX9_best_136 rfl ?_
      refine r_if_eq hG 176 dX9_best_138 (by decide) (fun hc138 => absurd hc138 (by decide)) (fun hc138 => ?_)
      refine r_iload hG dX9_best_141 rfl ?_
      refine r_iload_n hG dX9_best_143 rfl ?_
      refine r_icmp_gt hG 176 dX9_best_144 (by decide) (fun hc144 => ?_) (fun hc144 => ?_)
      · refine r_iinc hG (1) dX9_best_176 (by decide) rfl ?_
        refine r_loc [some (.ref 88), some (.int pu), some (.int z), some (.int w), some (.int c), some (.int ((nI (m + 1)) + (1))), some (.int (mbW M bo (m + 1) nb)), some (.int (mbC M (m + 1) nb)), some (.int (1)), some (.int (nI nb))] rfl ?_
        refine r_goto hG 28 dX9_best_179 (by decide) ?_
        rw [nI_1]
        refine ih (m + 1) _ _ _ _ _ _ _ (by omega) ⟨_, hB, Or.inr ⟨fun q => ?_, rfl⟩⟩ hP
        exact q.2.1 hc144
      · refine r_iload hG dX9_best_147 rfl ?_
        refine r_iload_n hG dX9_best_149 rfl ?_
        refine r_icmp_gt hG 166 dX9_best_150 (by decide) (fun hc150 => ?_) (fun hc150 => ?_)
        · refine r_iload hG dX9_best_166 rfl ?_
          refine r_istore_n hG dX9_best_168 (by decide) ?_
          refine r_loc [some (.ref 88), some (.int pu), some (.int (nI (m + 1))), some (.int w), some (.int c), some (.int (nI (m + 1))), some (.int (mbW M bo (m + 1) nb)), some (.int (mbC M (m + 1) nb)), some (.int (1)), some (.int (nI nb))] rfl ?_
          refine r_iload hG dX9_best_169 rfl ?_
          refine r_istore_n hG dX9_best_171 (by decide) ?_
          refine r_loc [some (.ref 88), some (.int pu), some (.int (nI (m + 1))), some (.int (mbW M bo (m + 1) nb)), some (.int c), some (.int (nI (m + 1))), some (.int (mbW M bo (m + 1) nb)), some (.int (mbC M (m + 1) nb)), some (.int (1)), some (.int (nI nb))] rfl ?_
          refine r_iload hG dX9_best_172 rfl ?_
          refine r_istore hG dX9_best_174 (by decide) ?_
          refine r_loc [some (.ref 88), some (.int pu), some (.int (nI (m + 1))), some (.int (mbW M bo (m + 1) nb)), some (.int (mbC M (m + 1) nb)), some (.int (nI (m + 1))), some (.int (mbW M bo (m + 1) nb)), some (.int (mbC M (m + 1) nb)), some (.int (1)), some (.int (nI nb))] rfl ?_
          refine r_iinc hG (1) dX9_best_176 (by decide) rfl ?_
          refine r_loc [some (.ref 88), some (.int pu), some (.int (nI (m + 1))), some (.int (mbW M bo (m + 1) nb)), some (.int (mbC M (m + 1) nb)), some (.int ((nI (m + 1)) + (1))), some (.int (mbW M bo (m + 1) nb)), some (.int (mbC M (m + 1) nb)), some (.int (1)), some (.int (nI nb))] rfl ?_
          refine r_goto hG 28 dX9_best_179 (by decide) ?_
          rw [nI_1]
          exact ih (m + 1) _ _ _ _ _ _ _ (by omega) ⟨_, hB, Or.inl ⟨⟨Or.inl hc150, hc144, hopn⟩, rfl⟩⟩ hP
        · refine r_iload hG dX9_best_153 rfl ?_
          refine r_iload_n hG dX9_best_155 rfl ?_
          refine r_icmp_ne hG 176 dX9_best_156 (by decide) (fun hc156 => ?_) (fun hc156 => ?_)
          · refine r_iinc hG (1) dX9_best_176 (by decide) rfl ?_
            refine r_loc [some (.ref 88), some (.int pu), some (.int z), some (.int w), some (.int c), some (.int ((nI (m + 1)) + (1))), some (.int (mbW M bo (m + 1) nb)), some (.int (mbC M (m + 1) nb)), some (.int (1)), some (.int (nI nb))] rfl ?_
            refine r_goto hG 28 dX9_best_179 (by decide) ?_
            rw [nI_1]
            refine ih (m + 1) _ _ _ _ _ _ _ (by omega) ⟨_, hB, Or.inr ⟨fun q => ?_, rfl⟩⟩ hP
            rcases q.1 with q1 | q1
            · exact hc150 q1
            · exact hc156 q1.1
          · refine r_iload hG dX9_best_159 rfl ?_
            refine r_iload hG dX9_best_161 rfl ?_
            refine r_icmp_ge hG 176 dX9_best_163 (by decide) (fun hc163 => ?_) (fun hc163 => ?_)
            · refine r_iinc hG (1) dX9_best_176 (by decide) rfl ?_
              refine r_loc [some (.ref 88), some (.int pu), some (.int z), some (.int w), some (.int c), some (.int ((nI (m + 1)) + (1))), some (.int (mbW M bo (m + 1) nb)), some (.int (mbC M (m + 1) nb)), some (.int (1)), some (.int (nI nb))] rfl ?_
              refine r_goto hG 28 dX9_best_179 (by decide) ?_
              rw [nI_1]
              refine ih (m + 1) _ _ _ _ _ _ _ (by omega) ⟨_, hB, Or.inr ⟨fun q => ?_, rfl⟩⟩ hP
              rcases q.1 with q1 | q1
              · exact hc150 q1
              · exact q1.2 hc163
            · refine r_iload hG dX9_best_166 rfl ?_
              refine r_istore_n hG dX9_best_168 (by decide) ?_
              refine r_loc [some (.ref 88), some (.int pu), some (.int (nI (m + 1))), some (.int w), some (.int c), some (.int (nI (m + 1))), some (.int (mbW M bo (m + 1) nb)), some (.int (mbC M (m + 1) nb)), some (.int (1)), some (.int (nI nb))] rfl ?_
              refine r_iload hG dX9_best_169 rfl ?_
              refine r_istore_n hG dX9_best_171 (by decide) ?_
              refine r_loc [some (.ref 88), some (.int pu), some (.int (nI (m + 1))), some (.int (mbW M bo (m + 1) nb)), some (.int c), some (.int (nI (m + 1))), some (.int (mbW M bo (m + 1) nb)), some (.int (mbC M (m + 1) nb)), some (.int (1)), some (.int (nI nb))] rfl ?_
              refine r_iload hG dX9_best_172 rfl ?_
              refine r_istore hG dX9_best_174 (by decide) ?_
              refine r_loc [some (.ref 88), some (.int pu), some (.int (nI (m + 1))), some (.int (mbW M bo (m + 1) nb)), some (.int (mbC M (m + 1) nb)), some (.int (nI (m + 1))), some (.int (mbW M bo (m + 1) nb)), some (.int (mbC M (m + 1) nb)), some (.int (1)), some (.int (nI nb))] rfl ?_
              refine r_iinc hG (1) dX9_best_176 (by decide) rfl ?_
              refine r_loc [some (.ref 88), some (.int pu), some (.int (nI (m + 1))), some (.int (mbW M bo (m + 1) nb)), some (.int (mbC M (m + 1) nb)), some (.int ((nI (m + 1)) + (1))), some (.int (mbW M bo (m + 1) nb)), some (.int (mbC M (m + 1) nb)), some (.int (1)), some (.int (nI nb))] rfl ?_
              refine r_goto hG 28 dX9_best_179 (by decide) ?_
              rw [nI_1]
              exact ih (m + 1) _ _ _ _ _ _ _ (by omega) ⟨_, hB, Or.inl ⟨⟨Or.inr ⟨hc156, hc163⟩, hc144, hopn⟩, rfl⟩⟩ hP
    · skip
      refine r_iload hG dX9_best_136 rfl ?_
      refine r_if_eq hG 176 dX9_best_138 (by decide) (fun hc138 => ?_) (fun hc138 => absurd hc138 (by decide))
      refine r_iinc hG (1) dX9_best_176 (by decide) rfl ?_
      refine r_loc [some (.ref 88), some (.int pu), some (.int z), some (.int w), some (.int c), some (.int ((nI (m + 1)) + (1))), some (.int (mbW M bo (m + 1) nb)), some (.int (mbC M (m + 1) nb)), some (.int (0)), some (.int (nI nb))] rfl ?_
      refine r_goto hG 28 dX9_best_179 (by decide) ?_
      rw [nI_1]
      refine ih (m + 1) _ _ _ _ _ _ _ (by omega) ⟨_, hB, Or.inr ⟨fun q => ?_, rfl⟩⟩ hP
      exact hopn q.2.2

theorem mbBest_c {M M' : gM} {bo : Nat → Nat} {nb : Nat} {pu : Int32} (h : ∀ k j, k ≠ 88 → M'.1 k j = M.1 k j) : ∀ m q, mbBest M' bo nb pu m q → mbBest M bo nb pu m q := by
  have eW : ∀ s, mbW M' bo s nb = mbW M bo s nb := fun s => by
    unfold mbW
    congr 1
    funext i
    rw [h 133 i (by omega), h 105 _ (by omega)]
  have eC : ∀ s, mbC M' s nb = mbC M s nb := fun s => by
    unfold mbC
    congr 1
    funext i
    rw [h 134 i (by omega)]
  have eO : ∀ s, mbO M' s nb = mbO M s nb := fun s => by
    unfold mbO
    apply propext
    exact ⟨fun q t ht hb => (h 135 t (by omega)).symm.trans (q t ht hb), fun q t ht hb => (h 135 t (by omega)).trans (q t ht hb)⟩
  intro m
  induction m with
  | zero => intro q hq; exact hq
  | succ m ih =>
    rintro q ⟨q0, h0, h1⟩
    refine ⟨q0, ih q0 h0, ?_⟩
    unfold mbTake at h1 ⊢
    rw [eW, eC, eO] at h1
    exact h1
set_option maxRecDepth 100000 in
set_option maxHeartbeats 400000 in
theorem ct_X9_best {M : gM} {b : Bool} (hR : M.2.2 = stdR b) {nv ns nt nb : Nat} (hnv : M.1 88 26 = nI nv) (lv : nv ≤ 12) (hns : M.1 88 38 = nI ns) (ls : ns ≤ 4) (hnt : M.1 88 43 = nI nt) (lt : nt ≤ 4) (hnb : M.1 88 62 = nI nb) (lb : nb ≤ 10) {bo : Nat → Nat} (hbo : ∀ i, i < nb → M.1 132 i = nI (bo i) ∧ bo i < 12) (pu : Int32) : gC 1 0 0 yX9_best cX9_best 10 (some .int) 140 140 [.ref 88, .int pu] M (gI (fun r M9 => (((0 ≤ pu ∧ pu ≤ 9999) ∧ ∃ q, mbBest M bo nb pu (2 ^ nb - 1) q ∧ r = q.1) ∨ (¬ (0 ≤ pu ∧ pu ≤ 9999) ∧ r = -1)) ∧ M9 = gwI M 88 0 0)) := by
  refine gC_i rfl (Nat.le_of_ble_eq_true rfl) (fun G hG hE => ?_)
  change G (140, 0, 0) 0 [some (.ref 88), some (.int pu), none, none, none, none, none, none, none, none] [] M
  refine r_aload_n hG dX9_best_0 rfl ?_
  refine r_iconst hG (0) dX9_best_1 (by decide) ?_
  refine r_putI hG 0 fp_X9_1 dX9_best_2 rfl (by decide) rfl rfl rfl ?_
  refine r_iload_n hG dX9_best_5 rfl ?_
  refine r_iconst hG (0) dX9_best_6 (by decide) ?_
  refine r_sipush hG (9999) dX9_best_7 (by decide) ?_
  refine r_cSI3 hG mk_X9_282 dX9_best_10 (ct_X9_within _ _ _) (by decide) ⟨Nat.le_refl _, Nat.le_refl _⟩ (Nat.le_of_ble_eq_true rfl) (fun x9 M9 h9 => ?_)
  obtain ⟨h8, e9⟩ := h9; rw [e9]; rcases h8 with ⟨e8, hw10⟩ | ⟨e8, hw10⟩
  · rw [e8]
    refine r_if_ne hG 18 dX9_best_13 (by decide) (fun hc13 => ?_) (fun hc13 => absurd hc13 (by decide))
    refine r_iconst hG (0) dX9_best_18 (by decide) ?_
    refine r_istore_n hG dX9_best_19 (by decide) ?_
    refine r_loc [some (.ref 88), some (.int pu), some (.int (0)), none, none, none, none, none, none, none] rfl ?_
    refine r_iconst hG (0) dX9_best_20 (by decide) ?_
    refine r_istore_n hG dX9_best_21 (by decide) ?_
    refine r_loc [some (.ref 88), some (.int pu), some (.int (0)), some (.int (0)), none, none, none, none, none, none] rfl ?_
    refine r_iconst hG (0) dX9_best_22 (by decide) ?_
    refine r_istore hG dX9_best_23 (by decide) ?_
    refine r_loc [some (.ref 88), some (.int pu), some (.int (0)), some (.int (0)), some (.int (0)), none, none, none, none, none] rfl ?_
    refine r_iconst hG (1) dX9_best_25 (by decide) ?_
    refine r_istore hG dX9_best_26 (by decide) ?_
    refine r_loc [some (.ref 88), some (.int pu), some (.int (0)), some (.int (0)), some (.int (0)), some (.int (1)), none, none, none, none] rfl ?_
    refine lp_X9_best (M := gwI M 88 0 0) hG hE (by exact hR) ((gwI_n (by omega)).trans hnv) lv ((gwI_n (by omega)).trans hns) ls ((gwI_n (by omega)).trans hnt) lt ((gwI_n (by omega)).trans hnb) lb (fun i hi => ⟨(gwI_n (by omega)).trans (hbo i hi).1, (hbo i hi).2⟩) (2 ^ nb - 1) 0 0 0 0 _ _ _ _ (by have := Nat.two_pow_pos nb; omega) rfl (fun q hq => ⟨Or.inl ⟨hw10, q, ?_, rfl⟩, rfl⟩)
    exact mbBest_c (fun k j h => gwI_n (by omega)) _ _ hq
  · rw [e8]
    refine r_if_ne hG 18 dX9_best_13 (by decide) (fun hc13 => absurd hc13 (by decide)) (fun hc13 => ?_)
    refine r_iconst hG (-1) dX9_best_16 (by decide) ?_
    refine hE _ _ _ _ _ dX9_best_17 rfl (Nat.le_refl _) (Nat.le_refl _) rfl ?_
    exact ⟨Or.inr ⟨hw10, rfl⟩, rfl⟩


/-- the day on which it runs dry, by n more days from day a on -/
def fFore (wn wl tn nw : Int32) : Nat → Nat → Int32 → Int32
  | 0, _, _ => -1
  | n + 1, a, left => if wn ≤ mmin (left + wl) tn then fFore wn wl tn nw n (a + 1) (mmin (left + wl) tn - wn) else nw + nI a
set_option maxRecDepth 100000 in
set_option maxHeartbeats 1000000 in
theorem lp_X8_foretold {G : gJ} {P : Int32 → gM → Prop} (hG : gS 4 0 0 yX8_foretold.cls cX8_foretold 6 G) (hE : gEi 140 0 0 cX8_foretold .int P G) {M : gM} {b : Bool} (hR : M.2.2 = stdR b) {q : Nat} (hq : q < 12) {wn : Int32} :
    ∀ (n a : Nat) (left : Int32) (x1 : Option Value), a + n = 61 → P (fFore wn (M.1 (2 * q + 42) 4) (M.1 (2 * q + 42) 2) (M.1 0 12) n a left) M → G (140, 0, 0) 32 [some (.ref 0), x1, some (.ref (2 * q + 42)), some (.int wn), some (.int left), some (.int (nI a))] [] M := by
  intro n
  induction n with
  | zero =>
    intro a left x1 ha hP
    refine r_iload hG dX8_foretold_32 rfl ?_
    refine r_bipush hG (60) dX8_foretold_34 (by decide) ?_
    refine r_icmp_gt hG 81 dX8_foretold_36 (by decide) (fun hc36 => ?_) (fun hc36 => absurd (nlt_f (a := 60) (b := a) (by omega) (by omega) hc36) (by omega))
    refine r_iconst hG (-1) dX8_foretold_81 (by decide) ?_
    refine hE _ _ _ _ _ dX8_foretold_82 rfl (Nat.le_refl _) (Nat.le_refl _) rfl ?_
    exact hP
  | succ n ih =>
    intro a left x1 ha hP
    refine r_iload hG dX8_foretold_32 rfl ?_
    refine r_bipush hG (60) dX8_foretold_34 (by decide) ?_
    refine r_icmp_gt hG 81 dX8_foretold_36 (by decide) (fun hc36 => absurd (nlt_t (a := 60) (b := a) (by omega) (by omega) hc36) (by omega)) (fun hc36 => ?_)
    refine r_iload hG dX8_foretold_39 rfl ?_
    refine r_aload_n hG dX8_foretold_41 rfl ?_
    refine r_getI hG 4 fk_X8_160 dX8_foretold_42 (gkV (by omega)) (show (2 * q + 42) < 140 by omega) rfl ?_
    refine r_iadd hG dX8_foretold_45 ?_
    refine r_aload_n hG dX8_foretold_46 rfl ?_
    refine r_getI hG 2 fk_X8_70 dX8_foretold_47 (gkV (by omega)) (show (2 * q + 42) < 140 by omega) rfl ?_
    refine r_cSI2 hG mk_X8_163 dX8_foretold_50 (ct_J9_min_7cf53 _ _) (by decide) ⟨Nat.le_refl _, Nat.le_refl _⟩ (Nat.le_of_ble_eq_true rfl) (fun x9 M9 h9 => ?_)
    obtain ⟨e8, e9⟩ := h9
    rw [e8, e9]
    refine r_istore hG dX8_foretold_53 (by decide) ?_
    refine r_loc [some (.ref 0), x1, some (.ref (2 * q + 42)), some (.int wn), some (.int (mmin (left + (M.1 (2 * q + 42) 4)) (M.1 (2 * q + 42) 2))), some (.int (nI a))] rfl ?_
    refine r_iload hG dX8_foretold_55 rfl ?_
    refine r_iload_n hG dX8_foretold_57 rfl ?_
    refine r_icmp_ge hG 69 dX8_foretold_58 (by decide) (fun hc58 => ?_) (fun hc58 => ?_)
    · refine r_iload hG dX8_foretold_69 rfl ?_
      refine r_iload_n hG dX8_foretold_71 rfl ?_
      refine r_isub hG dX8_foretold_72 ?_
      refine r_istore hG dX8_foretold_73 (by decide) ?_
      refine r_loc [some (.ref 0), x1, some (.ref (2 * q + 42)), some (.int wn), some (.int ((mmin (left + (M.1 (2 * q + 42) 4)) (M.1 (2 * q + 42) 2)) - wn)), some (.int (nI a))] rfl ?_
      refine r_iinc hG (1) dX8_foretold_75 (by decide) rfl ?_
      refine r_loc [some (.ref 0), x1, some (.ref (2 * q + 42)), some (.int wn), some (.int ((mmin (left + (M.1 (2 * q + 42) 4)) (M.1 (2 * q + 42) 2)) - wn)), some (.int ((nI a) + (1)))] rfl ?_
      refine r_goto hG 32 dX8_foretold_78 (by decide) ?_
      rw [nI_1]
      refine ih (a + 1) _ _ (by omega) ?_
      unfold fFore at hP
      rw [if_pos hc58] at hP
      exact hP
    · refine r_aload_n hG dX8_foretold_61 rfl ?_
      refine r_getI hG 12 fk_X8_154 dX8_foretold_62 rfl (by decide) rfl ?_
      refine r_iload hG dX8_foretold_65 rfl ?_
      refine r_iadd hG dX8_foretold_67 ?_
      refine hE _ _ _ _ _ dX8_foretold_68 rfl (Nat.le_refl _) (Nat.le_refl _) rfl ?_
      unfold fFore at hP
      rw [if_neg hc58] at hP
      exact hP

set_option maxRecDepth 100000 in
set_option maxHeartbeats 1000000 in
theorem ct_X8_foretold {M : gM} {b : Bool} (hR : M.2.2 = stdR b) {nv ns nt nb : Nat} (hnv : M.1 0 7 = nI nv) (lv : nv ≤ 12) (hns : M.1 0 8 = nI ns) (ls : ns ≤ 4) (hnt : M.1 0 9 = nI nt) (lt : nt ≤ 4) (hnb : M.1 0 10 = nI nb) (lb : nb ≤ 10) {o : Nat} (hob : o = if b then 17 else 11) {nl : Nat} {B : Nat → Bool} {A : Nat → Int32} {ST : Nat → Nat} {C : Nat → Nat × Int32} (hO : ordC M o nl B A ST C) (v : Int32) : gC 4 0 0 yX8_foretold cX8_foretold 6 (some .int) 140 140 [.ref 0, .int v] M (gI (fun r M9 => ((∃ q, q < nv ∧ v = nI q ∧ r = fFore (wantV M (2 * q + 42) nl B A ST C) (M.1 (2 * q + 42) 4) (M.1 (2 * q + 42) 2) (M.1 0 12) 60 1 (M.1 (2 * q + 42) 3)) ∨ (¬ vIn v nv ∧ r = -1)) ∧ gEq Sc M M9)) := by
  refine gC_i rfl (Nat.le_of_ble_eq_true rfl) (fun G hG hE => ?_)
  change G (140, 0, 0) 0 [some (.ref 0), some (.int v), none, none, none, none] [] M
  refine r_aload_n hG dX8_foretold_0 rfl ?_
  refine r_iload_n hG dX8_foretold_1 rfl ?_
  refine r_cVI1 hG mk_X8_106 dX8_foretold_2 rfl (by decide) (ct_X8_isVillage (by exact hR) (c := nv) hnv (by omega) _) (by decide) ⟨Nat.le_refl _, Nat.le_refl _⟩ (Nat.le_of_ble_eq_true rfl) (fun x9 M9 h9 => ?_)
  obtain ⟨h8, e9⟩ := h9; rw [e9]; rcases h8 with ⟨e8, hw2⟩ | ⟨e8, hw2⟩
  · rw [e8]
    obtain ⟨q2, hq2, hv2⟩ := hw2
    subst hv2
    refine r_if_ne hG 10 dX8_foretold_5 (by decide) (fun hc5 => ?_) (fun hc5 => absurd hc5 (by decide))
    refine r_aload_n hG dX8_foretold_10 rfl ?_
    refine r_getR hG 0 1 fk_X8_11 dX8_foretold_11 rfl (by decide) rfl (sr hR rfl) ?_
    refine r_iload_n hG dX8_foretold_14 rfl ?_
    refine r_aald4 hG q2 (2 * q2 + 42) dX8_foretold_15 rfl (by decide) rfl (by omega) (by decide) (sr hR rfl) ?_
    refine r_astore_n hG dX8_foretold_16 (by decide) ?_
    refine r_loc [some (.ref 0), some (.int (nI q2)), some (.ref (2 * q2 + 42)), none, none, none] rfl ?_
    refine r_aload_n hG dX8_foretold_17 rfl ?_
    refine r_aload_n hG dX8_foretold_18 rfl ?_
    refine r_cVI1 hG mk_X8_129 dX8_foretold_19 rfl (by decide) (ct_X8_wantOf (by exact hR) hob (by exact hO) (by omega)) (by decide) ⟨Nat.le_refl _, Nat.le_refl _⟩ (Nat.le_of_ble_eq_true rfl) (fun x9 M19 h9 => ?_)
    obtain ⟨e8, hq19⟩ := h9
    rw [e8]
    have hR : M19.2.2 = stdR b := by rw [hq19.1]; exact hR
    refine r_istore_n hG dX8_foretold_22 (by decide) ?_
    refine r_loc [some (.ref 0), some (.int (nI q2)), some (.ref (2 * q2 + 42)), some (.int (wantV M (2 * q2 + 42) nl B A ST C)), none, none] rfl ?_
    refine r_aload_n hG dX8_foretold_23 rfl ?_
    refine r_getIv hG 3 (M.1 (2 * q2 + 42) 3) fk_X8_73 dX8_foretold_24 (gkV (by omega)) (show (2 * q2 + 42) < 140 by omega) rfl (hq19.2 (2 * q2 + 42) 3 (by first | (unfold Sv; omega) | (unfold Sc; omega) | (unfold Sp; omega) | omega)) ?_
    refine r_istore hG dX8_foretold_27 (by decide) ?_
    refine r_loc [some (.ref 0), some (.int (nI q2)), some (.ref (2 * q2 + 42)), some (.int (wantV M (2 * q2 + 42) nl B A ST C)), some (.int (M.1 (2 * q2 + 42) 3)), none] rfl ?_
    refine r_iconst hG (1) dX8_foretold_29 (by decide) ?_
    refine r_istore hG dX8_foretold_30 (by decide) ?_
    refine r_loc [some (.ref 0), some (.int (nI q2)), some (.ref (2 * q2 + 42)), some (.int (wantV M (2 * q2 + 42) nl B A ST C)), some (.int (M.1 (2 * q2 + 42) 3)), some (.int (1))] rfl ?_
    refine lp_X8_foretold hG hE hR (q := q2) (by omega) 60 1 _ _ (by omega) ?_
    rw [hq19.2 (2 * q2 + 42) 4 (by unfold Sc; omega), hq19.2 (2 * q2 + 42) 2 (by unfold Sc; omega), hq19.2 0 12 (by unfold Sc; omega)]
    exact ⟨Or.inl ⟨_, hq2, rfl, rfl⟩, hq19⟩
  · rw [e8]
    refine r_if_ne hG 10 dX8_foretold_5 (by decide) (fun hc5 => absurd hc5 (by decide)) (fun hc5 => ?_)
    refine r_iconst hG (-1) dX8_foretold_8 (by decide) ?_
    refine hE _ _ _ _ _ dX8_foretold_9 rfl (Nat.le_refl _) (Nat.le_refl _) rfl ?_
    exact ⟨Or.inr ⟨hw2, rfl⟩, gEq.rf⟩

def bitv (s i : Nat) : Int32 := nI s >>> (nI i &&& 31) &&& 1
theorem bitv_eq {s i : Nat} (hs : s < 2147483648) (hi : i < 31) : bitv s i = nI (s / 2 ^ i % 2) := by
  unfold bitv
  have h1 : nI s >>> (nI i &&& 31) = nI (s / 2 ^ i) := by
    refine pk_shrN hs (nI i &&& 31) i ?_
    exact (by decide : ∀ i, i < 31 → ((nI i &&& 31).toBitVec.smod 32).toNat = i) i hi
  rw [h1]
  have h2 : s / 2 ^ i < 2 ^ 32 := Nat.lt_of_le_of_lt (Nat.div_le_self _ _) (by omega)
  have := pk_andN h2 (m := 1) 1 (by decide)
  simpa using this
theorem bitv_01 {s i : Nat} (hs : s < 2147483648) (hi : i < 31) : bitv s i = 0 ∨ bitv s i = 1 := by
  rw [bitv_eq hs hi]
  rcases Nat.mod_two_eq_zero_or_one (s / 2 ^ i) with h | h <;> rw [h]
  · exact Or.inl rfl
  · exact Or.inr rfl
set_option maxRecDepth 100000 in
set_option maxHeartbeats 1000000 in
theorem lp_X8_costOf {G : gJ} {P : Int32 → gM → Prop} (hG : gS 0 0 0 yX8_costOf.cls cX8_costOf 4 G) (hE : gEi 140 0 0 cX8_costOf .int P G) {M : gM} {b : Bool} (hR : M.2.2 = stdR b) {nv ns nt nb : Nat} (hnv : M.1 0 7 = nI nv) (lv : nv ≤ 12) (hns : M.1 0 8 = nI ns) (ls : ns ≤ 4) (hnt : M.1 0 9 = nI nt) (lt : nt ≤ 4) (hnb : M.1 0 10 = nI nb) (lb : nb ≤ 10) {s : Nat} :
    ∀ (n i : Nat), i + n = nb → P (sumI (fun i => bitv s i * M.1 (i + 78) 1) nb) M → G (140, 0, 0) 4 [some (.ref 0), some (.int (nI s)), some (.int (sumI (fun i => bitv s i * M.1 (i + 78) 1) i)), some (.int (nI i))] [] M := by
  intro n
  induction n with
  | zero =>
    intro i hi hP
    refine r_iload_n hG dX8_costOf_4 rfl ?_
    refine r_aload_n hG dX8_costOf_5 rfl ?_
    refine r_getIv hG 10 (nI nb) fk_X8_169 dX8_costOf_6 rfl (by decide) rfl hnb ?_
    refine r_icmp_ge hG 36 dX8_costOf_9 (by decide) (fun hc9 => ?_) (fun hc9 => absurd (nle_f (a := nb) (b := i) (by omega) (by omega) hc9) (by omega))
    refine r_iload_n hG dX8_costOf_36 rfl ?_
    refine hE _ _ _ _ _ dX8_costOf_37 rfl (Nat.le_refl _) (Nat.le_refl _) rfl ?_
    rw [show i = nb by omega]
    exact hP
  | succ n ih =>
    intro i hi hP
    refine r_iload_n hG dX8_costOf_4 rfl ?_
    refine r_aload_n hG dX8_costOf_5 rfl ?_
    refine r_getIv hG 10 (nI nb) fk_X8_169 dX8_costOf_6 rfl (by decide) rfl hnb ?_
    refine r_icmp_ge hG 36 dX8_costOf_9 (by decide) (fun hc9 => absurd (nle_t (a := nb) (b := i) (by omega) (by omega) hc9) (by omega)) (fun hc9 => ?_)
    refine r_iload_n hG dX8_costOf_12 rfl ?_
    refine r_iload_n hG dX8_costOf_13 rfl ?_
    refine r_iload_n hG dX8_costOf_14 rfl ?_
    refine r_ishr hG dX8_costOf_15 ?_
    refine r_iconst hG (1) dX8_costOf_16 (by decide) ?_
    refine r_iand hG dX8_costOf_17 ?_
    refine r_aload_n hG dX8_costOf_18 rfl ?_
    refine r_getR hG 3 4 fk_X8_29 dX8_costOf_19 rfl (by decide) rfl (sr hR rfl) ?_
    refine r_iload_n hG dX8_costOf_22 rfl ?_
    refine r_aald7 hG i (i + 78) dX8_costOf_23 rfl (by decide) rfl (by omega) (by decide) (sr hR rfl) ?_
    refine r_getI hG 1 fk_X8_175 dX8_costOf_24 (gkB (by omega)) (show (i + 78) < 140 by omega) rfl ?_
    refine r_imul hG dX8_costOf_27 ?_
    refine r_iadd hG dX8_costOf_28 ?_
    refine r_istore_n hG dX8_costOf_29 (by decide) ?_
    refine r_loc [some (.ref 0), some (.int (nI s)), some (.int ((sumI (fun i => bitv s i * M.1 (i + 78) 1) i) + ((((nI s) >>> ((nI i) &&& 31)) &&& (1)) * (M.1 (i + 78) 1)))), some (.int (nI i))] rfl ?_
    refine r_iinc hG (1) dX8_costOf_30 (by decide) rfl ?_
    refine r_loc [some (.ref 0), some (.int (nI s)), some (.int ((sumI (fun i => bitv s i * M.1 (i + 78) 1) i) + ((((nI s) >>> ((nI i) &&& 31)) &&& (1)) * (M.1 (i + 78) 1)))), some (.int ((nI i) + (1)))] rfl ?_
    refine r_goto hG 4 dX8_costOf_33 (by decide) ?_
    rw [nI_1]
    exact ih (i + 1) (by omega) hP

set_option maxRecDepth 100000 in
set_option maxHeartbeats 1000000 in
theorem ct_X8_costOf {M : gM} {b : Bool} (hR : M.2.2 = stdR b) {nv ns nt nb : Nat} (hnv : M.1 0 7 = nI nv) (lv : nv ≤ 12) (hns : M.1 0 8 = nI ns) (ls : ns ≤ 4) (hnt : M.1 0 9 = nI nt) (lt : nt ≤ 4) (hnb : M.1 0 10 = nI nb) (lb : nb ≤ 10) (s : Nat) : gC 0 0 0 yX8_costOf cX8_costOf 4 (some .int) 140 140 [.ref 0, .int (nI s)] M (gI (fun r M9 => r = sumI (fun i => bitv s i * M.1 (i + 78) 1) nb ∧ M9 = M)) := by
  refine gC_i rfl (Nat.le_of_ble_eq_true rfl) (fun G hG hE => ?_)
  change G (140, 0, 0) 0 [some (.ref 0), some (.int (nI s)), none, none] [] M
  refine r_iconst hG (0) dX8_costOf_0 (by decide) ?_
  refine r_istore_n hG dX8_costOf_1 (by decide) ?_
  refine r_loc [some (.ref 0), some (.int (nI s)), some (.int (0)), none] rfl ?_
  refine r_iconst hG (0) dX8_costOf_2 (by decide) ?_
  refine r_istore_n hG dX8_costOf_3 (by decide) ?_
  refine r_loc [some (.ref 0), some (.int (nI s)), some (.int (0)), some (.int (0))] rfl ?_
  exact lp_X8_costOf hG hE hR hnv lv hns ls hnt lt hnb lb nb 0 (by omega) ⟨rfl, rfl⟩

set_option maxRecDepth 100000 in
set_option maxHeartbeats 1000000 in
theorem lp_X8_worthOf {G : gJ} {P : Int32 → gM → Prop} (hG : gS 0 0 0 yX8_worthOf.cls cX8_worthOf 4 G) (hE : gEi 140 0 0 cX8_worthOf .int P G) {M : gM} {b : Bool} (hR : M.2.2 = stdR b) {nv ns nt nb : Nat} (hnv : M.1 0 7 = nI nv) (lv : nv ≤ 12) (hns : M.1 0 8 = nI ns) (ls : ns ≤ 4) (hnt : M.1 0 9 = nI nt) (lt : nt ≤ 4) (hnb : M.1 0 10 = nI nb) (lb : nb ≤ 10) {s : Nat} :
    ∀ (n i : Nat), i + n = nb → P (sumI (fun i => bitv s i * M.1 (i + 78) 2) nb) M → G (140, 0, 0) 4 [some (.ref 0), some (.int (nI s)), some (.int (sumI (fun i => bitv s i * M.1 (i + 78) 2) i)), some (.int (nI i))] [] M := by
  intro n
  induction n with
  | zero =>
    intro i hi hP
    refine r_iload_n hG dX8_worthOf_4 rfl ?_
    refine r_aload_n hG dX8_worthOf_5 rfl ?_
    refine r_getIv hG 10 (nI nb) fk_X8_169 dX8_worthOf_6 rfl (by decide) rfl hnb ?_
    refine r_icmp_ge hG 36 dX8_worthOf_9 (by decide) (fun hc9 => ?_) (fun hc9 => absurd (nle_f (a := nb) (b := i) (by omega) (by omega) hc9) (by omega))
    refine r_iload_n hG dX8_worthOf_36 rfl ?_
    refine hE _ _ _ _ _ dX8_worthOf_37 rfl (Nat.le_refl _) (Nat.le_refl _) rfl ?_
    rw [show i = nb by omega]
    exact hP
  | succ n ih =>
    intro i hi hP
    refine r_iload_n hG dX8_worthOf_4 rfl ?_
    refine r_aload_n hG dX8_worthOf_5 rfl ?_
    refine r_getIv hG 10 (nI nb) fk_X8_169 dX8_worthOf_6 rfl (by decide) rfl hnb ?_
    refine r_icmp_ge hG 36 dX8_worthOf_9 (by decide) (fun hc9 => absurd (nle_t (a := nb) (b := i) (by omega) (by omega) hc9) (by omega)) (fun hc9 => ?_)
    refine r_iload_n hG dX8_worthOf_12 rfl ?_
    refine r_iload_n hG dX8_worthOf_13 rfl ?_
    refine r_iload_n hG dX8_worthOf_14 rfl ?_
    refine r_ishr hG dX8_worthOf_15 ?_
    refine r_iconst hG (1) dX8_worthOf_16 (by decide) ?_
    refine r_iand hG dX8_worthOf_17 ?_
    refine r_aload_n hG dX8_worthOf_18 rfl ?_
    refine r_getR hG 3 4 fk_X8_29 dX8_worthOf_19 rfl (by decide) rfl (sr hR rfl) ?_
    refine r_iload_n hG dX8_worthOf_22 rfl ?_
    refine r_aald7 hG i (i + 78) dX8_worthOf_23 rfl (by decide) rfl (by omega) (by decide) (sr hR rfl) ?_
    refine r_getI hG 2 fk_X8_178 dX8_worthOf_24 (gkB (by omega)) (show (i + 78) < 140 by omega) rfl ?_
    refine r_imul hG dX8_worthOf_27 ?_
    refine r_iadd hG dX8_worthOf_28 ?_
    refine r_istore_n hG dX8_worthOf_29 (by decide) ?_
    refine r_loc [some (.ref 0), some (.int (nI s)), some (.int ((sumI (fun i => bitv s i * M.1 (i + 78) 2) i) + ((((nI s) >>> ((nI i) &&& 31)) &&& (1)) * (M.1 (i + 78) 2)))), some (.int (nI i))] rfl ?_
    refine r_iinc hG (1) dX8_worthOf_30 (by decide) rfl ?_
    refine r_loc [some (.ref 0), some (.int (nI s)), some (.int ((sumI (fun i => bitv s i * M.1 (i + 78) 2) i) + ((((nI s) >>> ((nI i) &&& 31)) &&& (1)) * (M.1 (i + 78) 2)))), some (.int ((nI i) + (1)))] rfl ?_
    refine r_goto hG 4 dX8_worthOf_33 (by decide) ?_
    rw [nI_1]
    exact ih (i + 1) (by omega) hP

set_option maxRecDepth 100000 in
set_option maxHeartbeats 1000000 in
theorem ct_X8_worthOf {M : gM} {b : Bool} (hR : M.2.2 = stdR b) {nv ns nt nb : Nat} (hnv : M.1 0 7 = nI nv) (lv : nv ≤ 12) (hns : M.1 0 8 = nI ns) (ls : ns ≤ 4) (hnt : M.1 0 9 = nI nt) (lt : nt ≤ 4) (hnb : M.1 0 10 = nI nb) (lb : nb ≤ 10) (s : Nat) : gC 0 0 0 yX8_worthOf cX8_worthOf 4 (some .int) 140 140 [.ref 0, .int (nI s)] M (gI (fun r M9 => r = sumI (fun i => bitv s i * M.1 (i + 78) 2) nb ∧ M9 = M)) := by
  refine gC_i rfl (Nat.le_of_ble_eq_true rfl) (fun G hG hE => ?_)
  change G (140, 0, 0) 0 [some (.ref 0), some (.int (nI s)), none, none] [] M
  refine r_iconst hG (0) dX8_worthOf_0 (by decide) ?_
  refine r_istore_n hG dX8_worthOf_1 (by decide) ?_
  refine r_loc [some (.ref 0), some (.int (nI s)), some (.int (0)), none] rfl ?_
  refine r_iconst hG (0) dX8_worthOf_2 (by decide) ?_
  refine r_istore_n hG dX8_worthOf_3 (by decide) ?_
  refine r_loc [some (.ref 0), some (.int (nI s)), some (.int (0)), some (.int (0))] rfl ?_
  exact lp_X8_worthOf hG hE hR hnv lv hns ls hnt lt hnb lb nb 0 (by omega) ⟨rfl, rfl⟩

set_option maxRecDepth 100000 in
set_option maxHeartbeats 1000000 in
theorem lp_X8_noneDrilled {G : gJ} {P : Int32 → gM → Prop} (hG : gS 0 0 0 yX8_noneDrilled.cls cX8_noneDrilled 3 G) (hE : gEi 140 0 0 cX8_noneDrilled .boolean P G) {M : gM} {b : Bool} (hR : M.2.2 = stdR b) {nv ns nt nb : Nat} (hnv : M.1 0 7 = nI nv) (lv : nv ≤ 12) (hns : M.1 0 8 = nI ns) (ls : ns ≤ 4) (hnt : M.1 0 9 = nI nt) (lt : nt ≤ 4) (hnb : M.1 0 10 = nI nb) (lb : nb ≤ 10) {s : Nat} :
    ∀ (n i : Nat), i + n = nb → (∀ t, t < i → bitv s t = 1 → M.1 (t + 78) 3 = 0) → (∀ r, bI (∀ t, t < nb → bitv s t = 1 → M.1 (t + 78) 3 = 0) r → P r M) → G (140, 0, 0) 2 [some (.ref 0), some (.int (nI s)), some (.int (nI i))] [] M := by
  intro n
  induction n with
  | zero =>
    intro i hi hd hP
    refine r_iload_n hG dX8_noneDrilled_2 rfl ?_
    refine r_aload_n hG dX8_noneDrilled_3 rfl ?_
    refine r_getIv hG 10 (nI nb) fk_X8_169 dX8_noneDrilled_4 rfl (by decide) rfl hnb ?_
    refine r_icmp_ge hG 39 dX8_noneDrilled_7 (by decide) (fun hc7 => ?_) (fun hc7 => absurd (nle_f (a := nb) (b := i) (by omega) (by omega) hc7) (by omega))
    refine r_iconst hG (1) dX8_noneDrilled_39 (by decide) ?_
    refine hE _ _ _ _ _ dX8_noneDrilled_40 rfl (Nat.le_refl _) (Nat.le_refl _) rfl ?_
    exact hP 1 (Or.inl ⟨rfl, fun t ht => hd t (by omega)⟩)
  | succ n ih =>
    intro i hi hd hP
    refine r_iload_n hG dX8_noneDrilled_2 rfl ?_
    refine r_aload_n hG dX8_noneDrilled_3 rfl ?_
    refine r_getIv hG 10 (nI nb) fk_X8_169 dX8_noneDrilled_4 rfl (by decide) rfl hnb ?_
    refine r_icmp_ge hG 39 dX8_noneDrilled_7 (by decide) (fun hc7 => absurd (nle_t (a := nb) (b := i) (by omega) (by omega) hc7) (by omega)) (fun hc7 => ?_)
    refine r_iload_n hG dX8_noneDrilled_10 rfl ?_
    refine r_iload_n hG dX8_noneDrilled_11 rfl ?_
    refine r_ishr hG dX8_noneDrilled_12 ?_
    refine r_iconst hG (1) dX8_noneDrilled_13 (by decide) ?_
    refine r_iand hG dX8_noneDrilled_14 ?_
    refine r_iconst hG (1) dX8_noneDrilled_15 (by decide) ?_
    refine r_icmp_ne hG 33 dX8_noneDrilled_16 (by decide) (fun hc16 => ?_) (fun hc16 => ?_)
    · refine r_iinc hG (1) dX8_noneDrilled_33 (by decide) rfl ?_
      refine r_loc [some (.ref 0), some (.int (nI s)), some (.int ((nI i) + (1)))] rfl ?_
      refine r_goto hG 2 dX8_noneDrilled_36 (by decide) ?_
      rw [nI_1]
      refine ih (i + 1) (by omega) (fun t ht hb => ?_) hP
      by_cases e : t = i
      · subst e
        exact absurd hb hc16
      · exact hd t (by omega) hb
    · refine r_aload_n hG dX8_noneDrilled_19 rfl ?_
      refine r_getR hG 3 4 fk_X8_29 dX8_noneDrilled_20 rfl (by decide) rfl (sr hR rfl) ?_
      refine r_iload_n hG dX8_noneDrilled_23 rfl ?_
      refine r_aald7 hG i (i + 78) dX8_noneDrilled_24 rfl (by decide) rfl (by omega) (by decide) (sr hR rfl) ?_
      refine r_getI hG 3 fk_X8_191 dX8_noneDrilled_25 (gkB (by omega)) (show (i + 78) < 140 by omega) rfl ?_
      refine r_if_eq hG 33 dX8_noneDrilled_28 (by decide) (fun hc28 => ?_) (fun hc28 => ?_)
      · refine r_iinc hG (1) dX8_noneDrilled_33 (by decide) rfl ?_
        refine r_loc [some (.ref 0), some (.int (nI s)), some (.int ((nI i) + (1)))] rfl ?_
        refine r_goto hG 2 dX8_noneDrilled_36 (by decide) ?_
        rw [nI_1]
        refine ih (i + 1) (by omega) (fun t ht hb => ?_) hP
        by_cases e : t = i
        · subst e
          exact hc28
        · exact hd t (by omega) hb
      · refine r_iconst hG (0) dX8_noneDrilled_31 (by decide) ?_
        refine hE _ _ _ _ _ dX8_noneDrilled_32 rfl (Nat.le_refl _) (Nat.le_refl _) rfl ?_
        exact hP 0 (Or.inr ⟨rfl, fun q => hc28 (q i (by omega) hc16)⟩)

set_option maxRecDepth 100000 in
set_option maxHeartbeats 1000000 in
theorem ct_X8_noneDrilled {M : gM} {b : Bool} (hR : M.2.2 = stdR b) {nv ns nt nb : Nat} (hnv : M.1 0 7 = nI nv) (lv : nv ≤ 12) (hns : M.1 0 8 = nI ns) (ls : ns ≤ 4) (hnt : M.1 0 9 = nI nt) (lt : nt ≤ 4) (hnb : M.1 0 10 = nI nb) (lb : nb ≤ 10) (s : Nat) : gC 0 0 0 yX8_noneDrilled cX8_noneDrilled 3 (some .boolean) 140 140 [.ref 0, .int (nI s)] M (gI (fun r M9 => bI (∀ t, t < nb → bitv s t = 1 → M.1 (t + 78) 3 = 0) r ∧ M9 = M)) := by
  refine gC_i rfl (Nat.le_of_ble_eq_true rfl) (fun G hG hE => ?_)
  change G (140, 0, 0) 0 [some (.ref 0), some (.int (nI s)), none] [] M
  refine r_iconst hG (0) dX8_noneDrilled_0 (by decide) ?_
  refine r_istore_n hG dX8_noneDrilled_1 (by decide) ?_
  refine r_loc [some (.ref 0), some (.int (nI s)), some (.int (0))] rfl ?_
  exact lp_X8_noneDrilled hG hE hR hnv lv hns ls hnt lt hnb lb nb 0 (by omega) (fun t ht => absurd ht (by omega)) (fun r hr => ⟨hr, rfl⟩)

def bCost (M : gM) (nb s : Nat) : Int32 := sumI (fun i => bitv s i * M.1 (i + 78) 1) nb
def bWorth (M : gM) (nb s : Nat) : Int32 := sumI (fun i => bitv s i * M.1 (i + 78) 2) nb
def bOpen (M : gM) (nb s : Nat) : Prop := ∀ t, t < nb → bitv s t = 1 → M.1 (t + 78) 3 = 0
/-- is the set s taken, with the best so far q = (set, worth, cost) -/
def bTake (M : gM) (nb : Nat) (pu : Int32) (s : Nat) (q : Int32 × Int32 × Int32) : Prop := (q.2.1 < bWorth M nb s ∨ (bWorth M nb s = q.2.1 ∧ ¬ q.2.2 ≤ bCost M nb s)) ∧ ¬ pu < bCost M nb s ∧ bOpen M nb s
/-- q is the best of the sets 1 .. m -/
def bBest (M : gM) (nb : Nat) (pu : Int32) : Nat → Int32 × Int32 × Int32 → Prop
  | 0, q => q = (0, 0, 0)
  | m + 1, q => ∃ q0, bBest M nb pu m q0 ∧ ((bTake M nb pu (m + 1) q0 ∧ q = (nI (m + 1), bWorth M nb (m + 1), bCost M nb (m + 1))) ∨ (¬ bTake M nb pu (m + 1) q0 ∧ q = q0))
theorem shl1 : ∀ n, n ≤ 10 → (1 : Int32) <<< (nI n &&& 31) = nI (2 ^ n) := by decide
set_option maxRecDepth 100000 in
set_option maxHeartbeats 1000000 in
theorem lp_X8_best {G : gJ} {P : Int32 → gM → Prop} (hG : gS 2 0 0 yX8_best.cls cX8_best 9 G) (hE : gEi 140 0 0 cX8_best .int P G) {M : gM} {b : Bool} (hR : M.2.2 = stdR b) {nv ns nt nb : Nat} (hnv : M.1 0 7 = nI nv) (lv : nv ≤ 12) (hns : M.1 0 8 = nI ns) (ls : ns ≤ 4) (hnt : M.1 0 9 = nI nt) (lt : nt ≤ 4) (hnb : M.1 0 10 = nI nb) (lb : nb ≤ 10) {pu : Int32} :
    ∀ (n m : Nat) (z w c : Int32) (x6 x7 x8 : Option Value), m + 1 + n = 2 ^ nb → bBest M nb pu m (z, w, c) → (∀ q, bBest M nb pu (2 ^ nb - 1) q → P q.1 M) → G (140, 0, 0) 23 [some (.ref 0), some (.int pu), some (.int z), some (.int w), some (.int c), some (.int (nI (m + 1))), x6, x7, x8] [] M := by
  intro n
  induction n with
  | zero =>
    intro m z w c x6 x7 x8 hm hB hP
    have h10 : 2 ^ nb ≤ 2 ^ 10 := Nat.pow_le_pow_right (by decide) lb
    refine r_iload hG dX8_best_23 rfl ?_
    refine r_iconst hG (1) dX8_best_25 (by decide) ?_
    refine r_aload_n hG dX8_best_26 rfl ?_
    refine r_getIv hG 10 (nI nb) fk_X8_169 dX8_best_27 rfl (by decide) rfl hnb ?_
    refine r_ishl hG dX8_best_30 ?_
    refine r_top (nI (2 ^ nb)) (shl1 nb lb) ?_
    refine r_icmp_ge hG 112 dX8_best_31 (by decide) (fun hc31 => ?_) (fun hc31 => absurd (nle_f (a := (2 ^ nb)) (b := (m + 1)) (by omega) (by omega) hc31) (by omega))
    refine r_iload_n hG dX8_best_112 rfl ?_
    refine hE _ _ _ _ _ dX8_best_113 rfl (Nat.le_refl _) (Nat.le_refl _) rfl ?_
    refine hP (z, w, c) ?_
    rw [show 2 ^ nb - 1 = m by omega]
    exact hB
  | succ n ih =>
    intro m z w c x6 x7 x8 hm hB hP
    have h10 : 2 ^ nb ≤ 2 ^ 10 := Nat.pow_le_pow_right (by decide) lb
    refine r_iload hG dX8_best_23 rfl ?_
    refine r_iconst hG (1) dX8_best_25 (by decide) ?_
    refine r_aload_n hG dX8_best_26 rfl ?_
    refine r_getIv hG 10 (nI nb) fk_X8_169 dX8_best_27 rfl (by decide) rfl hnb ?_
    refine r_ishl hG dX8_best_30 ?_
    refine r_top (nI (2 ^ nb)) (shl1 nb lb) ?_
    refine r_icmp_ge hG 112 dX8_best_31 (by decide) (fun hc31 => absurd (nle_t (a := (2 ^ nb)) (b := (m + 1)) (by omega) (by omega) hc31) (by omega)) (fun hc31 => ?_)
    refine r_aload_n hG dX8_best_34 rfl ?_
    refine r_iload hG dX8_best_35 rfl ?_
    refine r_cVI1 hG mk_X8_181 dX8_best_37 rfl (by decide) (ct_X8_costOf hR hnv lv hns ls hnt lt hnb lb (m + 1)) (by decide) ⟨Nat.le_refl _, Nat.le_refl _⟩ (Nat.le_of_ble_eq_true rfl) (fun x9 M9 h9 => ?_)
    obtain ⟨e8, e9⟩ := h9
    rw [e8, e9]
    refine r_top (bCost M nb (m + 1)) rfl ?_
    refine r_istore hG dX8_best_40 (by decide) ?_
    refine r_loc [some (.ref 0), some (.int pu), some (.int z), some (.int w), some (.int c), some (.int (nI (m + 1))), some (.int (bCost M nb (m + 1))), x7, x8] rfl ?_
    refine r_aload_n hG dX8_best_42 rfl ?_
    refine r_iload hG dX8_best_43 rfl ?_
    refine r_cVI1 hG mk_X8_185 dX8_best_45 rfl (by decide) (ct_X8_worthOf hR hnv lv hns ls hnt lt hnb lb (m + 1)) (by decide) ⟨Nat.le_refl _, Nat.le_refl _⟩ (Nat.le_of_ble_eq_true rfl) (fun x9 M9 h9 => ?_)
    obtain ⟨e8, e9⟩ := h9
    rw [e8, e9]
    refine r_top (bWorth M nb (m + 1)) rfl ?_
    refine r_istore hG dX8_best_48 (by decide) ?_
    refine r_loc [some (.ref 0), some (.int pu), some (.int z), some (.int w), some (.int c), some (.int (nI (m + 1))), some (.int (bCost M nb (m + 1))), some (.int (bWorth M nb (m + 1))), x8] rfl ?_
    refine r_iload hG dX8_best_50 rfl ?_
    refine r_iload_n hG dX8_best_52 rfl ?_
    refine r_icmp_gt hG 69 dX8_best_53 (by decide) (fun hc53 => ?_) (fun hc53 => ?_)
    · refine r_iconst hG (1) dX8_best_69 (by decide) ?_
      refine r_goto hG 74 dX8_best_70 (by decide) ?_
      refine r_istore hG dX8_best_74 (by decide) ?_
      refine r_loc [some (.ref 0), some (.int pu), some (.int z), some (.int w), some (.int c), some (.int (nI (m + 1))), some (.int (bCost M nb (m + 1))), some (.int (bWorth M nb (m + 1))), some (.int (1))] rfl ?_
      refine r_iload hG dX8_best_76 rfl ?_
      refine r_if_eq hG 106 dX8_best_78 (by decide) (fun hc78 => absurd hc78 (by decide)) (fun hc78 => ?_)
      refine r_iload hG dX8_best_81 rfl ?_
      refine r_iload_n hG dX8_best_83 rfl ?_
      refine r_icmp_gt hG 106 dX8_best_84 (by decide) (fun hc84 => ?_) (fun hc84 => ?_)
      · refine r_iinc hG (1) dX8_best_106 (by decide) rfl ?_
        refine r_loc [some (.ref 0), some (.int pu), some (.int z), some (.int w), some (.int c), some (.int ((nI (m + 1)) + (1))), some (.int (bCost M nb (m + 1))), some (.int (bWorth M nb (m + 1))), some (.int (1))] rfl ?_
        refine r_goto hG 23 dX8_best_109 (by decide) ?_
        rw [nI_1]
        refine ih (m + 1) _ _ _ _ _ _ (by omega) ⟨_, hB, Or.inr ⟨fun q => ?_, rfl⟩⟩ hP
        exact q.2.1 hc84
      · refine r_aload_n hG dX8_best_87 rfl ?_
        refine r_iload hG dX8_best_88 rfl ?_
        refine r_cVI1 hG mk_X8_188 dX8_best_90 rfl (by decide) (ct_X8_noneDrilled hR hnv lv hns ls hnt lt hnb lb (m + 1)) (by decide) ⟨Nat.le_refl _, Nat.le_refl _⟩ (Nat.le_of_ble_eq_true rfl) (fun x9 M9 h9 => ?_)
        obtain ⟨h8, e9⟩ := h9; rw [e9]; rcases h8 with ⟨e8, hw90⟩ | ⟨e8, hw90⟩
        · rw [e8]
          refine r_if_eq hG 106 dX8_best_93 (by decide) (fun hc93 => absurd hc93 (by decide)) (fun hc93 => ?_)
          refine r_iload hG dX8_best_96 rfl ?_
          refine r_istore_n hG dX8_best_98 (by decide) ?_
          refine r_loc [some (.ref 0), some (.int pu), some (.int (nI (m + 1))), some (.int w), some (.int c), some (.int (nI (m + 1))), some (.int (bCost M nb (m + 1))), some (.int (bWorth M nb (m + 1))), some (.int (1))] rfl ?_
          refine r_iload hG dX8_best_99 rfl ?_
          refine r_istore_n hG dX8_best_101 (by decide) ?_
          refine r_loc [some (.ref 0), some (.int pu), some (.int (nI (m + 1))), some (.int (bWorth M nb (m + 1))), some (.int c), some (.int (nI (m + 1))), some (.int (bCost M nb (m + 1))), some (.int (bWorth M nb (m + 1))), some (.int (1))] rfl ?_
          refine r_iload hG dX8_best_102 rfl ?_
          refine r_istore hG dX8_best_104 (by decide) ?_
          refine r_loc [some (.ref 0), some (.int pu), some (.int (nI (m + 1))), some (.int (bWorth M nb (m + 1))), some (.int (bCost M nb (m + 1))), some (.int (nI (m + 1))), some (.int (bCost M nb (m + 1))), some (.int (bWorth M nb (m + 1))), some (.int (1))] rfl ?_
          refine r_iinc hG (1) dX8_best_106 (by decide) rfl ?_
          refine r_loc [some (.ref 0), some (.int pu), some (.int (nI (m + 1))), some (.int (bWorth M nb (m + 1))), some (.int (bCost M nb (m + 1))), some (.int ((nI (m + 1)) + (1))), some (.int (bCost M nb (m + 1))), some (.int (bWorth M nb (m + 1))), some (.int (1))] rfl ?_
          refine r_goto hG 23 dX8_best_109 (by decide) ?_
          rw [nI_1]
          exact ih (m + 1) _ _ _ _ _ _ (by omega) ⟨_, hB, Or.inl ⟨⟨Or.inl hc53, hc84, hw90⟩, rfl⟩⟩ hP
        · rw [e8]
          refine r_if_eq hG 106 dX8_best_93 (by decide) (fun hc93 => ?_) (fun hc93 => absurd hc93 (by decide))
          refine r_iinc hG (1) dX8_best_106 (by decide) rfl ?_
          refine r_loc [some (.ref 0), some (.int pu), some (.int z), some (.int w), some (.int c), some (.int ((nI (m + 1)) + (1))), some (.int (bCost M nb (m + 1))), some (.int (bWorth M nb (m + 1))), some (.int (1))] rfl ?_
          refine r_goto hG 23 dX8_best_109 (by decide) ?_
          rw [nI_1]
          refine ih (m + 1) _ _ _ _ _ _ (by omega) ⟨_, hB, Or.inr ⟨fun q => ?_, rfl⟩⟩ hP
          exact hw90 q.2.2
    · refine r_iload hG dX8_best_56 rfl ?_
      refine r_iload_n hG dX8_best_58 rfl ?_
      refine r_icmp_ne hG 73 dX8_best_59 (by decide) (fun hc59 => ?_) (fun hc59 => ?_)
      · refine r_iconst hG (0) dX8_best_73 (by decide) ?_
        refine r_istore hG dX8_best_74 (by decide) ?_
        refine r_loc [some (.ref 0), some (.int pu), some (.int z), some (.int w), some (.int c), some (.int (nI (m + 1))), some (.int (bCost M nb (m + 1))), some (.int (bWorth M nb (m + 1))), some (.int (0))] rfl ?_
        refine r_iload hG dX8_best_76 rfl ?_
        refine r_if_eq hG 106 dX8_best_78 (by decide) (fun hc78 => ?_) (fun hc78 => absurd hc78 (by decide))
        refine r_iinc hG (1) dX8_best_106 (by decide) rfl ?_
        refine r_loc [some (.ref 0), some (.int pu), some (.int z), some (.int w), some (.int c), some (.int ((nI (m + 1)) + (1))), some (.int (bCost M nb (m + 1))), some (.int (bWorth M nb (m + 1))), some (.int (0))] rfl ?_
        refine r_goto hG 23 dX8_best_109 (by decide) ?_
        rw [nI_1]
        refine ih (m + 1) _ _ _ _ _ _ (by omega) ⟨_, hB, Or.inr ⟨fun q => ?_, rfl⟩⟩ hP
        rcases q.1 with q1 | q1
        · exact hc53 q1
        · exact hc59 q1.1
      · refine r_iload hG dX8_best_62 rfl ?_
        refine r_iload hG dX8_best_64 rfl ?_
        refine r_icmp_ge hG 73 dX8_best_66 (by decide) (fun hc66 => ?_) (fun hc66 => ?_)
        · refine r_iconst hG (0) dX8_best_73 (by decide) ?_
          refine r_istore hG dX8_best_74 (by decide) ?_
          refine r_loc [some (.ref 0), some (.int pu), some (.int z), some (.int w), some (.int c), some (.int (nI (m + 1))), some (.int (bCost M nb (m + 1))), some (.int (bWorth M nb (m + 1))), some (.int (0))] rfl ?_
          refine r_iload hG dX8_best_76 rfl ?_
          refine r_if_eq hG 106 dX8_best_78 (by decide) (fun hc78 => ?_) (fun hc78 => absurd hc78 (by decide))
          refine r_iinc hG (1) dX8_best_106 (by decide) rfl ?_
          refine r_loc [some (.ref 0), some (.int pu), some (.int z), some (.int w), some (.int c), some (.int ((nI (m + 1)) + (1))), some (.int (bCost M nb (m + 1))), some (.int (bWorth M nb (m + 1))), some (.int (0))] rfl ?_
          refine r_goto hG 23 dX8_best_109 (by decide) ?_
          rw [nI_1]
          refine ih (m + 1) _ _ _ _ _ _ (by omega) ⟨_, hB, Or.inr ⟨fun q => ?_, rfl⟩⟩ hP
          rcases q.1 with q1 | q1
          · exact hc53 q1
          · exact q1.2 hc66
        · refine r_iconst hG (1) dX8_best_69 (by decide) ?_
          refine r_goto hG 74 dX8_best_70 (by decide) ?_
          refine r_istore hG dX8_best_74 (by decide) ?_
          refine r_loc [some (.ref 0), some (.int pu), some (.int z), some (.int w), some (.int c), some (.int (nI (m + 1))), some (.int (bCost M nb (m + 1))), some (.int (bWorth M nb (m + 1))), some (.int (1))] rfl ?_
          refine r_iload hG dX8_best_76 rfl ?_
          refine r_if_eq hG 106 dX8_best_78 (by decide) (fun hc78 => absurd hc78 (by decide)) (fun hc78 => ?_)
          refine r_iload hG dX8_best_81 rfl ?_
          refine r_iload_n hG dX8_best_83 rfl ?_
          refine r_icmp_gt hG 106 dX8_best_84 (by decide) (fun hc84 => ?_) (fun hc84 => ?_)
          · refine r_iinc hG (1) dX8_best_106 (by decide) rfl ?_
            refine r_loc [some (.ref 0), some (.int pu), some (.int z), some (.int w), some (.int c), some (.int ((nI (m + 1)) + (1))), some (.int (bCost M nb (m + 1))), some (.int (bWorth M nb (m + 1))), some (.int (1))] rfl ?_
            refine r_goto hG 23 dX8_best_109 (by decide) ?_
            rw [nI_1]
            refine ih (m + 1) _ _ _ _ _ _ (by omega) ⟨_, hB, Or.inr ⟨fun q => ?_, rfl⟩⟩ hP
            exact q.2.1 hc84
          · refine r_aload_n hG dX8_best_87 rfl ?_
            refine r_iload hG dX8_best_88 rfl ?_
            refine r_cVI1 hG mk_X8_188 dX8_best_90 rfl (by decide) (ct_X8_noneDrilled hR hnv lv hns ls hnt lt hnb lb (m + 1)) (by decide) ⟨Nat.le_refl _, Nat.le_refl _⟩ (Nat.le_of_ble_eq_true rfl) (fun x9 M9 h9 => ?_)
            obtain ⟨h8, e9⟩ := h9; rw [e9]; rcases h8 with ⟨e8, hw90⟩ | ⟨e8, hw90⟩
            · rw [e8]
              refine r_if_eq hG 106 dX8_best_93 (by decide) (fun hc93 => absurd hc93 (by decide)) (fun hc93 => ?_)
              refine r_iload hG dX8_best_96 rfl ?_
              refine r_istore_n hG dX8_best_98 (by decide) ?_
              refine r_loc [some (.ref 0), some (.int pu), some (.int (nI (m + 1))), some (.int w), some (.int c), some (.int (nI (m + 1))), some (.int (bCost M nb (m + 1))), some (.int (bWorth M nb (m + 1))), some (.int (1))] rfl ?_
              refine r_iload hG dX8_best_99 rfl ?_
              refine r_istore_n hG dX8_best_101 (by decide) ?_
              refine r_loc [some (.ref 0), some (.int pu), some (.int (nI (m + 1))), some (.int (bWorth M nb (m + 1))), some (.int c), some (.int (nI (m + 1))), some (.int (bCost M nb (m + 1))), some (.int (bWorth M nb (m + 1))), some (.int (1))] rfl ?_
              refine r_iload hG dX8_best_102 rfl ?_
              refine r_istore hG dX8_best_104 (by decide) ?_
              refine r_loc [some (.ref 0), some (.int pu), some (.int (nI (m + 1))), some (.int (bWorth M nb (m + 1))), some (.int (bCost M nb (m + 1))), some (.int (nI (m + 1))), some (.int (bCost M nb (m + 1))), some (.int (bWorth M nb (m + 1))), some (.int (1))] rfl ?_
              refine r_iinc hG (1) dX8_best_106 (by decide) rfl ?_
              refine r_loc [some (.ref 0), some (.int pu), some (.int (nI (m + 1))), some (.int (bWorth M nb (m + 1))), some (.int (bCost M nb (m + 1))), some (.int ((nI (m + 1)) + (1))), some (.int (bCost M nb (m + 1))), some (.int (bWorth M nb (m + 1))), some (.int (1))] rfl ?_
              refine r_goto hG 23 dX8_best_109 (by decide) ?_
              rw [nI_1]
              exact ih (m + 1) _ _ _ _ _ _ (by omega) ⟨_, hB, Or.inl ⟨⟨Or.inr ⟨hc59, hc66⟩, hc84, hw90⟩, rfl⟩⟩ hP
            · rw [e8]
              refine r_if_eq hG 106 dX8_best_93 (by decide) (fun hc93 => ?_) (fun hc93 => absurd hc93 (by decide))
              refine r_iinc hG (1) dX8_best_106 (by decide) rfl ?_
              refine r_loc [some (.ref 0), some (.int pu), some (.int z), some (.int w), some (.int c), some (.int ((nI (m + 1)) + (1))), some (.int (bCost M nb (m + 1))), some (.int (bWorth M nb (m + 1))), some (.int (1))] rfl ?_
              refine r_goto hG 23 dX8_best_109 (by decide) ?_
              rw [nI_1]
              refine ih (m + 1) _ _ _ _ _ _ (by omega) ⟨_, hB, Or.inr ⟨fun q => ?_, rfl⟩⟩ hP
              exact hw90 q.2.2

set_option maxRecDepth 100000 in
set_option maxHeartbeats 1000000 in
theorem ct_X8_best {M : gM} {b : Bool} (hR : M.2.2 = stdR b) {nv ns nt nb : Nat} (hnv : M.1 0 7 = nI nv) (lv : nv ≤ 12) (hns : M.1 0 8 = nI ns) (ls : ns ≤ 4) (hnt : M.1 0 9 = nI nt) (lt : nt ≤ 4) (hnb : M.1 0 10 = nI nb) (lb : nb ≤ 10) (pu : Int32) : gC 2 0 0 yX8_best cX8_best 9 (some .int) 140 140 [.ref 0, .int pu] M (gI (fun r M9 => (((0 ≤ pu ∧ pu ≤ 9999) ∧ ∃ q, bBest M nb pu (2 ^ nb - 1) q ∧ r = q.1) ∨ (¬ (0 ≤ pu ∧ pu ≤ 9999) ∧ r = -1)) ∧ M9 = M)) := by
  refine gC_i rfl (Nat.le_of_ble_eq_true rfl) (fun G hG hE => ?_)
  change G (140, 0, 0) 0 [some (.ref 0), some (.int pu), none, none, none, none, none, none, none] [] M
  refine r_iload_n hG dX8_best_0 rfl ?_
  refine r_iconst hG (0) dX8_best_1 (by decide) ?_
  refine r_sipush hG (9999) dX8_best_2 (by decide) ?_
  refine r_cSI3 hG mk_X8_55 dX8_best_5 (ct_X8_within _ _ _) (by decide) ⟨Nat.le_refl _, Nat.le_refl _⟩ (Nat.le_of_ble_eq_true rfl) (fun x9 M9 h9 => ?_)
  obtain ⟨h8, e9⟩ := h9; rw [e9]; rcases h8 with ⟨e8, hw5⟩ | ⟨e8, hw5⟩
  · rw [e8]
    refine r_if_ne hG 13 dX8_best_8 (by decide) (fun hc8 => ?_) (fun hc8 => absurd hc8 (by decide))
    refine r_iconst hG (0) dX8_best_13 (by decide) ?_
    refine r_istore_n hG dX8_best_14 (by decide) ?_
    refine r_loc [some (.ref 0), some (.int pu), some (.int (0)), none, none, none, none, none, none] rfl ?_
    refine r_iconst hG (0) dX8_best_15 (by decide) ?_
    refine r_istore_n hG dX8_best_16 (by decide) ?_
    refine r_loc [some (.ref 0), some (.int pu), some (.int (0)), some (.int (0)), none, none, none, none, none] rfl ?_
    refine r_iconst hG (0) dX8_best_17 (by decide) ?_
    refine r_istore hG dX8_best_18 (by decide) ?_
    refine r_loc [some (.ref 0), some (.int pu), some (.int (0)), some (.int (0)), some (.int (0)), none, none, none, none] rfl ?_
    refine r_iconst hG (1) dX8_best_20 (by decide) ?_
    refine r_istore hG dX8_best_21 (by decide) ?_
    refine r_loc [some (.ref 0), some (.int pu), some (.int (0)), some (.int (0)), some (.int (0)), some (.int (1)), none, none, none] rfl ?_
    exact lp_X8_best hG hE hR hnv lv hns ls hnt lt hnb lb (2 ^ nb - 1) 0 0 0 0 _ _ _ (by have := Nat.two_pow_pos nb; omega) rfl (fun q hq => ⟨Or.inl ⟨hw5, q, hq, rfl⟩, rfl⟩)
  · rw [e8]
    refine r_if_ne hG 13 dX8_best_8 (by decide) (fun hc8 => absurd hc8 (by decide)) (fun hc8 => ?_)
    refine r_iconst hG (-1) dX8_best_11 (by decide) ?_
    refine hE _ _ _ _ _ dX8_best_12 rfl (Nat.le_refl _) (Nat.le_refl _) rfl ?_
    exact ⟨Or.inr ⟨hw5, rfl⟩, rfl⟩


/-- scratch of a test's evaluation -/
def Sv (k j : Nat) : Prop := k = 16 ∨ k = 22 ∨ ((k = 11 ∨ k = 17) ∧ j = 7)
def kdv (be : Bool) : Int32 := if be then tk 12 else tk 11
theorem kd_ne {x y : Bool} (h : ¬ x = y) : ¬ kdv x = kdv y := by
  cases x <;> cases y <;> first | exact absurd rfl h | decide
/-- litres by the first line that holds -/
def litr (F : Nat → Int32) (B : Nat → Bool) (A : Nat → Int32) (ST : Nat → Nat) (C : Nat → Nat × Int32) (be : Bool) (us : Int32) : Nat → Nat → Int32
  | 0, _ => us
  | n + 1, i => if B i = be ∧ ¬ evv F C (ST i) (ST (i + 1)) = 0 then A i else litr F B A ST C be us n (i + 1)
theorem ordC.sv {M M' : gM} {o nl : Nat} {B : Nat → Bool} {A : Nat → Int32} {ST : Nat → Nat} {C : Nat → Nat × Int32} (ho : o = 11 ∨ o = 17) (h : ordC M o nl B A ST C) (hq : gEq Sv M M') : ordC M' o nl B A ST C :=
  h.same ho (hq.mono (fun k j h => by unfold Sv at h; unfold Sc; omega))
set_option maxRecDepth 100000 in
set_option maxHeartbeats 1000000 in
theorem ct_X1_valueOf {M : gM} {b : Bool} (hR : M.2.2 = stdR b) {o : Nat} (ho : o = 11 ∨ o = 17) {nl : Nat} {B : Nat → Bool} {A : Nat → Int32} {ST : Nat → Nat} {C : Nat → Nat × Int32} (hO : ordC M o nl B A ST C) {F : Nat → Int32} (hF : ∀ w, w < 6 → M.1 5 w = F w) {i : Nat} (hi : i < nl) : gC 1 0 0 yX1_valueOf cX1_valueOf 9 (some .int) 140 140 [.ref o, .int (nI i), .ref 5] M (gI (fun r M9 => r = evv F C (ST i) (ST (i + 1)) ∧ gEq Sv M M9)) := by
  refine gC_i rfl (Nat.le_of_ble_eq_true rfl) (fun G hG hE => ?_)
  change G (140, 0, 0) 0 [some (.ref o), some (.int (nI i)), some (.ref 5), none, none, none, none, none, none] [] M
  obtain ⟨l16, hnl, hu, lu, hl, hS⟩ := hO
  obtain ⟨g1, g2, g3, g4, g5⟩ := hl i hi
  have hst : ∀ k, k < nl → M.1 (o + 3) k = nI (ST k) := fun k hk => (hl k hk).2.2.2.1
  have hle := ST_le (fun k hk => (hl k hk).1)
  have b1 := hle i (by omega)
  have b2 := hle (i + 1) (by omega)
  refine r_iload_n hG dX1_valueOf_0 rfl ?_
  refine r_iconst hG (1) dX1_valueOf_1 (by decide) ?_
  refine r_iadd hG dX1_valueOf_2 ?_
  refine r_top (nI (i + 1)) (nI_1 i) ?_
  refine r_aload_n hG dX1_valueOf_3 rfl ?_
  refine r_getIv hG 5 (nI nl) fk_X1_27 dX1_valueOf_4 (gkO ho) (show o < 140 by omega) rfl hnl ?_
  refine r_icmp_ge hG 21 dX1_valueOf_7 (by decide) (fun hc7 => ?_) (fun hc7 => ?_)
  · have hn7 := nle_t (a := nl) (b := (i + 1)) (by omega) (by omega) hc7
    refine r_aload_n hG dX1_valueOf_21 rfl ?_
    refine r_getIv hG 6 (nI (ST (i + 1))) fk_X1_31 dX1_valueOf_22 (gkO ho) (show o < 140 by omega) rfl (by rw [hu, show nl = i + 1 by omega]) ?_
    refine r_istore_n hG dX1_valueOf_25 (by decide) ?_
    refine r_loc [some (.ref o), some (.int (nI i)), some (.ref 5), some (.int (nI (ST (i + 1)))), none, none, none, none, none] rfl ?_
    refine r_aload_n hG dX1_valueOf_26 rfl ?_
    refine r_iconst hG (0) dX1_valueOf_27 (by decide) ?_
    refine r_putI hG 7 fp_X1_38 dX1_valueOf_28 (gkO ho) (show o < 140 by omega) rfl rfl rfl ?_
    refine r_aload_n hG dX1_valueOf_31 rfl ?_
    refine r_getR hG 2 (o + 3) fk_X1_18 dX1_valueOf_32 (gkO ho) (show o < 140 by omega) rfl (sr hR (sRo ho)) ?_
    refine r_iload_n hG dX1_valueOf_35 rfl ?_
    refine r_ialdv hG i (nI (ST i)) dX1_valueOf_36 (gkO3 ho) (show (o + 3) < 140 by omega) rfl (by omega) (by decide) ((gwI_n (by omega)).trans (hst i (by omega))) ?_
    refine r_istore hG dX1_valueOf_37 (by decide) ?_
    refine r_loc [some (.ref o), some (.int (nI i)), some (.ref 5), some (.int (nI (ST (i + 1)))), some (.int (nI (ST i))), none, none, none, none] rfl ?_
    exact lp_X1_valueOf hG hE hR ho (e := ST (i + 1)) (by omega) (fun j hj => hS j (by omega)) (fun M9 hq w hw => (hq.2 5 w (by omega)).trans (hF w hw)) (ST (i + 1) - ST i) (ST i) 0 (fun _ => 0) _ (by omega) (by omega) g5 (gEq.rf.put (by omega)) gwI_s (fun t ht => absurd ht (by omega)) (fun M9 h9 => ⟨rfl, h9⟩) _ _ _ _
  · have hn7 := nle_f (a := nl) (b := (i + 1)) (by omega) (by omega) hc7
    refine r_aload_n hG dX1_valueOf_10 rfl ?_
    refine r_getR hG 2 (o + 3) fk_X1_18 dX1_valueOf_11 (gkO ho) (show o < 140 by omega) rfl (sr hR (sRo ho)) ?_
    refine r_iload_n hG dX1_valueOf_14 rfl ?_
    refine r_iconst hG (1) dX1_valueOf_15 (by decide) ?_
    refine r_iadd hG dX1_valueOf_16 ?_
    refine r_top (nI (i + 1)) (nI_1 i) ?_
    refine r_ialdv hG (i + 1) (nI (ST (i + 1))) dX1_valueOf_17 (gkO3 ho) (show (o + 3) < 140 by omega) rfl (by omega) (by decide) (hst (i + 1) (by omega)) ?_
    refine r_goto hG 25 dX1_valueOf_18 (by decide) ?_
    refine r_istore_n hG dX1_valueOf_25 (by decide) ?_
    refine r_loc [some (.ref o), some (.int (nI i)), some (.ref 5), some (.int (nI (ST (i + 1)))), none, none, none, none, none] rfl ?_
    refine r_aload_n hG dX1_valueOf_26 rfl ?_
    refine r_iconst hG (0) dX1_valueOf_27 (by decide) ?_
    refine r_putI hG 7 fp_X1_38 dX1_valueOf_28 (gkO ho) (show o < 140 by omega) rfl rfl rfl ?_
    refine r_aload_n hG dX1_valueOf_31 rfl ?_
    refine r_getR hG 2 (o + 3) fk_X1_18 dX1_valueOf_32 (gkO ho) (show o < 140 by omega) rfl (sr hR (sRo ho)) ?_
    refine r_iload_n hG dX1_valueOf_35 rfl ?_
    refine r_ialdv hG i (nI (ST i)) dX1_valueOf_36 (gkO3 ho) (show (o + 3) < 140 by omega) rfl (by omega) (by decide) ((gwI_n (by omega)).trans (hst i (by omega))) ?_
    refine r_istore hG dX1_valueOf_37 (by decide) ?_
    refine r_loc [some (.ref o), some (.int (nI i)), some (.ref 5), some (.int (nI (ST (i + 1)))), some (.int (nI (ST i))), none, none, none, none] rfl ?_
    exact lp_X1_valueOf hG hE hR ho (e := ST (i + 1)) (by omega) (fun j hj => hS j (by omega)) (fun M9 hq w hw => (hq.2 5 w (by omega)).trans (hF w hw)) (ST (i + 1) - ST i) (ST i) 0 (fun _ => 0) _ (by omega) (by omega) g5 (gEq.rf.put (by omega)) gwI_s (fun t ht => absurd ht (by omega)) (fun M9 h9 => ⟨rfl, h9⟩) _ _ _ _

set_option maxRecDepth 100000 in
set_option maxHeartbeats 4000000 in
theorem lp_X1_litresFor {G : gJ} {P : Int32 → gM → Prop} (hG : gS 2 0 0 yX1_litresFor.cls cX1_litresFor 5 G) (hE : gEi 140 0 0 cX1_litresFor .int P G) {M0 : gM} {b : Bool} (hR0 : M0.2.2 = stdR b) {o : Nat} (ho : o = 11 ∨ o = 17) {nl : Nat} {B : Nat → Bool} {A : Nat → Int32} {ST : Nat → Nat} {C : Nat → Nat × Int32} (hO : ordC M0 o nl B A ST C) {F : Nat → Int32} (hF0 : ∀ w, w < 6 → M0.1 5 w = F w) (be : Bool) (us : Int32) :
    ∀ (n i : Nat) (M : gM), i + n = nl → gEq Sv M0 M → (∀ M9, gEq Sv M0 M9 → P (litr F B A ST C be us n i) M9) → G (140, 0, 0) 3 [some (.ref o), some (.int (kdv be)), some (.ref 5), some (.int us), some (.int (nI i))] [] M := by
  intro n
  induction n with
  | zero =>
    intro i M hi hq hP
    have hR : M.2.2 = stdR b := by rw [hq.1]; exact hR0
    obtain ⟨l16, hnl, hu, lu, hl, hS⟩ := hO.sv ho hq
    refine r_iload hG dX1_litresFor_3 rfl ?_
    refine r_aload_n hG dX1_litresFor_5 rfl ?_
    refine r_getIv hG 5 (nI nl) fk_X1_27 dX1_litresFor_6 (gkO ho) (show o < 140 by omega) rfl hnl ?_
    refine r_icmp_ge hG 47 dX1_litresFor_9 (by decide) (fun hc9 => ?_) (fun hc9 => absurd (nle_f (a := nl) (b := i) (by omega) (by omega) hc9) (by omega))
    refine r_iload_n hG dX1_litresFor_47 rfl ?_
    refine hE _ _ _ _ _ dX1_litresFor_48 rfl (Nat.le_refl _) (Nat.le_refl _) rfl ?_
    exact hP _ hq
  | succ n ih =>
    intro i M hi hq hP
    have hR : M.2.2 = stdR b := by rw [hq.1]; exact hR0
    have hOM := hO.sv ho hq
    have hF : ∀ w, w < 6 → M.1 5 w = F w := fun w hw => (hq.2 5 w (by unfold Sv; omega)).trans (hF0 w hw)
    obtain ⟨l16, hnl, hu, lu, hl, hS⟩ := id hOM
    obtain ⟨g1, g2, g3, g4, g5⟩ := hl i (by omega)
    by_cases hB : B i = be
    · skip
      refine r_iload hG dX1_litresFor_3 rfl ?_
      refine r_aload_n hG dX1_litresFor_5 rfl ?_
      refine r_getIv hG 5 (nI nl) fk_X1_27 dX1_litresFor_6 (gkO ho) (show o < 140 by omega) rfl hnl ?_
      refine r_icmp_ge hG 47 dX1_litresFor_9 (by decide) (fun hc9 => absurd (nle_t (a := nl) (b := i) (by omega) (by omega) hc9) (by omega)) (fun hc9 => ?_)
      refine r_aload_n hG dX1_litresFor_12 rfl ?_
      refine r_getR hG 0 (o + 1) fk_X1_9 dX1_litresFor_13 (gkO ho) (show o < 140 by omega) rfl (sr hR (sRo ho)) ?_
      refine r_iload hG dX1_litresFor_16 rfl ?_
      refine r_ialdv hG i (kdv be) dX1_litresFor_18 (gkO1 ho) (show (o + 1) < 140 by omega) rfl (by omega) (by decide) (by rw [g2, hB]; rfl) ?_
      refine r_iload_n hG dX1_litresFor_19 rfl ?_
      refine r_icmp_ne hG 41 dX1_litresFor_20 (by decide) (fun hc20 => absurd rfl hc20) (fun hc20 => ?_)
      refine r_aload_n hG dX1_litresFor_23 rfl ?_
      refine r_iload hG dX1_litresFor_24 rfl ?_
      refine r_aload_n hG dX1_litresFor_26 rfl ?_
      refine r_cVI2 hG mk_X1_34 dX1_litresFor_27 (gkO ho) (show o < 140 by omega) (ct_X1_valueOf hR ho hOM hF (i := i) (by omega)) (by decide) ⟨Nat.le_refl _, Nat.le_refl _⟩ (Nat.le_of_ble_eq_true rfl) (fun x9 M27 h9 => ?_)
      obtain ⟨e8, hq27⟩ := h9
      rw [e8]
      have hR : M27.2.2 = stdR b := by rw [hq27.1]; exact hR
      refine r_if_eq hG 41 dX1_litresFor_30 (by decide) (fun hc30 => ?_) (fun hc30 => ?_)
      · refine r_iinc hG (1) dX1_litresFor_41 (by decide) rfl ?_
        refine r_loc [some (.ref o), some (.int (kdv be)), some (.ref 5), some (.int us), some (.int ((nI i) + (1)))] rfl ?_
        refine r_goto hG 3 dX1_litresFor_44 (by decide) ?_
        rw [nI_1]
        refine ih (i + 1) _ (by omega) (hq.trans hq27) (fun M9 h9 => ?_)
        have e3 : litr F B A ST C be us (n + 1) i = litr F B A ST C be us n (i + 1) := by
          unfold litr
          rw [if_neg (fun q => q.2 hc30)]
          cases n <;> rfl
        rw [← e3]
        exact hP M9 h9
      · refine r_aload_n hG dX1_litresFor_33 rfl ?_
        refine r_getR hG 1 (o + 2) fk_X1_15 dX1_litresFor_34 (gkO ho) (show o < 140 by omega) rfl (sr hR (sRo ho)) ?_
        refine r_iload hG dX1_litresFor_37 rfl ?_
        refine r_ialdv hG i (A i) dX1_litresFor_39 (gkO2 ho) (show (o + 2) < 140 by omega) rfl (by omega) (by decide) ((hq27.2 (o + 2) i (by unfold Sv; omega)).trans g3) ?_
        refine hE _ _ _ _ _ dX1_litresFor_40 rfl (Nat.le_refl _) (Nat.le_refl _) rfl ?_
        have e3 : litr F B A ST C be us (n + 1) i = A i := by
          unfold litr
          rw [if_pos ⟨hB, hc30⟩]
        rw [← e3]
        exact hP _ (hq.trans hq27)
    · skip
      refine r_iload hG dX1_litresFor_3 rfl ?_
      refine r_aload_n hG dX1_litresFor_5 rfl ?_
      refine r_getIv hG 5 (nI nl) fk_X1_27 dX1_litresFor_6 (gkO ho) (show o < 140 by omega) rfl hnl ?_
      refine r_icmp_ge hG 47 dX1_litresFor_9 (by decide) (fun hc9 => absurd (nle_t (a := nl) (b := i) (by omega) (by omega) hc9) (by omega)) (fun hc9 => ?_)
      refine r_aload_n hG dX1_litresFor_12 rfl ?_
      refine r_getR hG 0 (o + 1) fk_X1_9 dX1_litresFor_13 (gkO ho) (show o < 140 by omega) rfl (sr hR (sRo ho)) ?_
      refine r_iload hG dX1_litresFor_16 rfl ?_
      refine r_ialdv hG i (kdv (B i)) dX1_litresFor_18 (gkO1 ho) (show (o + 1) < 140 by omega) rfl (by omega) (by decide) g2 ?_
      refine r_iload_n hG dX1_litresFor_19 rfl ?_
      refine r_icmp_ne hG 41 dX1_litresFor_20 (by decide) (fun hc20 => ?_) (fun hc20 => absurd hc20 (kd_ne hB))
      refine r_iinc hG (1) dX1_litresFor_41 (by decide) rfl ?_
      refine r_loc [some (.ref o), some (.int (kdv be)), some (.ref 5), some (.int us), some (.int ((nI i) + (1)))] rfl ?_
      refine r_goto hG 3 dX1_litresFor_44 (by decide) ?_
      rw [nI_1]
      refine ih (i + 1) _ (by omega) hq (fun M9 h9 => ?_)
      have e3 : litr F B A ST C be us (n + 1) i = litr F B A ST C be us n (i + 1) := by
        unfold litr
        rw [if_neg (fun q => hB q.1)]
        cases n <;> rfl
      rw [← e3]
      exact hP M9 h9

set_option maxRecDepth 100000 in
set_option maxHeartbeats 1000000 in
theorem ct_X1_litresFor {M : gM} {b : Bool} (hR : M.2.2 = stdR b) {o : Nat} (ho : o = 11 ∨ o = 17) {nl : Nat} {B : Nat → Bool} {A : Nat → Int32} {ST : Nat → Nat} {C : Nat → Nat × Int32} (hO : ordC M o nl B A ST C) {F : Nat → Int32} (hF : ∀ w, w < 6 → M.1 5 w = F w) (be : Bool) (us : Int32) : gC 2 0 0 yX1_litresFor cX1_litresFor 5 (some .int) 140 140 [.ref o, .int (kdv be), .ref 5, .int us] M (gI (fun r M9 => r = litr F B A ST C be us nl 0 ∧ gEq Sv M M9)) := by
  refine gC_i rfl (Nat.le_of_ble_eq_true rfl) (fun G hG hE => ?_)
  change G (140, 0, 0) 0 [some (.ref o), some (.int (kdv be)), some (.ref 5), some (.int us), none] [] M
  refine r_iconst hG (0) dX1_litresFor_0 (by decide) ?_
  refine r_istore hG dX1_litresFor_1 (by decide) ?_
  refine r_loc [some (.ref o), some (.int (kdv be)), some (.ref 5), some (.int us), some (.int (0))] rfl ?_
  exact lp_X1_litresFor hG hE hR ho hO hF be us nl 0 M (by omega) gEq.rf (fun M9 h9 => ⟨rfl, h9⟩)

def fct (M : gM) (k : Nat) : Nat → Int32
  | 0 => M.1 0 12 + 1
  | 1 => M.1 k 0
  | 2 => M.1 k 1
  | 3 => M.1 k 7
  | 4 => hund M k
  | _ => M.1 0 13
def wantV (M : gM) (k nl : Nat) (B : Nat → Bool) (A : Nat → Int32) (ST : Nat → Nat) (C : Nat → Nat × Int32) : Int32 :=
  M.1 k 0 * litr (fct M k) B A ST C false 10 nl 0 + M.1 k 1 * litr (fct M k) B A ST C true 20 nl 0
theorem fct6 {M : gM} {k : Nat} (hk : 41 < k) : ∀ w, w < 6 → (gwI (gwI (gwI (gwI (gwI (gwI M 5 0 (M.1 0 12 + 1)) 5 1 (M.1 k 0)) 5 2 (M.1 k 1)) 5 3 (M.1 k 7)) 5 4 (hund M k)) 5 5 (M.1 0 13)).1 5 w = fct M k w := by
  intro w hw
  rcases (show w = 0 ∨ w = 1 ∨ w = 2 ∨ w = 3 ∨ w = 4 ∨ w = 5 by omega) with rfl | rfl | rfl | rfl | rfl | rfl <;> simp [gwI_rd, fct]
theorem sc5 {M : gM} {v0 v1 v2 v3 v4 v5 : Int32} : gEq Sc M (gwI (gwI (gwI (gwI (gwI (gwI M 5 0 v0) 5 1 v1) 5 2 v2) 5 3 v3) 5 4 v4) 5 5 v5) :=
  (((((gEq.rf.put (Or.inl rfl)).put (Or.inl rfl)).put (Or.inl rfl)).put (Or.inl rfl)).put (Or.inl rfl)).put (Or.inl rfl)
theorem svc {k j : Nat} (h : Sv k j) : Sc k j := by unfold Sv at h; unfold Sc; omega
set_option maxRecDepth 100000 in
set_option maxHeartbeats 1000000 in
theorem ct_X8_wantOf {M : gM} {b : Bool} (hR : M.2.2 = stdR b) {o : Nat} (hob : o = if b then 17 else 11) {nl : Nat} {B : Nat → Bool} {A : Nat → Int32} {ST : Nat → Nat} {C : Nat → Nat × Int32} (hO : ordC M o nl B A ST C) {i : Nat} (hi : i < 12) : gC 3 0 0 yX8_wantOf cX8_wantOf 3 (some .int) 140 140 [.ref 0, .ref (2 * i + 42)] M (gI (fun r M9 => r = wantV M (2 * i + 42) nl B A ST C ∧ gEq Sc M M9)) := by
  refine gC_i rfl (Nat.le_of_ble_eq_true rfl) (fun G hG hE => ?_)
  change G (140, 0, 0) 0 [some (.ref 0), some (.ref (2 * i + 42)), none] [] M
  have ho : o = 11 ∨ o = 17 := by cases b <;> simp at hob <;> omega
  refine r_aload_n hG dX8_wantOf_0 rfl ?_
  refine r_getR hG 4 5 fk_X8_33 dX8_wantOf_1 rfl (by decide) rfl (sr hR rfl) ?_
  refine r_iconst hG (0) dX8_wantOf_4 (by decide) ?_
  refine r_aload_n hG dX8_wantOf_5 rfl ?_
  refine r_getI hG 12 fk_X8_154 dX8_wantOf_6 rfl (by decide) rfl ?_
  refine r_iconst hG (1) dX8_wantOf_9 (by decide) ?_
  refine r_iadd hG dX8_wantOf_10 ?_
  refine r_iast hG 0 dX8_wantOf_11 rfl (by decide) rfl (by decide) (by decide) ?_
  refine r_aload_n hG dX8_wantOf_12 rfl ?_
  refine r_getR hG 4 5 fk_X8_33 dX8_wantOf_13 rfl (by decide) rfl (sr hR rfl) ?_
  refine r_iconst hG (1) dX8_wantOf_16 (by decide) ?_
  refine r_aload_n hG dX8_wantOf_17 rfl ?_
  refine r_getIv hG 0 (M.1 (2 * i + 42) 0) fk_X8_64 dX8_wantOf_18 (gkV (by omega)) (show (2 * i + 42) < 140 by omega) rfl (gwI_n (by omega)) ?_
  refine r_iast hG 1 dX8_wantOf_21 rfl (by decide) rfl (by decide) (by decide) ?_
  refine r_aload_n hG dX8_wantOf_22 rfl ?_
  refine r_getR hG 4 5 fk_X8_33 dX8_wantOf_23 rfl (by decide) rfl (sr hR rfl) ?_
  refine r_iconst hG (2) dX8_wantOf_26 (by decide) ?_
  refine r_aload_n hG dX8_wantOf_27 rfl ?_
  refine r_getIv hG 1 (M.1 (2 * i + 42) 1) fk_X8_67 dX8_wantOf_28 (gkV (by omega)) (show (2 * i + 42) < 140 by omega) rfl ((gwI_n (by omega)).trans (gwI_n (by omega))) ?_
  refine r_iast hG 2 dX8_wantOf_31 rfl (by decide) rfl (by decide) (by decide) ?_
  refine r_aload_n hG dX8_wantOf_32 rfl ?_
  refine r_getR hG 4 5 fk_X8_33 dX8_wantOf_33 rfl (by decide) rfl (sr hR rfl) ?_
  refine r_iconst hG (3) dX8_wantOf_36 (by decide) ?_
  refine r_aload_n hG dX8_wantOf_37 rfl ?_
  refine r_getIv hG 7 (M.1 (2 * i + 42) 7) fk_X8_243 dX8_wantOf_38 (gkV (by omega)) (show (2 * i + 42) < 140 by omega) rfl ((gwI_n (by omega)).trans ((gwI_n (by omega)).trans (gwI_n (by omega)))) ?_
  refine r_iast hG 3 dX8_wantOf_41 rfl (by decide) rfl (by decide) (by decide) ?_
  refine r_aload_n hG dX8_wantOf_42 rfl ?_
  refine r_getR hG 4 5 fk_X8_33 dX8_wantOf_43 rfl (by decide) rfl (sr hR rfl) ?_
  refine r_iconst hG (4) dX8_wantOf_46 (by decide) ?_
  refine r_aload_n hG dX8_wantOf_47 rfl ?_
  refine r_cVI0 hG mk_X8_246 dX8_wantOf_48 (gkV (by omega)) (show (2 * i + 42) < 140 by omega) (ct_X7_hundredths (by exact hR) hi) (by decide) ⟨Nat.le_refl _, Nat.le_refl _⟩ (Nat.le_of_ble_eq_true rfl) (fun x9 M9 h9 => ?_)
  obtain ⟨e8, e9⟩ := h9
  rw [e8, e9]
  refine r_top (hund M (2 * i + 42)) (by simp [hund, gwI_rd]) ?_
  refine r_iast hG 4 dX8_wantOf_51 rfl (by decide) rfl (by decide) (by decide) ?_
  refine r_aload_n hG dX8_wantOf_52 rfl ?_
  refine r_getR hG 4 5 fk_X8_33 dX8_wantOf_53 rfl (by decide) rfl (sr hR rfl) ?_
  refine r_iconst hG (5) dX8_wantOf_56 (by decide) ?_
  refine r_aload_n hG dX8_wantOf_57 rfl ?_
  refine r_getIv hG 13 (M.1 0 13) fk_X8_228 dX8_wantOf_58 rfl (by decide) rfl ((gwI_n (by omega)).trans ((gwI_n (by omega)).trans ((gwI_n (by omega)).trans ((gwI_n (by omega)).trans (gwI_n (by omega)))))) ?_
  refine r_iast hG 5 dX8_wantOf_61 rfl (by decide) rfl (by decide) (by decide) ?_
  refine r_aload_n hG dX8_wantOf_62 rfl ?_
  refine r_getR hG 5 6 fk_X8_40 dX8_wantOf_63 rfl (by decide) rfl (sr hR rfl) ?_
  refine r_getR hG 1 o fk_X8_234 dX8_wantOf_66 rfl (by decide) rfl (sr hR (by rw [hob]; rfl)) ?_
  refine r_astore_n hG dX8_wantOf_69 (by decide) ?_
  refine r_loc [some (.ref 0), some (.ref (2 * i + 42)), some (.ref o)] rfl ?_
  refine r_aload_n hG dX8_wantOf_70 rfl ?_
  refine r_getIv hG 0 (M.1 (2 * i + 42) 0) fk_X8_64 dX8_wantOf_71 (gkV (by omega)) (show (2 * i + 42) < 140 by omega) rfl ((gwI_n (by omega)).trans ((gwI_n (by omega)).trans ((gwI_n (by omega)).trans ((gwI_n (by omega)).trans ((gwI_n (by omega)).trans (gwI_n (by omega))))))) ?_
  refine r_aload_n hG dX8_wantOf_74 rfl ?_
  refine r_bipush hG (-12) dX8_wantOf_75 (by decide) ?_
  refine r_aload_n hG dX8_wantOf_77 rfl ?_
  refine r_getR hG 4 5 fk_X8_33 dX8_wantOf_78 rfl (by decide) rfl (sr hR rfl) ?_
  refine r_bipush hG (10) dX8_wantOf_81 (by decide) ?_
  refine r_cVI3 hG mk_X8_249 dX8_wantOf_83 (gkO ho) (show o < 140 by omega) (ct_X1_litresFor (F := fct M (2 * i + 42)) (by exact hR) ho (hO.same ho sc5) (fct6 (by omega)) false 10) (by decide) ⟨Nat.le_refl _, Nat.le_refl _⟩ (Nat.le_of_ble_eq_true rfl) (fun x9 M83 h9 => ?_)
  obtain ⟨e8, hq83⟩ := h9
  rw [e8]
  have hR : M83.2.2 = stdR b := by rw [hq83.1]; exact hR
  refine r_imul hG dX8_wantOf_86 ?_
  refine r_aload_n hG dX8_wantOf_87 rfl ?_
  refine r_getIv hG 1 (M.1 (2 * i + 42) 1) fk_X8_67 dX8_wantOf_88 (gkV (by omega)) (show (2 * i + 42) < 140 by omega) rfl ((hq83.2 (2 * i + 42) 1 (by first | (unfold Sv; omega) | (unfold Sc; omega) | (unfold Sp; omega) | omega)).trans ((gwI_n (by omega)).trans ((gwI_n (by omega)).trans ((gwI_n (by omega)).trans ((gwI_n (by omega)).trans ((gwI_n (by omega)).trans (gwI_n (by omega)))))))) ?_
  refine r_aload_n hG dX8_wantOf_91 rfl ?_
  refine r_bipush hG (-13) dX8_wantOf_92 (by decide) ?_
  refine r_aload_n hG dX8_wantOf_94 rfl ?_
  refine r_getR hG 4 5 fk_X8_33 dX8_wantOf_95 rfl (by decide) rfl (sr hR rfl) ?_
  refine r_bipush hG (20) dX8_wantOf_98 (by decide) ?_
  refine r_cVI3 hG mk_X8_249 dX8_wantOf_100 (gkO ho) (show o < 140 by omega) (ct_X1_litresFor (F := fct M (2 * i + 42)) (M := M83) (by exact hR) ho ((hO.same ho sc5).sv ho hq83) (fun w hw => (hq83.2 5 w (by unfold Sv; omega)).trans (fct6 (by omega) w hw)) true 20) (by decide) ⟨Nat.le_refl _, Nat.le_refl _⟩ (Nat.le_of_ble_eq_true rfl) (fun x9 M100 h9 => ?_)
  obtain ⟨e8, hq100⟩ := h9
  rw [e8]
  refine r_imul hG dX8_wantOf_103 ?_
  refine r_iadd hG dX8_wantOf_104 ?_
  refine hE _ _ _ _ _ dX8_wantOf_105 rfl (Nat.le_refl _) (Nat.le_refl _) rfl ?_
  exact ⟨rfl, sc5.trans ((hq83.trans hq100).mono (fun _ _ => svc))⟩


set_option maxRecDepth 100000 in
set_option maxHeartbeats 400000 in
theorem ct_X9_least {M : gM} (x y : Int32) : gC 0 0 0 yX9_least cX9_least 2 (some .int) 140 140 [.int x, .int y] M (gI (fun r M9 => r = mmin y x ∧ M9 = M)) := by
  refine gC_i rfl (Nat.le_of_ble_eq_true rfl) (fun G hG hE => ?_)
  change G (140, 0, 0) 0 [some (.int x), some (.int y)] [] M
  refine r_iload_n hG dX9_least_0 rfl ?_
  refine r_iload_n hG dX9_least_1 rfl ?_
  refine r_icmp_ge hG 9 dX9_least_2 (by decide) (fun hc2 => ?_) (fun hc2 => ?_)
  · refine r_iload_n hG dX9_least_9 rfl ?_
    refine hE _ _ _ _ _ dX9_least_10 rfl (Nat.le_refl _) (Nat.le_refl _) rfl ?_
    exact ⟨by simp [mmin, Int32.not_lt.mpr hc2], rfl⟩
  · refine r_iload_n hG dX9_least_5 rfl ?_
    refine r_goto hG 10 dX9_least_6 (by decide) ?_
    refine hE _ _ _ _ _ dX9_least_10 rfl (Nat.le_refl _) (Nat.le_refl _) rfl ?_
    exact ⟨by simp [mmin, Int32.not_le.mp hc2], rfl⟩

def Sw (k j : Nat) : Prop := k = 104
set_option maxRecDepth 100000 in
set_option maxHeartbeats 400000 in
theorem ct_X9_worth {M : gM} {b : Bool} (hR : M.2.2 = stdR b) {hh nl : Nat} {B : Nat → Bool} {A : Nat → Int32} {ST : Nat → Nat} {C : Nat → Nat × Int32} (hO : ordM M hh nl B A ST C) {F : Nat → Int32} (hF : ∀ w, w < 6 → M.1 103 w = F w) {i : Nat} (hi : i < nl) : gC 0 0 0 yX9_worth cX9_worth 7 (some .int) 140 140 [.ref 88, .int (nI (660 * hh + i + ST i))] M (gI (fun r M9 => r = evv F C (ST i) (ST (i + 1)) ∧ gEq Sw M M9)) := by
  refine gC_i rfl (Nat.le_of_ble_eq_true rfl) (fun G hG hE => ?_)
  change G (140, 0, 0) 0 [some (.ref 88), some (.int (nI (660 * hh + i + ST i))), none, none, none, none, none] [] M
  obtain ⟨a1, a2, a3, a4, a5, a6⟩ := hO
  obtain ⟨g1, g2, g3, g4, g5, g6, g7⟩ := a6 i hi
  have hle := ST_le (fun k hk => (a6 k hk).1)
  have b1 := hle i (by omega)
  have b2 := hle (i + 1) (by omega)
  refine r_iload_n hG dX9_worth_0 rfl ?_
  refine r_istore_n hG dX9_worth_1 (by decide) ?_
  refine r_loc [some (.ref 88), some (.int (nI (660 * hh + i + ST i))), some (.int (nI (660 * hh + i + ST i))), none, none, none, none] rfl ?_
  refine r_iconst hG (0) dX9_worth_2 (by decide) ?_
  refine r_istore_n hG dX9_worth_3 (by decide) ?_
  refine r_loc [some (.ref 88), some (.int (nI (660 * hh + i + ST i))), some (.int (nI (660 * hh + i + ST i))), some (.int (0)), none, none, none] rfl ?_
  exact lp_X9_worth hG hE hR (a := ST i) (e := ST (i + 1)) (q := 660 * hh + i) (by omega) (by omega) g6 g7 hF (ST (i + 1) - ST i) (ST i) 0 (fun _ => 0) M ⟨Nat.le_refl _, by omega⟩ (by omega) g5 gEq.rf (fun t ht => absurd ht (by omega)) (fun M9 h9 => ⟨rfl, h9⟩) _ _ _ _

def bz (x : Bool) : Int32 := if x then 1 else 0
theorem bz_ne {x y : Bool} (h : ¬ x = y) : ¬ bz x = bz y := by
  cases x <;> cases y <;> first | exact absurd rfl h | decide
set_option maxRecDepth 100000 in
set_option maxHeartbeats 400000 in
theorem lp_X9_litres  {G : gJ} {P : Int32 → gM → Prop} (hG : gS 1 0 0 yX9_litres.cls cX9_litres 4 G) (hE : gEi 140 0 0 cX9_litres .int P G) {M0 : gM} {b : Bool} (hR0 : M0.2.2 = stdR b) {hh nl : Nat} {B : Nat → Bool} {A : Nat → Int32} {ST : Nat → Nat} {C : Nat → Nat × Int32} (hO0 : ordM M0 hh nl B A ST C) {F : Nat → Int32} (hF0 : ∀ w, w < 6 → M0.1 103 w = F w) (be : Bool) (us : Int32) :
    ∀ (n i : Nat) (M : gM), i + n = nl → gEq Sw M0 M → (∀ M9, gEq Sw M0 M9 → P (litr F B A ST C be us n i) M9) → G (140, 0, 0) 8 [some (.ref 88), some (.int (bz be)), some (.int us), some (.int (nI (16 * hh + i)))] [] M := by
  intro n
  induction n with
  | zero =>
    intro i M hi hq hP
    have hR : M.2.2 = stdR b := by rw [hq.1]; exact hR0
    have hO := hO0.sm (M' := M) (fun k j h => hq.2 k j (by unfold Sw; omega))
    have hF : ∀ w, w < 6 → M.1 103 w = F w := fun w hw => (hq.2 103 w (by unfold Sw; omega)).trans (hF0 w hw)
    obtain ⟨a1, a2, a3, a4, a5, a6⟩ := id hO
    refine r_iload_n hG dX9_litres_8 rfl ?_
    refine r_bipush hG (16) dX9_litres_9 (by decide) ?_
    refine r_aload_n hG dX9_litres_11 rfl ?_
    refine r_getIv hG 16 (nI hh) fk_X9_244 dX9_litres_12 rfl (by decide) rfl a3 ?_
    refine r_imul hG dX9_litres_15 ?_
    refine r_aload_n hG dX9_litres_16 rfl ?_
    refine r_getR hG 10 94 fk_X9_57 dX9_litres_17 rfl (by decide) rfl (sr hR rfl) ?_
    refine r_aload_n hG dX9_litres_20 rfl ?_
    refine r_getIv hG 16 (nI hh) fk_X9_244 dX9_litres_21 rfl (by decide) rfl a3 ?_
    refine r_ialdv hG hh (nI nl) dX9_litres_24 rfl (by decide) rfl (by omega) (by decide) a4 ?_
    refine r_iadd hG dX9_litres_25 ?_
    refine r_top (nI (16 * hh + nl)) (mulAdd 16 hh nl) ?_
    refine r_icmp_ge hG 65 dX9_litres_26 (by decide) (fun hc26 => ?_) (fun hc26 => absurd (nle_f (a := (16 * hh + nl)) (b := (16 * hh + i)) (by omega) (by omega) hc26) (by omega))
    refine r_iload_n hG dX9_litres_65 rfl ?_
    refine hE _ _ _ _ _ dX9_litres_66 rfl (Nat.le_refl _) (Nat.le_refl _) rfl ?_
    exact hP M hq
  | succ n ih =>
    intro i M hi hq hP
    have hR : M.2.2 = stdR b := by rw [hq.1]; exact hR0
    have hO := hO0.sm (M' := M) (fun k j h => hq.2 k j (by unfold Sw; omega))
    have hF : ∀ w, w < 6 → M.1 103 w = F w := fun w hw => (hq.2 103 w (by unfold Sw; omega)).trans (hF0 w hw)
    obtain ⟨a1, a2, a3, a4, a5, a6⟩ := id hO
    obtain ⟨g1, g2, g3, g4, g5, g6, g7⟩ := a6 i (by omega)
    by_cases hB : B i = be
    · skip
      refine r_iload_n hG dX9_litres_8 rfl ?_
      refine r_bipush hG (16) dX9_litres_9 (by decide) ?_
      refine r_aload_n hG dX9_litres_11 rfl ?_
      refine r_getIv hG 16 (nI hh) fk_X9_244 dX9_litres_12 rfl (by decide) rfl a3 ?_
      refine r_imul hG dX9_litres_15 ?_
      refine r_aload_n hG dX9_litres_16 rfl ?_
      refine r_getR hG 10 94 fk_X9_57 dX9_litres_17 rfl (by decide) rfl (sr hR rfl) ?_
      refine r_aload_n hG dX9_litres_20 rfl ?_
      refine r_getIv hG 16 (nI hh) fk_X9_244 dX9_litres_21 rfl (by decide) rfl a3 ?_
      refine r_ialdv hG hh (nI nl) dX9_litres_24 rfl (by decide) rfl (by omega) (by decide) a4 ?_
      refine r_iadd hG dX9_litres_25 ?_
      refine r_top (nI (16 * hh + nl)) (mulAdd 16 hh nl) ?_
      refine r_icmp_ge hG 65 dX9_litres_26 (by decide) (fun hc26 => absurd (nle_t (a := (16 * hh + nl)) (b := (16 * hh + i)) (by omega) (by omega) hc26) (by omega)) (fun hc26 => ?_)
      refine r_aload_n hG dX9_litres_29 rfl ?_
      refine r_getR hG 11 95 fk_X9_60 dX9_litres_30 rfl (by decide) rfl (sr hR rfl) ?_
      refine r_iload_n hG dX9_litres_33 rfl ?_
      refine r_zaldv hG (16 * hh + i) (bz be) dX9_litres_34 rfl (by decide) rfl (by omega) (by decide) (by rw [g2, hB]; rfl) ?_
      refine r_iload_n hG dX9_litres_35 rfl ?_
      refine r_icmp_ne hG 59 dX9_litres_36 (by decide) (fun hc36 => absurd rfl hc36) (fun hc36 => ?_)
      refine r_aload_n hG dX9_litres_39 rfl ?_
      refine r_aload_n hG dX9_litres_40 rfl ?_
      refine r_getR hG 13 97 fk_X9_67 dX9_litres_41 rfl (by decide) rfl (sr hR rfl) ?_
      refine r_iload_n hG dX9_litres_44 rfl ?_
      refine r_ialdv hG (16 * hh + i) (nI (660 * hh + i + ST i)) dX9_litres_45 rfl (by decide) rfl (by omega) (by decide) g4 ?_
      refine r_cVI1 hG mk_X9_300 dX9_litres_46 rfl (by decide) (ct_X9_worth hR hO hF (i := i) (by omega)) (by decide) ⟨Nat.le_refl _, Nat.le_refl _⟩ (Nat.le_of_ble_eq_true rfl) (fun x9 M46 h9 => ?_)
      obtain ⟨e8, hq46⟩ := h9
      rw [e8]
      have hR : M46.2.2 = stdR b := by rw [hq46.1]; exact hR
      refine r_if_eq hG 59 dX9_litres_49 (by decide) (fun hc49 => ?_) (fun hc49 => ?_)
      · refine r_iinc hG (1) dX9_litres_59 (by decide) rfl ?_
        refine r_loc [some (.ref 88), some (.int (bz be)), some (.int us), some (.int ((nI (16 * hh + i)) + (1)))] rfl ?_
        refine r_goto hG 8 dX9_litres_62 (by decide) ?_
        rw [nI_1]
        refine ih (i + 1) _ (by omega) (hq.trans hq46) (fun M9 h9 => ?_)
        have e3 : litr F B A ST C be us (n + 1) i = litr F B A ST C be us n (i + 1) := by
          unfold litr
          rw [if_neg (fun q => q.2 hc49)]
          cases n <;> rfl
        rw [← e3]
        exact hP M9 h9
      · refine r_aload_n hG dX9_litres_52 rfl ?_
        refine r_getR hG 12 96 fk_X9_64 dX9_litres_53 rfl (by decide) rfl (sr hR rfl) ?_
        refine r_iload_n hG dX9_litres_56 rfl ?_
        refine r_ialdv hG (16 * hh + i) (A i) dX9_litres_57 rfl (by decide) rfl (by omega) (by decide) ((hq46.2 96 _ (by unfold Sw; omega)).trans g3) ?_
        refine hE _ _ _ _ _ dX9_litres_58 rfl (Nat.le_refl _) (Nat.le_refl _) rfl ?_
        have e3 : litr F B A ST C be us (n + 1) i = A i := by
          unfold litr
          rw [if_pos ⟨hB, hc49⟩]
        rw [← e3]
        exact hP _ (hq.trans hq46)
    · skip
      refine r_iload_n hG dX9_litres_8 rfl ?_
      refine r_bipush hG (16) dX9_litres_9 (by decide) ?_
      refine r_aload_n hG dX9_litres_11 rfl ?_
      refine r_getIv hG 16 (nI hh) fk_X9_244 dX9_litres_12 rfl (by decide) rfl a3 ?_
      refine r_imul hG dX9_litres_15 ?_
      refine r_aload_n hG dX9_litres_16 rfl ?_
      refine r_getR hG 10 94 fk_X9_57 dX9_litres_17 rfl (by decide) rfl (sr hR rfl) ?_
      refine r_aload_n hG dX9_litres_20 rfl ?_
      refine r_getIv hG 16 (nI hh) fk_X9_244 dX9_litres_21 rfl (by decide) rfl a3 ?_
      refine r_ialdv hG hh (nI nl) dX9_litres_24 rfl (by decide) rfl (by omega) (by decide) a4 ?_
      refine r_iadd hG dX9_litres_25 ?_
      refine r_top (nI (16 * hh + nl)) (mulAdd 16 hh nl) ?_
      refine r_icmp_ge hG 65 dX9_litres_26 (by decide) (fun hc26 => absurd (nle_t (a := (16 * hh + nl)) (b := (16 * hh + i)) (by omega) (by omega) hc26) (by omega)) (fun hc26 => ?_)
      refine r_aload_n hG dX9_litres_29 rfl ?_
      refine r_getR hG 11 95 fk_X9_60 dX9_litres_30 rfl (by decide) rfl (sr hR rfl) ?_
      refine r_iload_n hG dX9_litres_33 rfl ?_
      refine r_zaldv hG (16 * hh + i) (bz (B i)) dX9_litres_34 rfl (by decide) rfl (by omega) (by decide) g2 ?_
      refine r_iload_n hG dX9_litres_35 rfl ?_
      refine r_icmp_ne hG 59 dX9_litres_36 (by decide) (fun hc36 => ?_) (fun hc36 => absurd hc36 (bz_ne hB))
      refine r_iinc hG (1) dX9_litres_59 (by decide) rfl ?_
      refine r_loc [some (.ref 88), some (.int (bz be)), some (.int us), some (.int ((nI (16 * hh + i)) + (1)))] rfl ?_
      refine r_goto hG 8 dX9_litres_62 (by decide) ?_
      rw [nI_1]
      refine ih (i + 1) _ (by omega) hq (fun M9 h9 => ?_)
      have e3 : litr F B A ST C be us (n + 1) i = litr F B A ST C be us n (i + 1) := by
        unfold litr
        rw [if_neg (fun q => hB q.1)]
        cases n <;> rfl
      rw [← e3]
      exact hP M9 h9

set_option maxRecDepth 100000 in
set_option maxHeartbeats 400000 in
theorem ct_X9_litres {M : gM} {b : Bool} (hR : M.2.2 = stdR b) {hh nl : Nat} {B : Nat → Bool} {A : Nat → Int32} {ST : Nat → Nat} {C : Nat → Nat × Int32} (hO : ordM M hh nl B A ST C) {F : Nat → Int32} (hF : ∀ w, w < 6 → M.1 103 w = F w) (be : Bool) (us : Int32) : gC 1 0 0 yX9_litres cX9_litres 4 (some .int) 140 140 [.ref 88, .int (bz be), .int us] M (gI (fun r M9 => r = litr F B A ST C be us nl 0 ∧ gEq Sw M M9)) := by
  refine gC_i rfl (Nat.le_of_ble_eq_true rfl) (fun G hG hE => ?_)
  change G (140, 0, 0) 0 [some (.ref 88), some (.int (bz be)), some (.int us), none] [] M
  obtain ⟨a1, a2, a3, a4, a5, a6⟩ := id hO
  refine r_bipush hG (16) dX9_litres_0 (by decide) ?_
  refine r_aload_n hG dX9_litres_2 rfl ?_
  refine r_getIv hG 16 (nI hh) fk_X9_244 dX9_litres_3 rfl (by decide) rfl a3 ?_
  refine r_imul hG dX9_litres_6 ?_
  refine r_top (nI (16 * hh + 0)) (show (16 : Int32) * nI hh = nI (16 * hh + 0) from pk_mul 16 hh) ?_
  refine r_istore_n hG dX9_litres_7 (by decide) ?_
  refine r_loc [some (.ref 88), some (.int (bz be)), some (.int us), some (.int (nI (16 * hh + 0)))] rfl ?_
  exact lp_X9_litres hG hE hR hO hF be us nl 0 M (by omega) gEq.rf (fun M9 h9 => ⟨rfl, h9⟩)

def mfct (M : gM) (v : Nat) (dy : Int32) : Nat → Int32
  | 0 => dy
  | 1 => M.1 105 v
  | 2 => M.1 106 v
  | 3 => M.1 110 v
  | 4 => (100 * (M.1 108 v).toInt64 / (M.1 107 v).toInt64).toInt32
  | _ => M.1 88 37
def mwantV (M : gM) (v : Nat) (dy : Int32) (nl : Nat) (B : Nat → Bool) (A : Nat → Int32) (ST : Nat → Nat) (C : Nat → Nat × Int32) : Int32 :=
  M.1 105 v * litr (mfct M v dy) B A ST C false 10 nl 0 + M.1 106 v * litr (mfct M v dy) B A ST C true 20 nl 0
theorem mfct6 {M : gM} {v : Nat} {dy : Int32} : ∀ w, w < 6 → (gwI (gwI (gwI (gwI (gwI (gwI M 103 0 dy) 103 1 (M.1 105 v)) 103 2 (M.1 106 v)) 103 3 (M.1 110 v)) 103 4 (100 * (M.1 108 v).toInt64 / (M.1 107 v).toInt64).toInt32) 103 5 (M.1 88 37)).1 103 w = mfct M v dy w := by
  intro w hw
  rcases (show w = 0 ∨ w = 1 ∨ w = 2 ∨ w = 3 ∨ w = 4 ∨ w = 5 by omega) with rfl | rfl | rfl | rfl | rfl | rfl <;> simp [gwI_rd, mfct]
theorem sm6 {M : gM} {v0 v1 v2 v3 v4 v5 : Int32} : gEq Sm M (gwI (gwI (gwI (gwI (gwI (gwI M 103 0 v0) 103 1 v1) 103 2 v2) 103 3 v3) 103 4 v4) 103 5 v5) :=
  (((((gEq.rf.put (Or.inl rfl)).put (Or.inl rfl)).put (Or.inl rfl)).put (Or.inl rfl)).put (Or.inl rfl)).put (Or.inl rfl)
theorem swm {k j : Nat} (h : Sw k j) : Sm k j := Or.inr h
set_option maxRecDepth 100000 in
set_option maxHeartbeats 400000 in
theorem ct_X9_wantOf {M : gM} {b : Bool} (hR : M.2.2 = stdR b) {hh nl : Nat} {B : Nat → Bool} {A : Nat → Int32} {ST : Nat → Nat} {C : Nat → Nat × Int32} (hO : ordM M hh nl B A ST C) {v : Nat} (hv : v < 12) (ht : ¬ (M.1 107 v).toInt64 = 0) (dy : Int32) : gC 2 0 0 yX9_wantOf cX9_wantOf 3 (some .int) 140 140 [.ref 88, .int (nI v), .int dy] M (gI (fun r M9 => r = mwantV M v dy nl B A ST C ∧ gEq Sm M M9)) := by
  refine gC_i rfl (Nat.le_of_ble_eq_true rfl) (fun G hG hE => ?_)
  change G (140, 0, 0) 0 [some (.ref 88), some (.int (nI v)), some (.int dy)] [] M
  refine r_aload_n hG dX9_wantOf_0 rfl ?_
  refine r_getR hG 23 103 fk_X9_85 dX9_wantOf_1 rfl (by decide) rfl (sr hR rfl) ?_
  refine r_iconst hG (0) dX9_wantOf_4 (by decide) ?_
  refine r_iload_n hG dX9_wantOf_5 rfl ?_
  refine r_iast hG 0 dX9_wantOf_6 rfl (by decide) rfl (by decide) (by decide) ?_
  refine r_aload_n hG dX9_wantOf_7 rfl ?_
  refine r_getR hG 23 103 fk_X9_85 dX9_wantOf_8 rfl (by decide) rfl (sr hR rfl) ?_
  refine r_iconst hG (1) dX9_wantOf_11 (by decide) ?_
  refine r_aload_n hG dX9_wantOf_12 rfl ?_
  refine r_getR hG 27 105 fk_X9_91 dX9_wantOf_13 rfl (by decide) rfl (sr hR rfl) ?_
  refine r_iload_n hG dX9_wantOf_16 rfl ?_
  refine r_ialdv hG v (M.1 105 v) dX9_wantOf_17 rfl (by decide) rfl (by omega) (by decide) (gwI_n (by omega)) ?_
  refine r_iast hG 1 dX9_wantOf_18 rfl (by decide) rfl (by decide) (by decide) ?_
  refine r_aload_n hG dX9_wantOf_19 rfl ?_
  refine r_getR hG 23 103 fk_X9_85 dX9_wantOf_20 rfl (by decide) rfl (sr hR rfl) ?_
  refine r_iconst hG (2) dX9_wantOf_23 (by decide) ?_
  refine r_aload_n hG dX9_wantOf_24 rfl ?_
  refine r_getR hG 28 106 fk_X9_94 dX9_wantOf_25 rfl (by decide) rfl (sr hR rfl) ?_
  refine r_iload_n hG dX9_wantOf_28 rfl ?_
  refine r_ialdv hG v (M.1 106 v) dX9_wantOf_29 rfl (by decide) rfl (by omega) (by decide) ((gwI_n (by omega)).trans (gwI_n (by omega))) ?_
  refine r_iast hG 2 dX9_wantOf_30 rfl (by decide) rfl (by decide) (by decide) ?_
  refine r_aload_n hG dX9_wantOf_31 rfl ?_
  refine r_getR hG 23 103 fk_X9_85 dX9_wantOf_32 rfl (by decide) rfl (sr hR rfl) ?_
  refine r_iconst hG (3) dX9_wantOf_35 (by decide) ?_
  refine r_aload_n hG dX9_wantOf_36 rfl ?_
  refine r_getR hG 32 110 fk_X9_106 dX9_wantOf_37 rfl (by decide) rfl (sr hR rfl) ?_
  refine r_iload_n hG dX9_wantOf_40 rfl ?_
  refine r_ialdv hG v (M.1 110 v) dX9_wantOf_41 rfl (by decide) rfl (by omega) (by decide) ((gwI_n (by omega)).trans ((gwI_n (by omega)).trans (gwI_n (by omega)))) ?_
  refine r_iast hG 3 dX9_wantOf_42 rfl (by decide) rfl (by decide) (by decide) ?_
  refine r_aload_n hG dX9_wantOf_43 rfl ?_
  refine r_getR hG 23 103 fk_X9_85 dX9_wantOf_44 rfl (by decide) rfl (sr hR rfl) ?_
  refine r_iconst hG (4) dX9_wantOf_47 (by decide) ?_
  refine r_ldc2 hG (100) dX9_wantOf_48 ck_X9_303 ?_
  refine r_aload_n hG dX9_wantOf_51 rfl ?_
  refine r_getR hG 30 108 fk_X9_100 dX9_wantOf_52 rfl (by decide) rfl (sr hR rfl) ?_
  refine r_iload_n hG dX9_wantOf_55 rfl ?_
  refine r_ialdv hG v (M.1 108 v) dX9_wantOf_56 rfl (by decide) rfl (by omega) (by decide) ((gwI_n (by omega)).trans ((gwI_n (by omega)).trans ((gwI_n (by omega)).trans (gwI_n (by omega))))) ?_
  refine r_i2l hG dX9_wantOf_57 ?_
  refine r_lmul hG dX9_wantOf_58 ?_
  refine r_aload_n hG dX9_wantOf_59 rfl ?_
  refine r_getR hG 29 107 fk_X9_97 dX9_wantOf_60 rfl (by decide) rfl (sr hR rfl) ?_
  refine r_iload_n hG dX9_wantOf_63 rfl ?_
  refine r_ialdv hG v (M.1 107 v) dX9_wantOf_64 rfl (by decide) rfl (by omega) (by decide) ((gwI_n (by omega)).trans ((gwI_n (by omega)).trans ((gwI_n (by omega)).trans (gwI_n (by omega))))) ?_
  refine r_i2l hG dX9_wantOf_65 ?_
  refine r_ldiv hG dX9_wantOf_66 ht ?_
  refine r_l2i hG dX9_wantOf_67 ?_
  refine r_iast hG 4 dX9_wantOf_68 rfl (by decide) rfl (by decide) (by decide) ?_
  refine r_aload_n hG dX9_wantOf_69 rfl ?_
  refine r_getR hG 23 103 fk_X9_85 dX9_wantOf_70 rfl (by decide) rfl (sr hR rfl) ?_
  refine r_iconst hG (5) dX9_wantOf_73 (by decide) ?_
  refine r_aload_n hG dX9_wantOf_74 rfl ?_
  refine r_getIv hG 37 (M.1 88 37) fk_X9_305 dX9_wantOf_75 rfl (by decide) rfl ((gwI_n (by omega)).trans ((gwI_n (by omega)).trans ((gwI_n (by omega)).trans ((gwI_n (by omega)).trans (gwI_n (by omega)))))) ?_
  refine r_iast hG 5 dX9_wantOf_78 rfl (by decide) rfl (by decide) (by decide) ?_
  refine r_aload_n hG dX9_wantOf_79 rfl ?_
  refine r_getR hG 27 105 fk_X9_91 dX9_wantOf_80 rfl (by decide) rfl (sr hR rfl) ?_
  refine r_iload_n hG dX9_wantOf_83 rfl ?_
  refine r_ialdv hG v (M.1 105 v) dX9_wantOf_84 rfl (by decide) rfl (by omega) (by decide) ((gwI_n (by omega)).trans ((gwI_n (by omega)).trans ((gwI_n (by omega)).trans ((gwI_n (by omega)).trans ((gwI_n (by omega)).trans (gwI_n (by omega))))))) ?_
  refine r_aload_n hG dX9_wantOf_85 rfl ?_
  refine r_iconst hG (0) dX9_wantOf_86 (by decide) ?_
  refine r_bipush hG (10) dX9_wantOf_87 (by decide) ?_
  refine r_cVI2 hG mk_X9_308 dX9_wantOf_89 rfl (by decide) (ct_X9_litres (F := mfct M v dy) (by exact hR) (hO.sm (fun k j h => by rw [gwI_n (by omega), gwI_n (by omega), gwI_n (by omega), gwI_n (by omega), gwI_n (by omega), gwI_n (by omega)])) mfct6 false 10) (by decide) ⟨Nat.le_refl _, Nat.le_refl _⟩ (Nat.le_of_ble_eq_true rfl) (fun x9 M89 h9 => ?_)
  obtain ⟨e8, hq89⟩ := h9
  rw [e8]
  have hR : M89.2.2 = stdR b := by rw [hq89.1]; exact hR
  refine r_imul hG dX9_wantOf_92 ?_
  refine r_aload_n hG dX9_wantOf_93 rfl ?_
  refine r_getR hG 28 106 fk_X9_94 dX9_wantOf_94 rfl (by decide) rfl (sr hR rfl) ?_
  refine r_iload_n hG dX9_wantOf_97 rfl ?_
  refine r_ialdv hG v (M.1 106 v) dX9_wantOf_98 rfl (by decide) rfl (by omega) (by decide) ((hq89.2 106 v (by first | (unfold Sw; omega) | (unfold Sv; omega) | (unfold Sc; omega) | (unfold Sp; omega) | omega)).trans ((gwI_n (by omega)).trans ((gwI_n (by omega)).trans ((gwI_n (by omega)).trans ((gwI_n (by omega)).trans ((gwI_n (by omega)).trans (gwI_n (by omega)))))))) ?_
  refine r_aload_n hG dX9_wantOf_99 rfl ?_
  refine r_iconst hG (1) dX9_wantOf_100 (by decide) ?_
  refine r_bipush hG (20) dX9_wantOf_101 (by decide) ?_
  refine r_cVI2 hG mk_X9_308 dX9_wantOf_103 rfl (by decide) (ct_X9_litres (F := mfct M v dy) (M := M89) (by exact hR) ((hO.sm (fun k j h => by rw [gwI_n (by omega), gwI_n (by omega), gwI_n (by omega), gwI_n (by omega), gwI_n (by omega), gwI_n (by omega)])).sm (fun k j h => hq89.2 k j (by unfold Sw; omega))) (fun w hw => (hq89.2 103 w (by unfold Sw; omega)).trans (mfct6 w hw)) true 20) (by decide) ⟨Nat.le_refl _, Nat.le_refl _⟩ (Nat.le_of_ble_eq_true rfl) (fun x9 M103 h9 => ?_)
  obtain ⟨e8, hq103⟩ := h9
  rw [e8]
  refine r_imul hG dX9_wantOf_106 ?_
  refine r_iadd hG dX9_wantOf_107 ?_
  refine hE _ _ _ _ _ dX9_wantOf_108 rfl (Nat.le_refl _) (Nat.le_refl _) rfl ?_
  exact ⟨rfl, sm6.trans ((hq89.trans hq103).mono (fun _ _ => swm))⟩


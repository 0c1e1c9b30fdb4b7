def pLeast (M : gM) (sp : Nat → Nat) (p : Nat) : Nat → Int32
  | 0 => -1
  | t + 1 => if (¬ M.1 27 t < M.1 (p + 32) t ∧ ¬ pLoad M sp (M.1 24) t p < M.1 29 p) ∧ (pLeast M sp p t = -1 ∨ ¬ pLeast M sp p t ≤ M.1 (p + 32) t) then M.1 (p + 32) t else pLeast M sp p t
theorem pLeast_congr {M M' : gM} {sp : Nat → Nat} {p : Nat} (h : ∀ q j, (q = 24 ∨ q = 26 ∨ q = 27 ∨ q = 29 ∨ q = 30 ∨ (32 ≤ q ∧ q < 38)) → M'.1 q j = M.1 q j) (hp : p < 6) : ∀ t, pLeast M' sp p t = pLeast M sp p t
  | 0 => rfl
  | t + 1 => by
    have e24 : M'.1 24 = M.1 24 := funext fun j => h 24 j (by omega)
    have e1 : pLoad M' sp (M'.1 24) t p = pLoad M sp (M.1 24) t p := by
      unfold pLoad
      rw [e24, h 26 t (by omega), h 30 p (by omega)]
    unfold pLeast
    rw [pLeast_congr h hp t, e1, h 27 t (by omega), h (p + 32) t (by omega), h 29 p (by omega)]
def lostN (M : gM) (sp : Nat → Nat) (T n : Nat) : Nat → Int32
  | 0 => 0
  | j + 1 => lostN M sp T n j + (if pLeast M sp (n - 1 - j) T = -1 then 1 else 0)
def leastN (M : gM) (sp : Nat → Nat) (T n : Nat) : Nat → Int32
  | 0 => 0
  | j + 1 => leastN M sp T n j + (if pLeast M sp (n - 1 - j) T = -1 then 0 else pLeast M sp (n - 1 - j) T)
theorem lostN_s {M : gM} {sp : Nat → Nat} {T n j : Nat} : lostN M sp T n (j + 1) = lostN M sp T n j + (if pLeast M sp (n - 1 - j) T = -1 then 1 else 0) := rfl
theorem leastN_s {M : gM} {sp : Nat → Nat} {T n j : Nat} : leastN M sp T n (j + 1) = leastN M sp T n j + (if pLeast M sp (n - 1 - j) T = -1 then 0 else pLeast M sp (n - 1 - j) T) := rfl
def Sf (k j : Nat) : Prop := k = 40 ∨ k = 41 ∨ (k = 23 ∧ (j = 15 ∨ j = 16))
theorem addm1 (x : Int32) : x + (-1) = x - 1 := (Int32.sub_eq_add_neg x 1).symm
set_option maxRecDepth 100000 in
set_option maxHeartbeats 400000 in
theorem lp_X2_leastTrip  {G : gJ} {P : Int32 → gM → Prop} (hG : gS 3 0 0 yX2_leastTrip.cls cX2_leastTrip 5 G) (hE : gEi 140 0 0 cX2_leastTrip .int P G) {M : gM} {b : Bool} (hR : M.2.2 = stdR b) {T n : Nat} {sp : Nat → Nat} (hT : M.1 23 12 = nI T) (lT : T ≤ 4) (hn : M.1 23 14 = nI n) (ln : n ≤ 6) (hsp : ∀ t, t < T → M.1 25 t = nI (sp t) ∧ sp t < 4) {p : Nat} (hp : p < 6) :
    ∀ (r t : Nat) (x4 : Option Value), t + r = T → P (pLeast M sp p T) M → G (140, 0, 0) 4 [some (.ref 23), some (.int (nI p)), some (.int (pLeast M sp p t)), some (.int (nI t)), x4] [] M := by
  intro r
  induction r with
  | zero =>
    intro t x4 ht hP
    refine r_iload_n hG dX2_leastTrip_4 rfl ?_
    refine r_aload_n hG dX2_leastTrip_5 rfl ?_
    refine r_getIv hG 12 (nI T) fk_X2_50 dX2_leastTrip_6 rfl (by decide) rfl hT ?_
    refine r_icmp_ge hG 51 dX2_leastTrip_9 (by decide) (fun hc9 => ?_) (fun hc9 => absurd (nle_f (a := T) (b := t) (by omega) (by omega) hc9) (by omega))
    refine r_iload_n hG dX2_leastTrip_51 rfl ?_
    refine hE _ _ _ _ _ dX2_leastTrip_52 rfl (Nat.le_refl _) (Nat.le_refl _) rfl ?_
    rw [show t = T by omega]
    exact hP
  | succ r ih =>
    intro t x4 ht hP
    refine r_iload_n hG dX2_leastTrip_4 rfl ?_
    refine r_aload_n hG dX2_leastTrip_5 rfl ?_
    refine r_getIv hG 12 (nI T) fk_X2_50 dX2_leastTrip_6 rfl (by decide) rfl hT ?_
    refine r_icmp_ge hG 51 dX2_leastTrip_9 (by decide) (fun hc9 => absurd (nle_t (a := T) (b := t) (by omega) (by omega) hc9) (by omega)) (fun hc9 => ?_)
    refine r_aload_n hG dX2_leastTrip_12 rfl ?_
    refine r_getR hG 7 31 fk_X2_35 dX2_leastTrip_13 rfl (by decide) rfl (sr hR rfl) ?_
    refine r_iload_n hG dX2_leastTrip_16 rfl ?_
    refine r_aald8 hG p (p + 32) dX2_leastTrip_17 rfl (by decide) rfl (by omega) (by decide) (sr hR rfl) ?_
    refine r_iload_n hG dX2_leastTrip_18 rfl ?_
    refine r_iald hG t dX2_leastTrip_19 (gkR (by omega)) (show (p + 32) < 140 by omega) rfl (by omega) (by decide) ?_
    refine r_istore hG dX2_leastTrip_20 (by decide) ?_
    refine r_loc [some (.ref 23), some (.int (nI p)), some (.int (pLeast M sp p t)), some (.int (nI t)), some (.int (M.1 (p + 32) t))] rfl ?_
    refine r_aload_n hG dX2_leastTrip_22 rfl ?_
    refine r_iload_n hG dX2_leastTrip_23 rfl ?_
    refine r_iload_n hG dX2_leastTrip_24 rfl ?_
    refine r_cVI2 hG mk_X2_78 dX2_leastTrip_25 rfl (by decide) (ct_X2_serves hR hT lT hn ln hsp (t := t) (p := p) (by omega) hp) (by decide) ⟨Nat.le_refl _, Nat.le_refl _⟩ (Nat.le_of_ble_eq_true rfl) (fun x9 M9 h9 => ?_)
    obtain ⟨h8, e9⟩ := h9; rw [e9]; rcases h8 with ⟨e8, hw25⟩ | ⟨e8, hw25⟩
    · rw [e8]
      refine r_if_eq hG 45 dX2_leastTrip_28 (by decide) (fun hc28 => absurd hc28 (by decide)) (fun hc28 => ?_)
      refine r_iload_n hG dX2_leastTrip_31 rfl ?_
      refine r_iconst hG (-1) dX2_leastTrip_32 (by decide) ?_
      refine r_icmp_eq hG 42 dX2_leastTrip_33 (by decide) (fun hc33 => ?_) (fun hc33 => ?_)
      · refine r_iload hG dX2_leastTrip_42 rfl ?_
        refine r_istore_n hG dX2_leastTrip_44 (by decide) ?_
        refine r_loc [some (.ref 23), some (.int (nI p)), some (.int (M.1 (p + 32) t)), some (.int (nI t)), some (.int (M.1 (p + 32) t))] rfl ?_
        refine r_iinc hG (1) dX2_leastTrip_45 (by decide) rfl ?_
        refine r_loc [some (.ref 23), some (.int (nI p)), some (.int (M.1 (p + 32) t)), some (.int ((nI t) + (1))), some (.int (M.1 (p + 32) t))] rfl ?_
        refine r_goto hG 4 dX2_leastTrip_48 (by decide) ?_
        rw [nI_1]
        refine r_loc [some (.ref 23), some (.int (nI p)), some (.int (pLeast M sp p (t + 1))), some (.int (nI (t + 1))), some (.int (M.1 (p + 32) t))] ?_ (ih (t + 1) _ (by omega) hP)
        have e3 : pLeast M sp p (t + 1) = M.1 (p + 32) t := by
          conv => lhs; unfold pLeast
          rw [if_pos ⟨hw25, Or.inl hc33⟩]
        rw [e3]
      · refine r_iload hG dX2_leastTrip_36 rfl ?_
        refine r_iload_n hG dX2_leastTrip_38 rfl ?_
        refine r_icmp_ge hG 45 dX2_leastTrip_39 (by decide) (fun hc39 => ?_) (fun hc39 => ?_)
        · refine r_iinc hG (1) dX2_leastTrip_45 (by decide) rfl ?_
          refine r_loc [some (.ref 23), some (.int (nI p)), some (.int (pLeast M sp p t)), some (.int ((nI t) + (1))), some (.int (M.1 (p + 32) t))] rfl ?_
          refine r_goto hG 4 dX2_leastTrip_48 (by decide) ?_
          rw [nI_1]
          refine r_loc [some (.ref 23), some (.int (nI p)), some (.int (pLeast M sp p (t + 1))), some (.int (nI (t + 1))), some (.int (M.1 (p + 32) t))] ?_ (ih (t + 1) _ (by omega) hP)
          have e3 : pLeast M sp p (t + 1) = pLeast M sp p t := by
            conv => lhs; unfold pLeast
            rw [if_neg (fun q => q.2.elim hc33 (fun z => z hc39))]
          rw [e3]
        · refine r_iload hG dX2_leastTrip_42 rfl ?_
          refine r_istore_n hG dX2_leastTrip_44 (by decide) ?_
          refine r_loc [some (.ref 23), some (.int (nI p)), some (.int (M.1 (p + 32) t)), some (.int (nI t)), some (.int (M.1 (p + 32) t))] rfl ?_
          refine r_iinc hG (1) dX2_leastTrip_45 (by decide) rfl ?_
          refine r_loc [some (.ref 23), some (.int (nI p)), some (.int (M.1 (p + 32) t)), some (.int ((nI t) + (1))), some (.int (M.1 (p + 32) t))] rfl ?_
          refine r_goto hG 4 dX2_leastTrip_48 (by decide) ?_
          rw [nI_1]
          refine r_loc [some (.ref 23), some (.int (nI p)), some (.int (pLeast M sp p (t + 1))), some (.int (nI (t + 1))), some (.int (M.1 (p + 32) t))] ?_ (ih (t + 1) _ (by omega) hP)
          have e3 : pLeast M sp p (t + 1) = M.1 (p + 32) t := by
            conv => lhs; unfold pLeast
            rw [if_pos ⟨hw25, Or.inr hc39⟩]
          rw [e3]
    · rw [e8]
      refine r_if_eq hG 45 dX2_leastTrip_28 (by decide) (fun hc28 => ?_) (fun hc28 => absurd hc28 (by decide))
      refine r_iinc hG (1) dX2_leastTrip_45 (by decide) rfl ?_
      refine r_loc [some (.ref 23), some (.int (nI p)), some (.int (pLeast M sp p t)), some (.int ((nI t) + (1))), some (.int (M.1 (p + 32) t))] rfl ?_
      refine r_goto hG 4 dX2_leastTrip_48 (by decide) ?_
      rw [nI_1]
      refine r_loc [some (.ref 23), some (.int (nI p)), some (.int (pLeast M sp p (t + 1))), some (.int (nI (t + 1))), some (.int (M.1 (p + 32) t))] ?_ (ih (t + 1) _ (by omega) hP)
      have e3 : pLeast M sp p (t + 1) = pLeast M sp p t := by
        conv => lhs; unfold pLeast
        rw [if_neg (fun q => hw25 q.1)]
      rw [e3]

set_option maxRecDepth 100000 in
set_option maxHeartbeats 400000 in
theorem ct_X2_leastTrip {M : gM} {b : Bool} (hR : M.2.2 = stdR b) {T n : Nat} {sp : Nat → Nat} (hT : M.1 23 12 = nI T) (lT : T ≤ 4) (hn : M.1 23 14 = nI n) (ln : n ≤ 6) (hsp : ∀ t, t < T → M.1 25 t = nI (sp t) ∧ sp t < 4) {p : Nat} (hp : p < 6) : gC 3 0 0 yX2_leastTrip cX2_leastTrip 5 (some .int) 140 140 [.ref 23, .int (nI p)] M (gI (fun r M9 => r = pLeast M sp p T ∧ M9 = M)) := by
  refine gC_i rfl (Nat.le_of_ble_eq_true rfl) (fun G hG hE => ?_)
  change G (140, 0, 0) 0 [some (.ref 23), some (.int (nI p)), none, none, none] [] M
  refine r_iconst hG (-1) dX2_leastTrip_0 (by decide) ?_
  refine r_istore_n hG dX2_leastTrip_1 (by decide) ?_
  refine r_loc [some (.ref 23), some (.int (nI p)), some (.int (-1)), none, none] rfl ?_
  refine r_iconst hG (0) dX2_leastTrip_2 (by decide) ?_
  refine r_istore_n hG dX2_leastTrip_3 (by decide) ?_
  refine r_loc [some (.ref 23), some (.int (nI p)), some (.int (-1)), some (.int (0)), none] rfl ?_
  exact lp_X2_leastTrip hG hE hR hT lT hn ln hsp hp T 0 _ (by omega) ⟨rfl, rfl⟩

set_option maxRecDepth 100000 in
set_option maxHeartbeats 400000 in
theorem lp_X2_findBest  {G : gJ} {P : gM → Prop} (hG : gS 16 0 0 yX2_findBest.cls cX2_findBest 3 G) (hE : gEv 140 0 0 cX2_findBest P G) {M0 : gM} {b : Bool} (hR0 : M0.2.2 = stdR b) {T n : Nat} {sp : Nat → Nat} (hT0 : M0.1 23 12 = nI T) (lT : T ≤ 4) (hn0 : M0.1 23 14 = nI n) (ln : n ≤ 6) (hsp0 : ∀ t, t < T → M0.1 25 t = nI (sp t) ∧ sp t < 4) :
    ∀ (c : Nat) (M : gM) (x : Int32) (x2 : Option Value), c ≤ n → gEq Sf M0 M → (∀ j, c ≤ j → j ≤ n → M.1 40 j = lostN M0 sp T n (n - j) ∧ M.1 41 j = leastN M0 sp T n (n - j)) → x = nI c - 1 → (∀ M9, (∃ M1, gEq Sf M0 M1 ∧ (∀ j, j ≤ n → M1.1 40 j = lostN M0 sp T n (n - j) ∧ M1.1 41 j = leastN M0 sp T n (n - j)) ∧ M1.1 23 15 = nI n + 1 ∧ M1.1 23 16 = 0 ∧ M9 = setS M1 (srch M1 sp T n n 0 0 0 (M1.1 24) (M1.1 27) (getS M1))) → P M9) → G (140, 0, 0) 27 [some (.ref 23), some (.int x), x2] [] M := by
  intro c
  induction c with
  | zero =>
    intro M x x2 hc hq hv hx hP
    have hR : M.2.2 = stdR b := by rw [hq.1]; exact hR0
    have hT : M.1 23 12 = nI T := (hq.2 23 12 (by unfold Sf; omega)).trans hT0
    have hn : M.1 23 14 = nI n := (hq.2 23 14 (by unfold Sf; omega)).trans hn0
    have hsp : ∀ t, t < T → M.1 25 t = nI (sp t) ∧ sp t < 4 := fun t h => ⟨(hq.2 25 t (by unfold Sf; omega)).trans (hsp0 t h).1, (hsp0 t h).2⟩
    refine r_iload_n hG dX2_findBest_27 rfl ?_
    refine r_if_lt hG 93 dX2_findBest_28 (by decide) (fun hc28 => ?_) (fun hc28 => absurd (show x < 0 by rw [hx]; decide) hc28)
    refine r_aload_n hG dX2_findBest_93 rfl ?_
    refine r_aload_n hG dX2_findBest_94 rfl ?_
    refine r_getIv hG 14 (nI n) fk_X2_57 dX2_findBest_95 rfl (by decide) rfl hn ?_
    refine r_iconst hG (1) dX2_findBest_98 (by decide) ?_
    refine r_iadd hG dX2_findBest_99 ?_
    refine r_putI hG 15 fp_X2_68 dX2_findBest_100 rfl (by decide) rfl rfl rfl ?_
    refine r_aload_n hG dX2_findBest_103 rfl ?_
    refine r_iconst hG (0) dX2_findBest_104 (by decide) ?_
    refine r_putI hG 16 fp_X2_71 dX2_findBest_105 rfl (by decide) rfl rfl rfl ?_
    refine r_aload_n hG dX2_findBest_108 rfl ?_
    refine r_iconst hG (0) dX2_findBest_109 (by decide) ?_
    refine r_iconst hG (0) dX2_findBest_110 (by decide) ?_
    refine r_iconst hG (0) dX2_findBest_111 (by decide) ?_
    refine r_cVV3 hG mk_X2_74 dX2_findBest_112 rfl (by decide) (ct_search n (M := (gwI (gwI M 23 15 (nI n + 1)) 23 16 0)) (by exact hR) (by exact hT) lT (by exact hn) ln (by exact hsp) 0 0 0 (by omega)) (by omega) ⟨Nat.le_refl _, Nat.le_refl _⟩ (Nat.le_of_ble_eq_true rfl) (fun M9 h9 => ?_)
    rw [h9]
    refine hE _ _ _ _ dX2_findBest_115 rfl (Nat.le_refl _) (Nat.le_refl _) ?_
    refine hP _ ⟨(gwI (gwI M 23 15 (nI n + 1)) 23 16 0), (hq.put (by unfold Sf; omega)).put (by unfold Sf; omega), fun j hj => ?_, by rw [gwI_n (by omega), gwI_s], gwI_s, rfl⟩
    rw [gwI_n (by omega), gwI_n (by omega), gwI_n (by omega), gwI_n (by omega)]
    exact hv j (by omega) hj
  | succ c ih =>
    intro M x x2 hc hq hv hx hP
    have hR : M.2.2 = stdR b := by rw [hq.1]; exact hR0
    have hT : M.1 23 12 = nI T := (hq.2 23 12 (by unfold Sf; omega)).trans hT0
    have hn : M.1 23 14 = nI n := (hq.2 23 14 (by unfold Sf; omega)).trans hn0
    have hsp : ∀ t, t < T → M.1 25 t = nI (sp t) ∧ sp t < 4 := fun t h => ⟨(hq.2 25 t (by unfold Sf; omega)).trans (hsp0 t h).1, (hsp0 t h).2⟩
    obtain rfl : x = nI c := by rw [hx, nI_pred]
    refine r_iload_n hG dX2_findBest_27 rfl ?_
    refine r_if_lt hG 93 dX2_findBest_28 (by decide) (fun hc28 => absurd hc28 (nI_pos (by omega))) (fun hc28 => ?_)
    refine r_aload_n hG dX2_findBest_31 rfl ?_
    refine r_iload_n hG dX2_findBest_32 rfl ?_
    refine r_cVI1 hG mk_X2_64 dX2_findBest_33 rfl (by decide) (ct_X2_leastTrip hR hT lT hn ln hsp (p := c) (by omega)) (by omega) ⟨Nat.le_refl _, Nat.le_refl _⟩ (Nat.le_of_ble_eq_true rfl) (fun x9 M9 h9 => ?_)
    obtain ⟨e8, e9⟩ := h9
    rw [e8, e9, pLeast_congr (M := M0) (fun q j h => hq.2 q j (by unfold Sf; omega)) (by omega)]
    refine r_istore_n hG dX2_findBest_36 (by decide) ?_
    refine r_loc [some (.ref 23), some (.int (nI c)), some (.int (pLeast M0 sp c T))] rfl ?_
    refine r_aload_n hG dX2_findBest_37 rfl ?_
    refine r_getR hG 10 40 fk_X2_44 dX2_findBest_38 rfl (by decide) rfl (sr hR rfl) ?_
    refine r_iload_n hG dX2_findBest_41 rfl ?_
    refine r_aload_n hG dX2_findBest_42 rfl ?_
    refine r_getR hG 10 40 fk_X2_44 dX2_findBest_43 rfl (by decide) rfl (sr hR rfl) ?_
    refine r_iload_n hG dX2_findBest_46 rfl ?_
    refine r_iconst hG (1) dX2_findBest_47 (by decide) ?_
    refine r_iadd hG dX2_findBest_48 ?_
    refine r_top (nI (c + 1)) (nI_1 c) ?_
    refine r_ialdv hG (c + 1) (lostN M0 sp T n (n - (c + 1))) dX2_findBest_49 rfl (by decide) rfl (by omega) (by decide) (hv (c + 1) (by omega) (by omega)).1 ?_
    refine r_iload_n hG dX2_findBest_50 rfl ?_
    refine r_iconst hG (-1) dX2_findBest_51 (by decide) ?_
    refine r_icmp_ne hG 59 dX2_findBest_52 (by decide) (fun hc52 => ?_) (fun hc52 => ?_)
    · refine r_iconst hG (0) dX2_findBest_59 (by decide) ?_
      refine r_iadd hG dX2_findBest_60 ?_
      refine r_iast hG c dX2_findBest_61 rfl (by decide) rfl (by omega) (by decide) ?_
      refine r_aload_n hG dX2_findBest_62 rfl ?_
      refine r_getR hG 11 41 fk_X2_47 dX2_findBest_63 rfl (by decide) rfl (sr hR rfl) ?_
      refine r_iload_n hG dX2_findBest_66 rfl ?_
      refine r_aload_n hG dX2_findBest_67 rfl ?_
      refine r_getR hG 11 41 fk_X2_47 dX2_findBest_68 rfl (by decide) rfl (sr hR rfl) ?_
      refine r_iload_n hG dX2_findBest_71 rfl ?_
      refine r_iconst hG (1) dX2_findBest_72 (by decide) ?_
      refine r_iadd hG dX2_findBest_73 ?_
      refine r_top (nI (c + 1)) (nI_1 c) ?_
      refine r_ialdv hG (c + 1) (leastN M0 sp T n (n - (c + 1))) dX2_findBest_74 rfl (by decide) rfl (by omega) (by decide) ((gwI_n (by omega)).trans (hv (c + 1) (by omega) (by omega)).2) ?_
      refine r_iload_n hG dX2_findBest_75 rfl ?_
      refine r_iconst hG (-1) dX2_findBest_76 (by decide) ?_
      refine r_icmp_ne hG 84 dX2_findBest_77 (by decide) (fun hc77 => ?_) (fun hc77 => absurd hc77 hc52)
      refine r_iload_n hG dX2_findBest_84 rfl ?_
      refine r_iadd hG dX2_findBest_85 ?_
      refine r_iast hG c dX2_findBest_86 rfl (by decide) rfl (by omega) (by decide) ?_
      refine r_iinc hG (-1) dX2_findBest_87 (by decide) rfl ?_
      refine r_loc [some (.ref 23), some (.int ((nI c) + (-1))), some (.int (pLeast M0 sp c T))] rfl ?_
      refine r_goto hG 27 dX2_findBest_90 (by decide) ?_
      refine ih _ _ _ (by omega) ((hq.put (by unfold Sf; omega)).put (by unfold Sf; omega)) (fun j h1 h2 => ?_) (addm1 _) hP
      by_cases e : j = c
      · subst e
        have e1 : n - j = (n - (j + 1)) + 1 := by omega
        have e2 : n - 1 - (n - (j + 1)) = j := by omega
        rw [e1, lostN_s, leastN_s, e2]
        refine ⟨?_, ?_⟩
        · rw [gwI_n (by omega), gwI_s, if_neg hc52]
        · rw [gwI_s, if_neg hc52]
      · rw [gwI_n (by omega), gwI_n (by omega), gwI_n (by omega), gwI_n (by omega)]
        exact hv j (by omega) h2
    · refine r_iconst hG (1) dX2_findBest_55 (by decide) ?_
      refine r_goto hG 60 dX2_findBest_56 (by decide) ?_
      refine r_iadd hG dX2_findBest_60 ?_
      refine r_iast hG c dX2_findBest_61 rfl (by decide) rfl (by omega) (by decide) ?_
      refine r_aload_n hG dX2_findBest_62 rfl ?_
      refine r_getR hG 11 41 fk_X2_47 dX2_findBest_63 rfl (by decide) rfl (sr hR rfl) ?_
      refine r_iload_n hG dX2_findBest_66 rfl ?_
      refine r_aload_n hG dX2_findBest_67 rfl ?_
      refine r_getR hG 11 41 fk_X2_47 dX2_findBest_68 rfl (by decide) rfl (sr hR rfl) ?_
      refine r_iload_n hG dX2_findBest_71 rfl ?_
      refine r_iconst hG (1) dX2_findBest_72 (by decide) ?_
      refine r_iadd hG dX2_findBest_73 ?_
      refine r_top (nI (c + 1)) (nI_1 c) ?_
      refine r_ialdv hG (c + 1) (leastN M0 sp T n (n - (c + 1))) dX2_findBest_74 rfl (by decide) rfl (by omega) (by decide) ((gwI_n (by omega)).trans (hv (c + 1) (by omega) (by omega)).2) ?_
      refine r_iload_n hG dX2_findBest_75 rfl ?_
      refine r_iconst hG (-1) dX2_findBest_76 (by decide) ?_
      refine r_icmp_ne hG 84 dX2_findBest_77 (by decide) (fun hc77 => absurd hc52 hc77) (fun hc77 => ?_)
      refine r_iconst hG (0) dX2_findBest_80 (by decide) ?_
      refine r_goto hG 85 dX2_findBest_81 (by decide) ?_
      refine r_iadd hG dX2_findBest_85 ?_
      refine r_iast hG c dX2_findBest_86 rfl (by decide) rfl (by omega) (by decide) ?_
      refine r_iinc hG (-1) dX2_findBest_87 (by decide) rfl ?_
      refine r_loc [some (.ref 23), some (.int ((nI c) + (-1))), some (.int (pLeast M0 sp c T))] rfl ?_
      refine r_goto hG 27 dX2_findBest_90 (by decide) ?_
      refine ih _ _ _ (by omega) ((hq.put (by unfold Sf; omega)).put (by unfold Sf; omega)) (fun j h1 h2 => ?_) (addm1 _) hP
      by_cases e : j = c
      · subst e
        have e1 : n - j = (n - (j + 1)) + 1 := by omega
        have e2 : n - 1 - (n - (j + 1)) = j := by omega
        rw [e1, lostN_s, leastN_s, e2]
        refine ⟨?_, ?_⟩
        · rw [gwI_n (by omega), gwI_s, if_pos hc52]
        · rw [gwI_s, if_pos hc52]
      · rw [gwI_n (by omega), gwI_n (by omega), gwI_n (by omega), gwI_n (by omega)]
        exact hv j (by omega) h2

set_option maxRecDepth 100000 in
set_option maxHeartbeats 400000 in
theorem ct_X2_findBest {M : gM} {b : Bool} (hR : M.2.2 = stdR b) {T n : Nat} {sp : Nat → Nat} (hT : M.1 23 12 = nI T) (lT : T ≤ 4) (hn : M.1 23 14 = nI n) (ln : n ≤ 6) (hsp : ∀ t, t < T → M.1 25 t = nI (sp t) ∧ sp t < 4) : gC 16 0 0 yX2_findBest cX2_findBest 3 none 140 140 [.ref 23] M (gV (fun M9 => (∃ M1, gEq Sf M M1 ∧ (∀ j, j ≤ n → M1.1 40 j = lostN M sp T n (n - j) ∧ M1.1 41 j = leastN M sp T n (n - j)) ∧ M1.1 23 15 = nI n + 1 ∧ M1.1 23 16 = 0 ∧ M9 = setS M1 (srch M1 sp T n n 0 0 0 (M1.1 24) (M1.1 27) (getS M1))))) := by
  refine gC_v rfl (Nat.le_of_ble_eq_true rfl) (fun G hG hE => ?_)
  change G (140, 0, 0) 0 [some (.ref 23), none, none] [] M
  refine r_aload_n hG dX2_findBest_0 rfl ?_
  refine r_getR hG 10 40 fk_X2_44 dX2_findBest_1 rfl (by decide) rfl (sr hR rfl) ?_
  refine r_aload_n hG dX2_findBest_4 rfl ?_
  refine r_getIv hG 14 (nI n) fk_X2_57 dX2_findBest_5 rfl (by decide) rfl hn ?_
  refine r_iconst hG (0) dX2_findBest_8 (by decide) ?_
  refine r_iast hG n dX2_findBest_9 rfl (by decide) rfl (by omega) (by decide) ?_
  refine r_aload_n hG dX2_findBest_10 rfl ?_
  refine r_getR hG 11 41 fk_X2_47 dX2_findBest_11 rfl (by decide) rfl (sr hR rfl) ?_
  refine r_aload_n hG dX2_findBest_14 rfl ?_
  refine r_getIv hG 14 (nI n) fk_X2_57 dX2_findBest_15 rfl (by decide) rfl ((gwI_n (by omega)).trans hn) ?_
  refine r_iconst hG (0) dX2_findBest_18 (by decide) ?_
  refine r_iast hG n dX2_findBest_19 rfl (by decide) rfl (by omega) (by decide) ?_
  refine r_aload_n hG dX2_findBest_20 rfl ?_
  refine r_getIv hG 14 (nI n) fk_X2_57 dX2_findBest_21 rfl (by decide) rfl (((gwI_n (by omega)).trans (gwI_n (by omega))).trans hn) ?_
  refine r_iconst hG (1) dX2_findBest_24 (by decide) ?_
  refine r_isub hG dX2_findBest_25 ?_
  refine r_istore_n hG dX2_findBest_26 (by decide) ?_
  refine r_loc [some (.ref 23), some (.int ((nI n) - (1))), none] rfl ?_
  refine lp_X2_findBest hG hE hR hT lT hn ln hsp n _ _ _ (Nat.le_refl n) ((gEq.rf.put (by unfold Sf; omega)).put (by unfold Sf; omega)) (fun j h1 h2 => ?_) rfl (fun M9 h9 => h9)
  rw [show j = n by omega, Nat.sub_self]
  exact ⟨by rw [gwI_n (by omega), gwI_s]; rfl, by rw [gwI_s]; rfl⟩

set_option maxRecDepth 100000 in
set_option maxHeartbeats 400000 in
theorem ct_X2_clear {M : gM} {b : Bool} (hR : M.2.2 = stdR b) : gC 0 0 0 yX2_clear cX2_clear 1 none 140 140 [.ref 23] M (gV (fun M9 => M9 = gwI (gwI (gwI M 23 12 0) 23 13 0) 23 14 0)) := by
  refine gC_v rfl (Nat.le_of_ble_eq_true rfl) (fun G hG hE => ?_)
  change G (140, 0, 0) 0 [some (.ref 23)] [] M
  refine r_aload_n hG dX2_clear_0 rfl ?_
  refine r_iconst hG (0) dX2_clear_1 (by decide) ?_
  refine r_putI hG 12 fp_X2_50 dX2_clear_2 rfl (by decide) rfl rfl rfl ?_
  refine r_aload_n hG dX2_clear_5 rfl ?_
  refine r_iconst hG (0) dX2_clear_6 (by decide) ?_
  refine r_putI hG 13 fp_X2_54 dX2_clear_7 rfl (by decide) rfl rfl rfl ?_
  refine r_aload_n hG dX2_clear_10 rfl ?_
  refine r_iconst hG (0) dX2_clear_11 (by decide) ?_
  refine r_putI hG 14 fp_X2_57 dX2_clear_12 rfl (by decide) rfl rfl rfl ?_
  refine hE _ _ _ _ dX2_clear_15 rfl (Nat.le_refl _) (Nat.le_refl _) ?_
  rfl

set_option maxRecDepth 100000 in
set_option maxHeartbeats 400000 in
theorem ct_X2_addTanker {M : gM} {b : Bool} (hR : M.2.2 = stdR b) {T : Nat} (hT : M.1 23 12 = nI T) (lT : T < 4) {s : Nat} (hs : s < 4) (h m : Int32) : gC 1 0 0 yX2_addTanker cX2_addTanker 4 none 140 140 [.ref 23, .int (nI s), .int h, .int m] M (gV (fun M9 => M9 = gwI (gwI (gwI (gwI M 25 T (nI s)) 26 T h) 27 T m) 23 12 (nI T + 1))) := by
  refine gC_v rfl (Nat.le_of_ble_eq_true rfl) (fun G hG hE => ?_)
  change G (140, 0, 0) 0 [some (.ref 23), some (.int (nI s)), some (.int h), some (.int m)] [] M
  refine r_aload_n hG dX2_addTanker_0 rfl ?_
  refine r_getIv hG 12 (nI T) fk_X2_50 dX2_addTanker_1 rfl (by decide) rfl hT ?_
  refine r_iconst hG (4) dX2_addTanker_4 (by decide) ?_
  refine r_icmp_ge hG 57 dX2_addTanker_5 (by decide) (fun hc5 => absurd (nle_t (a := 4) (b := T) (by omega) (by omega) hc5) (by omega)) (fun hc5 => ?_)
  refine r_iload_n hG dX2_addTanker_8 rfl ?_
  refine r_iconst hG (0) dX2_addTanker_9 (by decide) ?_
  refine r_iconst hG (3) dX2_addTanker_10 (by decide) ?_
  refine r_cNI3 hG mk_X2_60 dX2_addTanker_11 (ct_X8_within _ _ _) (by decide) ⟨Nat.le_refl _, Nat.le_refl _⟩ (Nat.le_of_ble_eq_true rfl) (fun x9 M9 h9 => ?_)
  obtain ⟨h8, e9⟩ := h9; rw [e9]; rcases h8 with ⟨e8, hw11⟩ | ⟨e8, hw11⟩; rotate_left; exact absurd ⟨nI_pos' (by omega), nI_le (b := 3) (by omega) (by omega)⟩ hw11
  · rw [e8]
    refine r_if_eq hG 57 dX2_addTanker_14 (by decide) (fun hc14 => absurd hc14 (by decide)) (fun hc14 => ?_)
    refine r_aload_n hG dX2_addTanker_17 rfl ?_
    refine r_getR hG 1 25 fk_X2_15 dX2_addTanker_18 rfl (by decide) rfl (sr hR rfl) ?_
    refine r_aload_n hG dX2_addTanker_21 rfl ?_
    refine r_getIv hG 12 (nI T) fk_X2_50 dX2_addTanker_22 rfl (by decide) rfl hT ?_
    refine r_iload_n hG dX2_addTanker_25 rfl ?_
    refine r_iast hG T dX2_addTanker_26 rfl (by decide) rfl (by omega) (by decide) ?_
    refine r_aload_n hG dX2_addTanker_27 rfl ?_
    refine r_getR hG 2 26 fk_X2_18 dX2_addTanker_28 rfl (by decide) rfl (sr hR rfl) ?_
    refine r_aload_n hG dX2_addTanker_31 rfl ?_
    refine r_getIv hG 12 (nI T) fk_X2_50 dX2_addTanker_32 rfl (by decide) rfl ((gwI_n (by omega)).trans hT) ?_
    refine r_iload_n hG dX2_addTanker_35 rfl ?_
    refine r_iast hG T dX2_addTanker_36 rfl (by decide) rfl (by omega) (by decide) ?_
    refine r_aload_n hG dX2_addTanker_37 rfl ?_
    refine r_getR hG 3 27 fk_X2_21 dX2_addTanker_38 rfl (by decide) rfl (sr hR rfl) ?_
    refine r_aload_n hG dX2_addTanker_41 rfl ?_
    refine r_getIv hG 12 (nI T) fk_X2_50 dX2_addTanker_42 rfl (by decide) rfl (((gwI_n (by omega)).trans (gwI_n (by omega))).trans hT) ?_
    refine r_iload_n hG dX2_addTanker_45 rfl ?_
    refine r_iast hG T dX2_addTanker_46 rfl (by decide) rfl (by omega) (by decide) ?_
    refine r_aload_n hG dX2_addTanker_47 rfl ?_
    refine r_dup hG dX2_addTanker_48 rfl ?_
    refine r_getIv hG 12 (nI T) fk_X2_50 dX2_addTanker_49 rfl (by decide) rfl (((gwI_n (by omega)).trans ((gwI_n (by omega)).trans (gwI_n (by omega)))).trans hT) ?_
    refine r_iconst hG (1) dX2_addTanker_52 (by decide) ?_
    refine r_iadd hG dX2_addTanker_53 ?_
    refine r_putI hG 12 fp_X2_50 dX2_addTanker_54 rfl (by decide) rfl rfl rfl ?_
    refine hE _ _ _ _ dX2_addTanker_57 rfl (Nat.le_refl _) (Nat.le_refl _) ?_
    rfl

set_option maxRecDepth 100000 in
set_option maxHeartbeats 400000 in
theorem ct_X2_addPlace {M : gM} {b : Bool} (hR : M.2.2 = stdR b) {n : Nat} (hn : M.1 23 14 = nI n) (ln : n < 6) (v l r : Int32) : gC 0 0 0 yX2_addPlace cX2_addPlace 4 none 140 140 [.ref 23, .int v, .int l, .int r] M (gV (fun M9 => M9 = gwI (gwI (gwI (gwI M 28 n v) 29 n l) 30 n r) 23 14 (nI n + 1))) := by
  refine gC_v rfl (Nat.le_of_ble_eq_true rfl) (fun G hG hE => ?_)
  change G (140, 0, 0) 0 [some (.ref 23), some (.int v), some (.int l), some (.int r)] [] M
  refine r_aload_n hG dX2_addPlace_0 rfl ?_
  refine r_getIv hG 14 (nI n) fk_X2_57 dX2_addPlace_1 rfl (by decide) rfl hn ?_
  refine r_bipush hG (6) dX2_addPlace_4 (by decide) ?_
  refine r_icmp_ge hG 49 dX2_addPlace_6 (by decide) (fun hc6 => absurd (nle_t (a := 6) (b := n) (by omega) (by omega) hc6) (by omega)) (fun hc6 => ?_)
  refine r_aload_n hG dX2_addPlace_9 rfl ?_
  refine r_getR hG 4 28 fk_X2_24 dX2_addPlace_10 rfl (by decide) rfl (sr hR rfl) ?_
  refine r_aload_n hG dX2_addPlace_13 rfl ?_
  refine r_getIv hG 14 (nI n) fk_X2_57 dX2_addPlace_14 rfl (by decide) rfl hn ?_
  refine r_iload_n hG dX2_addPlace_17 rfl ?_
  refine r_iast hG n dX2_addPlace_18 rfl (by decide) rfl (by omega) (by decide) ?_
  refine r_aload_n hG dX2_addPlace_19 rfl ?_
  refine r_getR hG 5 29 fk_X2_27 dX2_addPlace_20 rfl (by decide) rfl (sr hR rfl) ?_
  refine r_aload_n hG dX2_addPlace_23 rfl ?_
  refine r_getIv hG 14 (nI n) fk_X2_57 dX2_addPlace_24 rfl (by decide) rfl ((gwI_n (by omega)).trans hn) ?_
  refine r_iload_n hG dX2_addPlace_27 rfl ?_
  refine r_iast hG n dX2_addPlace_28 rfl (by decide) rfl (by omega) (by decide) ?_
  refine r_aload_n hG dX2_addPlace_29 rfl ?_
  refine r_getR hG 6 30 fk_X2_30 dX2_addPlace_30 rfl (by decide) rfl (sr hR rfl) ?_
  refine r_aload_n hG dX2_addPlace_33 rfl ?_
  refine r_getIv hG 14 (nI n) fk_X2_57 dX2_addPlace_34 rfl (by decide) rfl (((gwI_n (by omega)).trans (gwI_n (by omega))).trans hn) ?_
  refine r_iload_n hG dX2_addPlace_37 rfl ?_
  refine r_iast hG n dX2_addPlace_38 rfl (by decide) rfl (by omega) (by decide) ?_
  refine r_aload_n hG dX2_addPlace_39 rfl ?_
  refine r_dup hG dX2_addPlace_40 rfl ?_
  refine r_getIv hG 14 (nI n) fk_X2_57 dX2_addPlace_41 rfl (by decide) rfl (((gwI_n (by omega)).trans ((gwI_n (by omega)).trans (gwI_n (by omega)))).trans hn) ?_
  refine r_iconst hG (1) dX2_addPlace_44 (by decide) ?_
  refine r_iadd hG dX2_addPlace_45 ?_
  refine r_putI hG 14 fp_X2_57 dX2_addPlace_46 rfl (by decide) rfl rfl rfl ?_
  refine hE _ _ _ _ dX2_addPlace_49 rfl (Nat.le_refl _) (Nat.le_refl _) ?_
  rfl

set_option maxRecDepth 100000 in
set_option maxHeartbeats 400000 in
theorem ct_X2_setTrip {M : gM} {b : Bool} (hR : M.2.2 = stdR b) {n : Nat} (hn : M.1 23 14 = nI (n + 1)) (ln : n < 6) {t : Nat} (ht : t < 4) (m : Int32) : gC 1 0 0 yX2_setTrip cX2_setTrip 3 none 140 140 [.ref 23, .int (nI t), .int m] M (gV (fun M9 => M9 = gwI M (n + 32) t m)) := by
  refine gC_v rfl (Nat.le_of_ble_eq_true rfl) (fun G hG hE => ?_)
  change G (140, 0, 0) 0 [some (.ref 23), some (.int (nI t)), some (.int m)] [] M
  refine r_aload_n hG dX2_setTrip_0 rfl ?_
  refine r_getIv hG 14 (nI (n + 1)) fk_X2_57 dX2_setTrip_1 rfl (by decide) rfl hn ?_
  refine r_if_le hG 30 dX2_setTrip_4 (by decide) (fun hc4 => absurd (nle_t (a := (n + 1)) (b := 0) (by omega) (by omega) hc4) (by omega)) (fun hc4 => ?_)
  refine r_iload_n hG dX2_setTrip_7 rfl ?_
  refine r_iconst hG (0) dX2_setTrip_8 (by decide) ?_
  refine r_iconst hG (3) dX2_setTrip_9 (by decide) ?_
  refine r_cNI3 hG mk_X2_60 dX2_setTrip_10 (ct_X8_within _ _ _) (by decide) ⟨Nat.le_refl _, Nat.le_refl _⟩ (Nat.le_of_ble_eq_true rfl) (fun x9 M9 h9 => ?_)
  obtain ⟨h8, e9⟩ := h9; rw [e9]; rcases h8 with ⟨e8, hw10⟩ | ⟨e8, hw10⟩; rotate_left; exact absurd ⟨nI_pos' (by omega), nI_le (b := 3) (by omega) (by omega)⟩ hw10
  · rw [e8]
    refine r_if_eq hG 30 dX2_setTrip_13 (by decide) (fun hc13 => absurd hc13 (by decide)) (fun hc13 => ?_)
    refine r_aload_n hG dX2_setTrip_16 rfl ?_
    refine r_getR hG 7 31 fk_X2_35 dX2_setTrip_17 rfl (by decide) rfl (sr hR rfl) ?_
    refine r_aload_n hG dX2_setTrip_20 rfl ?_
    refine r_getIv hG 14 (nI (n + 1)) fk_X2_57 dX2_setTrip_21 rfl (by decide) rfl hn ?_
    refine r_iconst hG (1) dX2_setTrip_24 (by decide) ?_
    refine r_isub hG dX2_setTrip_25 ?_
    refine r_top (nI n) (nI_pred n) ?_
    refine r_aald8 hG n (n + 32) dX2_setTrip_26 rfl (by decide) rfl (by omega) (by decide) (sr hR rfl) ?_
    refine r_iload_n hG dX2_setTrip_27 rfl ?_
    refine r_iload_n hG dX2_setTrip_28 rfl ?_
    refine r_iast hG t dX2_setTrip_29 (gkR (by omega)) (show (n + 32) < 140 by omega) rfl (by omega) (by decide) ?_
    refine hE _ _ _ _ dX2_setTrip_30 rfl (Nat.le_refl _) (Nat.le_refl _) ?_
    rfl


/-! the model's reader -/
def wdM (M : gM) : Prop := ∀ w, w < 10 → M.2.1 93 w = wval (wcd w)
theorem sv_inj0 : ∀ c, c < 18 → ∀ d, d < 18 → (isSg c ∧ isSg d ∧ svN c = svN d → c = d) := by decide
theorem sv_inj (c : Nat) (h : c < 18) (d : Nat) (h' : d < 18) (k : isSg c) (k' : isSg d) (e : svN c = svN d) : c = d := sv_inj0 c h d h' ⟨k, k', e⟩
theorem sg_lt {c : Nat} (h : isSg c) : c < 18 := by rcases h with h | h <;> omega
theorem svN_lt : ∀ c, c < 18 → svN c < 100 := by decide
theorem sg_is {t : Nat × Int32} {so : Int32} {va : Int64} {c : Nat} (h : tokR t so va) (hc : isSg c) : (so = 3 ∧ va = sval c) ↔ t.1 = c := by
  constructor
  · rintro ⟨h1, h2⟩
    rcases h with ⟨_, e, _⟩ | ⟨_, e, _⟩ | ⟨k, _, e⟩ | ⟨_, e⟩ | ⟨_, e | ⟨e, _⟩⟩
    · rw [h1] at e; exact absurd e (by decide)
    · rw [h1] at e; exact absurd e (by decide)
    · refine sv_inj _ (sg_lt k) _ (sg_lt hc) k hc (ofNat_inj64 ?_ ?_ (e.symm.trans h2))
      · have := svN_lt _ (sg_lt k); omega
      · have := svN_lt _ (sg_lt hc); omega
    · rw [h1] at e; exact absurd e (by decide)
    · rw [h1] at e; exact absurd e (by decide)
    · rw [h1] at e; exact absurd e (by decide)
  · intro e
    rcases h with ⟨k, _⟩ | ⟨k, _⟩ | ⟨_, e1, e2⟩ | ⟨k, _⟩ | ⟨k, _⟩
    · rw [e] at k; rcases hc with hc | hc <;> omega
    · rw [e] at k; rcases hc with hc | hc <;> rcases k with k | k <;> omega
    · rw [e] at e2; exact ⟨e1, e2⟩
    · rw [e] at k; rcases hc with hc | hc <;> omega
    · rw [e] at k; rcases hc with hc | hc <;> omega
theorem wd_is {t : Nat × Int32} {so : Int32} {va : Int64} {w : Nat} (h : tokR t so va) (hw : w < 10) : (so = 1 ∧ va = wval (wcd w)) ↔ t.1 = wcd w := by
  have hc := (wcd_in w hw).1
  constructor
  · rintro ⟨h1, h2⟩
    rcases h with ⟨_, e, _⟩ | ⟨k, _, e⟩ | ⟨_, e, _⟩ | ⟨_, e⟩ | ⟨_, e | ⟨_, e⟩⟩
    · rw [h1] at e; exact absurd e (by decide)
    · obtain ⟨g1, g2⟩ := isW_of _ k
      have := ofNat_inj64 (by have := wvN_lt _ g1; omega) (by have := wvN_lt w hw; omega) (show Int64.ofNat (wvN (wcd (wix t.1))) = Int64.ofNat (wvN (wcd w)) by rw [g2]; exact e.symm.trans h2)
      rw [← g2, (by decide : ∀ i, i < 10 → ∀ j, j < 10 → wvN (wcd i) = wvN (wcd j) → i = j) _ g1 w hw this]
    · rw [h1] at e; exact absurd e (by decide)
    · rw [h1] at e; exact absurd e (by decide)
    · rw [h1] at e; exact absurd e (by decide)
    · exact absurd h2 (e _ hc)
  · intro e
    rcases h with ⟨k, _⟩ | ⟨_, e1, e2⟩ | ⟨k, _⟩ | ⟨k, _⟩ | ⟨k, _⟩
    · rw [e] at k; rcases hc with hc | hc <;> omega
    · rw [e] at e2; exact ⟨e1, e2⟩
    · rw [e] at k; rcases hc with hc | hc <;> rcases k with k | k <;> omega
    · rw [e] at k; rcases hc with hc | hc <;> omega
    · rw [e] at k; rcases hc with hc | hc <;> omega
theorem nu_is {t : Nat × Int32} {so : Int32} {va : Int64} (h : tokR t so va) : so = 2 ↔ t.1 = 0 := by
  constructor
  · intro h1
    rcases h with ⟨k, _⟩ | ⟨_, e, _⟩ | ⟨_, e, _⟩ | ⟨_, e⟩ | ⟨_, e | ⟨e, _⟩⟩
    · exact k
    all_goals (rw [h1] at e; exact absurd e (by decide))
  · intro e
    rcases h with ⟨_, k, _⟩ | ⟨k, _⟩ | ⟨k, _⟩ | ⟨k, _⟩ | ⟨k, _⟩
    · exact k
    · rw [e] at k; rcases k with k | k <;> omega
    · rw [e] at k; rcases k with k | k <;> omega
    · omega
    · omega
theorem en_is {t : Nat × Int32} {so : Int32} {va : Int64} (h : tokR t so va) : so = 0 ↔ t.1 = 18 := by
  constructor
  · intro h1
    rcases h with ⟨_, e, _⟩ | ⟨_, e, _⟩ | ⟨_, e, _⟩ | ⟨k, _⟩ | ⟨_, e | ⟨e, _⟩⟩
    · rw [h1] at e; exact absurd e (by decide)
    · rw [h1] at e; exact absurd e (by decide)
    · rw [h1] at e; exact absurd e (by decide)
    · exact k
    · rw [h1] at e; exact absurd e (by decide)
    · rw [h1] at e; exact absurd e (by decide)
  · intro e
    rcases h with ⟨k, _⟩ | ⟨k, _⟩ | ⟨k, _⟩ | ⟨_, k⟩ | ⟨k, _⟩
    · omega
    · rw [e] at k; rcases k with k | k <;> omega
    · rw [e] at k; rcases k with k | k <;> omega
    · exact k
    · omega
theorem nu_va {t : Nat × Int32} {so : Int32} {va : Int64} (h : tokR t so va) (h0 : t.1 = 0) : va = t.2.toInt64 := by
  rcases h with ⟨_, _, k, _⟩ | ⟨k, _⟩ | ⟨k, _⟩ | ⟨k, _⟩ | ⟨k, _⟩
  · exact k
  · rw [h0] at k; rcases k with k | k <;> omega
  · rw [h0] at k; rcases k with k | k <;> omega
  · omega
  · omega
theorem lc_eq {x y : Int64} : lg_cmp x y = 0 ↔ x = y := by
  unfold lg_cmp
  by_cases h1 : x > y
  · rw [if_pos h1]
    exact ⟨fun z => absurd z (by decide), fun z => absurd h1 (by rw [z]; exact Int64.lt_irrefl)⟩
  · rw [if_neg h1]
    by_cases h2 : x = y
    · rw [if_pos h2]; exact ⟨fun _ => h2, fun _ => rfl⟩
    · rw [if_neg h2]; exact ⟨fun z => absurd z (by decide), fun z => absurd z h2⟩
/-- a wait as the model has it -/
def wv (c : Nat) : Int32 := if c = 0 then 0 else nI (c - 4)
theorem wv_0 {c : Nat} (h : c = 0 ∨ (7 ≤ c ∧ c ≤ 11)) : wv c = 0 ↔ c = 0 := (by decide : ∀ c, c < 12 → c = 0 ∨ (7 ≤ c ∧ c ≤ 11) → (wv c = 0 ↔ c = 0)) c (by omega) h
theorem wv_op {c : Nat} (h : 7 ≤ c) : wv c = opv (c, 0) := by
  unfold wv opv
  rw [if_neg (by omega), if_neg (show ¬ c = 0 by omega), if_neg (show ¬ c < 7 by omega)]
theorem one_op {c : Nat} (h : 7 ≤ c) : (0 : Int32) = onev (c, 0) := by
  unfold onev
  rw [if_neg (show ¬ c = 0 by omega), if_neg (show ¬ c < 7 by omega)]
/-- where the model's reader stands -/
def psM (M : gM) (h n st a d u : Nat) (W : wS) (c : cS) : Prop := M.1 88 7 = nI a ∧ M.1 88 8 = 0 ∧ M.1 88 17 = nI h ∧ M.1 88 18 = nI (n + u) ∧ M.1 88 19 = nI d ∧ (∀ k, k ≤ d → M.1 100 k = wv (W k).1 ∧ M.1 101 k = wv (W k).2.1 ∧ M.1 102 k = wv (W k).2.2) ∧ ∀ j, st ≤ j → j < u → M.1 98 (660 * h + n + j) = opv (c j) ∧ M.1 99 (660 * h + n + j) = onev (c j)
def SM (x y k j : Nat) : Prop := ((k = 98 ∨ k = 99) ∧ x ≤ j ∧ j < y) ∨ k = 100 ∨ k = 101 ∨ k = 102 ∨ (k = 88 ∧ (j = 7 ∨ j = 8 ∨ j = 18 ∨ j = 19))
section
variable {M : gM} {h n st a d u : Nat} {W : wS} {c : cS}
theorem psM.at (p : psM M h n st a d u W c) : psM (gwI M 88 7 (nI a + 1)) h n st (a + 1) d u W c :=
  ⟨by rw [gwI_s, nI_1], by rw [gwI_n (by omega)]; exact p.2.1, by rw [gwI_n (by omega)]; exact p.2.2.1, by rw [gwI_n (by omega)]; exact p.2.2.2.1, by rw [gwI_n (by omega)]; exact p.2.2.2.2.1, fun k hk => by rw [gwI_n (by omega), gwI_n (by omega), gwI_n (by omega)]; exact p.2.2.2.2.2.1 k hk, fun j h1 h2 => by rw [gwI_n (by omega), gwI_n (by omega)]; exact p.2.2.2.2.2.2 j h1 h2⟩
theorem psM.emit (p : psM M h n st a d u W c) {x y : Int32} {t : Nat × Int32} (hx : x = opv t) (hy : y = onev t) : psM (gwI (gwI (gwI M 98 (660 * h + (n + u)) x) 99 (660 * h + (n + u)) y) 88 18 (nI (n + u) + 1)) h n st a d (u + 1) W (cset c u t) := by
  refine ⟨by rw [gwI_n (by omega), gwI_n (by omega), gwI_n (by omega)]; exact p.1, by rw [gwI_n (by omega), gwI_n (by omega), gwI_n (by omega)]; exact p.2.1, by rw [gwI_n (by omega), gwI_n (by omega), gwI_n (by omega)]; exact p.2.2.1, by rw [gwI_s, nI_1]; rfl, by rw [gwI_n (by omega), gwI_n (by omega), gwI_n (by omega)]; exact p.2.2.2.2.1, fun k hk => ?_, fun j h1 h2 => ?_⟩
  · rw [gwI_n (by omega), gwI_n (by omega), gwI_n (by omega), gwI_n (by omega), gwI_n (by omega), gwI_n (by omega), gwI_n (by omega), gwI_n (by omega), gwI_n (by omega)]
    exact p.2.2.2.2.2.1 k hk
  · by_cases e : j = u
    · subst e
      rw [cset_s, show 660 * h + n + j = 660 * h + (n + j) by omega, gwI_n (by omega), gwI_n (by omega), gwI_s, gwI_n (by omega), gwI_s]
      exact ⟨hx, hy⟩
    · rw [cset_n e, gwI_n (by omega), gwI_n (by omega), gwI_n (by omega), gwI_n (by omega), gwI_n (by omega), gwI_n (by omega)]
      exact p.2.2.2.2.2.2 j h1 (by omega)
theorem psM.w1 (p : psM M h n st a d u W c) {x : Nat} {v : Int32} (hv : v = wv x) : psM (gwI M 100 d v) h n st a d u (wset W d (x, (W d).2)) c := by
  refine ⟨by rw [gwI_n (by omega)]; exact p.1, by rw [gwI_n (by omega)]; exact p.2.1, by rw [gwI_n (by omega)]; exact p.2.2.1, by rw [gwI_n (by omega)]; exact p.2.2.2.1, by rw [gwI_n (by omega)]; exact p.2.2.2.2.1, fun k hk => ?_, fun j h1 h2 => by rw [gwI_n (by omega), gwI_n (by omega)]; exact p.2.2.2.2.2.2 j h1 h2⟩
  rw [gwI_n (a := 101) (by omega), gwI_n (a := 102) (by omega)]
  by_cases e : k = d
  · subst e
    rw [gwI_s, wset_s]
    exact ⟨hv, (p.2.2.2.2.2.1 k hk).2⟩
  · rw [gwI_n (by omega), wset_n e]; exact p.2.2.2.2.2.1 k hk
theorem psM.w2 (p : psM M h n st a d u W c) {x : Nat} {v : Int32} (hv : v = wv x) : psM (gwI M 101 d v) h n st a d u (wset W d ((W d).1, x, (W d).2.2)) c := by
  refine ⟨by rw [gwI_n (by omega)]; exact p.1, by rw [gwI_n (by omega)]; exact p.2.1, by rw [gwI_n (by omega)]; exact p.2.2.1, by rw [gwI_n (by omega)]; exact p.2.2.2.1, by rw [gwI_n (by omega)]; exact p.2.2.2.2.1, fun k hk => ?_, fun j h1 h2 => by rw [gwI_n (by omega), gwI_n (by omega)]; exact p.2.2.2.2.2.2 j h1 h2⟩
  rw [gwI_n (a := 100) (by omega), gwI_n (a := 102) (by omega)]
  by_cases e : k = d
  · subst e
    rw [gwI_s, wset_s]
    exact ⟨(p.2.2.2.2.2.1 k hk).1, hv, (p.2.2.2.2.2.1 k hk).2.2⟩
  · rw [gwI_n (by omega), wset_n e]; exact p.2.2.2.2.2.1 k hk
theorem psM.w3 (p : psM M h n st a d u W c) {x : Nat} {v : Int32} (hv : v = wv x) : psM (gwI M 102 d v) h n st a d u (wset W d ((W d).1, (W d).2.1, x)) c := by
  refine ⟨by rw [gwI_n (by omega)]; exact p.1, by rw [gwI_n (by omega)]; exact p.2.1, by rw [gwI_n (by omega)]; exact p.2.2.1, by rw [gwI_n (by omega)]; exact p.2.2.2.1, by rw [gwI_n (by omega)]; exact p.2.2.2.2.1, fun k hk => ?_, fun j h1 h2 => by rw [gwI_n (by omega), gwI_n (by omega)]; exact p.2.2.2.2.2.2 j h1 h2⟩
  rw [gwI_n (a := 100) (by omega), gwI_n (a := 101) (by omega)]
  by_cases e : k = d
  · subst e
    rw [gwI_s, wset_s]
    exact ⟨(p.2.2.2.2.2.1 k hk).1, (p.2.2.2.2.2.1 k hk).2.1, hv⟩
  · rw [gwI_n (by omega), wset_n e]; exact p.2.2.2.2.2.1 k hk
theorem psM.down (p : psM M h n st a (d + 1) u W c) {v : Int32} (hv : v = nI d) : psM (gwI M 88 19 v) h n st a d u W c :=
  ⟨by rw [gwI_n (by omega)]; exact p.1, by rw [gwI_n (by omega)]; exact p.2.1, by rw [gwI_n (by omega)]; exact p.2.2.1, by rw [gwI_n (by omega)]; exact p.2.2.2.1, by rw [gwI_s]; exact hv, fun k hk => by rw [gwI_n (by omega), gwI_n (by omega), gwI_n (by omega)]; exact p.2.2.2.2.2.1 k (by omega), fun j h1 h2 => by rw [gwI_n (by omega), gwI_n (by omega)]; exact p.2.2.2.2.2.2 j h1 h2⟩
theorem psM.op (p : psM M h n st a d u W c) {v : Int32} (hv : v = nI (d + 1)) : psM (gwI (gwI (gwI (gwI M 88 19 v) 100 (d + 1) 0) 101 (d + 1) 0) 102 (d + 1) 0) h n st a (d + 1) u (wset W (d + 1) (0, 0, 0)) c := by
  refine ⟨by rw [gwI_n (by omega), gwI_n (by omega), gwI_n (by omega), gwI_n (by omega)]; exact p.1, by rw [gwI_n (by omega), gwI_n (by omega), gwI_n (by omega), gwI_n (by omega)]; exact p.2.1, by rw [gwI_n (by omega), gwI_n (by omega), gwI_n (by omega), gwI_n (by omega)]; exact p.2.2.1, by rw [gwI_n (by omega), gwI_n (by omega), gwI_n (by omega), gwI_n (by omega)]; exact p.2.2.2.1, by rw [gwI_n (by omega), gwI_n (by omega), gwI_n (by omega), gwI_s]; exact hv, fun k hk => ?_, fun j h1 h2 => by rw [gwI_n (by omega), gwI_n (by omega), gwI_n (by omega), gwI_n (by omega), gwI_n (by omega), gwI_n (by omega), gwI_n (by omega), gwI_n (by omega)]; exact p.2.2.2.2.2.2 j h1 h2⟩
  by_cases e : k = d + 1
  · subst e
    rw [wset_s]
    refine ⟨?_, ?_, ?_⟩
    · rw [gwI_n (by omega), gwI_n (by omega), gwI_s]; rfl
    · rw [gwI_n (by omega), gwI_s]; rfl
    · rw [gwI_s]; rfl
  · rw [wset_n e, gwI_n (by omega), gwI_n (by omega), gwI_n (by omega), gwI_n (by omega), gwI_n (by omega), gwI_n (by omega), gwI_n (by omega), gwI_n (by omega), gwI_n (by omega), gwI_n (by omega), gwI_n (by omega), gwI_n (by omega)]
    exact p.2.2.2.2.2.1 k (by omega)
end
theorem flt_ne {k p : Nat} (hk : 1 ≤ k ∧ k ≤ 5) (hp : p ≤ 600) : nI k + 16 * nI p = nI (k + 16 * p) := by
  rw [show (16 : Int32) = nI 16 from rfl, pk_mul, nI_add]
set_option maxRecDepth 100000 in
set_option maxHeartbeats 400000 in
theorem ct_X9_wrong {M : gM} {b : Bool} (hR : M.2.2 = stdR b) {q : kS} (hk : tkM M q) (l601 : q.1 ≤ 601) {a : Nat} (h7 : M.1 88 7 = nI a) (ha : a < q.1) (h8 : M.1 88 8 = 0) (x : Int32) : gC 0 0 0 yX9_wrong cX9_wrong 2 none 140 140 [.ref 88, .int x] M (gV (fun M9 => M9 = gwI M 88 8 (x + 16 * nI (q.2.2 a)))) := by
  refine gC_v rfl (Nat.le_of_ble_eq_true rfl) (fun G hG hE => ?_)
  change G (140, 0, 0) 0 [some (.ref 88), some (.int x)] [] M
  refine r_aload_n hG dX9_wrong_0 rfl ?_
  refine r_getIv hG 8 (0) fk_X9_219 dX9_wrong_1 rfl (by decide) rfl h8 ?_
  refine r_if_ne hG 25 dX9_wrong_4 (by decide) (fun hc4 => absurd hc4 (by decide)) (fun hc4 => ?_)
  refine r_aload_n hG dX9_wrong_7 rfl ?_
  refine r_iload_n hG dX9_wrong_8 rfl ?_
  refine r_bipush hG (16) dX9_wrong_9 (by decide) ?_
  refine r_aload_n hG dX9_wrong_11 rfl ?_
  refine r_getR hG 5 91 fk_X9_27 dX9_wrong_12 rfl (by decide) rfl (sr hR rfl) ?_
  refine r_aload_n hG dX9_wrong_15 rfl ?_
  refine r_getIv hG 7 (nI a) fk_X9_216 dX9_wrong_16 rfl (by decide) rfl h7 ?_
  refine r_ialdv hG a (nI (q.2.2 a)) dX9_wrong_19 rfl (by decide) rfl (by omega) (by decide) (hk a ha).2 ?_
  refine r_imul hG dX9_wrong_20 ?_
  refine r_iadd hG dX9_wrong_21 ?_
  refine r_putI hG 8 fp_X9_219 dX9_wrong_22 rfl (by decide) rfl rfl rfl ?_
  refine hE _ _ _ _ dX9_wrong_25 rfl (Nat.le_refl _) (Nat.le_refl _) ?_
  rfl

set_option maxRecDepth 100000 in
set_option maxHeartbeats 400000 in
theorem ct_X9_wrongF {M : gM} {b : Bool} (hR : M.2.2 = stdR b) (h8 : ¬ M.1 88 8 = 0) (x : Int32) : gC 0 0 0 yX9_wrong cX9_wrong 2 none 140 140 [.ref 88, .int x] M (gV (fun M9 => M9 = M)) := by
  refine gC_v rfl (Nat.le_of_ble_eq_true rfl) (fun G hG hE => ?_)
  change G (140, 0, 0) 0 [some (.ref 88), some (.int x)] [] M
  refine r_aload_n hG dX9_wrong_0 rfl ?_
  refine r_getI hG 8 fk_X9_219 dX9_wrong_1 rfl (by decide) rfl ?_
  refine r_if_ne hG 25 dX9_wrong_4 (by decide) (fun hc4 => ?_) (fun hc4 => absurd hc4 h8)
  refine hE _ _ _ _ dX9_wrong_25 rfl (Nat.le_refl _) (Nat.le_refl _) ?_
  rfl

set_option maxRecDepth 100000 in
set_option maxHeartbeats 400000 in
theorem ct_X9_isSign {M : gM} {b : Bool} (hR : M.2.2 = stdR b) {q : kS} (hk : tkM M q) (l601 : q.1 ≤ 601) {a : Nat} (h7 : M.1 88 7 = nI a) (ha : a < q.1) (h8 : M.1 88 8 = 0) {c : Nat} (hc : isSg c) {x : Int32} (hx : x.toInt64 = sval c) : gC 0 0 0 yX9_isSign cX9_isSign 2 (some .boolean) 140 140 [.ref 88, .int x] M (gI (fun r M9 => bI ((q.2.1 a).1 = c) r ∧ M9 = M)) := by
  refine gC_i rfl (Nat.le_of_ble_eq_true rfl) (fun G hG hE => ?_)
  change G (140, 0, 0) 0 [some (.ref 88), some (.int x)] [] M
  refine r_aload_n hG dX9_isSign_0 rfl ?_
  refine r_getIv hG 8 (0) fk_X9_219 dX9_isSign_1 rfl (by decide) rfl h8 ?_
  refine r_if_ne hG 39 dX9_isSign_4 (by decide) (fun hc4 => absurd hc4 (by decide)) (fun hc4 => ?_)
  refine r_aload_n hG dX9_isSign_7 rfl ?_
  refine r_getR hG 4 90 fk_X9_24 dX9_isSign_8 rfl (by decide) rfl (sr hR rfl) ?_
  refine r_aload_n hG dX9_isSign_11 rfl ?_
  refine r_getIv hG 7 (nI a) fk_X9_216 dX9_isSign_12 rfl (by decide) rfl h7 ?_
  refine r_iald hG a dX9_isSign_15 rfl (by decide) rfl (by omega) (by decide) ?_
  refine r_iconst hG (3) dX9_isSign_16 (by decide) ?_
  refine r_icmp_ne hG 39 dX9_isSign_17 (by decide) (fun hc17 => ?_) (fun hc17 => ?_)
  · refine r_iconst hG (0) dX9_isSign_39 (by decide) ?_
    refine hE _ _ _ _ _ dX9_isSign_40 rfl (Nat.le_refl _) (Nat.le_refl _) rfl ?_
    exact ⟨Or.inr ⟨rfl, fun z => hc17 ((sg_is (hk a ha).1 hc).mpr z).1⟩, rfl⟩
  · refine r_aload_n hG dX9_isSign_20 rfl ?_
    refine r_getR hG 6 92 fk_X9_30 dX9_isSign_21 rfl (by decide) rfl (sr hR rfl) ?_
    refine r_aload_n hG dX9_isSign_24 rfl ?_
    refine r_getIv hG 7 (nI a) fk_X9_216 dX9_isSign_25 rfl (by decide) rfl h7 ?_
    refine r_lald hG a dX9_isSign_28 rfl (by decide) rfl (by omega) (by decide) ?_
    refine r_iload_n hG dX9_isSign_29 rfl ?_
    refine r_i2l hG dX9_isSign_30 ?_
    refine r_lcmp hG dX9_isSign_31 ?_
    refine r_if_ne hG 39 dX9_isSign_32 (by decide) (fun hc32 => ?_) (fun hc32 => ?_)
    · refine r_iconst hG (0) dX9_isSign_39 (by decide) ?_
      refine hE _ _ _ _ _ dX9_isSign_40 rfl (Nat.le_refl _) (Nat.le_refl _) rfl ?_
      exact ⟨Or.inr ⟨rfl, fun z => hc32 (lc_eq.mpr (((sg_is (hk a ha).1 hc).mpr z).2.trans hx.symm))⟩, rfl⟩
    · refine r_iconst hG (1) dX9_isSign_35 (by decide) ?_
      refine r_goto hG 40 dX9_isSign_36 (by decide) ?_
      refine hE _ _ _ _ _ dX9_isSign_40 rfl (Nat.le_refl _) (Nat.le_refl _) rfl ?_
      exact ⟨Or.inl ⟨rfl, (sg_is (hk a ha).1 hc).mp ⟨hc17, (lc_eq.mp hc32).trans hx⟩⟩, rfl⟩

set_option maxRecDepth 100000 in
set_option maxHeartbeats 400000 in
theorem ct_X9_isSignF {M : gM} {b : Bool} (hR : M.2.2 = stdR b) (h8 : ¬ M.1 88 8 = 0) (x : Int32) : gC 0 0 0 yX9_isSign cX9_isSign 2 (some .boolean) 140 140 [.ref 88, .int x] M (gI (fun r M9 => r = 0 ∧ M9 = M)) := by
  refine gC_i rfl (Nat.le_of_ble_eq_true rfl) (fun G hG hE => ?_)
  change G (140, 0, 0) 0 [some (.ref 88), some (.int x)] [] M
  refine r_aload_n hG dX9_isSign_0 rfl ?_
  refine r_getI hG 8 fk_X9_219 dX9_isSign_1 rfl (by decide) rfl ?_
  refine r_if_ne hG 39 dX9_isSign_4 (by decide) (fun hc4 => ?_) (fun hc4 => absurd hc4 h8)
  refine r_iconst hG (0) dX9_isSign_39 (by decide) ?_
  refine hE _ _ _ _ _ dX9_isSign_40 rfl (Nat.le_refl _) (Nat.le_refl _) rfl ?_
  exact ⟨rfl, rfl⟩

set_option maxRecDepth 100000 in
set_option maxHeartbeats 400000 in
theorem ct_X9_isWord {M : gM} {b : Bool} (hR : M.2.2 = stdR b) {q : kS} (hk : tkM M q) (l601 : q.1 ≤ 601) {a : Nat} (h7 : M.1 88 7 = nI a) (ha : a < q.1) (h8 : M.1 88 8 = 0) (wd : wdM M) {w : Nat} (hw : w < 10) {x : Int32} (hx : x = nI w) : gC 0 0 0 yX9_isWord cX9_isWord 2 (some .boolean) 140 140 [.ref 88, .int x] M (gI (fun r M9 => bI ((q.2.1 a).1 = wcd w) r ∧ M9 = M)) := by
  refine gC_i rfl (Nat.le_of_ble_eq_true rfl) (fun G hG hE => ?_)
  change G (140, 0, 0) 0 [some (.ref 88), some (.int x)] [] M
  refine r_aload_n hG dX9_isWord_0 rfl ?_
  refine r_getIv hG 8 (0) fk_X9_219 dX9_isWord_1 rfl (by decide) rfl h8 ?_
  refine r_if_ne hG 43 dX9_isWord_4 (by decide) (fun hc4 => absurd hc4 (by decide)) (fun hc4 => ?_)
  refine r_aload_n hG dX9_isWord_7 rfl ?_
  refine r_getR hG 4 90 fk_X9_24 dX9_isWord_8 rfl (by decide) rfl (sr hR rfl) ?_
  refine r_aload_n hG dX9_isWord_11 rfl ?_
  refine r_getIv hG 7 (nI a) fk_X9_216 dX9_isWord_12 rfl (by decide) rfl h7 ?_
  refine r_iald hG a dX9_isWord_15 rfl (by decide) rfl (by omega) (by decide) ?_
  refine r_iconst hG (1) dX9_isWord_16 (by decide) ?_
  refine r_icmp_ne hG 43 dX9_isWord_17 (by decide) (fun hc17 => ?_) (fun hc17 => ?_)
  · refine r_iconst hG (0) dX9_isWord_43 (by decide) ?_
    refine hE _ _ _ _ _ dX9_isWord_44 rfl (Nat.le_refl _) (Nat.le_refl _) rfl ?_
    exact ⟨Or.inr ⟨rfl, fun z => hc17 ((wd_is (hk a ha).1 hw).mpr z).1⟩, rfl⟩
  · refine r_aload_n hG dX9_isWord_20 rfl ?_
    refine r_getR hG 6 92 fk_X9_30 dX9_isWord_21 rfl (by decide) rfl (sr hR rfl) ?_
    refine r_aload_n hG dX9_isWord_24 rfl ?_
    refine r_getIv hG 7 (nI a) fk_X9_216 dX9_isWord_25 rfl (by decide) rfl h7 ?_
    refine r_lald hG a dX9_isWord_28 rfl (by decide) rfl (by omega) (by decide) ?_
    refine r_aload_n hG dX9_isWord_29 rfl ?_
    refine r_getR hG 9 93 fk_X9_54 dX9_isWord_30 rfl (by decide) rfl (sr hR rfl) ?_
    refine r_iload_n hG dX9_isWord_33 rfl ?_
    refine r_lald hG w dX9_isWord_34 rfl (by decide) hx (by omega) (by decide) ?_
    refine r_lcmp hG dX9_isWord_35 ?_
    refine r_if_ne hG 43 dX9_isWord_36 (by decide) (fun hc36 => ?_) (fun hc36 => ?_)
    · refine r_iconst hG (0) dX9_isWord_43 (by decide) ?_
      refine hE _ _ _ _ _ dX9_isWord_44 rfl (Nat.le_refl _) (Nat.le_refl _) rfl ?_
      exact ⟨Or.inr ⟨rfl, fun z => hc36 (lc_eq.mpr (((wd_is (hk a ha).1 hw).mpr z).2.trans (wd w hw).symm))⟩, rfl⟩
    · refine r_iconst hG (1) dX9_isWord_39 (by decide) ?_
      refine r_goto hG 44 dX9_isWord_40 (by decide) ?_
      refine hE _ _ _ _ _ dX9_isWord_44 rfl (Nat.le_refl _) (Nat.le_refl _) rfl ?_
      exact ⟨Or.inl ⟨rfl, (wd_is (hk a ha).1 hw).mp ⟨hc17, (lc_eq.mp hc36).trans (wd w hw)⟩⟩, rfl⟩

set_option maxRecDepth 100000 in
set_option maxHeartbeats 400000 in
theorem ct_X9_isWordF {M : gM} {b : Bool} (hR : M.2.2 = stdR b) (h8 : ¬ M.1 88 8 = 0) (x : Int32) : gC 0 0 0 yX9_isWord cX9_isWord 2 (some .boolean) 140 140 [.ref 88, .int x] M (gI (fun r M9 => r = 0 ∧ M9 = M)) := by
  refine gC_i rfl (Nat.le_of_ble_eq_true rfl) (fun G hG hE => ?_)
  change G (140, 0, 0) 0 [some (.ref 88), some (.int x)] [] M
  refine r_aload_n hG dX9_isWord_0 rfl ?_
  refine r_getI hG 8 fk_X9_219 dX9_isWord_1 rfl (by decide) rfl ?_
  refine r_if_ne hG 43 dX9_isWord_4 (by decide) (fun hc4 => ?_) (fun hc4 => absurd hc4 h8)
  refine r_iconst hG (0) dX9_isWord_43 (by decide) ?_
  refine hE _ _ _ _ _ dX9_isWord_44 rfl (Nat.le_refl _) (Nat.le_refl _) rfl ?_
  exact ⟨rfl, rfl⟩

set_option maxRecDepth 100000 in
set_option maxHeartbeats 400000 in
theorem ct_X9_takeSign {M : gM} {b : Bool} (hR : M.2.2 = stdR b) {q : kS} (hk : tkM M q) (l601 : q.1 ≤ 601) {a : Nat} (h7 : M.1 88 7 = nI a) (ha : a < q.1) (h8 : M.1 88 8 = 0) {c : Nat} (hc : isSg c) {x : Int32} (hx : x.toInt64 = sval c) : gC 1 0 0 yX9_takeSign cX9_takeSign 2 none 140 140 [.ref 88, .int x] M (gV (fun M9 => ((q.2.1 a).1 = c ∧ M9 = gwI M 88 7 (nI a + 1)) ∨ (¬ (q.2.1 a).1 = c ∧ M9 = gwI M 88 8 (1 + 16 * nI (q.2.2 a))))) := by
  refine gC_v rfl (Nat.le_of_ble_eq_true rfl) (fun G hG hE => ?_)
  change G (140, 0, 0) 0 [some (.ref 88), some (.int x)] [] M
  refine r_aload_n hG dX9_takeSign_0 rfl ?_
  refine r_iload_n hG dX9_takeSign_1 rfl ?_
  refine r_cVI1 hG mk_X9_222 dX9_takeSign_2 rfl (by decide) (ct_X9_isSign hR hk l601 h7 ha h8 hc hx) (by decide) ⟨Nat.le_refl _, Nat.le_refl _⟩ (Nat.le_of_ble_eq_true rfl) (fun x9 M9 h9 => ?_)
  obtain ⟨h8, e9⟩ := h9; rw [e9]; rcases h8 with ⟨e8, hw2⟩ | ⟨e8, hw2⟩
  · rw [e8]
    refine r_if_eq hG 21 dX9_takeSign_5 (by decide) (fun hc5 => absurd hc5 (by decide)) (fun hc5 => ?_)
    refine r_aload_n hG dX9_takeSign_8 rfl ?_
    refine r_dup hG dX9_takeSign_9 rfl ?_
    refine r_getIv hG 7 (nI a) fk_X9_216 dX9_takeSign_10 rfl (by decide) rfl h7 ?_
    refine r_iconst hG (1) dX9_takeSign_13 (by decide) ?_
    refine r_iadd hG dX9_takeSign_14 ?_
    refine r_putI hG 7 fp_X9_216 dX9_takeSign_15 rfl (by decide) rfl rfl rfl ?_
    refine r_goto hG 26 dX9_takeSign_18 (by decide) ?_
    refine hE _ _ _ _ dX9_takeSign_26 rfl (Nat.le_refl _) (Nat.le_refl _) ?_
    exact Or.inl ⟨hw2, rfl⟩
  · rw [e8]
    refine r_if_eq hG 21 dX9_takeSign_5 (by decide) (fun hc5 => ?_) (fun hc5 => absurd hc5 (by decide))
    refine r_aload_n hG dX9_takeSign_21 rfl ?_
    refine r_iconst hG (1) dX9_takeSign_22 (by decide) ?_
    refine r_cVV1 hG mk_X9_225 dX9_takeSign_23 rfl (by decide) (ct_X9_wrong hR hk l601 h7 ha h8 _) (by decide) ⟨Nat.le_refl _, Nat.le_refl _⟩ (Nat.le_of_ble_eq_true rfl) (fun M9 h9 => ?_)
    rw [h9]
    refine hE _ _ _ _ dX9_takeSign_26 rfl (Nat.le_refl _) (Nat.le_refl _) ?_
    exact Or.inr ⟨hw2, rfl⟩

set_option maxRecDepth 100000 in
set_option maxHeartbeats 400000 in
theorem ct_X9_takeSignF {M : gM} {b : Bool} (hR : M.2.2 = stdR b) (h8 : ¬ M.1 88 8 = 0) (x : Int32) : gC 1 0 0 yX9_takeSign cX9_takeSign 2 none 140 140 [.ref 88, .int x] M (gV (fun M9 => M9 = M)) := by
  refine gC_v rfl (Nat.le_of_ble_eq_true rfl) (fun G hG hE => ?_)
  change G (140, 0, 0) 0 [some (.ref 88), some (.int x)] [] M
  refine r_aload_n hG dX9_takeSign_0 rfl ?_
  refine r_iload_n hG dX9_takeSign_1 rfl ?_
  refine r_cVI1 hG mk_X9_222 dX9_takeSign_2 rfl (by decide) (ct_X9_isSignF hR h8 _) (by decide) ⟨Nat.le_refl _, Nat.le_refl _⟩ (Nat.le_of_ble_eq_true rfl) (fun x9 M9 h9 => ?_)
  obtain ⟨e8, e9⟩ := h9
  rw [e8, e9]
  refine r_if_eq hG 21 dX9_takeSign_5 (by decide) (fun hc5 => ?_) (fun hc5 => absurd hc5 (by decide))
  refine r_aload_n hG dX9_takeSign_21 rfl ?_
  refine r_iconst hG (1) dX9_takeSign_22 (by decide) ?_
  refine r_cVV1 hG mk_X9_225 dX9_takeSign_23 rfl (by decide) (ct_X9_wrongF hR h8 _) (by decide) ⟨Nat.le_refl _, Nat.le_refl _⟩ (Nat.le_of_ble_eq_true rfl) (fun M9 h9 => ?_)
  rw [h9]
  refine hE _ _ _ _ dX9_takeSign_26 rfl (Nat.le_refl _) (Nat.le_refl _) ?_
  rfl

set_option maxRecDepth 100000 in
set_option maxHeartbeats 400000 in
theorem ct_X9_hasSign {M : gM} {b : Bool} (hR : M.2.2 = stdR b) {q : kS} (hk : tkM M q) (l601 : q.1 ≤ 601) {a : Nat} (h7 : M.1 88 7 = nI a) (ha : a < q.1) (h8 : M.1 88 8 = 0) {c : Nat} (hc : isSg c) {x : Int32} (hx : x.toInt64 = sval c) : gC 1 0 0 yX9_hasSign cX9_hasSign 3 (some .boolean) 140 140 [.ref 88, .int x] M (gI (fun r M9 => (r = 1 ∧ (q.2.1 a).1 = c ∧ M9 = gwI M 88 7 (nI a + 1)) ∨ (r = 0 ∧ ¬ (q.2.1 a).1 = c ∧ M9 = gwI M 88 7 (nI a + 0)))) := by
  refine gC_i rfl (Nat.le_of_ble_eq_true rfl) (fun G hG hE => ?_)
  change G (140, 0, 0) 0 [some (.ref 88), some (.int x), none] [] M
  refine r_aload_n hG dX9_hasSign_0 rfl ?_
  refine r_iload_n hG dX9_hasSign_1 rfl ?_
  refine r_cVI1 hG mk_X9_222 dX9_hasSign_2 rfl (by decide) (ct_X9_isSign hR hk l601 h7 ha h8 hc hx) (by decide) ⟨Nat.le_refl _, Nat.le_refl _⟩ (Nat.le_of_ble_eq_true rfl) (fun x9 M9 h9 => ?_)
  obtain ⟨h8, e9⟩ := h9; rw [e9]; rcases h8 with ⟨e8, hw2⟩ | ⟨e8, hw2⟩
  · rw [e8]
    refine r_istore_n hG dX9_hasSign_5 (by decide) ?_
    refine r_loc [some (.ref 88), some (.int x), some (.int (1))] rfl ?_
    refine r_aload_n hG dX9_hasSign_6 rfl ?_
    refine r_dup hG dX9_hasSign_7 rfl ?_
    refine r_getIv hG 7 (nI a) fk_X9_216 dX9_hasSign_8 rfl (by decide) rfl h7 ?_
    refine r_iload_n hG dX9_hasSign_11 rfl ?_
    refine r_if_eq hG 19 dX9_hasSign_12 (by decide) (fun hc12 => absurd hc12 (by decide)) (fun hc12 => ?_)
    refine r_iconst hG (1) dX9_hasSign_15 (by decide) ?_
    refine r_goto hG 20 dX9_hasSign_16 (by decide) ?_
    refine r_iadd hG dX9_hasSign_20 ?_
    refine r_putI hG 7 fp_X9_216 dX9_hasSign_21 rfl (by decide) rfl rfl rfl ?_
    refine r_iload_n hG dX9_hasSign_24 rfl ?_
    refine hE _ _ _ _ _ dX9_hasSign_25 rfl (Nat.le_refl _) (Nat.le_refl _) rfl ?_
    exact Or.inl ⟨rfl, hw2, rfl⟩
  · rw [e8]
    refine r_istore_n hG dX9_hasSign_5 (by decide) ?_
    refine r_loc [some (.ref 88), some (.int x), some (.int (0))] rfl ?_
    refine r_aload_n hG dX9_hasSign_6 rfl ?_
    refine r_dup hG dX9_hasSign_7 rfl ?_
    refine r_getIv hG 7 (nI a) fk_X9_216 dX9_hasSign_8 rfl (by decide) rfl h7 ?_
    refine r_iload_n hG dX9_hasSign_11 rfl ?_
    refine r_if_eq hG 19 dX9_hasSign_12 (by decide) (fun hc12 => ?_) (fun hc12 => absurd hc12 (by decide))
    refine r_iconst hG (0) dX9_hasSign_19 (by decide) ?_
    refine r_iadd hG dX9_hasSign_20 ?_
    refine r_putI hG 7 fp_X9_216 dX9_hasSign_21 rfl (by decide) rfl rfl rfl ?_
    refine r_iload_n hG dX9_hasSign_24 rfl ?_
    refine hE _ _ _ _ _ dX9_hasSign_25 rfl (Nat.le_refl _) (Nat.le_refl _) rfl ?_
    exact Or.inr ⟨rfl, hw2, rfl⟩

set_option maxRecDepth 100000 in
set_option maxHeartbeats 400000 in
theorem ct_X9_hasWord {M : gM} {b : Bool} (hR : M.2.2 = stdR b) {q : kS} (hk : tkM M q) (l601 : q.1 ≤ 601) {a : Nat} (h7 : M.1 88 7 = nI a) (ha : a < q.1) (h8 : M.1 88 8 = 0) (wd : wdM M) {w : Nat} (hw : w < 10) {x : Int32} (hx : x = nI w) : gC 1 0 0 yX9_hasWord cX9_hasWord 3 (some .boolean) 140 140 [.ref 88, .int x] M (gI (fun r M9 => (r = 1 ∧ (q.2.1 a).1 = wcd w ∧ M9 = gwI M 88 7 (nI a + 1)) ∨ (r = 0 ∧ ¬ (q.2.1 a).1 = wcd w ∧ M9 = gwI M 88 7 (nI a + 0)))) := by
  refine gC_i rfl (Nat.le_of_ble_eq_true rfl) (fun G hG hE => ?_)
  change G (140, 0, 0) 0 [some (.ref 88), some (.int x), none] [] M
  refine r_aload_n hG dX9_hasWord_0 rfl ?_
  refine r_iload_n hG dX9_hasWord_1 rfl ?_
  refine r_cVI1 hG mk_X9_229 dX9_hasWord_2 rfl (by decide) (ct_X9_isWord hR hk l601 h7 ha h8 wd hw hx) (by decide) ⟨Nat.le_refl _, Nat.le_refl _⟩ (Nat.le_of_ble_eq_true rfl) (fun x9 M9 h9 => ?_)
  obtain ⟨h8, e9⟩ := h9; rw [e9]; rcases h8 with ⟨e8, hw2⟩ | ⟨e8, hw2⟩
  · rw [e8]
    refine r_istore_n hG dX9_hasWord_5 (by decide) ?_
    refine r_loc [some (.ref 88), some (.int x), some (.int (1))] rfl ?_
    refine r_aload_n hG dX9_hasWord_6 rfl ?_
    refine r_dup hG dX9_hasWord_7 rfl ?_
    refine r_getIv hG 7 (nI a) fk_X9_216 dX9_hasWord_8 rfl (by decide) rfl h7 ?_
    refine r_iload_n hG dX9_hasWord_11 rfl ?_
    refine r_if_eq hG 19 dX9_hasWord_12 (by decide) (fun hc12 => absurd hc12 (by decide)) (fun hc12 => ?_)
    refine r_iconst hG (1) dX9_hasWord_15 (by decide) ?_
    refine r_goto hG 20 dX9_hasWord_16 (by decide) ?_
    refine r_iadd hG dX9_hasWord_20 ?_
    refine r_putI hG 7 fp_X9_216 dX9_hasWord_21 rfl (by decide) rfl rfl rfl ?_
    refine r_iload_n hG dX9_hasWord_24 rfl ?_
    refine hE _ _ _ _ _ dX9_hasWord_25 rfl (Nat.le_refl _) (Nat.le_refl _) rfl ?_
    exact Or.inl ⟨rfl, hw2, rfl⟩
  · rw [e8]
    refine r_istore_n hG dX9_hasWord_5 (by decide) ?_
    refine r_loc [some (.ref 88), some (.int x), some (.int (0))] rfl ?_
    refine r_aload_n hG dX9_hasWord_6 rfl ?_
    refine r_dup hG dX9_hasWord_7 rfl ?_
    refine r_getIv hG 7 (nI a) fk_X9_216 dX9_hasWord_8 rfl (by decide) rfl h7 ?_
    refine r_iload_n hG dX9_hasWord_11 rfl ?_
    refine r_if_eq hG 19 dX9_hasWord_12 (by decide) (fun hc12 => ?_) (fun hc12 => absurd hc12 (by decide))
    refine r_iconst hG (0) dX9_hasWord_19 (by decide) ?_
    refine r_iadd hG dX9_hasWord_20 ?_
    refine r_putI hG 7 fp_X9_216 dX9_hasWord_21 rfl (by decide) rfl rfl rfl ?_
    refine r_iload_n hG dX9_hasWord_24 rfl ?_
    refine hE _ _ _ _ _ dX9_hasWord_25 rfl (Nat.le_refl _) (Nat.le_refl _) rfl ?_
    exact Or.inr ⟨rfl, hw2, rfl⟩

set_option maxRecDepth 100000 in
set_option maxHeartbeats 400000 in
theorem ct_X9_hasWordF {M : gM} {b : Bool} (hR : M.2.2 = stdR b) (h8 : ¬ M.1 88 8 = 0) {a : Nat} (h7 : M.1 88 7 = nI a) (x : Int32) : gC 1 0 0 yX9_hasWord cX9_hasWord 3 (some .boolean) 140 140 [.ref 88, .int x] M (gI (fun r M9 => r = 0 ∧ M9 = gwI M 88 7 (nI a + 0))) := by
  refine gC_i rfl (Nat.le_of_ble_eq_true rfl) (fun G hG hE => ?_)
  change G (140, 0, 0) 0 [some (.ref 88), some (.int x), none] [] M
  refine r_aload_n hG dX9_hasWord_0 rfl ?_
  refine r_iload_n hG dX9_hasWord_1 rfl ?_
  refine r_cVI1 hG mk_X9_229 dX9_hasWord_2 rfl (by decide) (ct_X9_isWordF hR h8 _) (by decide) ⟨Nat.le_refl _, Nat.le_refl _⟩ (Nat.le_of_ble_eq_true rfl) (fun x9 M9 h9 => ?_)
  obtain ⟨e8, e9⟩ := h9
  rw [e8, e9]
  refine r_istore_n hG dX9_hasWord_5 (by decide) ?_
  refine r_loc [some (.ref 88), some (.int x), some (.int (0))] rfl ?_
  refine r_aload_n hG dX9_hasWord_6 rfl ?_
  refine r_dup hG dX9_hasWord_7 rfl ?_
  refine r_getIv hG 7 (nI a) fk_X9_216 dX9_hasWord_8 rfl (by decide) rfl h7 ?_
  refine r_iload_n hG dX9_hasWord_11 rfl ?_
  refine r_if_eq hG 19 dX9_hasWord_12 (by decide) (fun hc12 => ?_) (fun hc12 => absurd hc12 (by decide))
  refine r_iconst hG (0) dX9_hasWord_19 (by decide) ?_
  refine r_iadd hG dX9_hasWord_20 ?_
  refine r_putI hG 7 fp_X9_216 dX9_hasWord_21 rfl (by decide) rfl rfl rfl ?_
  refine r_iload_n hG dX9_hasWord_24 rfl ?_
  refine hE _ _ _ _ _ dX9_hasWord_25 rfl (Nat.le_refl _) (Nat.le_refl _) rfl ?_
  exact ⟨rfl, rfl⟩

theorem gwI_same {M : gM} {k j : Nat} {v : Int32} (h : M.1 k j = v) : gwI M k j v = M := by
  refine Prod.ext ?_ rfl
  funext a b
  show (if a = k ∧ b = j then v else M.1 a b) = M.1 a b
  split
  · rename_i e
    rw [e.1, e.2, h]
  · rfl
theorem at0 {M : gM} {a : Nat} (h7 : M.1 88 7 = nI a) : gwI M 88 7 (nI a + 0) = M := gwI_same (by rw [h7, Int32.add_zero])
set_option maxRecDepth 100000 in
set_option maxHeartbeats 400000 in
theorem ct_X9_takeWord {M : gM} {b : Bool} (hR : M.2.2 = stdR b) {q : kS} (hk : tkM M q) (l601 : q.1 ≤ 601) {a : Nat} (h7 : M.1 88 7 = nI a) (ha : a < q.1) (h8 : M.1 88 8 = 0) (wd : wdM M) {w : Nat} (hw : w < 10) {x : Int32} (hx : x = nI w) : gC 2 0 0 yX9_takeWord cX9_takeWord 2 none 140 140 [.ref 88, .int x] M (gV (fun M9 => ((q.2.1 a).1 = wcd w ∧ M9 = gwI M 88 7 (nI a + 1)) ∨ (¬ (q.2.1 a).1 = wcd w ∧ M9 = gwI M 88 8 (1 + 16 * nI (q.2.2 a))))) := by
  refine gC_v rfl (Nat.le_of_ble_eq_true rfl) (fun G hG hE => ?_)
  change G (140, 0, 0) 0 [some (.ref 88), some (.int x)] [] M
  refine r_aload_n hG dX9_takeWord_0 rfl ?_
  refine r_iload_n hG dX9_takeWord_1 rfl ?_
  refine r_cVI1 hG mk_X9_232 dX9_takeWord_2 rfl (by decide) (ct_X9_hasWord hR hk l601 h7 ha h8 wd hw hx) (by decide) ⟨Nat.le_refl _, Nat.le_refl _⟩ (Nat.le_of_ble_eq_true rfl) (fun x9 M9 h9 => ?_)
  rcases h9 with ⟨rfl, hw2, rfl⟩ | ⟨rfl, hw2, rfl⟩
  · skip
    refine r_if_ne hG 13 dX9_takeWord_5 (by decide) (fun hc5 => ?_) (fun hc5 => absurd hc5 (by decide))
    refine hE _ _ _ _ dX9_takeWord_13 rfl (Nat.le_refl _) (Nat.le_refl _) ?_
    exact Or.inl ⟨hw2, rfl⟩
  · rw [at0 h7]
    refine r_if_ne hG 13 dX9_takeWord_5 (by decide) (fun hc5 => absurd hc5 (by decide)) (fun hc5 => ?_)
    refine r_aload_n hG dX9_takeWord_8 rfl ?_
    refine r_iconst hG (1) dX9_takeWord_9 (by decide) ?_
    refine r_cVV1 hG mk_X9_225 dX9_takeWord_10 rfl (by decide) (ct_X9_wrong hR hk l601 h7 ha h8 _) (by decide) ⟨Nat.le_refl _, Nat.le_refl _⟩ (Nat.le_of_ble_eq_true rfl) (fun M9 h9 => ?_)
    rw [h9]
    refine hE _ _ _ _ dX9_takeWord_13 rfl (Nat.le_refl _) (Nat.le_refl _) ?_
    exact Or.inr ⟨hw2, rfl⟩

set_option maxRecDepth 100000 in
set_option maxHeartbeats 400000 in
theorem ct_X9_takeWordF {M : gM} {b : Bool} (hR : M.2.2 = stdR b) (h8 : ¬ M.1 88 8 = 0) {a : Nat} (h7 : M.1 88 7 = nI a) (x : Int32) : gC 2 0 0 yX9_takeWord cX9_takeWord 2 none 140 140 [.ref 88, .int x] M (gV (fun M9 => M9 = M)) := by
  refine gC_v rfl (Nat.le_of_ble_eq_true rfl) (fun G hG hE => ?_)
  change G (140, 0, 0) 0 [some (.ref 88), some (.int x)] [] M
  refine r_aload_n hG dX9_takeWord_0 rfl ?_
  refine r_iload_n hG dX9_takeWord_1 rfl ?_
  refine r_cVI1 hG mk_X9_232 dX9_takeWord_2 rfl (by decide) (ct_X9_hasWordF hR h8 h7 _) (by decide) ⟨Nat.le_refl _, Nat.le_refl _⟩ (Nat.le_of_ble_eq_true rfl) (fun x9 M9 h9 => ?_)
  obtain ⟨rfl, rfl⟩ := h9
  rw [at0 h7]
  refine r_if_ne hG 13 dX9_takeWord_5 (by decide) (fun hc5 => absurd hc5 (by decide)) (fun hc5 => ?_)
  refine r_aload_n hG dX9_takeWord_8 rfl ?_
  refine r_iconst hG (1) dX9_takeWord_9 (by decide) ?_
  refine r_cVV1 hG mk_X9_225 dX9_takeWord_10 rfl (by decide) (ct_X9_wrongF hR h8 _) (by decide) ⟨Nat.le_refl _, Nat.le_refl _⟩ (Nat.le_of_ble_eq_true rfl) (fun M9 h9 => ?_)
  rw [h9]
  refine hE _ _ _ _ dX9_takeWord_13 rfl (Nat.le_refl _) (Nat.le_refl _) ?_
  rfl

set_option maxRecDepth 100000 in
set_option maxHeartbeats 400000 in
theorem ct_X9_emit {M : gM} {b : Bool} (hR : M.2.2 = stdR b) {h z : Nat} (h17 : M.1 88 17 = nI h) (h18 : M.1 88 18 = nI z) (lh : h ≤ 1) (lz : z < 660) (x y : Int32) : gC 0 0 0 yX9_emit cX9_emit 3 none 140 140 [.ref 88, .int x, .int y] M (gV (fun M9 => M9 = gwI (gwI (gwI M 98 (660 * h + z) x) 99 (660 * h + z) y) 88 18 (nI z + 1))) := by
  refine gC_v rfl (Nat.le_of_ble_eq_true rfl) (fun G hG hE => ?_)
  change G (140, 0, 0) 0 [some (.ref 88), some (.int x), some (.int y)] [] M
  refine r_aload_n hG dX9_emit_0 rfl ?_
  refine r_getR hG 14 98 fk_X9_70 dX9_emit_1 rfl (by decide) rfl (sr hR rfl) ?_
  refine r_sipush hG (660) dX9_emit_4 (by decide) ?_
  refine r_aload_n hG dX9_emit_7 rfl ?_
  refine r_getIv hG 17 (nI h) fk_X9_235 dX9_emit_8 rfl (by decide) rfl h17 ?_
  refine r_imul hG dX9_emit_11 ?_
  refine r_aload_n hG dX9_emit_12 rfl ?_
  refine r_getIv hG 18 (nI z) fk_X9_238 dX9_emit_13 rfl (by decide) rfl h18 ?_
  refine r_iadd hG dX9_emit_16 ?_
  refine r_top (nI (660 * h + z)) (by rw [show (660 : Int32) = nI 660 from rfl, mulAdd]) ?_
  refine r_iload_n hG dX9_emit_17 rfl ?_
  refine r_iast hG (660 * h + z) dX9_emit_18 rfl (by decide) rfl (by omega) (by decide) ?_
  refine r_aload_n hG dX9_emit_19 rfl ?_
  refine r_getR hG 15 99 fk_X9_73 dX9_emit_20 rfl (by decide) rfl (sr hR rfl) ?_
  refine r_sipush hG (660) dX9_emit_23 (by decide) ?_
  refine r_aload_n hG dX9_emit_26 rfl ?_
  refine r_getIv hG 17 (nI h) fk_X9_235 dX9_emit_27 rfl (by decide) rfl ((gwI_n (by omega)).trans h17) ?_
  refine r_imul hG dX9_emit_30 ?_
  refine r_aload_n hG dX9_emit_31 rfl ?_
  refine r_getIv hG 18 (nI z) fk_X9_238 dX9_emit_32 rfl (by decide) rfl ((gwI_n (by omega)).trans h18) ?_
  refine r_iadd hG dX9_emit_35 ?_
  refine r_top (nI (660 * h + z)) (by rw [show (660 : Int32) = nI 660 from rfl, mulAdd]) ?_
  refine r_iload_n hG dX9_emit_36 rfl ?_
  refine r_iast hG (660 * h + z) dX9_emit_37 rfl (by decide) rfl (by omega) (by decide) ?_
  refine r_aload_n hG dX9_emit_38 rfl ?_
  refine r_dup hG dX9_emit_39 rfl ?_
  refine r_getIv hG 18 (nI z) fk_X9_238 dX9_emit_40 rfl (by decide) rfl (((gwI_n (by omega)).trans (gwI_n (by omega))).trans h18) ?_
  refine r_iconst hG (1) dX9_emit_43 (by decide) ?_
  refine r_iadd hG dX9_emit_44 ?_
  refine r_putI hG 18 fp_X9_238 dX9_emit_45 rfl (by decide) rfl rfl rfl ?_
  refine hE _ _ _ _ dX9_emit_48 rfl (Nat.le_refl _) (Nat.le_refl _) ?_
  rfl

set_option maxRecDepth 100000 in
set_option maxHeartbeats 400000 in
theorem ct_X9_opens {M : gM} {b : Bool} (hR : M.2.2 = stdR b) {d : Nat} (h19 : M.1 88 19 = nI d) (ld : d ≤ 6) : gC 0 0 0 yX9_opens cX9_opens 1 none 140 140 [.ref 88] M (gV (fun M9 => M9 = gwI (gwI (gwI M 100 d 0) 101 d 0) 102 d 0)) := by
  refine gC_v rfl (Nat.le_of_ble_eq_true rfl) (fun G hG hE => ?_)
  change G (140, 0, 0) 0 [some (.ref 88)] [] M
  refine r_aload_n hG dX9_opens_0 rfl ?_
  refine r_getR hG 20 100 fk_X9_76 dX9_opens_1 rfl (by decide) rfl (sr hR rfl) ?_
  refine r_aload_n hG dX9_opens_4 rfl ?_
  refine r_getIv hG 19 (nI d) fk_X9_255 dX9_opens_5 rfl (by decide) rfl h19 ?_
  refine r_iconst hG (0) dX9_opens_8 (by decide) ?_
  refine r_iast hG d dX9_opens_9 rfl (by decide) rfl (by omega) (by decide) ?_
  refine r_aload_n hG dX9_opens_10 rfl ?_
  refine r_getR hG 21 101 fk_X9_79 dX9_opens_11 rfl (by decide) rfl (sr hR rfl) ?_
  refine r_aload_n hG dX9_opens_14 rfl ?_
  refine r_getIv hG 19 (nI d) fk_X9_255 dX9_opens_15 rfl (by decide) rfl ((gwI_n (by omega)).trans h19) ?_
  refine r_iconst hG (0) dX9_opens_18 (by decide) ?_
  refine r_iast hG d dX9_opens_19 rfl (by decide) rfl (by omega) (by decide) ?_
  refine r_aload_n hG dX9_opens_20 rfl ?_
  refine r_getR hG 22 102 fk_X9_82 dX9_opens_21 rfl (by decide) rfl (sr hR rfl) ?_
  refine r_aload_n hG dX9_opens_24 rfl ?_
  refine r_getIv hG 19 (nI d) fk_X9_255 dX9_opens_25 rfl (by decide) rfl (((gwI_n (by omega)).trans (gwI_n (by omega))).trans h19) ?_
  refine r_iconst hG (0) dX9_opens_28 (by decide) ?_
  refine r_iast hG d dX9_opens_29 rfl (by decide) rfl (by omega) (by decide) ?_
  refine hE _ _ _ _ dX9_opens_30 rfl (Nat.le_refl _) (Nat.le_refl _) ?_
  rfl

set_option maxRecDepth 100000 in
set_option maxHeartbeats 400000 in
theorem ct_X9_partWord {M : gM} {b : Bool} (hR : M.2.2 = stdR b) {q : kS} (hk : tkM M q) (l601 : q.1 ≤ 601) {a : Nat} (h7 : M.1 88 7 = nI a) (ha : a < q.1) (h8 : M.1 88 8 = 0) (wd : wdM M) : gC 1 0 0 yX9_partWord cX9_partWord 2 (some .int) 140 140 [.ref 88] M (gI (fun r M9 => r = (if 1 ≤ (q.2.1 a).1 ∧ (q.2.1 a).1 ≤ 6 then nI ((q.2.1 a).1 - 1) else -1) ∧ M9 = M)) := by
  refine gC_i rfl (Nat.le_of_ble_eq_true rfl) (fun G hG hE => ?_)
  change G (140, 0, 0) 0 [some (.ref 88), none] [] M
  refine r_iconst hG (0) dX9_partWord_0 (by decide) ?_
  refine r_istore_n hG dX9_partWord_1 (by decide) ?_
  refine r_loc [some (.ref 88), some (.int (0))] rfl ?_
  refine r_iload_n hG dX9_partWord_2 rfl ?_
  refine r_bipush hG (6) dX9_partWord_3 (by decide) ?_
  refine r_icmp_ge hG 26 dX9_partWord_5 (by decide) (fun hc5 => absurd hc5 (by decide)) (fun hc5 => ?_)
  refine r_aload_n hG dX9_partWord_8 rfl ?_
  refine r_iconst hG (4) dX9_partWord_9 (by decide) ?_
  refine r_iload_n hG dX9_partWord_10 rfl ?_
  refine r_iadd hG dX9_partWord_11 ?_
  refine r_top (4) rfl ?_
  refine r_cVI1 hG mk_X9_229 dX9_partWord_12 rfl (by decide) (ct_X9_isWord hR hk l601 h7 ha h8 wd (w := 4) (by decide) rfl) (by decide) ⟨Nat.le_refl _, Nat.le_refl _⟩ (Nat.le_of_ble_eq_true rfl) (fun x9 M9 h9 => ?_)
  obtain ⟨h8x, e9⟩ := h9; rw [e9]; rcases h8x with ⟨e8, hw0⟩ | ⟨e8, hw0⟩
  · rw [e8]
    refine r_if_eq hG 20 dX9_partWord_15 (by decide) (fun hc15 => absurd hc15 (by decide)) (fun hc15 => ?_)
    refine r_iload_n hG dX9_partWord_18 rfl ?_
    refine hE _ _ _ _ _ dX9_partWord_19 rfl (Nat.le_refl _) (Nat.le_refl _) rfl ?_
    have g : (q.2.1 a).1 = 1 := hw0
    refine ⟨?_, rfl⟩
    rw [g]
    rfl
  · rw [e8]
    refine r_if_eq hG 20 dX9_partWord_15 (by decide) (fun hc15 => ?_) (fun hc15 => absurd hc15 (by decide))
    refine r_iinc hG (1) dX9_partWord_20 (by decide) rfl ?_
    refine r_loc [some (.ref 88), some (.int (1))] rfl ?_
    refine r_goto hG 2 dX9_partWord_23 (by decide) ?_
    refine r_iload_n hG dX9_partWord_2 rfl ?_
    refine r_bipush hG (6) dX9_partWord_3 (by decide) ?_
    refine r_icmp_ge hG 26 dX9_partWord_5 (by decide) (fun hc5 => absurd hc5 (by decide)) (fun hc5 => ?_)
    refine r_aload_n hG dX9_partWord_8 rfl ?_
    refine r_iconst hG (4) dX9_partWord_9 (by decide) ?_
    refine r_iload_n hG dX9_partWord_10 rfl ?_
    refine r_iadd hG dX9_partWord_11 ?_
    refine r_top (5) rfl ?_
    refine r_cVI1 hG mk_X9_229 dX9_partWord_12 rfl (by decide) (ct_X9_isWord hR hk l601 h7 ha h8 wd (w := 5) (by decide) rfl) (by decide) ⟨Nat.le_refl _, Nat.le_refl _⟩ (Nat.le_of_ble_eq_true rfl) (fun x9 M9 h9 => ?_)
    obtain ⟨h8x, e9⟩ := h9; rw [e9]; rcases h8x with ⟨e8, hw1⟩ | ⟨e8, hw1⟩
    · rw [e8]
      refine r_if_eq hG 20 dX9_partWord_15 (by decide) (fun hc15 => absurd hc15 (by decide)) (fun hc15 => ?_)
      refine r_iload_n hG dX9_partWord_18 rfl ?_
      refine hE _ _ _ _ _ dX9_partWord_19 rfl (Nat.le_refl _) (Nat.le_refl _) rfl ?_
      have g : (q.2.1 a).1 = 2 := hw1
      refine ⟨?_, rfl⟩
      rw [g]
      rfl
    · rw [e8]
      refine r_if_eq hG 20 dX9_partWord_15 (by decide) (fun hc15 => ?_) (fun hc15 => absurd hc15 (by decide))
      refine r_iinc hG (1) dX9_partWord_20 (by decide) rfl ?_
      refine r_loc [some (.ref 88), some (.int (2))] rfl ?_
      refine r_goto hG 2 dX9_partWord_23 (by decide) ?_
      refine r_iload_n hG dX9_partWord_2 rfl ?_
      refine r_bipush hG (6) dX9_partWord_3 (by decide) ?_
      refine r_icmp_ge hG 26 dX9_partWord_5 (by decide) (fun hc5 => absurd hc5 (by decide)) (fun hc5 => ?_)
      refine r_aload_n hG dX9_partWord_8 rfl ?_
      refine r_iconst hG (4) dX9_partWord_9 (by decide) ?_
      refine r_iload_n hG dX9_partWord_10 rfl ?_
      refine r_iadd hG dX9_partWord_11 ?_
      refine r_top (6) rfl ?_
      refine r_cVI1 hG mk_X9_229 dX9_partWord_12 rfl (by decide) (ct_X9_isWord hR hk l601 h7 ha h8 wd (w := 6) (by decide) rfl) (by decide) ⟨Nat.le_refl _, Nat.le_refl _⟩ (Nat.le_of_ble_eq_true rfl) (fun x9 M9 h9 => ?_)
      obtain ⟨h8x, e9⟩ := h9; rw [e9]; rcases h8x with ⟨e8, hw2⟩ | ⟨e8, hw2⟩
      · rw [e8]
        refine r_if_eq hG 20 dX9_partWord_15 (by decide) (fun hc15 => absurd hc15 (by decide)) (fun hc15 => ?_)
        refine r_iload_n hG dX9_partWord_18 rfl ?_
        refine hE _ _ _ _ _ dX9_partWord_19 rfl (Nat.le_refl _) (Nat.le_refl _) rfl ?_
        have g : (q.2.1 a).1 = 3 := hw2
        refine ⟨?_, rfl⟩
        rw [g]
        rfl
      · rw [e8]
        refine r_if_eq hG 20 dX9_partWord_15 (by decide) (fun hc15 => ?_) (fun hc15 => absurd hc15 (by decide))
        refine r_iinc hG (1) dX9_partWord_20 (by decide) rfl ?_
        refine r_loc [some (.ref 88), some (.int (3))] rfl ?_
        refine r_goto hG 2 dX9_partWord_23 (by decide) ?_
        refine r_iload_n hG dX9_partWord_2 rfl ?_
        refine r_bipush hG (6) dX9_partWord_3 (by decide) ?_
        refine r_icmp_ge hG 26 dX9_partWord_5 (by decide) (fun hc5 => absurd hc5 (by decide)) (fun hc5 => ?_)
        refine r_aload_n hG dX9_partWord_8 rfl ?_
        refine r_iconst hG (4) dX9_partWord_9 (by decide) ?_
        refine r_iload_n hG dX9_partWord_10 rfl ?_
        refine r_iadd hG dX9_partWord_11 ?_
        refine r_top (7) rfl ?_
        refine r_cVI1 hG mk_X9_229 dX9_partWord_12 rfl (by decide) (ct_X9_isWord hR hk l601 h7 ha h8 wd (w := 7) (by decide) rfl) (by decide) ⟨Nat.le_refl _, Nat.le_refl _⟩ (Nat.le_of_ble_eq_true rfl) (fun x9 M9 h9 => ?_)
        obtain ⟨h8x, e9⟩ := h9; rw [e9]; rcases h8x with ⟨e8, hw3⟩ | ⟨e8, hw3⟩
        · rw [e8]
          refine r_if_eq hG 20 dX9_partWord_15 (by decide) (fun hc15 => absurd hc15 (by decide)) (fun hc15 => ?_)
          refine r_iload_n hG dX9_partWord_18 rfl ?_
          refine hE _ _ _ _ _ dX9_partWord_19 rfl (Nat.le_refl _) (Nat.le_refl _) rfl ?_
          have g : (q.2.1 a).1 = 4 := hw3
          refine ⟨?_, rfl⟩
          rw [g]
          rfl
        · rw [e8]
          refine r_if_eq hG 20 dX9_partWord_15 (by decide) (fun hc15 => ?_) (fun hc15 => absurd hc15 (by decide))
          refine r_iinc hG (1) dX9_partWord_20 (by decide) rfl ?_
          refine r_loc [some (.ref 88), some (.int (4))] rfl ?_
          refine r_goto hG 2 dX9_partWord_23 (by decide) ?_
          refine r_iload_n hG dX9_partWord_2 rfl ?_
          refine r_bipush hG (6) dX9_partWord_3 (by decide) ?_
          refine r_icmp_ge hG 26 dX9_partWord_5 (by decide) (fun hc5 => absurd hc5 (by decide)) (fun hc5 => ?_)
          refine r_aload_n hG dX9_partWord_8 rfl ?_
          refine r_iconst hG (4) dX9_partWord_9 (by decide) ?_
          refine r_iload_n hG dX9_partWord_10 rfl ?_
          refine r_iadd hG dX9_partWord_11 ?_
          refine r_top (8) rfl ?_
          refine r_cVI1 hG mk_X9_229 dX9_partWord_12 rfl (by decide) (ct_X9_isWord hR hk l601 h7 ha h8 wd (w := 8) (by decide) rfl) (by decide) ⟨Nat.le_refl _, Nat.le_refl _⟩ (Nat.le_of_ble_eq_true rfl) (fun x9 M9 h9 => ?_)
          obtain ⟨h8x, e9⟩ := h9; rw [e9]; rcases h8x with ⟨e8, hw4⟩ | ⟨e8, hw4⟩
          · rw [e8]
            refine r_if_eq hG 20 dX9_partWord_15 (by decide) (fun hc15 => absurd hc15 (by decide)) (fun hc15 => ?_)
            refine r_iload_n hG dX9_partWord_18 rfl ?_
            refine hE _ _ _ _ _ dX9_partWord_19 rfl (Nat.le_refl _) (Nat.le_refl _) rfl ?_
            have g : (q.2.1 a).1 = 5 := hw4
            refine ⟨?_, rfl⟩
            rw [g]
            rfl
          · rw [e8]
            refine r_if_eq hG 20 dX9_partWord_15 (by decide) (fun hc15 => ?_) (fun hc15 => absurd hc15 (by decide))
            refine r_iinc hG (1) dX9_partWord_20 (by decide) rfl ?_
            refine r_loc [some (.ref 88), some (.int (5))] rfl ?_
            refine r_goto hG 2 dX9_partWord_23 (by decide) ?_
            refine r_iload_n hG dX9_partWord_2 rfl ?_
            refine r_bipush hG (6) dX9_partWord_3 (by decide) ?_
            refine r_icmp_ge hG 26 dX9_partWord_5 (by decide) (fun hc5 => absurd hc5 (by decide)) (fun hc5 => ?_)
            refine r_aload_n hG dX9_partWord_8 rfl ?_
            refine r_iconst hG (4) dX9_partWord_9 (by decide) ?_
            refine r_iload_n hG dX9_partWord_10 rfl ?_
            refine r_iadd hG dX9_partWord_11 ?_
            refine r_top (9) rfl ?_
            refine r_cVI1 hG mk_X9_229 dX9_partWord_12 rfl (by decide) (ct_X9_isWord hR hk l601 h7 ha h8 wd (w := 9) (by decide) rfl) (by decide) ⟨Nat.le_refl _, Nat.le_refl _⟩ (Nat.le_of_ble_eq_true rfl) (fun x9 M9 h9 => ?_)
            obtain ⟨h8x, e9⟩ := h9; rw [e9]; rcases h8x with ⟨e8, hw5⟩ | ⟨e8, hw5⟩
            · rw [e8]
              refine r_if_eq hG 20 dX9_partWord_15 (by decide) (fun hc15 => absurd hc15 (by decide)) (fun hc15 => ?_)
              refine r_iload_n hG dX9_partWord_18 rfl ?_
              refine hE _ _ _ _ _ dX9_partWord_19 rfl (Nat.le_refl _) (Nat.le_refl _) rfl ?_
              have g : (q.2.1 a).1 = 6 := hw5
              refine ⟨?_, rfl⟩
              rw [g]
              rfl
            · rw [e8]
              refine r_if_eq hG 20 dX9_partWord_15 (by decide) (fun hc15 => ?_) (fun hc15 => absurd hc15 (by decide))
              refine r_iinc hG (1) dX9_partWord_20 (by decide) rfl ?_
              refine r_loc [some (.ref 88), some (.int (6))] rfl ?_
              refine r_goto hG 2 dX9_partWord_23 (by decide) ?_
              refine r_iload_n hG dX9_partWord_2 rfl ?_
              refine r_bipush hG (6) dX9_partWord_3 (by decide) ?_
              refine r_icmp_ge hG 26 dX9_partWord_5 (by decide) (fun hc5 => ?_) (fun hc5 => absurd hc5 (by decide))
              refine r_iconst hG (-1) dX9_partWord_26 (by decide) ?_
              refine hE _ _ _ _ _ dX9_partWord_27 rfl (Nat.le_refl _) (Nat.le_refl _) rfl ?_
              have g0 : ¬ (q.2.1 a).1 = 1 := hw0
              have g1 : ¬ (q.2.1 a).1 = 2 := hw1
              have g2 : ¬ (q.2.1 a).1 = 3 := hw2
              have g3 : ¬ (q.2.1 a).1 = 4 := hw3
              have g4 : ¬ (q.2.1 a).1 = 5 := hw4
              have g5 : ¬ (q.2.1 a).1 = 6 := hw5
              refine ⟨?_, rfl⟩
              rw [if_neg (by omega)]

/-- a fault told -/
def pfM (q : kS) (lo : Nat) (M9 : gM) (k a : Nat) : Prop := 1 ≤ k ∧ k ≤ 5 ∧ a < q.1 ∧ M9.1 88 8 = nI k + 16 * nI (q.2.2 a) ∧ (∃ z, (lo ≤ z ∧ z < 659) ∧ M9.1 88 18 = nI z) ∧ ∃ z, z < 602 ∧ M9.1 88 7 = nI z
def paP (q : kS) (h n st a d u : Nat) (W : wS) (c : cS) (M : gM) (r : Int32) (M9 : gM) : Prop := gEq (SM (660 * h + n + st) (660 * h + 660)) M M9 ∧ ∃ m a' d' u' W' c', stp q.2.1 (0, a, d, u, W, c) = (m, a', d', u', W', c') ∧ ((r = 1 ∧ m = 0 ∧ psM M9 h n st a' d' u' W' c' ∧ a < a' ∧ a' < q.1) ∨ (r = 0 ∧ m = 1 ∧ psM M9 h n st a' d' u' W' c' ∧ a < a' ∧ a' < q.1) ∨ (r = 0 ∧ ∃ k, m = 10 + k ∧ pfM q (n + st) M9 k a'))
theorem i32_64 (x : Int32) : x.toInt64.toInt32 = x := by
  apply Int32.toInt_inj.mp
  rw [Int64.toInt_toInt32, Int32.toInt_toInt64]
  exact Int32.toInt_bmod x
theorem flt_no {k p : Nat} {x : Int32} (hx : x = nI k) (hk : 1 ≤ k ∧ k ≤ 5) (hp : p ≤ 600) : ¬ x + 16 * nI p ≤ 0 := by
  rw [hx, flt_ne hk hp]
  intro z
  have := nle_t (a := k + 16 * p) (b := 0) (by omega) (by omega) z
  omega
theorem flt_nz {k p : Nat} {x : Int32} (hx : x = nI k) (hk : 1 ≤ k ∧ k ≤ 5) (hp : p ≤ 600) : ¬ x + 16 * nI p = 0 := by
  rw [hx, flt_ne hk hp]
  intro z
  have := neq_t (a := k + 16 * p) (b := 0) (by omega) (by omega) z
  omega
set_option maxRecDepth 100000 in
set_option maxHeartbeats 400000 in
theorem ct_X9_part {M : gM} {b : Bool} (hR : M.2.2 = stdR b) {q : kS} (hk : tkM M q) (tw : tkW q) (wd : wdM M) {h n st a d u : Nat} {W : wS} {c : cS} (hp : psM M h n st a d u W c) (ha : a < q.1) (lh : h ≤ 1) (ln : n ≤ 16) (ld : d ≤ 5) (lst : st ≤ u) (lu : u ≤ a) : gC 2 0 0 yX9_part cX9_part 2 (some .boolean) 140 140 [.ref 88] M (gI (fun r M9 => paP q h n st a d u W c M r M9)) := by
  refine gC_i rfl (Nat.le_of_ble_eq_true rfl) (fun G hG hE => ?_)
  change G (140, 0, 0) 0 [some (.ref 88), none] [] M
  have h601 := tw.2.1
  have h18p := tw.2.2.2.2.2 a ha
  refine r_aload_n hG dX9_part_0 rfl ?_
  refine r_cVI0 hG mk_X9_275 dX9_part_1 rfl (by decide) (ct_X9_partWord hR hk tw.2.1 hp.1 ha hp.2.1 wd) (by decide) ⟨Nat.le_refl _, Nat.le_refl _⟩ (Nat.le_of_ble_eq_true rfl) (fun x9 M9 h9 => ?_)
  obtain ⟨e8, e9⟩ := h9; rw [e8, e9]; by_cases hw : 1 ≤ (q.2.1 a).1 ∧ (q.2.1 a).1 ≤ 6
  · rw [if_pos hw]
    refine r_istore_n hG dX9_part_4 (by decide) ?_
    refine r_loc [some (.ref 88), some (.int (nI ((q.2.1 a).1 - 1)))] rfl ?_
    refine r_aload_n hG dX9_part_5 rfl ?_
    refine r_getIv hG 8 (0) fk_X9_219 dX9_part_6 rfl (by decide) rfl hp.2.1 ?_
    refine r_if_ne hG 46 dX9_part_9 (by decide) (fun hc9 => absurd hc9 (by decide)) (fun hc9 => ?_)
    refine r_aload_n hG dX9_part_12 rfl ?_
    refine r_getR hG 4 90 fk_X9_24 dX9_part_13 rfl (by decide) rfl (sr hR rfl) ?_
    refine r_aload_n hG dX9_part_16 rfl ?_
    refine r_getIv hG 7 (nI a) fk_X9_216 dX9_part_17 rfl (by decide) rfl hp.1 ?_
    refine r_iald hG a dX9_part_20 rfl (by decide) rfl (by omega) (by decide) ?_
    refine r_iconst hG (2) dX9_part_21 (by decide) ?_
    refine r_icmp_eq hG 46 dX9_part_22 (by decide) (fun hc22 => ?_) (fun hc22 => ?_)
    · refine r_aload_n hG dX9_part_46 rfl ?_
      refine r_getIv hG 19 (nI d) fk_X9_255 dX9_part_47 rfl (by decide) rfl hp.2.2.2.2.1 ?_
      refine r_iconst hG (5) dX9_part_50 (by decide) ?_
      refine r_icmp_ne hG 59 dX9_part_51 (by decide) (fun hc51 => ?_) (fun hc51 => ?_)
      · have hn51 := neq_f (a := d) (b := 5) (by omega) (by omega) hc51
        refine r_aload_n hG dX9_part_59 rfl ?_
        refine r_getIv hG 8 (0) fk_X9_219 dX9_part_60 rfl (by decide) rfl hp.2.1 ?_
        refine r_if_le hG 68 dX9_part_63 (by decide) (fun hc63 => ?_) (fun hc63 => absurd hc63 (by decide))
        refine r_aload_n hG dX9_part_68 rfl ?_
        refine r_bipush hG (40) dX9_part_69 (by decide) ?_
        refine r_cVI1 hG mk_X9_279 dX9_part_71 rfl (by decide) (ct_X9_hasSign hR hk tw.2.1 hp.1 ha hp.2.1 (c := 15) (by decide) rfl) (by decide) ⟨Nat.le_refl _, Nat.le_refl _⟩ (Nat.le_of_ble_eq_true rfl) (fun x9 M9 h9 => ?_)
        rcases h9 with ⟨rfl, hw71, rfl⟩ | ⟨rfl, hw71, rfl⟩
        · skip
          refine r_if_eq hG 93 dX9_part_74 (by decide) (fun hc74 => absurd hc74 (by decide)) (fun hc74 => ?_)
          refine r_aload_n hG dX9_part_77 rfl ?_
          refine r_dup hG dX9_part_78 rfl ?_
          refine r_getIv hG 19 (nI d) fk_X9_255 dX9_part_79 rfl (by decide) rfl ((gwI_n (by omega)).trans hp.2.2.2.2.1) ?_
          refine r_iconst hG (1) dX9_part_82 (by decide) ?_
          refine r_iadd hG dX9_part_83 ?_
          refine r_putI hG 19 fp_X9_255 dX9_part_84 rfl (by decide) rfl rfl rfl ?_
          refine r_aload_n hG dX9_part_87 rfl ?_
          refine r_cVV0 hG mk_X9_258 dX9_part_88 rfl (by decide) (ct_X9_opens (by exact hR) (d := d + 1) (by rw [gwI_s, nI_1]) (by omega)) (by decide) ⟨Nat.le_refl _, Nat.le_refl _⟩ (Nat.le_of_ble_eq_true rfl) (fun M9 h9 => ?_)
          rw [h9]
          refine r_iconst hG (1) dX9_part_91 (by decide) ?_
          refine hE _ _ _ _ _ dX9_part_92 rfl (Nat.le_refl _) (Nat.le_refl _) rfl ?_
          exact ⟨((((gEq.rf.put (by unfold SM; omega)).put (by unfold SM; omega)).put (by unfold SM; omega)).put (by unfold SM; omega)).put (by unfold SM; omega), 0, a + 1, d + 1, u, wset W (d + 1) (0, 0, 0), c, st0_o hw71 (by omega), Or.inl ⟨rfl, rfl, hp.at.op (nI_1 d), by omega, tw.nx ha (by omega)⟩⟩
        · rw [at0 hp.1]
          refine r_if_eq hG 93 dX9_part_74 (by decide) (fun hc74 => ?_) (fun hc74 => absurd hc74 (by decide))
          refine r_aload_n hG dX9_part_93 rfl ?_
          refine r_iload_n hG dX9_part_94 rfl ?_
          refine r_if_ge hG 102 dX9_part_95 (by decide) (fun hc95 => ?_) (fun hc95 => absurd (nI_pos' (by omega)) hc95)
          refine r_iconst hG (2) dX9_part_102 (by decide) ?_
          refine r_iload_n hG dX9_part_103 rfl ?_
          refine r_if_ge hG 120 dX9_part_104 (by decide) (fun hc104 => ?_) (fun hc104 => absurd (nI_pos' (by omega)) hc104)
          refine r_iload_n hG dX9_part_120 rfl ?_
          refine r_cVV2 hG mk_X9_268 dX9_part_121 rfl (by decide) (ct_X9_emit hR hp.2.2.1 hp.2.2.2.1 lh (by omega) _ _) (by decide) ⟨Nat.le_refl _, Nat.le_refl _⟩ (Nat.le_of_ble_eq_true rfl) (fun M9 h9 => ?_)
          rw [h9]
          refine r_aload_n hG dX9_part_124 rfl ?_
          refine r_dup hG dX9_part_125 rfl ?_
          refine r_getIv hG 7 (nI a) fk_X9_216 dX9_part_126 rfl (by decide) rfl (((gwI_n (by omega)).trans ((gwI_n (by omega)).trans (gwI_n (by omega)))).trans hp.1) ?_
          refine r_iconst hG (1) dX9_part_129 (by decide) ?_
          refine r_iadd hG dX9_part_130 ?_
          refine r_putI hG 7 fp_X9_216 dX9_part_131 rfl (by decide) rfl rfl rfl ?_
          refine r_iconst hG (0) dX9_part_134 (by decide) ?_
          refine hE _ _ _ _ _ dX9_part_135 rfl (Nat.le_refl _) (Nat.le_refl _) rfl ?_
          have h7x : (q.2.1 a).1 < 7 := (Or.inl (by omega)).elim id (fun z => absurd z hw71)
          refine ⟨(((gEq.rf.put (by unfold SM; omega)).put (by unfold SM; omega)).put (by unfold SM; omega)).put (by unfold SM; omega), 1, a + 1, d, u + 1, W, cset c u (q.2.1 a), st0_p h7x (by omega), Or.inr (Or.inl ⟨rfl, rfl, ?_, by omega, tw.nx ha (by omega)⟩)⟩
          refine psM.at (hp.emit (t := q.2.1 a) ?_ ?_)
          · unfold opv; rw [if_neg (by omega), if_pos (by omega)]
          · unfold onev; rw [if_neg (by omega), if_pos (by omega)]
      · have hn51 := neq_t (a := d) (b := 5) (by omega) (by omega) hc51
        refine r_aload_n hG dX9_part_54 rfl ?_
        refine r_iconst hG (5) dX9_part_55 (by decide) ?_
        refine r_cVV1 hG mk_X9_225 dX9_part_56 rfl (by decide) (ct_X9_wrong hR hk tw.2.1 hp.1 ha hp.2.1 _) (by decide) ⟨Nat.le_refl _, Nat.le_refl _⟩ (Nat.le_of_ble_eq_true rfl) (fun M9 h9 => ?_)
        rw [h9]
        refine r_aload_n hG dX9_part_59 rfl ?_
        refine r_getIv hG 8 (5 + 16 * nI (q.2.2 a)) fk_X9_219 dX9_part_60 rfl (by decide) rfl gwI_s ?_
        refine r_if_le hG 68 dX9_part_63 (by decide) (fun hc63 => absurd hc63 (flt_no (k := 5) rfl ⟨by omega, by omega⟩ (tw.2.2.2.2.2 a ha))) (fun hc63 => ?_)
        refine r_iconst hG (0) dX9_part_66 (by decide) ?_
        refine hE _ _ _ _ _ dX9_part_67 rfl (Nat.le_refl _) (Nat.le_refl _) rfl ?_
        have e5 : d = 5 := by omega
        subst e5
        exact ⟨gEq.rf.put (by unfold SM; omega), 15, a, 5, u, W, c, st0_l (Or.inl (by omega)), Or.inr (Or.inr ⟨rfl, 5, rfl, by omega, by omega, ha, gwI_s, ⟨n + u, ⟨by omega, by omega⟩, by rw [gwI_n (by omega)]; exact hp.2.2.2.1⟩, a, by omega, by rw [gwI_n (by omega)]; exact hp.1⟩)⟩
    · refine r_aload_n hG dX9_part_25 rfl ?_
      refine r_bipush hG (40) dX9_part_26 (by decide) ?_
      refine r_cVI1 hG mk_X9_222 dX9_part_28 rfl (by decide) (ct_X9_isSign hR hk tw.2.1 hp.1 ha hp.2.1 (c := 15) (by decide) rfl) (by decide) ⟨Nat.le_refl _, Nat.le_refl _⟩ (Nat.le_of_ble_eq_true rfl) (fun x9 M9 h9 => ?_)
      obtain ⟨h8, e9⟩ := h9; rw [e9]; rcases h8 with ⟨e8, hw28⟩ | ⟨e8, hw28⟩
      · rw [e8]
        refine r_if_ne hG 46 dX9_part_31 (by decide) (fun hc31 => ?_) (fun hc31 => absurd hc31 (by decide))
        refine r_aload_n hG dX9_part_46 rfl ?_
        refine r_getIv hG 19 (nI d) fk_X9_255 dX9_part_47 rfl (by decide) rfl hp.2.2.2.2.1 ?_
        refine r_iconst hG (5) dX9_part_50 (by decide) ?_
        refine r_icmp_ne hG 59 dX9_part_51 (by decide) (fun hc51 => ?_) (fun hc51 => ?_)
        · have hn51 := neq_f (a := d) (b := 5) (by omega) (by omega) hc51
          refine r_aload_n hG dX9_part_59 rfl ?_
          refine r_getIv hG 8 (0) fk_X9_219 dX9_part_60 rfl (by decide) rfl hp.2.1 ?_
          refine r_if_le hG 68 dX9_part_63 (by decide) (fun hc63 => ?_) (fun hc63 => absurd hc63 (by decide))
          refine r_aload_n hG dX9_part_68 rfl ?_
          refine r_bipush hG (40) dX9_part_69 (by decide) ?_
          refine r_cVI1 hG mk_X9_279 dX9_part_71 rfl (by decide) (ct_X9_hasSign hR hk tw.2.1 hp.1 ha hp.2.1 (c := 15) (by decide) rfl) (by decide) ⟨Nat.le_refl _, Nat.le_refl _⟩ (Nat.le_of_ble_eq_true rfl) (fun x9 M9 h9 => ?_)
          rcases h9 with ⟨rfl, hw71, rfl⟩ | ⟨rfl, hw71, rfl⟩
          · skip
            refine r_if_eq hG 93 dX9_part_74 (by decide) (fun hc74 => absurd hc74 (by decide)) (fun hc74 => ?_)
            refine r_aload_n hG dX9_part_77 rfl ?_
            refine r_dup hG dX9_part_78 rfl ?_
            refine r_getIv hG 19 (nI d) fk_X9_255 dX9_part_79 rfl (by decide) rfl ((gwI_n (by omega)).trans hp.2.2.2.2.1) ?_
            refine r_iconst hG (1) dX9_part_82 (by decide) ?_
            refine r_iadd hG dX9_part_83 ?_
            refine r_putI hG 19 fp_X9_255 dX9_part_84 rfl (by decide) rfl rfl rfl ?_
            refine r_aload_n hG dX9_part_87 rfl ?_
            refine r_cVV0 hG mk_X9_258 dX9_part_88 rfl (by decide) (ct_X9_opens (by exact hR) (d := d + 1) (by rw [gwI_s, nI_1]) (by omega)) (by decide) ⟨Nat.le_refl _, Nat.le_refl _⟩ (Nat.le_of_ble_eq_true rfl) (fun M9 h9 => ?_)
            rw [h9]
            refine r_iconst hG (1) dX9_part_91 (by decide) ?_
            refine hE _ _ _ _ _ dX9_part_92 rfl (Nat.le_refl _) (Nat.le_refl _) rfl ?_
            exact ⟨((((gEq.rf.put (by unfold SM; omega)).put (by unfold SM; omega)).put (by unfold SM; omega)).put (by unfold SM; omega)).put (by unfold SM; omega), 0, a + 1, d + 1, u, wset W (d + 1) (0, 0, 0), c, st0_o hw71 (by omega), Or.inl ⟨rfl, rfl, hp.at.op (nI_1 d), by omega, tw.nx ha (by omega)⟩⟩
          · rw [at0 hp.1]
            refine r_if_eq hG 93 dX9_part_74 (by decide) (fun hc74 => ?_) (fun hc74 => absurd hc74 (by decide))
            refine r_aload_n hG dX9_part_93 rfl ?_
            refine r_iload_n hG dX9_part_94 rfl ?_
            refine r_if_ge hG 102 dX9_part_95 (by decide) (fun hc95 => ?_) (fun hc95 => absurd (nI_pos' (by omega)) hc95)
            refine r_iconst hG (2) dX9_part_102 (by decide) ?_
            refine r_iload_n hG dX9_part_103 rfl ?_
            refine r_if_ge hG 120 dX9_part_104 (by decide) (fun hc104 => ?_) (fun hc104 => absurd (nI_pos' (by omega)) hc104)
            refine r_iload_n hG dX9_part_120 rfl ?_
            refine r_cVV2 hG mk_X9_268 dX9_part_121 rfl (by decide) (ct_X9_emit hR hp.2.2.1 hp.2.2.2.1 lh (by omega) _ _) (by decide) ⟨Nat.le_refl _, Nat.le_refl _⟩ (Nat.le_of_ble_eq_true rfl) (fun M9 h9 => ?_)
            rw [h9]
            refine r_aload_n hG dX9_part_124 rfl ?_
            refine r_dup hG dX9_part_125 rfl ?_
            refine r_getIv hG 7 (nI a) fk_X9_216 dX9_part_126 rfl (by decide) rfl (((gwI_n (by omega)).trans ((gwI_n (by omega)).trans (gwI_n (by omega)))).trans hp.1) ?_
            refine r_iconst hG (1) dX9_part_129 (by decide) ?_
            refine r_iadd hG dX9_part_130 ?_
            refine r_putI hG 7 fp_X9_216 dX9_part_131 rfl (by decide) rfl rfl rfl ?_
            refine r_iconst hG (0) dX9_part_134 (by decide) ?_
            refine hE _ _ _ _ _ dX9_part_135 rfl (Nat.le_refl _) (Nat.le_refl _) rfl ?_
            have h7x : (q.2.1 a).1 < 7 := (Or.inl (by omega)).elim id (fun z => absurd z hw71)
            refine ⟨(((gEq.rf.put (by unfold SM; omega)).put (by unfold SM; omega)).put (by unfold SM; omega)).put (by unfold SM; omega), 1, a + 1, d, u + 1, W, cset c u (q.2.1 a), st0_p h7x (by omega), Or.inr (Or.inl ⟨rfl, rfl, ?_, by omega, tw.nx ha (by omega)⟩)⟩
            refine psM.at (hp.emit (t := q.2.1 a) ?_ ?_)
            · unfold opv; rw [if_neg (by omega), if_pos (by omega)]
            · unfold onev; rw [if_neg (by omega), if_pos (by omega)]
        · have hn51 := neq_t (a := d) (b := 5) (by omega) (by omega) hc51
          refine r_aload_n hG dX9_part_54 rfl ?_
          refine r_iconst hG (5) dX9_part_55 (by decide) ?_
          refine r_cVV1 hG mk_X9_225 dX9_part_56 rfl (by decide) (ct_X9_wrong hR hk tw.2.1 hp.1 ha hp.2.1 _) (by decide) ⟨Nat.le_refl _, Nat.le_refl _⟩ (Nat.le_of_ble_eq_true rfl) (fun M9 h9 => ?_)
          rw [h9]
          refine r_aload_n hG dX9_part_59 rfl ?_
          refine r_getIv hG 8 (5 + 16 * nI (q.2.2 a)) fk_X9_219 dX9_part_60 rfl (by decide) rfl gwI_s ?_
          refine r_if_le hG 68 dX9_part_63 (by decide) (fun hc63 => absurd hc63 (flt_no (k := 5) rfl ⟨by omega, by omega⟩ (tw.2.2.2.2.2 a ha))) (fun hc63 => ?_)
          refine r_iconst hG (0) dX9_part_66 (by decide) ?_
          refine hE _ _ _ _ _ dX9_part_67 rfl (Nat.le_refl _) (Nat.le_refl _) rfl ?_
          have e5 : d = 5 := by omega
          subst e5
          exact ⟨gEq.rf.put (by unfold SM; omega), 15, a, 5, u, W, c, st0_l (Or.inl (by omega)), Or.inr (Or.inr ⟨rfl, 5, rfl, by omega, by omega, ha, gwI_s, ⟨n + u, ⟨by omega, by omega⟩, by rw [gwI_n (by omega)]; exact hp.2.2.2.1⟩, a, by omega, by rw [gwI_n (by omega)]; exact hp.1⟩)⟩
      · rw [e8]
        refine r_if_ne hG 46 dX9_part_31 (by decide) (fun hc31 => absurd hc31 (by decide)) (fun hc31 => ?_)
        refine r_iload_n hG dX9_part_34 rfl ?_
        refine r_if_ge hG 46 dX9_part_35 (by decide) (fun hc35 => ?_) (fun hc35 => absurd (nI_pos' (by omega)) hc35)
        refine r_aload_n hG dX9_part_46 rfl ?_
        refine r_getIv hG 19 (nI d) fk_X9_255 dX9_part_47 rfl (by decide) rfl hp.2.2.2.2.1 ?_
        refine r_iconst hG (5) dX9_part_50 (by decide) ?_
        refine r_icmp_ne hG 59 dX9_part_51 (by decide) (fun hc51 => ?_) (fun hc51 => ?_)
        · have hn51 := neq_f (a := d) (b := 5) (by omega) (by omega) hc51
          refine r_aload_n hG dX9_part_59 rfl ?_
          refine r_getIv hG 8 (0) fk_X9_219 dX9_part_60 rfl (by decide) rfl hp.2.1 ?_
          refine r_if_le hG 68 dX9_part_63 (by decide) (fun hc63 => ?_) (fun hc63 => absurd hc63 (by decide))
          refine r_aload_n hG dX9_part_68 rfl ?_
          refine r_bipush hG (40) dX9_part_69 (by decide) ?_
          refine r_cVI1 hG mk_X9_279 dX9_part_71 rfl (by decide) (ct_X9_hasSign hR hk tw.2.1 hp.1 ha hp.2.1 (c := 15) (by decide) rfl) (by decide) ⟨Nat.le_refl _, Nat.le_refl _⟩ (Nat.le_of_ble_eq_true rfl) (fun x9 M9 h9 => ?_)
          rcases h9 with ⟨rfl, hw71, rfl⟩ | ⟨rfl, hw71, rfl⟩
          · skip
            refine r_if_eq hG 93 dX9_part_74 (by decide) (fun hc74 => absurd hc74 (by decide)) (fun hc74 => ?_)
            refine r_aload_n hG dX9_part_77 rfl ?_
            refine r_dup hG dX9_part_78 rfl ?_
            refine r_getIv hG 19 (nI d) fk_X9_255 dX9_part_79 rfl (by decide) rfl ((gwI_n (by omega)).trans hp.2.2.2.2.1) ?_
            refine r_iconst hG (1) dX9_part_82 (by decide) ?_
            refine r_iadd hG dX9_part_83 ?_
            refine r_putI hG 19 fp_X9_255 dX9_part_84 rfl (by decide) rfl rfl rfl ?_
            refine r_aload_n hG dX9_part_87 rfl ?_
            refine r_cVV0 hG mk_X9_258 dX9_part_88 rfl (by decide) (ct_X9_opens (by exact hR) (d := d + 1) (by rw [gwI_s, nI_1]) (by omega)) (by decide) ⟨Nat.le_refl _, Nat.le_refl _⟩ (Nat.le_of_ble_eq_true rfl) (fun M9 h9 => ?_)
            rw [h9]
            refine r_iconst hG (1) dX9_part_91 (by decide) ?_
            refine hE _ _ _ _ _ dX9_part_92 rfl (Nat.le_refl _) (Nat.le_refl _) rfl ?_
            exact ⟨((((gEq.rf.put (by unfold SM; omega)).put (by unfold SM; omega)).put (by unfold SM; omega)).put (by unfold SM; omega)).put (by unfold SM; omega), 0, a + 1, d + 1, u, wset W (d + 1) (0, 0, 0), c, st0_o hw71 (by omega), Or.inl ⟨rfl, rfl, hp.at.op (nI_1 d), by omega, tw.nx ha (by omega)⟩⟩
          · rw [at0 hp.1]
            refine r_if_eq hG 93 dX9_part_74 (by decide) (fun hc74 => ?_) (fun hc74 => absurd hc74 (by decide))
            refine r_aload_n hG dX9_part_93 rfl ?_
            refine r_iload_n hG dX9_part_94 rfl ?_
            refine r_if_ge hG 102 dX9_part_95 (by decide) (fun hc95 => ?_) (fun hc95 => absurd (nI_pos' (by omega)) hc95)
            refine r_iconst hG (2) dX9_part_102 (by decide) ?_
            refine r_iload_n hG dX9_part_103 rfl ?_
            refine r_if_ge hG 120 dX9_part_104 (by decide) (fun hc104 => ?_) (fun hc104 => absurd (nI_pos' (by omega)) hc104)
            refine r_iload_n hG dX9_part_120 rfl ?_
            refine r_cVV2 hG mk_X9_268 dX9_part_121 rfl (by decide) (ct_X9_emit hR hp.2.2.1 hp.2.2.2.1 lh (by omega) _ _) (by decide) ⟨Nat.le_refl _, Nat.le_refl _⟩ (Nat.le_of_ble_eq_true rfl) (fun M9 h9 => ?_)
            rw [h9]
            refine r_aload_n hG dX9_part_124 rfl ?_
            refine r_dup hG dX9_part_125 rfl ?_
            refine r_getIv hG 7 (nI a) fk_X9_216 dX9_part_126 rfl (by decide) rfl (((gwI_n (by omega)).trans ((gwI_n (by omega)).trans (gwI_n (by omega)))).trans hp.1) ?_
            refine r_iconst hG (1) dX9_part_129 (by decide) ?_
            refine r_iadd hG dX9_part_130 ?_
            refine r_putI hG 7 fp_X9_216 dX9_part_131 rfl (by decide) rfl rfl rfl ?_
            refine r_iconst hG (0) dX9_part_134 (by decide) ?_
            refine hE _ _ _ _ _ dX9_part_135 rfl (Nat.le_refl _) (Nat.le_refl _) rfl ?_
            have h7x : (q.2.1 a).1 < 7 := (Or.inl (by omega)).elim id (fun z => absurd z hw71)
            refine ⟨(((gEq.rf.put (by unfold SM; omega)).put (by unfold SM; omega)).put (by unfold SM; omega)).put (by unfold SM; omega), 1, a + 1, d, u + 1, W, cset c u (q.2.1 a), st0_p h7x (by omega), Or.inr (Or.inl ⟨rfl, rfl, ?_, by omega, tw.nx ha (by omega)⟩)⟩
            refine psM.at (hp.emit (t := q.2.1 a) ?_ ?_)
            · unfold opv; rw [if_neg (by omega), if_pos (by omega)]
            · unfold onev; rw [if_neg (by omega), if_pos (by omega)]
        · have hn51 := neq_t (a := d) (b := 5) (by omega) (by omega) hc51
          refine r_aload_n hG dX9_part_54 rfl ?_
          refine r_iconst hG (5) dX9_part_55 (by decide) ?_
          refine r_cVV1 hG mk_X9_225 dX9_part_56 rfl (by decide) (ct_X9_wrong hR hk tw.2.1 hp.1 ha hp.2.1 _) (by decide) ⟨Nat.le_refl _, Nat.le_refl _⟩ (Nat.le_of_ble_eq_true rfl) (fun M9 h9 => ?_)
          rw [h9]
          refine r_aload_n hG dX9_part_59 rfl ?_
          refine r_getIv hG 8 (5 + 16 * nI (q.2.2 a)) fk_X9_219 dX9_part_60 rfl (by decide) rfl gwI_s ?_
          refine r_if_le hG 68 dX9_part_63 (by decide) (fun hc63 => absurd hc63 (flt_no (k := 5) rfl ⟨by omega, by omega⟩ (tw.2.2.2.2.2 a ha))) (fun hc63 => ?_)
          refine r_iconst hG (0) dX9_part_66 (by decide) ?_
          refine hE _ _ _ _ _ dX9_part_67 rfl (Nat.le_refl _) (Nat.le_refl _) rfl ?_
          have e5 : d = 5 := by omega
          subst e5
          exact ⟨gEq.rf.put (by unfold SM; omega), 15, a, 5, u, W, c, st0_l (Or.inl (by omega)), Or.inr (Or.inr ⟨rfl, 5, rfl, by omega, by omega, ha, gwI_s, ⟨n + u, ⟨by omega, by omega⟩, by rw [gwI_n (by omega)]; exact hp.2.2.2.1⟩, a, by omega, by rw [gwI_n (by omega)]; exact hp.1⟩)⟩
  · rw [if_neg hw]
    refine r_istore_n hG dX9_part_4 (by decide) ?_
    refine r_loc [some (.ref 88), some (.int (-1))] rfl ?_
    refine r_aload_n hG dX9_part_5 rfl ?_
    refine r_getIv hG 8 (0) fk_X9_219 dX9_part_6 rfl (by decide) rfl hp.2.1 ?_
    refine r_if_ne hG 46 dX9_part_9 (by decide) (fun hc9 => absurd hc9 (by decide)) (fun hc9 => ?_)
    refine r_aload_n hG dX9_part_12 rfl ?_
    refine r_getR hG 4 90 fk_X9_24 dX9_part_13 rfl (by decide) rfl (sr hR rfl) ?_
    refine r_aload_n hG dX9_part_16 rfl ?_
    refine r_getIv hG 7 (nI a) fk_X9_216 dX9_part_17 rfl (by decide) rfl hp.1 ?_
    refine r_iald hG a dX9_part_20 rfl (by decide) rfl (by omega) (by decide) ?_
    refine r_iconst hG (2) dX9_part_21 (by decide) ?_
    refine r_icmp_eq hG 46 dX9_part_22 (by decide) (fun hc22 => ?_) (fun hc22 => ?_)
    · refine r_aload_n hG dX9_part_46 rfl ?_
      refine r_getIv hG 19 (nI d) fk_X9_255 dX9_part_47 rfl (by decide) rfl hp.2.2.2.2.1 ?_
      refine r_iconst hG (5) dX9_part_50 (by decide) ?_
      refine r_icmp_ne hG 59 dX9_part_51 (by decide) (fun hc51 => ?_) (fun hc51 => ?_)
      · have hn51 := neq_f (a := d) (b := 5) (by omega) (by omega) hc51
        refine r_aload_n hG dX9_part_59 rfl ?_
        refine r_getIv hG 8 (0) fk_X9_219 dX9_part_60 rfl (by decide) rfl hp.2.1 ?_
        refine r_if_le hG 68 dX9_part_63 (by decide) (fun hc63 => ?_) (fun hc63 => absurd hc63 (by decide))
        refine r_aload_n hG dX9_part_68 rfl ?_
        refine r_bipush hG (40) dX9_part_69 (by decide) ?_
        refine r_cVI1 hG mk_X9_279 dX9_part_71 rfl (by decide) (ct_X9_hasSign hR hk tw.2.1 hp.1 ha hp.2.1 (c := 15) (by decide) rfl) (by decide) ⟨Nat.le_refl _, Nat.le_refl _⟩ (Nat.le_of_ble_eq_true rfl) (fun x9 M9 h9 => ?_)
        rcases h9 with ⟨rfl, hw71, rfl⟩ | ⟨rfl, hw71, rfl⟩
        · skip
          refine r_if_eq hG 93 dX9_part_74 (by decide) (fun hc74 => absurd hc74 (by decide)) (fun hc74 => ?_)
          refine r_aload_n hG dX9_part_77 rfl ?_
          refine r_dup hG dX9_part_78 rfl ?_
          refine r_getIv hG 19 (nI d) fk_X9_255 dX9_part_79 rfl (by decide) rfl ((gwI_n (by omega)).trans hp.2.2.2.2.1) ?_
          refine r_iconst hG (1) dX9_part_82 (by decide) ?_
          refine r_iadd hG dX9_part_83 ?_
          refine r_putI hG 19 fp_X9_255 dX9_part_84 rfl (by decide) rfl rfl rfl ?_
          refine r_aload_n hG dX9_part_87 rfl ?_
          refine r_cVV0 hG mk_X9_258 dX9_part_88 rfl (by decide) (ct_X9_opens (by exact hR) (d := d + 1) (by rw [gwI_s, nI_1]) (by omega)) (by decide) ⟨Nat.le_refl _, Nat.le_refl _⟩ (Nat.le_of_ble_eq_true rfl) (fun M9 h9 => ?_)
          rw [h9]
          refine r_iconst hG (1) dX9_part_91 (by decide) ?_
          refine hE _ _ _ _ _ dX9_part_92 rfl (Nat.le_refl _) (Nat.le_refl _) rfl ?_
          exact ⟨((((gEq.rf.put (by unfold SM; omega)).put (by unfold SM; omega)).put (by unfold SM; omega)).put (by unfold SM; omega)).put (by unfold SM; omega), 0, a + 1, d + 1, u, wset W (d + 1) (0, 0, 0), c, st0_o hw71 (by omega), Or.inl ⟨rfl, rfl, hp.at.op (nI_1 d), by omega, tw.nx ha (by omega)⟩⟩
        · rw [at0 hp.1]
          refine r_if_eq hG 93 dX9_part_74 (by decide) (fun hc74 => ?_) (fun hc74 => absurd hc74 (by decide))
          refine r_aload_n hG dX9_part_93 rfl ?_
          refine r_iload_n hG dX9_part_94 rfl ?_
          refine r_if_ge hG 102 dX9_part_95 (by decide) (fun hc95 => absurd hc95 (by decide)) (fun hc95 => ?_)
          refine r_iconst hG (1) dX9_part_98 (by decide) ?_
          refine r_goto hG 103 dX9_part_99 (by decide) ?_
          refine r_iload_n hG dX9_part_103 rfl ?_
          refine r_if_ge hG 120 dX9_part_104 (by decide) (fun hc104 => absurd hc104 (by decide)) (fun hc104 => ?_)
          refine r_aload_n hG dX9_part_107 rfl ?_
          refine r_getR hG 6 92 fk_X9_30 dX9_part_108 rfl (by decide) rfl (sr hR rfl) ?_
          refine r_aload_n hG dX9_part_111 rfl ?_
          refine r_getIv hG 7 (nI a) fk_X9_216 dX9_part_112 rfl (by decide) rfl hp.1 ?_
          refine r_lald hG a dX9_part_115 rfl (by decide) rfl (by omega) (by decide) ?_
          refine r_l2i hG dX9_part_116 ?_
          refine r_goto hG 121 dX9_part_117 (by decide) ?_
          refine r_cVV2 hG mk_X9_268 dX9_part_121 rfl (by decide) (ct_X9_emit hR hp.2.2.1 hp.2.2.2.1 lh (by omega) _ _) (by decide) ⟨Nat.le_refl _, Nat.le_refl _⟩ (Nat.le_of_ble_eq_true rfl) (fun M9 h9 => ?_)
          rw [h9]
          refine r_aload_n hG dX9_part_124 rfl ?_
          refine r_dup hG dX9_part_125 rfl ?_
          refine r_getIv hG 7 (nI a) fk_X9_216 dX9_part_126 rfl (by decide) rfl (((gwI_n (by omega)).trans ((gwI_n (by omega)).trans (gwI_n (by omega)))).trans hp.1) ?_
          refine r_iconst hG (1) dX9_part_129 (by decide) ?_
          refine r_iadd hG dX9_part_130 ?_
          refine r_putI hG 7 fp_X9_216 dX9_part_131 rfl (by decide) rfl rfl rfl ?_
          refine r_iconst hG (0) dX9_part_134 (by decide) ?_
          refine hE _ _ _ _ _ dX9_part_135 rfl (Nat.le_refl _) (Nat.le_refl _) rfl ?_
          have h7x : (q.2.1 a).1 < 7 := (Or.inl (by have := (nu_is (hk a ha).1).mp hc22; omega)).elim id (fun z => absurd z hw71)
          refine ⟨(((gEq.rf.put (by unfold SM; omega)).put (by unfold SM; omega)).put (by unfold SM; omega)).put (by unfold SM; omega), 1, a + 1, d, u + 1, W, cset c u (q.2.1 a), st0_p h7x (by omega), Or.inr (Or.inl ⟨rfl, rfl, ?_, by omega, tw.nx ha (by omega)⟩)⟩
          refine psM.at (hp.emit (t := q.2.1 a) ?_ ?_)
          · unfold opv; rw [if_pos (by omega)]
          · unfold onev; rw [if_pos (by omega), nu_va (hk a ha).1 (by omega), i32_64]
      · have hn51 := neq_t (a := d) (b := 5) (by omega) (by omega) hc51
        refine r_aload_n hG dX9_part_54 rfl ?_
        refine r_iconst hG (5) dX9_part_55 (by decide) ?_
        refine r_cVV1 hG mk_X9_225 dX9_part_56 rfl (by decide) (ct_X9_wrong hR hk tw.2.1 hp.1 ha hp.2.1 _) (by decide) ⟨Nat.le_refl _, Nat.le_refl _⟩ (Nat.le_of_ble_eq_true rfl) (fun M9 h9 => ?_)
        rw [h9]
        refine r_aload_n hG dX9_part_59 rfl ?_
        refine r_getIv hG 8 (5 + 16 * nI (q.2.2 a)) fk_X9_219 dX9_part_60 rfl (by decide) rfl gwI_s ?_
        refine r_if_le hG 68 dX9_part_63 (by decide) (fun hc63 => absurd hc63 (flt_no (k := 5) rfl ⟨by omega, by omega⟩ (tw.2.2.2.2.2 a ha))) (fun hc63 => ?_)
        refine r_iconst hG (0) dX9_part_66 (by decide) ?_
        refine hE _ _ _ _ _ dX9_part_67 rfl (Nat.le_refl _) (Nat.le_refl _) rfl ?_
        have e5 : d = 5 := by omega
        subst e5
        exact ⟨gEq.rf.put (by unfold SM; omega), 15, a, 5, u, W, c, st0_l (Or.inl (by have := (nu_is (hk a ha).1).mp hc22; omega)), Or.inr (Or.inr ⟨rfl, 5, rfl, by omega, by omega, ha, gwI_s, ⟨n + u, ⟨by omega, by omega⟩, by rw [gwI_n (by omega)]; exact hp.2.2.2.1⟩, a, by omega, by rw [gwI_n (by omega)]; exact hp.1⟩)⟩
    · refine r_aload_n hG dX9_part_25 rfl ?_
      refine r_bipush hG (40) dX9_part_26 (by decide) ?_
      refine r_cVI1 hG mk_X9_222 dX9_part_28 rfl (by decide) (ct_X9_isSign hR hk tw.2.1 hp.1 ha hp.2.1 (c := 15) (by decide) rfl) (by decide) ⟨Nat.le_refl _, Nat.le_refl _⟩ (Nat.le_of_ble_eq_true rfl) (fun x9 M9 h9 => ?_)
      obtain ⟨h8, e9⟩ := h9; rw [e9]; rcases h8 with ⟨e8, hw28⟩ | ⟨e8, hw28⟩
      · rw [e8]
        refine r_if_ne hG 46 dX9_part_31 (by decide) (fun hc31 => ?_) (fun hc31 => absurd hc31 (by decide))
        refine r_aload_n hG dX9_part_46 rfl ?_
        refine r_getIv hG 19 (nI d) fk_X9_255 dX9_part_47 rfl (by decide) rfl hp.2.2.2.2.1 ?_
        refine r_iconst hG (5) dX9_part_50 (by decide) ?_
        refine r_icmp_ne hG 59 dX9_part_51 (by decide) (fun hc51 => ?_) (fun hc51 => ?_)
        · have hn51 := neq_f (a := d) (b := 5) (by omega) (by omega) hc51
          refine r_aload_n hG dX9_part_59 rfl ?_
          refine r_getIv hG 8 (0) fk_X9_219 dX9_part_60 rfl (by decide) rfl hp.2.1 ?_
          refine r_if_le hG 68 dX9_part_63 (by decide) (fun hc63 => ?_) (fun hc63 => absurd hc63 (by decide))
          refine r_aload_n hG dX9_part_68 rfl ?_
          refine r_bipush hG (40) dX9_part_69 (by decide) ?_
          refine r_cVI1 hG mk_X9_279 dX9_part_71 rfl (by decide) (ct_X9_hasSign hR hk tw.2.1 hp.1 ha hp.2.1 (c := 15) (by decide) rfl) (by decide) ⟨Nat.le_refl _, Nat.le_refl _⟩ (Nat.le_of_ble_eq_true rfl) (fun x9 M9 h9 => ?_)
          rcases h9 with ⟨rfl, hw71, rfl⟩ | ⟨rfl, hw71, rfl⟩
          · skip
            refine r_if_eq hG 93 dX9_part_74 (by decide) (fun hc74 => absurd hc74 (by decide)) (fun hc74 => ?_)
            refine r_aload_n hG dX9_part_77 rfl ?_
            refine r_dup hG dX9_part_78 rfl ?_
            refine r_getIv hG 19 (nI d) fk_X9_255 dX9_part_79 rfl (by decide) rfl ((gwI_n (by omega)).trans hp.2.2.2.2.1) ?_
            refine r_iconst hG (1) dX9_part_82 (by decide) ?_
            refine r_iadd hG dX9_part_83 ?_
            refine r_putI hG 19 fp_X9_255 dX9_part_84 rfl (by decide) rfl rfl rfl ?_
            refine r_aload_n hG dX9_part_87 rfl ?_
            refine r_cVV0 hG mk_X9_258 dX9_part_88 rfl (by decide) (ct_X9_opens (by exact hR) (d := d + 1) (by rw [gwI_s, nI_1]) (by omega)) (by decide) ⟨Nat.le_refl _, Nat.le_refl _⟩ (Nat.le_of_ble_eq_true rfl) (fun M9 h9 => ?_)
            rw [h9]
            refine r_iconst hG (1) dX9_part_91 (by decide) ?_
            refine hE _ _ _ _ _ dX9_part_92 rfl (Nat.le_refl _) (Nat.le_refl _) rfl ?_
            exact ⟨((((gEq.rf.put (by unfold SM; omega)).put (by unfold SM; omega)).put (by unfold SM; omega)).put (by unfold SM; omega)).put (by unfold SM; omega), 0, a + 1, d + 1, u, wset W (d + 1) (0, 0, 0), c, st0_o hw71 (by omega), Or.inl ⟨rfl, rfl, hp.at.op (nI_1 d), by omega, tw.nx ha (by omega)⟩⟩
          · rw [at0 hp.1]
            refine r_if_eq hG 93 dX9_part_74 (by decide) (fun hc74 => ?_) (fun hc74 => absurd hc74 (by decide))
            refine r_aload_n hG dX9_part_93 rfl ?_
            refine r_iload_n hG dX9_part_94 rfl ?_
            refine r_if_ge hG 102 dX9_part_95 (by decide) (fun hc95 => absurd hc95 (by decide)) (fun hc95 => ?_)
            refine r_iconst hG (1) dX9_part_98 (by decide) ?_
            refine r_goto hG 103 dX9_part_99 (by decide) ?_
            refine r_iload_n hG dX9_part_103 rfl ?_
            refine r_if_ge hG 120 dX9_part_104 (by decide) (fun hc104 => absurd hc104 (by decide)) (fun hc104 => ?_)
            refine r_aload_n hG dX9_part_107 rfl ?_
            refine r_getR hG 6 92 fk_X9_30 dX9_part_108 rfl (by decide) rfl (sr hR rfl) ?_
            refine r_aload_n hG dX9_part_111 rfl ?_
            refine r_getIv hG 7 (nI a) fk_X9_216 dX9_part_112 rfl (by decide) rfl hp.1 ?_
            refine r_lald hG a dX9_part_115 rfl (by decide) rfl (by omega) (by decide) ?_
            refine r_l2i hG dX9_part_116 ?_
            refine r_goto hG 121 dX9_part_117 (by decide) ?_
            refine r_cVV2 hG mk_X9_268 dX9_part_121 rfl (by decide) (ct_X9_emit hR hp.2.2.1 hp.2.2.2.1 lh (by omega) _ _) (by decide) ⟨Nat.le_refl _, Nat.le_refl _⟩ (Nat.le_of_ble_eq_true rfl) (fun M9 h9 => ?_)
            rw [h9]
            refine r_aload_n hG dX9_part_124 rfl ?_
            refine r_dup hG dX9_part_125 rfl ?_
            refine r_getIv hG 7 (nI a) fk_X9_216 dX9_part_126 rfl (by decide) rfl (((gwI_n (by omega)).trans ((gwI_n (by omega)).trans (gwI_n (by omega)))).trans hp.1) ?_
            refine r_iconst hG (1) dX9_part_129 (by decide) ?_
            refine r_iadd hG dX9_part_130 ?_
            refine r_putI hG 7 fp_X9_216 dX9_part_131 rfl (by decide) rfl rfl rfl ?_
            refine r_iconst hG (0) dX9_part_134 (by decide) ?_
            refine hE _ _ _ _ _ dX9_part_135 rfl (Nat.le_refl _) (Nat.le_refl _) rfl ?_
            have h7x : (q.2.1 a).1 < 7 := (Or.inr hw28).elim id (fun z => absurd z hw71)
            refine ⟨(((gEq.rf.put (by unfold SM; omega)).put (by unfold SM; omega)).put (by unfold SM; omega)).put (by unfold SM; omega), 1, a + 1, d, u + 1, W, cset c u (q.2.1 a), st0_p h7x (by omega), Or.inr (Or.inl ⟨rfl, rfl, ?_, by omega, tw.nx ha (by omega)⟩)⟩
            refine psM.at (hp.emit (t := q.2.1 a) ?_ ?_)
            · unfold opv; rw [if_pos (by omega)]
            · unfold onev; rw [if_pos (by omega), nu_va (hk a ha).1 (by omega), i32_64]
        · have hn51 := neq_t (a := d) (b := 5) (by omega) (by omega) hc51
          refine r_aload_n hG dX9_part_54 rfl ?_
          refine r_iconst hG (5) dX9_part_55 (by decide) ?_
          refine r_cVV1 hG mk_X9_225 dX9_part_56 rfl (by decide) (ct_X9_wrong hR hk tw.2.1 hp.1 ha hp.2.1 _) (by decide) ⟨Nat.le_refl _, Nat.le_refl _⟩ (Nat.le_of_ble_eq_true rfl) (fun M9 h9 => ?_)
          rw [h9]
          refine r_aload_n hG dX9_part_59 rfl ?_
          refine r_getIv hG 8 (5 + 16 * nI (q.2.2 a)) fk_X9_219 dX9_part_60 rfl (by decide) rfl gwI_s ?_
          refine r_if_le hG 68 dX9_part_63 (by decide) (fun hc63 => absurd hc63 (flt_no (k := 5) rfl ⟨by omega, by omega⟩ (tw.2.2.2.2.2 a ha))) (fun hc63 => ?_)
          refine r_iconst hG (0) dX9_part_66 (by decide) ?_
          refine hE _ _ _ _ _ dX9_part_67 rfl (Nat.le_refl _) (Nat.le_refl _) rfl ?_
          have e5 : d = 5 := by omega
          subst e5
          exact ⟨gEq.rf.put (by unfold SM; omega), 15, a, 5, u, W, c, st0_l (Or.inr hw28), Or.inr (Or.inr ⟨rfl, 5, rfl, by omega, by omega, ha, gwI_s, ⟨n + u, ⟨by omega, by omega⟩, by rw [gwI_n (by omega)]; exact hp.2.2.2.1⟩, a, by omega, by rw [gwI_n (by omega)]; exact hp.1⟩)⟩
      · rw [e8]
        refine r_if_ne hG 46 dX9_part_31 (by decide) (fun hc31 => absurd hc31 (by decide)) (fun hc31 => ?_)
        refine r_iload_n hG dX9_part_34 rfl ?_
        refine r_if_ge hG 46 dX9_part_35 (by decide) (fun hc35 => absurd hc35 (by decide)) (fun hc35 => ?_)
        refine r_aload_n hG dX9_part_38 rfl ?_
        refine r_iconst hG (1) dX9_part_39 (by decide) ?_
        refine r_cVV1 hG mk_X9_225 dX9_part_40 rfl (by decide) (ct_X9_wrong hR hk tw.2.1 hp.1 ha hp.2.1 _) (by decide) ⟨Nat.le_refl _, Nat.le_refl _⟩ (Nat.le_of_ble_eq_true rfl) (fun M9 h9 => ?_)
        rw [h9]
        refine r_goto hG 59 dX9_part_43 (by decide) ?_
        refine r_aload_n hG dX9_part_59 rfl ?_
        refine r_getIv hG 8 (1 + 16 * nI (q.2.2 a)) fk_X9_219 dX9_part_60 rfl (by decide) rfl gwI_s ?_
        refine r_if_le hG 68 dX9_part_63 (by decide) (fun hc63 => absurd hc63 (flt_no (k := 1) rfl ⟨by omega, by omega⟩ (tw.2.2.2.2.2 a ha))) (fun hc63 => ?_)
        refine r_iconst hG (0) dX9_part_66 (by decide) ?_
        refine hE _ _ _ _ _ dX9_part_67 rfl (Nat.le_refl _) (Nat.le_refl _) rfl ?_
        refine ⟨gEq.rf.put (by unfold SM; omega), 11, a, d, u, W, c, st0_f (fun z => ?_), Or.inr (Or.inr ⟨rfl, 1, rfl, by omega, by omega, ha, gwI_s, ⟨n + u, ⟨by omega, by omega⟩, by rw [gwI_n (by omega)]; exact hp.2.2.2.1⟩, a, by omega, by rw [gwI_n (by omega)]; exact hp.1⟩)⟩
        rcases z with z | z
        · exact hc22 ((nu_is (hk a ha).1).mpr (by omega))
        · exact hw28 z


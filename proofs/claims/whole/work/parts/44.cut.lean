set_option maxRecDepth 100000 in
set_option maxHeartbeats 400000 in
theorem ct_X9_isLetter {M : gM} (x : Int32) : gC 0 0 0 yX9_isLetter cX9_isLetter 1 (some .boolean) 140 140 [.int x] M (gI (fun r M9 => bI (isLet x) r ∧ M9 = M)) := by
  refine gC_i rfl (Nat.le_of_ble_eq_true rfl) (fun G hG hE => ?_)
  change G (140, 0, 0) 0 [some (.int x)] [] M
  refine r_iload_n hG dX9_isLetter_0 rfl ?_
  refine r_bipush hG (97) dX9_isLetter_1 (by decide) ?_
  refine r_icmp_lt hG 16 dX9_isLetter_3 (by decide) (fun hc3 => ?_) (fun hc3 => ?_)
  · refine r_iconst hG (0) dX9_isLetter_16 (by decide) ?_
    refine hE _ _ _ _ _ dX9_isLetter_17 rfl (Nat.le_refl _) (Nat.le_refl _) rfl ?_
    exact ⟨Or.inr ⟨rfl, fun q => q.1 hc3⟩, rfl⟩
  · refine r_iload_n hG dX9_isLetter_6 rfl ?_
    refine r_bipush hG (122) dX9_isLetter_7 (by decide) ?_
    refine r_icmp_gt hG 16 dX9_isLetter_9 (by decide) (fun hc9 => ?_) (fun hc9 => ?_)
    · refine r_iconst hG (0) dX9_isLetter_16 (by decide) ?_
      refine hE _ _ _ _ _ dX9_isLetter_17 rfl (Nat.le_refl _) (Nat.le_refl _) rfl ?_
      exact ⟨Or.inr ⟨rfl, fun q => q.2 hc9⟩, rfl⟩
    · refine r_iconst hG (1) dX9_isLetter_12 (by decide) ?_
      refine r_goto hG 17 dX9_isLetter_13 (by decide) ?_
      refine hE _ _ _ _ _ dX9_isLetter_17 rfl (Nat.le_refl _) (Nat.le_refl _) rfl ?_
      exact ⟨Or.inl ⟨rfl, hc3, hc9⟩, rfl⟩

set_option maxRecDepth 100000 in
set_option maxHeartbeats 400000 in
theorem ct_X9_isDigit {M : gM} (x : Int32) : gC 0 0 0 yX9_isDigit cX9_isDigit 1 (some .boolean) 140 140 [.int x] M (gI (fun r M9 => bI (isDig x) r ∧ M9 = M)) := by
  refine gC_i rfl (Nat.le_of_ble_eq_true rfl) (fun G hG hE => ?_)
  change G (140, 0, 0) 0 [some (.int x)] [] M
  refine r_iload_n hG dX9_isDigit_0 rfl ?_
  refine r_bipush hG (48) dX9_isDigit_1 (by decide) ?_
  refine r_icmp_lt hG 16 dX9_isDigit_3 (by decide) (fun hc3 => ?_) (fun hc3 => ?_)
  · refine r_iconst hG (0) dX9_isDigit_16 (by decide) ?_
    refine hE _ _ _ _ _ dX9_isDigit_17 rfl (Nat.le_refl _) (Nat.le_refl _) rfl ?_
    exact ⟨Or.inr ⟨rfl, fun q => q.1 hc3⟩, rfl⟩
  · refine r_iload_n hG dX9_isDigit_6 rfl ?_
    refine r_bipush hG (57) dX9_isDigit_7 (by decide) ?_
    refine r_icmp_gt hG 16 dX9_isDigit_9 (by decide) (fun hc9 => ?_) (fun hc9 => ?_)
    · refine r_iconst hG (0) dX9_isDigit_16 (by decide) ?_
      refine hE _ _ _ _ _ dX9_isDigit_17 rfl (Nat.le_refl _) (Nat.le_refl _) rfl ?_
      exact ⟨Or.inr ⟨rfl, fun q => q.2 hc9⟩, rfl⟩
    · refine r_iconst hG (1) dX9_isDigit_12 (by decide) ?_
      refine r_goto hG 17 dX9_isDigit_13 (by decide) ?_
      refine hE _ _ _ _ _ dX9_isDigit_17 rfl (Nat.le_refl _) (Nat.le_refl _) rfl ?_
      exact ⟨Or.inl ⟨rfl, hc3, hc9⟩, rfl⟩

set_option maxRecDepth 100000 in
set_option maxHeartbeats 400000 in
theorem ct_X9_rank {M : gM} (x : Int32) (hx : isLet x) : gC 1 0 0 yX9_rank cX9_rank 1 (some .int) 140 140 [.int x] M (gI (fun r M9 => r = x - 96 ∧ M9 = M)) := by
  refine gC_i rfl (Nat.le_of_ble_eq_true rfl) (fun G hG hE => ?_)
  change G (140, 0, 0) 0 [some (.int x)] [] M
  refine r_iload_n hG dX9_rank_0 rfl ?_
  refine r_cSI1 hG mk_X9_193 dX9_rank_1 (ct_X9_isLetter _) (by decide) ⟨Nat.le_refl _, Nat.le_refl _⟩ (Nat.le_of_ble_eq_true rfl) (fun x9 M9 h9 => ?_)
  obtain ⟨h8, e9⟩ := h9; rw [e9]; rcases h8 with ⟨e8, hw1⟩ | ⟨e8, hw1⟩; rotate_left; exact absurd hx hw1
  · rw [e8]
    refine r_if_eq hG 14 dX9_rank_4 (by decide) (fun hc4 => absurd hc4 (by decide)) (fun hc4 => ?_)
    refine r_iload_n hG dX9_rank_7 rfl ?_
    refine r_bipush hG (96) dX9_rank_8 (by decide) ?_
    refine r_isub hG dX9_rank_10 ?_
    refine r_goto hG 18 dX9_rank_11 (by decide) ?_
    refine hE _ _ _ _ _ dX9_rank_18 rfl (Nat.le_refl _) (Nat.le_refl _) rfl ?_
    exact ⟨rfl, rfl⟩

set_option maxRecDepth 100000 in
set_option maxHeartbeats 400000 in
theorem ct_X9_isSignOf {M : gM} (x : Int32) : gC 0 0 0 yX9_isSignOf cX9_isSignOf 1 (some .boolean) 140 140 [.int x] M (gI (fun r M9 => bI (stk x ≠ 19) r ∧ M9 = M)) := by
  refine gC_i rfl (Nat.le_of_ble_eq_true rfl) (fun G hG hE => ?_)
  change G (140, 0, 0) 0 [some (.int x)] [] M
  refine r_iload_n hG dX9_isSignOf_0 rfl ?_
  refine r_bipush hG (40) dX9_isSignOf_1 (by decide) ?_
  refine r_icmp_eq hG 42 dX9_isSignOf_3 (by decide) (fun hc3 => ?_) (fun hc3 => ?_)
  · refine r_iconst hG (1) dX9_isSignOf_42 (by decide) ?_
    refine r_goto hG 47 dX9_isSignOf_43 (by decide) ?_
    refine hE _ _ _ _ _ dX9_isSignOf_47 rfl (Nat.le_refl _) (Nat.le_refl _) rfl ?_
    exact ⟨Or.inl ⟨rfl, by rw [hc3]; decide⟩, rfl⟩
  · refine r_iload_n hG dX9_isSignOf_6 rfl ?_
    refine r_bipush hG (41) dX9_isSignOf_7 (by decide) ?_
    refine r_icmp_eq hG 42 dX9_isSignOf_9 (by decide) (fun hc9 => ?_) (fun hc9 => ?_)
    · refine r_iconst hG (1) dX9_isSignOf_42 (by decide) ?_
      refine r_goto hG 47 dX9_isSignOf_43 (by decide) ?_
      refine hE _ _ _ _ _ dX9_isSignOf_47 rfl (Nat.le_refl _) (Nat.le_refl _) rfl ?_
      exact ⟨Or.inl ⟨rfl, by rw [hc9]; decide⟩, rfl⟩
    · refine r_iload_n hG dX9_isSignOf_12 rfl ?_
      refine r_bipush hG (59) dX9_isSignOf_13 (by decide) ?_
      refine r_icmp_eq hG 42 dX9_isSignOf_15 (by decide) (fun hc15 => ?_) (fun hc15 => ?_)
      · refine r_iconst hG (1) dX9_isSignOf_42 (by decide) ?_
        refine r_goto hG 47 dX9_isSignOf_43 (by decide) ?_
        refine hE _ _ _ _ _ dX9_isSignOf_47 rfl (Nat.le_refl _) (Nat.le_refl _) rfl ?_
        exact ⟨Or.inl ⟨rfl, by rw [hc15]; decide⟩, rfl⟩
      · refine r_iload_n hG dX9_isSignOf_18 rfl ?_
        refine r_bipush hG (61) dX9_isSignOf_19 (by decide) ?_
        refine r_icmp_eq hG 42 dX9_isSignOf_21 (by decide) (fun hc21 => ?_) (fun hc21 => ?_)
        · refine r_iconst hG (1) dX9_isSignOf_42 (by decide) ?_
          refine r_goto hG 47 dX9_isSignOf_43 (by decide) ?_
          refine hE _ _ _ _ _ dX9_isSignOf_47 rfl (Nat.le_refl _) (Nat.le_refl _) rfl ?_
          exact ⟨Or.inl ⟨rfl, by rw [hc21]; decide⟩, rfl⟩
        · refine r_iload_n hG dX9_isSignOf_24 rfl ?_
          refine r_bipush hG (60) dX9_isSignOf_25 (by decide) ?_
          refine r_icmp_eq hG 42 dX9_isSignOf_27 (by decide) (fun hc27 => ?_) (fun hc27 => ?_)
          · refine r_iconst hG (1) dX9_isSignOf_42 (by decide) ?_
            refine r_goto hG 47 dX9_isSignOf_43 (by decide) ?_
            refine hE _ _ _ _ _ dX9_isSignOf_47 rfl (Nat.le_refl _) (Nat.le_refl _) rfl ?_
            exact ⟨Or.inl ⟨rfl, by rw [hc27]; decide⟩, rfl⟩
          · refine r_iload_n hG dX9_isSignOf_30 rfl ?_
            refine r_bipush hG (43) dX9_isSignOf_31 (by decide) ?_
            refine r_icmp_eq hG 42 dX9_isSignOf_33 (by decide) (fun hc33 => ?_) (fun hc33 => ?_)
            · refine r_iconst hG (1) dX9_isSignOf_42 (by decide) ?_
              refine r_goto hG 47 dX9_isSignOf_43 (by decide) ?_
              refine hE _ _ _ _ _ dX9_isSignOf_47 rfl (Nat.le_refl _) (Nat.le_refl _) rfl ?_
              exact ⟨Or.inl ⟨rfl, by rw [hc33]; decide⟩, rfl⟩
            · refine r_iload_n hG dX9_isSignOf_36 rfl ?_
              refine r_bipush hG (45) dX9_isSignOf_37 (by decide) ?_
              refine r_icmp_ne hG 46 dX9_isSignOf_39 (by decide) (fun hc39 => ?_) (fun hc39 => ?_)
              · refine r_iconst hG (0) dX9_isSignOf_46 (by decide) ?_
                refine hE _ _ _ _ _ dX9_isSignOf_47 rfl (Nat.le_refl _) (Nat.le_refl _) rfl ?_
                refine ⟨Or.inr ⟨rfl, ?_⟩, rfl⟩
                unfold stk
                rw [if_neg hc3, if_neg hc9, if_neg hc27, if_neg hc21, if_neg hc33, if_neg hc39, if_neg hc15]
                decide
              · refine r_iconst hG (1) dX9_isSignOf_42 (by decide) ?_
                refine r_goto hG 47 dX9_isSignOf_43 (by decide) ?_
                refine hE _ _ _ _ _ dX9_isSignOf_47 rfl (Nat.le_refl _) (Nat.le_refl _) rfl ?_
                exact ⟨Or.inl ⟨rfl, by rw [hc39]; decide⟩, rfl⟩

/-- the model's tokens -/
def tkM (M : gM) (q : kS) : Prop := ∀ i, i < q.1 → tokR (q.2.1 i) (M.1 90 i) (M.2.1 92 i) ∧ M.1 91 i = nI (q.2.2 i)
def gEl (S : Nat → Nat → Prop) (M M' : gM) : Prop := M'.2.2 = M.2.2 ∧ (∀ k j, k ≠ 92 → M'.2.1 k j = M.2.1 k j) ∧ ∀ k j, ¬ S k j → M'.1 k j = M.1 k j
theorem gEl.rf {S : Nat → Nat → Prop} {M : gM} : gEl S M M := ⟨rfl, fun _ _ _ => rfl, fun _ _ _ => rfl⟩
theorem gEl.put {S : Nat → Nat → Prop} {M M1 : gM} {k j : Nat} {v : Int32} (h : gEl S M M1) (hs : S k j) : gEl S M (gwI M1 k j v) := ⟨h.1, h.2.1, fun a b hn => by
  rw [gwI_n (fun q => hn (by rw [q.1, q.2]; exact hs))]
  exact h.2.2 a b hn⟩
theorem gEl.putL {S : Nat → Nat → Prop} {M M1 : gM} {j : Nat} {v : Int64} (h : gEl S M M1) : gEl S M (gwL M1 92 j v) := ⟨h.1, fun a b hn => by
  rw [gwL_n (fun q => hn q.1)]
  exact h.2.1 a b hn, fun a b hn => h.2.2 a b hn⟩
theorem gEl.mono {S S' : Nat → Nat → Prop} {M M1 : gM} (h : gEl S M M1) (hs : ∀ k j, S k j → S' k j) : gEl S' M M1 := ⟨h.1, h.2.1, fun k j hn => h.2.2 k j (fun q => hn (hs k j q))⟩
theorem gEl.trans {S : Nat → Nat → Prop} {M M1 M2 : gM} (h : gEl S M M1) (h' : gEl S M1 M2) : gEl S M M2 := ⟨h'.1.trans h.1, fun k j hn => (h'.2.1 k j hn).trans (h.2.1 k j hn), fun k j hs => (h'.2.2 k j hs).trans (h.2.2 k j hs)⟩
theorem gEq.l {S : Nat → Nat → Prop} {M M' : gM} (h : gEq S M M') : gEl S M M' := ⟨by rw [h.1], fun k j _ => by rw [h.1], h.2⟩
theorem tkM.push {M : gM} {q : kS} {t : Nat × Int32} {p : Nat} {so : Int32} {va : Int64} (h : tkM M q) (ht : tokR t so va) : tkM (gwL (gwI (gwI M 91 q.1 (nI p)) 90 q.1 so) 92 q.1 va) (kpush t p q) := by
  intro i (hi : i < q.1 + 1)
  show tokR (if i = q.1 then t else q.2.1 i) ((gwI (gwI M 91 q.1 (nI p)) 90 q.1 so).1 90 i) _ ∧ (gwI (gwI M 91 q.1 (nI p)) 90 q.1 so).1 91 i = nI (if i = q.1 then p else q.2.2 i)
  by_cases e : i = q.1
  · subst e
    rw [if_pos rfl, if_pos rfl, gwL_s, gwI_s, gwI_n (by omega), gwI_s]
    exact ⟨ht, rfl⟩
  · have e1 : (gwI (gwI M 91 q.1 (nI p)) 90 q.1 so).1 90 i = M.1 90 i := (gwI_n (by omega)).trans (gwI_n (by omega))
    have e2 : (gwI (gwI M 91 q.1 (nI p)) 90 q.1 so).1 91 i = M.1 91 i := (gwI_n (by omega)).trans (gwI_n (by omega))
    rw [if_neg e, if_neg e, gwL_n (by omega), e1, e2]
    exact h i (by omega)
theorem tok_w1 {s : tS} {a e : Nat} (hl : isLet (s.2 a)) (hall : ∀ j, a ≤ j → j < e → isLet (s.2 j)) (h8 : ¬ 8 < e - a) : tokR (tokC s a e) 1 (hsh s.2 a (min (e - a) 8)) := by
  rw [Nat.min_eq_left (by omega)]
  have hj : ∀ j, j < e - a → isLet (s.2 (a + j)) := fun j hj => hall _ (by omega) (by omega)
  unfold tokC
  rw [if_pos hl]
  rcases wtk_is (f := s.2) (a := a) (l := e - a) with ⟨i, hi, hm, hw⟩ | ⟨hn, hw⟩
  · rw [hw]
    exact Or.inr (Or.inl ⟨(wcd_in i hi).1, rfl, (hsh_w (by omega) hj hi).mpr hm⟩)
  · rw [hw]
    refine Or.inr (Or.inr (Or.inr (Or.inr ⟨rfl, Or.inr ⟨rfl, fun c hc q => ?_⟩⟩)))
    obtain ⟨h1, h2⟩ := isW_of c hc
    rw [← h2] at q
    exact hn _ h1 ((hsh_w (by omega) hj h1).mp q)
theorem tok_w4 {s : tS} {a e : Nat} {v : Int64} (hl : isLet (s.2 a)) (h8 : 8 < e - a) : tokR (tokC s a e) 4 v := by
  unfold tokC
  rw [if_pos hl]
  rcases wtk_is (f := s.2) (a := a) (l := e - a) with ⟨i, hi, hm, hw⟩ | ⟨hn, hw⟩
  · have := glen_le i hi
    have := hm.1
    omega
  · rw [hw]
    exact Or.inr (Or.inr (Or.inr (Or.inr ⟨rfl, Or.inl rfl⟩)))
theorem tok_n2 {s : tS} {a e : Nat} (hl : ¬ isLet (s.2 a)) (hd : isDig (s.2 a)) (hall : ∀ j, a ≤ j → j < e → isDig (s.2 j)) (h4 : ¬ 4 < e - a) : tokR (tokC s a e) 2 (dgs s.2 a (min (e - a) 4)) := by
  rw [Nat.min_eq_left (by omega)]
  obtain ⟨v, h1, h2, h3⟩ := num_ok (f := s.2) (a := a) (l := e - a) (by omega) (fun j hj => hall _ (by omega) (by omega))
  unfold tokC
  rw [if_neg hl, if_pos hd, if_neg h4]
  exact Or.inl ⟨rfl, rfl, h3, v, h1, h2⟩
theorem tok_n4 {s : tS} {a e : Nat} {v : Int64} (hl : ¬ isLet (s.2 a)) (hd : isDig (s.2 a)) (h4 : 4 < e - a) : tokR (tokC s a e) 4 v := by
  unfold tokC
  rw [if_neg hl, if_pos hd, if_pos h4]
  exact Or.inr (Or.inr (Or.inr (Or.inr ⟨rfl, Or.inl rfl⟩)))
theorem stk_sv {x : Int32} (h : stk x ≠ 19) : isSg (stk x) ∧ x.toInt64 = sval (stk x) := by
  by_cases h0 : x = 40
  · subst h0; decide
  by_cases h1 : x = 41
  · subst h1; decide
  by_cases h2 : x = 60
  · subst h2; decide
  by_cases h3 : x = 61
  · subst h3; decide
  by_cases h4 : x = 43
  · subst h4; decide
  by_cases h5 : x = 45
  · subst h5; decide
  by_cases h6 : x = 59
  · subst h6; decide
  refine absurd ?_ h
  unfold stk
  rw [if_neg h0, if_neg h1, if_neg h2, if_neg h3, if_neg h4, if_neg h5, if_neg h6]
theorem tok_s3 {s : tS} {a e : Nat} (hl : ¬ isLet (s.2 a)) (hd : ¬ isDig (s.2 a)) (h : stk (s.2 a) ≠ 19) : tokR (tokC s a e) 3 (s.2 a).toInt64 := by
  unfold tokC
  rw [if_neg hl, if_neg hd]
  exact Or.inr (Or.inr (Or.inl ⟨(stk_sv h).1, rfl, (stk_sv h).2⟩))
theorem tok_s4 {s : tS} {a e : Nat} {v : Int64} (hl : ¬ isLet (s.2 a)) (hd : ¬ isDig (s.2 a)) (h : ¬ stk (s.2 a) ≠ 19) : tokR (tokC s a e) 4 v := by
  unfold tokC
  rw [if_neg hl, if_neg hd, Decidable.not_not.mp h]
  exact Or.inr (Or.inr (Or.inr (Or.inr ⟨rfl, Or.inl rfl⟩)))
theorem eor_blk {s : tS} {a : Nat} (h : isBlk (s.2 a)) : eor s a = a + 1 := by
  unfold eor
  rw [if_neg (by rcases h with h | h <;> rw [h] <;> decide), if_neg (by rcases h with h | h <;> rw [h] <;> decide)]
theorem eor_runl {s : tS} {a : Nat} (ha : a < s.1) (h : isLet (s.2 a)) : runE s.2 letB (s.1 - a) a = eor s a := by
  unfold eor
  rw [if_pos h, show s.1 - a = (s.1 - (a + 1)) + 1 by omega]
  show (if letB (s.2 a) = true then _ else _) = _
  rw [if_pos (show letB (s.2 a) = true from decide_eq_true h)]
theorem eor_rund {s : tS} {a : Nat} (ha : a < s.1) (h0 : ¬ isLet (s.2 a)) (h : isDig (s.2 a)) : runE s.2 digB (s.1 - a) a = eor s a := by
  unfold eor
  rw [if_neg h0, if_pos h, show s.1 - a = (s.1 - (a + 1)) + 1 by omega]
  show (if digB (s.2 a) = true then _ else _) = _
  rw [if_pos (show digB (s.2 a) = true from decide_eq_true h)]
theorem hsh_min {f : Nat → Int32} {a k : Nat} (h : a ≤ k) (h8 : k - a < 8) : 37 * hsh f a (min (k - a) 8) + (f k - 96).toInt64 = hsh f a (min (k + 1 - a) 8) := by
  rw [Nat.min_eq_left (by omega), Nat.min_eq_left (by omega), show k + 1 - a = (k - a) + 1 by omega]
  show _ = 37 * hsh f a (k - a) + (f (a + (k - a)) - 96).toInt64
  rw [show a + (k - a) = k by omega]
theorem dgs_min {f : Nat → Int32} {a k : Nat} (h : a ≤ k) (h8 : k - a < 4) : 10 * dgs f a (min (k - a) 4) + (f k).toInt64 - 48 = dgs f a (min (k + 1 - a) 4) := by
  rw [Nat.min_eq_left (by omega), Nat.min_eq_left (by omega), show k + 1 - a = (k - a) + 1 by omega]
  show _ = 10 * dgs f a (k - a) + (f (a + (k - a))).toInt64 - 48
  rw [show a + (k - a) = k by omega]
set_option maxRecDepth 100000 in
set_option maxHeartbeats 400000 in
theorem lp_X9_cutl  {G : gJ} {P : gM → Prop} (hG : gS 2 0 0 yX9_cutAll.cls cX9_cutAll 7 G) (hE : gEv 140 0 0 cX9_cutAll P G) {M : gM} {b : Bool} (hR : M.2.2 = stdR b) {s : tS} (h600 : s.1 ≤ 600) (hsz : M.1 88 3 = nI s.1) (hta : ∀ j, j < s.1 → M.1 89 j = s.2 j) {n a : Nat} {c : Int32} :
    ∀ (r k : Nat), k + r = s.1 → a ≤ k → G (140, 0, 0) 129 [some (.ref 88), some (.int (nI n)), some (.int (nI (runE s.2 letB r k))), some (.int c), some (.int (nI a)), some (.long (hsh s.2 a (min ((runE s.2 letB r k) - a) 8))), none] [] M → G (140, 0, 0) 70 [some (.ref 88), some (.int (nI n)), some (.int (nI k)), some (.int c), some (.int (nI a)), some (.long (hsh s.2 a (min (k - a) 8))), none] [] M := by
  intro r
  induction r with
  | zero =>
    intro k hk hak hK
    refine r_iload_n hG dX9_cutAll_70 rfl ?_
    refine r_aload_n hG dX9_cutAll_71 rfl ?_
    refine r_getIv hG 3 (nI s.1) fk_X9_197 dX9_cutAll_72 rfl (by decide) rfl hsz ?_
    refine r_icmp_ge hG 129 dX9_cutAll_75 (by decide) (fun hc75 => ?_) (fun hc75 => absurd (nle_f (a := s.1) (b := k) (by omega) (by omega) hc75) (by omega))
    exact hK
  | succ r ih =>
    intro k hk hak hK
    refine r_iload_n hG dX9_cutAll_70 rfl ?_
    refine r_aload_n hG dX9_cutAll_71 rfl ?_
    refine r_getIv hG 3 (nI s.1) fk_X9_197 dX9_cutAll_72 rfl (by decide) rfl hsz ?_
    refine r_icmp_ge hG 129 dX9_cutAll_75 (by decide) (fun hc75 => absurd (nle_t (a := s.1) (b := k) (by omega) (by omega) hc75) (by omega)) (fun hc75 => ?_)
    refine r_aload_n hG dX9_cutAll_78 rfl ?_
    refine r_getR hG 1 89 fk_X9_14 dX9_cutAll_79 rfl (by decide) rfl (sr hR rfl) ?_
    refine r_iload_n hG dX9_cutAll_82 rfl ?_
    refine r_ialdv hG k (s.2 k) dX9_cutAll_83 rfl (by decide) rfl (by omega) (by decide) (hta k (by omega)) ?_
    refine r_cSI1 hG mk_X9_193 dX9_cutAll_84 (ct_X9_isLetter _) (by decide) ⟨Nat.le_refl _, Nat.le_refl _⟩ (Nat.le_of_ble_eq_true rfl) (fun x9 M9 h9 => ?_)
    obtain ⟨h8, e9⟩ := h9; rw [e9]; rcases h8 with ⟨e8, hw84⟩ | ⟨e8, hw84⟩
    · rw [e8]
      refine r_if_eq hG 129 dX9_cutAll_87 (by decide) (fun hc87 => absurd hc87 (by decide)) (fun hc87 => ?_)
      refine r_iload_n hG dX9_cutAll_90 rfl ?_
      refine r_iload hG dX9_cutAll_91 rfl ?_
      refine r_isub hG dX9_cutAll_93 ?_
      refine r_top (nI (k - a)) (pk_sub hak) ?_
      refine r_bipush hG (8) dX9_cutAll_94 (by decide) ?_
      refine r_icmp_ge hG 119 dX9_cutAll_96 (by decide) (fun hc96 => ?_) (fun hc96 => ?_)
      · have hn96 := nle_t (a := 8) (b := (k - a)) (by omega) (by omega) hc96
        refine r_lload hG dX9_cutAll_119 rfl ?_
        refine r_lstore hG dX9_cutAll_121 (by decide) ?_
        refine r_loc [some (.ref 88), some (.int (nI n)), some (.int (nI k)), some (.int c), some (.int (nI a)), some (.long (hsh s.2 a (min (k - a) 8))), none] rfl ?_
        refine r_iinc hG (1) dX9_cutAll_123 (by decide) rfl ?_
        refine r_loc [some (.ref 88), some (.int (nI n)), some (.int ((nI k) + (1))), some (.int c), some (.int (nI a)), some (.long (hsh s.2 a (min (k - a) 8))), none] rfl ?_
        refine r_goto hG 70 dX9_cutAll_126 (by decide) ?_
        rw [nI_1]
        rw [show hsh s.2 a (min (k - a) 8) = hsh s.2 a (min (k + 1 - a) 8) by rw [Nat.min_eq_right (by omega), Nat.min_eq_right (by omega)]]
        refine ih (k + 1) (by omega) (by omega) ?_
        unfold runE at hK
        rw [if_pos (show letB (s.2 k) = true from decide_eq_true hw84)] at hK
        exact hK
      · have hn96 := nle_f (a := 8) (b := (k - a)) (by omega) (by omega) hc96
        refine r_ldc2 hG (37) dX9_cutAll_99 ck_X9_200 ?_
        refine r_lload hG dX9_cutAll_102 rfl ?_
        refine r_lmul hG dX9_cutAll_104 ?_
        refine r_aload_n hG dX9_cutAll_105 rfl ?_
        refine r_getR hG 1 89 fk_X9_14 dX9_cutAll_106 rfl (by decide) rfl (sr hR rfl) ?_
        refine r_iload_n hG dX9_cutAll_109 rfl ?_
        refine r_ialdv hG k (s.2 k) dX9_cutAll_110 rfl (by decide) rfl (by omega) (by decide) (hta k (by omega)) ?_
        refine r_cSI1 hG mk_X9_202 dX9_cutAll_111 (ct_X9_rank _ hw84) (by decide) ⟨Nat.le_refl _, Nat.le_refl _⟩ (Nat.le_of_ble_eq_true rfl) (fun x9 M9 h9 => ?_)
        obtain ⟨e8, e9⟩ := h9
        rw [e8, e9]
        refine r_i2l hG dX9_cutAll_114 ?_
        refine r_ladd hG dX9_cutAll_115 ?_
        refine r_goto hG 121 dX9_cutAll_116 (by decide) ?_
        refine r_lstore hG dX9_cutAll_121 (by decide) ?_
        refine r_loc [some (.ref 88), some (.int (nI n)), some (.int (nI k)), some (.int c), some (.int (nI a)), some (.long (((37) * (hsh s.2 a (min (k - a) 8))) + ((s.2 k) - 96).toInt64)), none] rfl ?_
        refine r_iinc hG (1) dX9_cutAll_123 (by decide) rfl ?_
        refine r_loc [some (.ref 88), some (.int (nI n)), some (.int ((nI k) + (1))), some (.int c), some (.int (nI a)), some (.long (((37) * (hsh s.2 a (min (k - a) 8))) + ((s.2 k) - 96).toInt64)), none] rfl ?_
        refine r_goto hG 70 dX9_cutAll_126 (by decide) ?_
        rw [nI_1]
        rw [hsh_min (by omega) (by omega)]
        refine ih (k + 1) (by omega) (by omega) ?_
        unfold runE at hK
        rw [if_pos (show letB (s.2 k) = true from decide_eq_true hw84)] at hK
        exact hK
    · rw [e8]
      refine r_if_eq hG 129 dX9_cutAll_87 (by decide) (fun hc87 => ?_) (fun hc87 => absurd hc87 (by decide))
      unfold runE at hK
      rw [if_neg (fun q : letB (s.2 k) = true => hw84 (of_decide_eq_true q))] at hK
      exact hK

set_option maxRecDepth 100000 in
set_option maxHeartbeats 400000 in
theorem lp_X9_cutd  {G : gJ} {P : gM → Prop} (hG : gS 2 0 0 yX9_cutAll.cls cX9_cutAll 7 G) (hE : gEv 140 0 0 cX9_cutAll P G) {M : gM} {b : Bool} (hR : M.2.2 = stdR b) {s : tS} (h600 : s.1 ≤ 600) (hsz : M.1 88 3 = nI s.1) (hta : ∀ j, j < s.1 → M.1 89 j = s.2 j) {n a : Nat} {c : Int32} :
    ∀ (r k : Nat), k + r = s.1 → a ≤ k → G (140, 0, 0) 218 [some (.ref 88), some (.int (nI n)), some (.int (nI (runE s.2 digB r k))), some (.int c), some (.int (nI a)), some (.long (dgs s.2 a (min ((runE s.2 digB r k) - a) 4))), none] [] M → G (140, 0, 0) 159 [some (.ref 88), some (.int (nI n)), some (.int (nI k)), some (.int c), some (.int (nI a)), some (.long (dgs s.2 a (min (k - a) 4))), none] [] M := by
  intro r
  induction r with
  | zero =>
    intro k hk hak hK
    refine r_iload_n hG dX9_cutAll_159 rfl ?_
    refine r_aload_n hG dX9_cutAll_160 rfl ?_
    refine r_getIv hG 3 (nI s.1) fk_X9_197 dX9_cutAll_161 rfl (by decide) rfl hsz ?_
    refine r_icmp_ge hG 218 dX9_cutAll_164 (by decide) (fun hc164 => ?_) (fun hc164 => absurd (nle_f (a := s.1) (b := k) (by omega) (by omega) hc164) (by omega))
    exact hK
  | succ r ih =>
    intro k hk hak hK
    refine r_iload_n hG dX9_cutAll_159 rfl ?_
    refine r_aload_n hG dX9_cutAll_160 rfl ?_
    refine r_getIv hG 3 (nI s.1) fk_X9_197 dX9_cutAll_161 rfl (by decide) rfl hsz ?_
    refine r_icmp_ge hG 218 dX9_cutAll_164 (by decide) (fun hc164 => absurd (nle_t (a := s.1) (b := k) (by omega) (by omega) hc164) (by omega)) (fun hc164 => ?_)
    refine r_aload_n hG dX9_cutAll_167 rfl ?_
    refine r_getR hG 1 89 fk_X9_14 dX9_cutAll_168 rfl (by decide) rfl (sr hR rfl) ?_
    refine r_iload_n hG dX9_cutAll_171 rfl ?_
    refine r_ialdv hG k (s.2 k) dX9_cutAll_172 rfl (by decide) rfl (by omega) (by decide) (hta k (by omega)) ?_
    refine r_cSI1 hG mk_X9_206 dX9_cutAll_173 (ct_X9_isDigit _) (by decide) ⟨Nat.le_refl _, Nat.le_refl _⟩ (Nat.le_of_ble_eq_true rfl) (fun x9 M9 h9 => ?_)
    obtain ⟨h8, e9⟩ := h9; rw [e9]; rcases h8 with ⟨e8, hw173⟩ | ⟨e8, hw173⟩
    · rw [e8]
      refine r_if_eq hG 218 dX9_cutAll_176 (by decide) (fun hc176 => absurd hc176 (by decide)) (fun hc176 => ?_)
      refine r_iload_n hG dX9_cutAll_179 rfl ?_
      refine r_iload hG dX9_cutAll_180 rfl ?_
      refine r_isub hG dX9_cutAll_182 ?_
      refine r_top (nI (k - a)) (pk_sub hak) ?_
      refine r_iconst hG (4) dX9_cutAll_183 (by decide) ?_
      refine r_icmp_ge hG 208 dX9_cutAll_184 (by decide) (fun hc184 => ?_) (fun hc184 => ?_)
      · have hn184 := nle_t (a := 4) (b := (k - a)) (by omega) (by omega) hc184
        refine r_lload hG dX9_cutAll_208 rfl ?_
        refine r_lstore hG dX9_cutAll_210 (by decide) ?_
        refine r_loc [some (.ref 88), some (.int (nI n)), some (.int (nI k)), some (.int c), some (.int (nI a)), some (.long (dgs s.2 a (min (k - a) 4))), none] rfl ?_
        refine r_iinc hG (1) dX9_cutAll_212 (by decide) rfl ?_
        refine r_loc [some (.ref 88), some (.int (nI n)), some (.int ((nI k) + (1))), some (.int c), some (.int (nI a)), some (.long (dgs s.2 a (min (k - a) 4))), none] rfl ?_
        refine r_goto hG 159 dX9_cutAll_215 (by decide) ?_
        rw [nI_1]
        rw [show dgs s.2 a (min (k - a) 4) = dgs s.2 a (min (k + 1 - a) 4) by rw [Nat.min_eq_right (by omega), Nat.min_eq_right (by omega)]]
        refine ih (k + 1) (by omega) (by omega) ?_
        unfold runE at hK
        rw [if_pos (show digB (s.2 k) = true from decide_eq_true hw173)] at hK
        exact hK
      · have hn184 := nle_f (a := 4) (b := (k - a)) (by omega) (by omega) hc184
        refine r_ldc2 hG (10) dX9_cutAll_187 ck_X9_209 ?_
        refine r_lload hG dX9_cutAll_190 rfl ?_
        refine r_lmul hG dX9_cutAll_192 ?_
        refine r_aload_n hG dX9_cutAll_193 rfl ?_
        refine r_getR hG 1 89 fk_X9_14 dX9_cutAll_194 rfl (by decide) rfl (sr hR rfl) ?_
        refine r_iload_n hG dX9_cutAll_197 rfl ?_
        refine r_ialdv hG k (s.2 k) dX9_cutAll_198 rfl (by decide) rfl (by omega) (by decide) (hta k (by omega)) ?_
        refine r_i2l hG dX9_cutAll_199 ?_
        refine r_ladd hG dX9_cutAll_200 ?_
        refine r_ldc2 hG (48) dX9_cutAll_201 ck_X9_211 ?_
        refine r_lsub hG dX9_cutAll_204 ?_
        refine r_goto hG 210 dX9_cutAll_205 (by decide) ?_
        refine r_lstore hG dX9_cutAll_210 (by decide) ?_
        refine r_loc [some (.ref 88), some (.int (nI n)), some (.int (nI k)), some (.int c), some (.int (nI a)), some (.long ((((10) * (dgs s.2 a (min (k - a) 4))) + (s.2 k).toInt64) - (48))), none] rfl ?_
        refine r_iinc hG (1) dX9_cutAll_212 (by decide) rfl ?_
        refine r_loc [some (.ref 88), some (.int (nI n)), some (.int ((nI k) + (1))), some (.int c), some (.int (nI a)), some (.long ((((10) * (dgs s.2 a (min (k - a) 4))) + (s.2 k).toInt64) - (48))), none] rfl ?_
        refine r_goto hG 159 dX9_cutAll_215 (by decide) ?_
        rw [nI_1]
        rw [dgs_min (by omega) (by omega)]
        refine ih (k + 1) (by omega) (by omega) ?_
        unfold runE at hK
        rw [if_pos (show digB (s.2 k) = true from decide_eq_true hw173)] at hK
        exact hK
    · rw [e8]
      refine r_if_eq hG 218 dX9_cutAll_176 (by decide) (fun hc176 => ?_) (fun hc176 => absurd hc176 (by decide))
      unfold runE at hK
      rw [if_neg (fun q : digB (s.2 k) = true => hw173 (of_decide_eq_true q))] at hK
      exact hK

def S91 (k j : Nat) : Prop := k = 90 ∨ k = 91 ∨ (k = 88 ∧ (j = 7 ∨ j = 8))
theorem tkM_end {M : gM} {q : kS} {n : Nat} (h : tkM M q) : tkM (gwI (gwI (gwI (gwI M 90 q.1 0) 91 q.1 (nI n)) 88 7 0) 88 8 0) (kpush (18, 0) n q) := by
  intro i (hi : i < q.1 + 1)
  show tokR (if i = q.1 then (18, 0) else q.2.1 i) _ _ ∧ _ = nI (if i = q.1 then n else q.2.2 i)
  have e0 : ∀ k j, k ≠ 88 → (gwI (gwI (gwI (gwI M 90 q.1 0) 91 q.1 (nI n)) 88 7 0) 88 8 0).1 k j = (gwI (gwI M 90 q.1 0) 91 q.1 (nI n)).1 k j := fun k j hk => (gwI_n (by omega)).trans (gwI_n (by omega))
  rw [e0 90 i (by omega), e0 91 i (by omega)]
  by_cases e : i = q.1
  · subst e
    rw [if_pos rfl, if_pos rfl, gwI_n (by omega), gwI_s, gwI_s]
    exact ⟨Or.inr (Or.inr (Or.inr (Or.inl ⟨rfl, rfl⟩))), rfl⟩
  · have e1 : (gwI (gwI M 90 q.1 0) 91 q.1 (nI n)).1 90 i = M.1 90 i := (gwI_n (by omega)).trans (gwI_n (by omega))
    have e2 : (gwI (gwI M 90 q.1 0) 91 q.1 (nI n)).1 91 i = M.1 91 i := (gwI_n (by omega)).trans (gwI_n (by omega))
    rw [if_neg e, if_neg e, e1, e2]
    exact h i (by omega)
set_option maxRecDepth 100000 in
set_option maxHeartbeats 400000 in
theorem lp_X9_cut  {G : gJ} {P : gM → Prop} (hG : gS 2 0 0 yX9_cutAll.cls cX9_cutAll 7 G) (hE : gEv 140 0 0 cX9_cutAll P G) {M0 : gM} {b : Bool} (hR0 : M0.2.2 = stdR b) {s : tS} (h0600 : s.1 ≤ 600) (hsz0 : M0.1 88 3 = nI s.1) (hta0 : ∀ j, j < s.1 → M0.1 89 j = s.2 j) :
    ∀ (r a : Nat) (M : gM) (q : kS), s.1 ≤ a + r ∧ a ≤ s.1 → q.1 ≤ a → gEl (fun k j => k = 90 ∨ k = 91) M0 M → tkM M q → ∀ x3 x4 x5 : Option Value, (∀ M9, tkM M9 (kpush (18, 0) s.1 (scn s r a q)) → gEl S91 M0 M9 → M9.1 88 7 = 0 → M9.1 88 8 = 0 → P M9) → G (140, 0, 0) 17 [some (.ref 88), some (.int (nI q.1)), some (.int (nI a)), x3, x4, x5, none] [] M := by
  intro r
  induction r with
  | zero =>
    intro a M q har hqa hq hk x3 x4 x5 hP
    have h600 := h0600
    have hR : M.2.2 = stdR b := by rw [hq.1]; exact hR0
    have hsz : M.1 88 3 = nI s.1 := (hq.2.2 88 3 (by omega)).trans hsz0
    have hta : ∀ j, j < s.1 → M.1 89 j = s.2 j := fun j hj => (hq.2.2 89 j (by omega)).trans (hta0 j hj)
    refine r_iload_n hG dX9_cutAll_17 rfl ?_
    refine r_aload_n hG dX9_cutAll_18 rfl ?_
    refine r_getIv hG 3 (nI s.1) fk_X9_197 dX9_cutAll_19 rfl (by decide) rfl hsz ?_
    refine r_icmp_ge hG 279 dX9_cutAll_22 (by decide) (fun hc22 => ?_) (fun hc22 => absurd (nle_f (a := s.1) (b := a) (by omega) (by omega) hc22) (by omega))
    refine r_aload_n hG dX9_cutAll_279 rfl ?_
    refine r_getR hG 4 90 fk_X9_24 dX9_cutAll_280 rfl (by decide) rfl (sr hR rfl) ?_
    refine r_iload_n hG dX9_cutAll_283 rfl ?_
    refine r_iconst hG (0) dX9_cutAll_284 (by decide) ?_
    refine r_iast hG q.1 dX9_cutAll_285 rfl (by decide) rfl (by omega) (by decide) ?_
    refine r_aload_n hG dX9_cutAll_286 rfl ?_
    refine r_getR hG 5 91 fk_X9_27 dX9_cutAll_287 rfl (by decide) rfl (sr hR rfl) ?_
    refine r_iload_n hG dX9_cutAll_290 rfl ?_
    refine r_aload_n hG dX9_cutAll_291 rfl ?_
    refine r_getIv hG 3 (nI s.1) fk_X9_197 dX9_cutAll_292 rfl (by decide) rfl ((gwI_n (by omega)).trans hsz) ?_
    refine r_iast hG q.1 dX9_cutAll_295 rfl (by decide) rfl (by omega) (by decide) ?_
    refine r_aload_n hG dX9_cutAll_296 rfl ?_
    refine r_iconst hG (0) dX9_cutAll_297 (by decide) ?_
    refine r_putI hG 7 fp_X9_216 dX9_cutAll_298 rfl (by decide) rfl rfl rfl ?_
    refine r_aload_n hG dX9_cutAll_301 rfl ?_
    refine r_iconst hG (0) dX9_cutAll_302 (by decide) ?_
    refine r_putI hG 8 fp_X9_219 dX9_cutAll_303 rfl (by decide) rfl rfl rfl ?_
    refine hE _ _ _ _ dX9_cutAll_306 rfl (Nat.le_refl _) (Nat.le_refl _) ?_
    refine hP _ ?_ ?_ ?_ ?_
    · exact tkM_end hk
    · exact ((((hq.mono (fun k j h => by unfold S91; omega)).put (by unfold S91; omega)).put (by unfold S91; omega)).put (by unfold S91; omega)).put (by unfold S91; omega)
    · rw [gwI_n (by omega), gwI_s]
    · exact gwI_s
  | succ r ih =>
    intro a M q har hqa hq hk x3 x4 x5 hP
    have h600 := h0600
    have hR : M.2.2 = stdR b := by rw [hq.1]; exact hR0
    have hsz : M.1 88 3 = nI s.1 := (hq.2.2 88 3 (by omega)).trans hsz0
    have hta : ∀ j, j < s.1 → M.1 89 j = s.2 j := fun j hj => (hq.2.2 89 j (by omega)).trans (hta0 j hj)
    have hlt := eor_lt s a
    by_cases ha : a < s.1
    · have hle := eor_le ha
      refine r_iload_n hG dX9_cutAll_17 rfl ?_
      refine r_aload_n hG dX9_cutAll_18 rfl ?_
      refine r_getIv hG 3 (nI s.1) fk_X9_197 dX9_cutAll_19 rfl (by decide) rfl hsz ?_
      refine r_icmp_ge hG 279 dX9_cutAll_22 (by decide) (fun hc22 => absurd (nle_t (a := s.1) (b := a) (by omega) (by omega) hc22) (by omega)) (fun hc22 => ?_)
      refine r_aload_n hG dX9_cutAll_25 rfl ?_
      refine r_getR hG 1 89 fk_X9_14 dX9_cutAll_26 rfl (by decide) rfl (sr hR rfl) ?_
      refine r_iload_n hG dX9_cutAll_29 rfl ?_
      refine r_ialdv hG a (s.2 a) dX9_cutAll_30 rfl (by decide) rfl (by omega) (by decide) (hta a (by omega)) ?_
      refine r_istore_n hG dX9_cutAll_31 (by decide) ?_
      refine r_loc [some (.ref 88), some (.int (nI q.1)), some (.int (nI a)), some (.int (s.2 a)), x4, x5, none] rfl ?_
      refine r_iload_n hG dX9_cutAll_32 rfl ?_
      refine r_bipush hG (10) dX9_cutAll_33 (by decide) ?_
      refine r_icmp_eq hG 44 dX9_cutAll_35 (by decide) (fun hc35 => ?_) (fun hc35 => ?_)
      · refine r_iinc hG (1) dX9_cutAll_44 (by decide) rfl ?_
        refine r_loc [some (.ref 88), some (.int (nI q.1)), some (.int ((nI a) + (1))), some (.int (s.2 a)), x4, x5, none] rfl ?_
        refine r_goto hG 17 dX9_cutAll_47 (by decide) ?_
        have hb9 : isBlk (s.2 a) := Or.inl hc35
        rw [nI_1, ← eor_blk hb9]
        refine ih (eor s a) M q ⟨by omega, by omega⟩ (by omega) hq hk _ _ _ ?_
        have e0 : scn s (r + 1) a q = scn s r (eor s a) q := by
          show (if a < s.1 then scn s r (eor s a) (if isBlk (s.2 a) then q else kpush (tokC s a (eor s a)) a q) else q) = _
          rw [if_pos ha, if_pos hb9]
        rw [← e0]
        exact hP
      · refine r_iload_n hG dX9_cutAll_38 rfl ?_
        refine r_bipush hG (32) dX9_cutAll_39 (by decide) ?_
        refine r_icmp_ne hG 50 dX9_cutAll_41 (by decide) (fun hc41 => ?_) (fun hc41 => ?_)
        · refine r_iload_n hG dX9_cutAll_50 rfl ?_
          refine r_istore hG dX9_cutAll_51 (by decide) ?_
          refine r_loc [some (.ref 88), some (.int (nI q.1)), some (.int (nI a)), some (.int (s.2 a)), some (.int (nI a)), x5, none] rfl ?_
          refine r_lconst hG (0) dX9_cutAll_53 (by decide) ?_
          refine r_lstore hG dX9_cutAll_54 (by decide) ?_
          refine r_loc [some (.ref 88), some (.int (nI q.1)), some (.int (nI a)), some (.int (s.2 a)), some (.int (nI a)), some (.long (0)), none] rfl ?_
          refine r_aload_n hG dX9_cutAll_56 rfl ?_
          refine r_getR hG 5 91 fk_X9_27 dX9_cutAll_57 rfl (by decide) rfl (sr hR rfl) ?_
          refine r_iload_n hG dX9_cutAll_60 rfl ?_
          refine r_iload_n hG dX9_cutAll_61 rfl ?_
          refine r_iast hG q.1 dX9_cutAll_62 rfl (by decide) rfl (by omega) (by decide) ?_
          refine r_iload_n hG dX9_cutAll_63 rfl ?_
          refine r_cSI1 hG mk_X9_193 dX9_cutAll_64 (ct_X9_isLetter _) (by decide) ⟨Nat.le_refl _, Nat.le_refl _⟩ (Nat.le_of_ble_eq_true rfl) (fun x9 M9 h9 => ?_)
          obtain ⟨h8, e9⟩ := h9; rw [e9]; rcases h8 with ⟨e8, hw64⟩ | ⟨e8, hw64⟩
          · rw [e8]
            refine r_if_eq hG 152 dX9_cutAll_67 (by decide) (fun hc67 => absurd hc67 (by decide)) (fun hc67 => ?_)
            have hnb : ¬ isBlk (s.2 a) := fun q => q.elim hc35 hc41
            refine r_loc [some (.ref 88), some (.int (nI q.1)), some (.int (nI a)), some (.int (s.2 a)), some (.int (nI a)), some (.long (hsh s.2 a (min (a - a) 8))), none] (by rw [Nat.sub_self]; rfl) ?_
            refine lp_X9_cutl (M := gwI M 91 q.1 (nI a)) hG hE (by exact hR) h600 ((gwI_n (by omega)).trans hsz) (fun j hj => (gwI_n (by omega)).trans (hta j hj)) (s.1 - a) a (by omega) (Nat.le_refl a) ?_
            rw [eor_runl ha hw64]
            refine r_aload_n hG dX9_cutAll_129 rfl ?_
            refine r_getR hG 4 90 fk_X9_24 dX9_cutAll_130 rfl (by decide) rfl (sr hR rfl) ?_
            refine r_iload_n hG dX9_cutAll_133 rfl ?_
            refine r_iload_n hG dX9_cutAll_134 rfl ?_
            refine r_iload hG dX9_cutAll_135 rfl ?_
            refine r_isub hG dX9_cutAll_137 ?_
            refine r_top (nI (eor s a - a)) (pk_sub (Nat.le_of_lt hlt)) ?_
            refine r_bipush hG (8) dX9_cutAll_138 (by decide) ?_
            refine r_icmp_le hG 147 dX9_cutAll_140 (by decide) (fun hc140 => ?_) (fun hc140 => ?_)
            · have hn140 := nle_t (a := (eor s a - a)) (b := 8) (by omega) (by omega) hc140
              refine r_iconst hG (1) dX9_cutAll_147 (by decide) ?_
              refine r_iast hG q.1 dX9_cutAll_148 rfl (by decide) rfl (by omega) (by decide) ?_
              refine r_goto hG 265 dX9_cutAll_149 (by decide) ?_
              refine r_aload_n hG dX9_cutAll_265 rfl ?_
              refine r_getR hG 6 92 fk_X9_30 dX9_cutAll_266 rfl (by decide) rfl (sr hR rfl) ?_
              refine r_iload_n hG dX9_cutAll_269 rfl ?_
              refine r_lload hG dX9_cutAll_270 rfl ?_
              refine r_last hG q.1 dX9_cutAll_272 rfl (by decide) rfl (by omega) (by decide) ?_
              refine r_iinc hG (1) dX9_cutAll_273 (by decide) rfl ?_
              refine r_loc [some (.ref 88), some (.int ((nI q.1) + (1))), some (.int (nI (eor s a))), some (.int (s.2 a)), some (.int (nI a)), some (.long (hsh s.2 a (min (eor s a - a) 8))), none] rfl ?_
              refine r_goto hG 17 dX9_cutAll_276 (by decide) ?_
              rw [nI_1]
              have htk : tokR (tokC s a (eor s a)) _ _ := (tok_w1 hw64 (fun j h1 h2 => eor_let hw64 h1 h2) (by omega))
              refine ih (eor s a) _ (kpush (tokC s a (eor s a)) a q) ⟨by omega, by omega⟩ (by show q.1 + 1 ≤ _; omega) (((hq.put (by omega)).put (by omega)).putL) (hk.push htk) _ _ _ ?_
              have e0 : scn s (r + 1) a q = scn s r (eor s a) (kpush (tokC s a (eor s a)) a q) := by
                show (if a < s.1 then scn s r (eor s a) (if isBlk (s.2 a) then q else kpush (tokC s a (eor s a)) a q) else q) = _
                rw [if_pos ha, if_neg hnb]
              rw [← e0]
              exact hP
            · have hn140 := nle_f (a := (eor s a - a)) (b := 8) (by omega) (by omega) hc140
              refine r_iconst hG (4) dX9_cutAll_143 (by decide) ?_
              refine r_goto hG 148 dX9_cutAll_144 (by decide) ?_
              refine r_iast hG q.1 dX9_cutAll_148 rfl (by decide) rfl (by omega) (by decide) ?_
              refine r_goto hG 265 dX9_cutAll_149 (by decide) ?_
              refine r_aload_n hG dX9_cutAll_265 rfl ?_
              refine r_getR hG 6 92 fk_X9_30 dX9_cutAll_266 rfl (by decide) rfl (sr hR rfl) ?_
              refine r_iload_n hG dX9_cutAll_269 rfl ?_
              refine r_lload hG dX9_cutAll_270 rfl ?_
              refine r_last hG q.1 dX9_cutAll_272 rfl (by decide) rfl (by omega) (by decide) ?_
              refine r_iinc hG (1) dX9_cutAll_273 (by decide) rfl ?_
              refine r_loc [some (.ref 88), some (.int ((nI q.1) + (1))), some (.int (nI (eor s a))), some (.int (s.2 a)), some (.int (nI a)), some (.long (hsh s.2 a (min (eor s a - a) 8))), none] rfl ?_
              refine r_goto hG 17 dX9_cutAll_276 (by decide) ?_
              rw [nI_1]
              have htk : tokR (tokC s a (eor s a)) _ _ := (tok_w4 (v := hsh s.2 a (min (eor s a - a) 8)) hw64 (by omega))
              refine ih (eor s a) _ (kpush (tokC s a (eor s a)) a q) ⟨by omega, by omega⟩ (by show q.1 + 1 ≤ _; omega) (((hq.put (by omega)).put (by omega)).putL) (hk.push htk) _ _ _ ?_
              have e0 : scn s (r + 1) a q = scn s r (eor s a) (kpush (tokC s a (eor s a)) a q) := by
                show (if a < s.1 then scn s r (eor s a) (if isBlk (s.2 a) then q else kpush (tokC s a (eor s a)) a q) else q) = _
                rw [if_pos ha, if_neg hnb]
              rw [← e0]
              exact hP
          · rw [e8]
            refine r_if_eq hG 152 dX9_cutAll_67 (by decide) (fun hc67 => ?_) (fun hc67 => absurd hc67 (by decide))
            refine r_iload_n hG dX9_cutAll_152 rfl ?_
            refine r_cSI1 hG mk_X9_206 dX9_cutAll_153 (ct_X9_isDigit _) (by decide) ⟨Nat.le_refl _, Nat.le_refl _⟩ (Nat.le_of_ble_eq_true rfl) (fun x9 M9 h9 => ?_)
            obtain ⟨h8, e9⟩ := h9; rw [e9]; rcases h8 with ⟨e8, hw153⟩ | ⟨e8, hw153⟩
            · rw [e8]
              refine r_if_eq hG 240 dX9_cutAll_156 (by decide) (fun hc156 => absurd hc156 (by decide)) (fun hc156 => ?_)
              have hnb : ¬ isBlk (s.2 a) := fun q => q.elim hc35 hc41
              refine r_loc [some (.ref 88), some (.int (nI q.1)), some (.int (nI a)), some (.int (s.2 a)), some (.int (nI a)), some (.long (dgs s.2 a (min (a - a) 4))), none] (by rw [Nat.sub_self]; rfl) ?_
              refine lp_X9_cutd (M := gwI M 91 q.1 (nI a)) hG hE (by exact hR) h600 ((gwI_n (by omega)).trans hsz) (fun j hj => (gwI_n (by omega)).trans (hta j hj)) (s.1 - a) a (by omega) (Nat.le_refl a) ?_
              rw [eor_rund ha hw64 hw153]
              refine r_aload_n hG dX9_cutAll_218 rfl ?_
              refine r_getR hG 4 90 fk_X9_24 dX9_cutAll_219 rfl (by decide) rfl (sr hR rfl) ?_
              refine r_iload_n hG dX9_cutAll_222 rfl ?_
              refine r_iload_n hG dX9_cutAll_223 rfl ?_
              refine r_iload hG dX9_cutAll_224 rfl ?_
              refine r_isub hG dX9_cutAll_226 ?_
              refine r_top (nI (eor s a - a)) (pk_sub (Nat.le_of_lt hlt)) ?_
              refine r_iconst hG (4) dX9_cutAll_227 (by decide) ?_
              refine r_icmp_le hG 235 dX9_cutAll_228 (by decide) (fun hc228 => ?_) (fun hc228 => ?_)
              · have hn228 := nle_t (a := (eor s a - a)) (b := 4) (by omega) (by omega) hc228
                refine r_iconst hG (2) dX9_cutAll_235 (by decide) ?_
                refine r_iast hG q.1 dX9_cutAll_236 rfl (by decide) rfl (by omega) (by decide) ?_
                refine r_goto hG 265 dX9_cutAll_237 (by decide) ?_
                refine r_aload_n hG dX9_cutAll_265 rfl ?_
                refine r_getR hG 6 92 fk_X9_30 dX9_cutAll_266 rfl (by decide) rfl (sr hR rfl) ?_
                refine r_iload_n hG dX9_cutAll_269 rfl ?_
                refine r_lload hG dX9_cutAll_270 rfl ?_
                refine r_last hG q.1 dX9_cutAll_272 rfl (by decide) rfl (by omega) (by decide) ?_
                refine r_iinc hG (1) dX9_cutAll_273 (by decide) rfl ?_
                refine r_loc [some (.ref 88), some (.int ((nI q.1) + (1))), some (.int (nI (eor s a))), some (.int (s.2 a)), some (.int (nI a)), some (.long (dgs s.2 a (min (eor s a - a) 4))), none] rfl ?_
                refine r_goto hG 17 dX9_cutAll_276 (by decide) ?_
                rw [nI_1]
                have htk : tokR (tokC s a (eor s a)) _ _ := (tok_n2 hw64 hw153 (fun j h1 h2 => eor_dig hw64 hw153 h1 h2) (by omega))
                refine ih (eor s a) _ (kpush (tokC s a (eor s a)) a q) ⟨by omega, by omega⟩ (by show q.1 + 1 ≤ _; omega) (((hq.put (by omega)).put (by omega)).putL) (hk.push htk) _ _ _ ?_
                have e0 : scn s (r + 1) a q = scn s r (eor s a) (kpush (tokC s a (eor s a)) a q) := by
                  show (if a < s.1 then scn s r (eor s a) (if isBlk (s.2 a) then q else kpush (tokC s a (eor s a)) a q) else q) = _
                  rw [if_pos ha, if_neg hnb]
                rw [← e0]
                exact hP
              · have hn228 := nle_f (a := (eor s a - a)) (b := 4) (by omega) (by omega) hc228
                refine r_iconst hG (4) dX9_cutAll_231 (by decide) ?_
                refine r_goto hG 236 dX9_cutAll_232 (by decide) ?_
                refine r_iast hG q.1 dX9_cutAll_236 rfl (by decide) rfl (by omega) (by decide) ?_
                refine r_goto hG 265 dX9_cutAll_237 (by decide) ?_
                refine r_aload_n hG dX9_cutAll_265 rfl ?_
                refine r_getR hG 6 92 fk_X9_30 dX9_cutAll_266 rfl (by decide) rfl (sr hR rfl) ?_
                refine r_iload_n hG dX9_cutAll_269 rfl ?_
                refine r_lload hG dX9_cutAll_270 rfl ?_
                refine r_last hG q.1 dX9_cutAll_272 rfl (by decide) rfl (by omega) (by decide) ?_
                refine r_iinc hG (1) dX9_cutAll_273 (by decide) rfl ?_
                refine r_loc [some (.ref 88), some (.int ((nI q.1) + (1))), some (.int (nI (eor s a))), some (.int (s.2 a)), some (.int (nI a)), some (.long (dgs s.2 a (min (eor s a - a) 4))), none] rfl ?_
                refine r_goto hG 17 dX9_cutAll_276 (by decide) ?_
                rw [nI_1]
                have htk : tokR (tokC s a (eor s a)) _ _ := (tok_n4 (v := dgs s.2 a (min (eor s a - a) 4)) hw64 hw153 (by omega))
                refine ih (eor s a) _ (kpush (tokC s a (eor s a)) a q) ⟨by omega, by omega⟩ (by show q.1 + 1 ≤ _; omega) (((hq.put (by omega)).put (by omega)).putL) (hk.push htk) _ _ _ ?_
                have e0 : scn s (r + 1) a q = scn s r (eor s a) (kpush (tokC s a (eor s a)) a q) := by
                  show (if a < s.1 then scn s r (eor s a) (if isBlk (s.2 a) then q else kpush (tokC s a (eor s a)) a q) else q) = _
                  rw [if_pos ha, if_neg hnb]
                rw [← e0]
                exact hP
            · rw [e8]
              refine r_if_eq hG 240 dX9_cutAll_156 (by decide) (fun hc156 => ?_) (fun hc156 => absurd hc156 (by decide))
              refine r_iload_n hG dX9_cutAll_240 rfl ?_
              refine r_i2l hG dX9_cutAll_241 ?_
              refine r_lstore hG dX9_cutAll_242 (by decide) ?_
              refine r_loc [some (.ref 88), some (.int (nI q.1)), some (.int (nI a)), some (.int (s.2 a)), some (.int (nI a)), some (.long (s.2 a).toInt64), none] rfl ?_
              refine r_aload_n hG dX9_cutAll_244 rfl ?_
              refine r_getR hG 4 90 fk_X9_24 dX9_cutAll_245 rfl (by decide) rfl (sr hR rfl) ?_
              refine r_iload_n hG dX9_cutAll_248 rfl ?_
              refine r_iload_n hG dX9_cutAll_249 rfl ?_
              refine r_cSI1 hG mk_X9_213 dX9_cutAll_250 (ct_X9_isSignOf _) (by decide) ⟨Nat.le_refl _, Nat.le_refl _⟩ (Nat.le_of_ble_eq_true rfl) (fun x9 M9 h9 => ?_)
              obtain ⟨h8, e9⟩ := h9; rw [e9]; rcases h8 with ⟨e8, hw250⟩ | ⟨e8, hw250⟩
              · rw [e8]
                refine r_if_eq hG 260 dX9_cutAll_253 (by decide) (fun hc253 => absurd hc253 (by decide)) (fun hc253 => ?_)
                refine r_iconst hG (3) dX9_cutAll_256 (by decide) ?_
                refine r_goto hG 261 dX9_cutAll_257 (by decide) ?_
                refine r_iast hG q.1 dX9_cutAll_261 rfl (by decide) rfl (by omega) (by decide) ?_
                refine r_iinc hG (1) dX9_cutAll_262 (by decide) rfl ?_
                refine r_loc [some (.ref 88), some (.int (nI q.1)), some (.int ((nI a) + (1))), some (.int (s.2 a)), some (.int (nI a)), some (.long (s.2 a).toInt64), none] rfl ?_
                refine r_aload_n hG dX9_cutAll_265 rfl ?_
                refine r_getR hG 6 92 fk_X9_30 dX9_cutAll_266 rfl (by decide) rfl (sr hR rfl) ?_
                refine r_iload_n hG dX9_cutAll_269 rfl ?_
                refine r_lload hG dX9_cutAll_270 rfl ?_
                refine r_last hG q.1 dX9_cutAll_272 rfl (by decide) rfl (by omega) (by decide) ?_
                refine r_iinc hG (1) dX9_cutAll_273 (by decide) rfl ?_
                refine r_loc [some (.ref 88), some (.int ((nI q.1) + (1))), some (.int ((nI a) + (1))), some (.int (s.2 a)), some (.int (nI a)), some (.long (s.2 a).toInt64), none] rfl ?_
                refine r_goto hG 17 dX9_cutAll_276 (by decide) ?_
                have hnb : ¬ isBlk (s.2 a) := fun q => q.elim hc35 hc41
                have he1 : eor s a = a + 1 := by unfold eor; rw [if_neg hw64, if_neg hw153]
                rw [nI_1, nI_1, ← he1]
                have htk : tokR (tokC s a (eor s a)) _ _ := (tok_s3 hw64 hw153 hw250)
                refine ih (eor s a) _ (kpush (tokC s a (eor s a)) a q) ⟨by omega, by omega⟩ (by show q.1 + 1 ≤ _; omega) (((hq.put (by omega)).put (by omega)).putL) (hk.push htk) _ _ _ ?_
                have e0 : scn s (r + 1) a q = scn s r (eor s a) (kpush (tokC s a (eor s a)) a q) := by
                  show (if a < s.1 then scn s r (eor s a) (if isBlk (s.2 a) then q else kpush (tokC s a (eor s a)) a q) else q) = _
                  rw [if_pos ha, if_neg hnb]
                rw [← e0]
                exact hP
              · rw [e8]
                refine r_if_eq hG 260 dX9_cutAll_253 (by decide) (fun hc253 => ?_) (fun hc253 => absurd hc253 (by decide))
                refine r_iconst hG (4) dX9_cutAll_260 (by decide) ?_
                refine r_iast hG q.1 dX9_cutAll_261 rfl (by decide) rfl (by omega) (by decide) ?_
                refine r_iinc hG (1) dX9_cutAll_262 (by decide) rfl ?_
                refine r_loc [some (.ref 88), some (.int (nI q.1)), some (.int ((nI a) + (1))), some (.int (s.2 a)), some (.int (nI a)), some (.long (s.2 a).toInt64), none] rfl ?_
                refine r_aload_n hG dX9_cutAll_265 rfl ?_
                refine r_getR hG 6 92 fk_X9_30 dX9_cutAll_266 rfl (by decide) rfl (sr hR rfl) ?_
                refine r_iload_n hG dX9_cutAll_269 rfl ?_
                refine r_lload hG dX9_cutAll_270 rfl ?_
                refine r_last hG q.1 dX9_cutAll_272 rfl (by decide) rfl (by omega) (by decide) ?_
                refine r_iinc hG (1) dX9_cutAll_273 (by decide) rfl ?_
                refine r_loc [some (.ref 88), some (.int ((nI q.1) + (1))), some (.int ((nI a) + (1))), some (.int (s.2 a)), some (.int (nI a)), some (.long (s.2 a).toInt64), none] rfl ?_
                refine r_goto hG 17 dX9_cutAll_276 (by decide) ?_
                have hnb : ¬ isBlk (s.2 a) := fun q => q.elim hc35 hc41
                have he1 : eor s a = a + 1 := by unfold eor; rw [if_neg hw64, if_neg hw153]
                rw [nI_1, nI_1, ← he1]
                have htk : tokR (tokC s a (eor s a)) _ _ := (tok_s4 (v := (s.2 a).toInt64) hw64 hw153 hw250)
                refine ih (eor s a) _ (kpush (tokC s a (eor s a)) a q) ⟨by omega, by omega⟩ (by show q.1 + 1 ≤ _; omega) (((hq.put (by omega)).put (by omega)).putL) (hk.push htk) _ _ _ ?_
                have e0 : scn s (r + 1) a q = scn s r (eor s a) (kpush (tokC s a (eor s a)) a q) := by
                  show (if a < s.1 then scn s r (eor s a) (if isBlk (s.2 a) then q else kpush (tokC s a (eor s a)) a q) else q) = _
                  rw [if_pos ha, if_neg hnb]
                rw [← e0]
                exact hP
        · refine r_iinc hG (1) dX9_cutAll_44 (by decide) rfl ?_
          refine r_loc [some (.ref 88), some (.int (nI q.1)), some (.int ((nI a) + (1))), some (.int (s.2 a)), x4, x5, none] rfl ?_
          refine r_goto hG 17 dX9_cutAll_47 (by decide) ?_
          have hb9 : isBlk (s.2 a) := Or.inr hc41
          rw [nI_1, ← eor_blk hb9]
          refine ih (eor s a) M q ⟨by omega, by omega⟩ (by omega) hq hk _ _ _ ?_
          have e0 : scn s (r + 1) a q = scn s r (eor s a) q := by
            show (if a < s.1 then scn s r (eor s a) (if isBlk (s.2 a) then q else kpush (tokC s a (eor s a)) a q) else q) = _
            rw [if_pos ha, if_pos hb9]
          rw [← e0]
          exact hP
    · have e0 : scn s (r + 1) a q = q := by
        show (if a < s.1 then _ else q) = _
        rw [if_neg ha]
      rw [e0] at hP
      refine r_iload_n hG dX9_cutAll_17 rfl ?_
      refine r_aload_n hG dX9_cutAll_18 rfl ?_
      refine r_getIv hG 3 (nI s.1) fk_X9_197 dX9_cutAll_19 rfl (by decide) rfl hsz ?_
      refine r_icmp_ge hG 279 dX9_cutAll_22 (by decide) (fun hc22 => ?_) (fun hc22 => absurd (nle_f (a := s.1) (b := a) (by omega) (by omega) hc22) (by omega))
      refine r_aload_n hG dX9_cutAll_279 rfl ?_
      refine r_getR hG 4 90 fk_X9_24 dX9_cutAll_280 rfl (by decide) rfl (sr hR rfl) ?_
      refine r_iload_n hG dX9_cutAll_283 rfl ?_
      refine r_iconst hG (0) dX9_cutAll_284 (by decide) ?_
      refine r_iast hG q.1 dX9_cutAll_285 rfl (by decide) rfl (by omega) (by decide) ?_
      refine r_aload_n hG dX9_cutAll_286 rfl ?_
      refine r_getR hG 5 91 fk_X9_27 dX9_cutAll_287 rfl (by decide) rfl (sr hR rfl) ?_
      refine r_iload_n hG dX9_cutAll_290 rfl ?_
      refine r_aload_n hG dX9_cutAll_291 rfl ?_
      refine r_getIv hG 3 (nI s.1) fk_X9_197 dX9_cutAll_292 rfl (by decide) rfl ((gwI_n (by omega)).trans hsz) ?_
      refine r_iast hG q.1 dX9_cutAll_295 rfl (by decide) rfl (by omega) (by decide) ?_
      refine r_aload_n hG dX9_cutAll_296 rfl ?_
      refine r_iconst hG (0) dX9_cutAll_297 (by decide) ?_
      refine r_putI hG 7 fp_X9_216 dX9_cutAll_298 rfl (by decide) rfl rfl rfl ?_
      refine r_aload_n hG dX9_cutAll_301 rfl ?_
      refine r_iconst hG (0) dX9_cutAll_302 (by decide) ?_
      refine r_putI hG 8 fp_X9_219 dX9_cutAll_303 rfl (by decide) rfl rfl rfl ?_
      refine hE _ _ _ _ dX9_cutAll_306 rfl (Nat.le_refl _) (Nat.le_refl _) ?_
      refine hP _ ?_ ?_ ?_ ?_
      · exact tkM_end hk
      · exact ((((hq.mono (fun k j h => by unfold S91; omega)).put (by unfold S91; omega)).put (by unfold S91; omega)).put (by unfold S91; omega)).put (by unfold S91; omega)
      · rw [gwI_n (by omega), gwI_s]
      · exact gwI_s

set_option maxRecDepth 100000 in
set_option maxHeartbeats 400000 in
theorem ct_X9_cutAll {M : gM} {b : Bool} (hR : M.2.2 = stdR b) {s : tS} (hs : tpM M s) : gC 2 0 0 yX9_cutAll cX9_cutAll 7 none 140 140 [.ref 88] M (gV (fun M9 => tkM M9 (toks s) ∧ gEl (fun k j => k = 90 ∨ k = 91 ∨ (k = 88 ∧ (j = 2 ∨ j = 3 ∨ j = 7 ∨ j = 8))) M M9 ∧ M9.1 88 2 = 0 ∧ M9.1 88 7 = 0 ∧ M9.1 88 8 = 0)) := by
  refine gC_v rfl (Nat.le_of_ble_eq_true rfl) (fun G hG hE => ?_)
  change G (140, 0, 0) 0 [some (.ref 88), none, none, none, none, none, none] [] M
  refine r_aload_n hG dX9_cutAll_0 rfl ?_
  refine r_aload_n hG dX9_cutAll_1 rfl ?_
  refine r_getIv hG 2 (nI s.1) fk_X9_11 dX9_cutAll_2 rfl (by decide) rfl hs.1 ?_
  refine r_putI hG 3 fp_X9_197 dX9_cutAll_5 rfl (by decide) rfl rfl rfl ?_
  refine r_aload_n hG dX9_cutAll_8 rfl ?_
  refine r_iconst hG (0) dX9_cutAll_9 (by decide) ?_
  refine r_putI hG 2 fp_X9_11 dX9_cutAll_10 rfl (by decide) rfl rfl rfl ?_
  refine r_iconst hG (0) dX9_cutAll_13 (by decide) ?_
  refine r_istore_n hG dX9_cutAll_14 (by decide) ?_
  refine r_loc [some (.ref 88), some (.int (0)), none, none, none, none, none] rfl ?_
  refine r_iconst hG (0) dX9_cutAll_15 (by decide) ?_
  refine r_istore_n hG dX9_cutAll_16 (by decide) ?_
  refine r_loc [some (.ref 88), some (.int (0)), some (.int (0)), none, none, none, none] rfl ?_
  refine lp_X9_cut (M0 := gwI (gwI M 88 3 (nI s.1)) 88 2 0) hG hE (by exact hR) hs.2.1 ((gwI_n (by omega)).trans gwI_s) (fun j hj => (gwI_n (by omega)).trans ((gwI_n (by omega)).trans (hs.2.2.1 j hj))) s.1 0 _ (0, (fun _ => (18, 0)), fun _ => 0) ⟨by omega, by omega⟩ (Nat.le_refl 0) gEl.rf (fun i hi => absurd hi (Nat.not_lt_zero i)) _ _ _ (fun M9 h1 h2 h3 h4 => ⟨h1, ?_, ?_, h3, h4⟩)
  · exact (((gEl.rf.put (by omega)).put (by omega)).trans (h2.mono (fun k j h => by unfold S91 at h; omega)))
  · rw [h2.2.2 88 2 (by unfold S91; omega), gwI_s]


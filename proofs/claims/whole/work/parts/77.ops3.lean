set_option maxHeartbeats 1000000 in
theorem good_feed {M : gM} (hI : Inv M) (x y z : Int64) : Good M [.long x, .long y, .long z] 3 yX8_feed cX8_feed 7 .int 1 yX9_feed cX9_feed 7 .int := by
  obtain ⟨b, h, nv, ns, nt, nb, nd, nw, t, s, hR, r⟩ := hI
  have l := r.1
  have l1 := l.1
  have l2 := l.2.1
  have l3 := l.2.2.1
  have l4 := l.2.2.2.1
  have r2 := r.2.1
  obtain ⟨-, -, -, -, -, -, -, -, -, -, -, r12, r13, r14, r15, r16⟩ := id r
  refine ⟨_, ct_X8_feed hR r12 x y z, fun x1 M1 h1 => ?_⟩
  obtain ⟨rfl, c1, c2⟩ := h1
  have e1 : ∀ k j, ¬ S8 k j → M1.1 k j = M.1 k j := c2.2
  have hR1 : M1.2.2 = stdR b := by rw [c2.1]; exact hR
  have hs1 : tpM M1 t := r13.c (fun k j u => e1 k j (by unfold S89 at u; unfold S8; omega))
  refine ⟨_, ct_X9_feed hR1 hs1 x y z, fun x2 M2 h2 => ?_⟩
  obtain ⟨rfl, m1, m2⟩ := h2
  have e2 : ∀ k j, ¬ S89 k j → ¬ (k = 88 ∧ j = 0) → M2.1 k j = M1.1 k j := fun k j u v => (m2.2 k j u).trans (gwI_n v)
  refine ⟨rfl, b, h, nv, ns, nt, nb, nd, nw, psh8 z (psh8 y (psh8 x t)), s, by rw [m2.1]; exact hR1, r.g (fun k j u => ?_) (fun k j u => ?_) ?_ m1 ?_ ?_ ?_ r16.2⟩
  · unfold uC0 at u
    rw [e2 k j (by unfold S89; omega) (by omega), e1 k j (by unfold S8; omega)]
  · unfold uM0 at u
    rw [e2 k j (by unfold S89; omega) (by omega), e1 k j (by unfold S8; omega)]
  · exact c1.c (fun k j u => e2 k j (by unfold S8 at u; unfold S89; omega) (by unfold S8 at u; omega))
  · refine r14.c (fun k j u => ?_)
    have hk : 11 ≤ k ∧ k < 23 := by cases b <;> simp at u <;> omega
    rw [e2 k j (by unfold S89; omega) (by omega), e1 k j (by unfold S8; omega)]
  · exact r15.c (fun k j u => by rw [e2 k j (by unfold S89; omega) (by omega), e1 k j (by unfold S8; omega)])
  · intro w hw
    rw [m2.1]
    show M1.2.1 93 w = _
    rw [c2.1]
    exact r16.1 w hw
theorem ordMs.hf {M M' : gM} {h : Nat} {s : oT} (ho : ordMs M h s) (e16 : M'.1 88 16 = M.1 88 16) (e94 : M'.1 94 h = M.1 94 h) (e95 : ∀ k i, (k = 95 ∨ k = 96 ∨ k = 97) → 16 * h ≤ i → i < 16 * h + 16 → M'.1 k i = M.1 k i) (e98 : ∀ k i, (k = 98 ∨ k = 99) → 660 * h ≤ i → i < 660 * h + 660 → M'.1 k i = M.1 k i) : ordMs M' h s := by
  obtain ⟨a1, a2, a3, a4, a5, a6⟩ := ho
  refine ⟨a1, a2, e16.trans a3, e94.trans a4, a5, fun i hi => ?_⟩
  obtain ⟨g1, g2, g3, g4, g5, g6, g7⟩ := a6 i hi
  have hST := ST_le (fun k hk => (a6 k hk).1) (i + 1) (by omega)
  rw [e95 95 _ (by omega) (by omega) (by omega), e95 96 _ (by omega) (by omega) (by omega), e95 97 _ (by omega) (by omega) (by omega), e98 98 _ (by omega) (by omega) (by omega)]
  refine ⟨g1, g2, g3, g4, g5, fun j h1 h2 => ?_, g7⟩
  rw [e98 98 _ (by omega) (by omega) (by omega), e98 99 _ (by omega) (by omega) (by omega)]
  exact g6 j h1 h2
set_option maxHeartbeats 1000000 in
theorem good_text {M : gM} (hI : Inv M) : Good M [] 28 yX8_text cX8_text 1 .int 4 yX9_text cX9_text 1 .int := by
  obtain ⟨b, h, nv, ns, nt, nb, nd, nw, t, s, hR, r⟩ := hI
  have l := r.1
  have l1 := l.1
  have l2 := l.2.1
  have l3 := l.2.2.1
  have l4 := l.2.2.2.1
  have r2 := r.2.1
  obtain ⟨-, -, -, -, -, -, -, -, -, -, -, r12, r13, r14, r15, r16⟩ := id r
  refine ⟨_, ct_X8_text hR (o := if b then 11 else 17) (o' := if b then 17 else 11) rfl rfl r12, fun x1 M1 h1 => ?_⟩
  obtain ⟨k1, a1, s1, c1, c2, c3, c4, c5⟩ := h1
  have e1 : ∀ k j, ¬ S47t (if b then 11 else 17) k j → M1.1 k j = M.1 k j := c3
  have hSm : ∀ k j, 88 ≤ k → ¬ S47t (if b then 11 else 17) k j := fun k j hk => by
    unfold S47t So
    cases b <;> simp <;> omega
  obtain ⟨b1, hR1⟩ : ∃ b1, M1.2.2 = stdR b1 := by
    rcases c5 with ⟨-, -, q, -⟩ | ⟨-, -, -, -, q⟩
    · exact ⟨_, q⟩
    · exact ⟨_, q⟩
  have hs1 : tpM M1 t := r13.c (fun k j u => e1 k j (hSm k j (by unfold S89 at u; omega)))
  have hw1 : wdM M1 := fun w hw => by rw [c2]; exact r16.1 w hw
  have hh1 : M1.1 88 16 = nI h := (e1 88 16 (hSm _ _ (by omega))).trans r15.2.2.1
  have lh := r15.1
  refine ⟨_, ct_X9_text hR1 hs1 hw1 lh hh1, fun x2 M2 h2 => ?_⟩
  obtain ⟨k2, a2, s2, m1, m2, m3, m4, m5⟩ := h2
  have eq := c1.symm.trans m1
  simp only [Prod.mk.injEq] at eq
  obtain ⟨rfl, rfl, rfl⟩ := eq
  have e2 : ∀ k j, ¬ S51 (1 - h) k j → M2.1 k j = M1.1 k j := m2.2.2
  have hcl : ∀ k j, k < 88 → M2.1 k j = M1.1 k j := fun k j hk => e2 k j (by unfold S51 SLh SM; omega)
  have hwd : wdM M2 := fun w hw => (m2.2.1 93 w (by omega)).trans (hw1 w hw)
  have huc : ∀ k j, uC0 k j → M2.1 k j = M.1 k j := fun k j u => by
    unfold uC0 at u
    rw [hcl k j (by omega)]
    refine e1 k j ?_
    unfold S47t So
    cases b <;> simp <;> omega
  have hum : ∀ k j, uM0 k j → M2.1 k j = M.1 k j := fun k j u => by
    unfold uM0 at u
    rw [e2 k j (by unfold S51 SLh SM; omega)]
    exact e1 k j (hSm k j (by omega))
  have ht1 : tpC M2 (0, t.2) := ⟨by rw [hcl 7 3 (by omega)]; exact c4, Nat.zero_le _, fun j hj => absurd hj (Nat.not_lt_zero j), fun j hj => absurd hj (Nat.not_lt_zero j)⟩
  have ht2 : tpM M2 (0, t.2) := ⟨m3, Nat.zero_le _, fun j hj => absurd hj (Nat.not_lt_zero j), fun j hj => absurd hj (Nat.not_lt_zero j)⟩
  rcases c5 with ⟨rfl, rfl, q1, q2⟩ | ⟨p1, p2, p3, rfl, q1⟩
  · rcases m5 with ⟨-, rfl, g2⟩ | ⟨g1, -⟩
    · refine ⟨rfl, !b, 1 - h, nv, ns, nt, nb, nd, nw, (0, t.2), s1, by rw [m2.1]; exact q1, r.g huc hum ht1 ht2 ?_ g2 hwd ?_⟩
      · have eb : (if (!b) = true then 17 else 11) = if b then 11 else 17 := by cases b <;> rfl
        rw [eb]
        refine q2.c (fun k j u => hcl k j ?_)
        cases b <;> simp at u <;> omega
      · have := tx_aok (T := (toks t).2.1) (fun a => (toks_ok r12.2.1).2.2.2.2.1 a) 18 0 oT0 (fun i hi => absurd hi (Nat.not_lt_zero i))
        rw [c1] at this
        exact this
    · omega
  · rcases m5 with ⟨g1, -⟩ | ⟨-, -, -, rfl, g5⟩
    · omega
    · refine ⟨rfl, b, h, nv, ns, nt, nb, nd, nw, (0, t.2), s, by rw [m2.1]; exact q1, r.g huc hum ht1 ht2 ?_ ?_ hwd r16.2⟩
      · refine r14.c (fun k j u => ?_)
        rw [hcl k j (by cases b <;> simp at u <;> omega)]
        refine e1 k j ?_
        unfold S47t So
        cases b <;> simp at u ⊢ <;> omega
      · have e3 : ∀ k j, 88 ≤ k → M1.1 k j = M.1 k j := fun k j hk => e1 k j (hSm k j hk)
        refine r15.hf (g5.trans (e3 88 16 (by omega))) ?_ (fun k i hk h1 h2 => ?_) (fun k i hk h1 h2 => ?_)
        · rw [e2 94 h (by unfold S51 SLh SM; omega), e3 94 h (by omega)]
        · rw [e2 k i (by unfold S51 SLh SM; omega), e3 k i (by omega)]
        · rw [e2 k i (by unfold S51 SLh SM; omega), e3 k i (by omega)]

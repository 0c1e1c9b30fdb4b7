/-! the giving of a day -/
section
variable {b : Bool} {h nv ns nt nb nd nw : Nat} {t : tS} {s : oT} {Mc Mm Md Md' : gM}
theorem gs_eq (hv : ∀ i, i < nv → Mc.1 (2 * i + 42) 3 = Mm.1 108 i) (h14 : Mc.1 0 14 = Mm.1 88 61) {W W' : Nat → Int32} (hW : ∀ i, i < nv → W i = W' i) : ∀ n, n ≤ nv → gsum Mc W n = mgs Mm W' n ∧ dsum Mc W n = mds Mm W' n
  | 0, _ => ⟨h14, rfl⟩
  | n + 1, hn => by
    obtain ⟨a1, a2⟩ := gs_eq hv h14 hW n (by omega)
    unfold gsum mgs dsum mds
    rw [a1, a2, hv n (by omega), hW n (by omega)]
    exact ⟨rfl, rfl⟩
set_option maxHeartbeats 2000000 in
theorem give_W (r : Rl b h nv ns nt nb nd nw t s Mc Mm) (lw : nw + 1 < 400) {W W' : Nat → Int32} (hWW : ∀ i, i < nv → W i = W' i) (hWn : ∀ i, i < nv → ∃ w, w ≤ 400000 ∧ W' i = nI w) (hg : gvR Mc Md nv (nw % 7) W) (hm : mgR Mm Md' nv (nw + 1) W') : Rl b h nv ns nt nb nd (nw + 1) t s (gwI Md 0 12 (nI (nw + 1))) (gwI Md' 88 25 (nI (nw + 1))) := by
  obtain ⟨r1, r2, r3, r4, r5, r6, r7, r8, r9, r10, r11, r12, r13, r14, r15, r16⟩ := r
  obtain ⟨q1, q2, q3, q4, q5, q6, q7, q8, q9⟩ := r4
  obtain ⟨l1, l2, l3, l4, l5, l6⟩ := r1
  obtain ⟨c1, c2, c3, c4, c5⟩ := hg
  obtain ⟨m1, m2, m3, m4, m5, m6⟩ := hm
  have hsum := gs_eq (Mc := Mc) (Mm := Mm) (nv := nv) (fun i hi => (r5 i (by omega)).2.2.2.1) r11 hWW nv (Nat.le_refl nv)
  have ec : ∀ k j, ¬ (Sc k j ∨ (k = 0 ∧ (j = 12 ∨ j = 13 ∨ j = 14)) ∨ (42 ≤ k ∧ k < 66 ∧ (k % 2 = 1 ∨ j = 3 ∨ j = 5 ∨ j = 6 ∨ j = 7 ∨ j = 8))) → (gwI Md 0 12 (nI (nw + 1))).1 k j = Mc.1 k j := fun k j z => by
    rw [gwI_n (by omega)]
    refine c1.2 k j ?_
    show ¬ (Sg k j ∨ (k = 0 ∧ j = 13))
    unfold Sc at z
    unfold Sg Sc
    omega
  have ed : ∀ k j, ¬ k = 0 → (gwI Md 0 12 (nI (nw + 1))).1 k j = Md.1 k j := fun k j z => gwI_n (by omega)
  have em : ∀ k j, ¬ (k = 103 ∨ k = 104 ∨ k = 108 ∨ k = 110 ∨ k = 111 ∨ k = 113 ∨ k = 114 ∨ (k = 88 ∧ (j = 61 ∨ j = 37 ∨ j = 25))) → (gwI Md' 88 25 (nI (nw + 1))).1 k j = Mm.1 k j := fun k j z => by
    rw [gwI_n (by omega)]
    exact m1.2 k j (by unfold Sz; omega)
  have ee : ∀ k j, ¬ k = 88 → (gwI Md' 88 25 (nI (nw + 1))).1 k j = Md'.1 k j := fun k j z => gwI_n (by omega)
  have e113 : ∀ i d, i < 12 → d < 400 → (d ≠ nw + 1 ∨ nv ≤ i) → Md'.1 113 (400 * i + d) = Mm.1 113 (400 * i + d) := fun i d hi hd z => m4 _ (fun v hv e => by omega)
  have z113 : ∀ i d, nv ≤ i → i < 12 → d < 400 → Mm.1 113 (400 * i + d) = 0 := fun i d h1 h2 h3 => by
    obtain ⟨g, g1, g2, g3⟩ := q3 i d h2 (Or.inr ⟨h1, h3⟩)
    rw [g1, g3 h1]
    rfl
  refine ⟨⟨l1, l2, l3, l4, l5, lw⟩, ?_, ?_, ⟨fun i hi => ?_, fun i hi => ?_, fun i d hi hd => ?_, fun i hi => ?_, fun i hi => ?_, fun i hi => ?_, fun i hi => ?_, fun i hi => ?_, fun i hi => ?_⟩, fun i hi => ?_, fun i hi => ?_, fun i hi => ?_, fun i hi => ?_, fun i hi => ?_, ?_, ?_, r12.c (fun k j z => ec k j (by unfold S8 at z; unfold Sc; omega)), r13.c (fun k j z => em k j (by unfold S89 at z; omega)), r14.c (fun k j z => ec k j (by unfold Sc; cases b <;> simp at z <;> omega)), r15.c (fun k j z => em k j (by omega)), r16.1.mv (show Md'.2 = Mm.2 from m1.1), r16.2⟩
  · exact ⟨(ec 0 7 (by unfold Sc; omega)).trans r2.1, (ec 0 8 (by unfold Sc; omega)).trans r2.2.1, (ec 0 9 (by unfold Sc; omega)).trans r2.2.2.1, (ec 0 10 (by unfold Sc; omega)).trans r2.2.2.2.1, (ec 0 11 (by unfold Sc; omega)).trans r2.2.2.2.2.1, gwI_s⟩
  · exact ⟨(em 88 26 (by omega)).trans r3.1, (em 88 38 (by omega)).trans r3.2.1, (em 88 43 (by omega)).trans r3.2.2.1, (em 88 62 (by omega)).trans r3.2.2.2.1, (em 88 67 (by omega)).trans r3.2.2.2.2.1, gwI_s⟩
  · obtain ⟨p, be, tk, x, e1, e2, e3, e4, a1, a2, a3, a4, a5, a6⟩ := q1 i hi
    obtain ⟨w, w1, w2⟩ := hWn i hi
    refine ⟨p, be, tk, x - min x w, (em 105 i (by omega)).trans e1, (em 106 i (by omega)).trans e2, (em 107 i (by omega)).trans e3, ?_, a1, a2, a3, a4, a5, by omega⟩
    rw [ee 108 i (by omega), (m2 i hi).1, w2, e4, mmin_N (by omega) (by omega), pk_sub (by omega)]
  · rw [em 109 i (by omega), dcnt_c (fun q => em 135 q (by omega))]; exact q2 i hi
  · rw [ee 113 _ (by omega)]
    by_cases z : d = nw + 1 ∧ i < nv
    · obtain ⟨p, be, tk, x, e1, e2, e3, e4, a1, a2, a3, a4, a5, a6⟩ := q1 i z.2
      obtain ⟨w, w1, w2⟩ := hWn i z.2
      rw [z.1, (m2 i z.2).2.1, w2, e4, mmin_N (by omega) (by omega)]
      exact ⟨_, rfl, by omega, fun y => by omega⟩
    · rw [e113 i d hi (by omega) (by omega)]
      exact q3 i d hi (by omega)
  · rw [em 115 i (by omega), em 116 i (by omega), em 117 i (by omega), em 118 i (by omega)]; exact q4 i hi
  · rw [em 125 i (by omega)]; exact q5 i hi
  · rw [em 119 i (by omega), em 120 i (by omega), em 121 i (by omega)]; exact q6 i hi
  · rw [em 132 i (by omega), em 133 i (by omega), em 134 i (by omega)]; exact q7 i hi
  · rw [ee 114 i (by omega)]
    by_cases z : i < nv
    · rw [(m2 i z).2.2.1]
      split
      · exact Or.inl rfl
      · exact Or.inr rfl
    · rw [m3 114 i (by omega) (by omega)]; exact q8 i hi
  · rw [em 135 i (by omega)]; exact q9 i hi
  · obtain ⟨g0, g1, g2, g3, g4, g6, g7, g8, g9⟩ := r5 i hi
    rw [ec (2 * i + 42) 0 (by unfold Sc; omega), ec (2 * i + 42) 1 (by unfold Sc; omega), ec (2 * i + 42) 2 (by unfold Sc; omega), ec (2 * i + 42) 4 (by unfold Sc; omega), ec (2 * i + 42) 9 (by unfold Sc; omega), ed (2 * i + 42) 3 (by omega), ed (2 * i + 42) 6 (by omega), ed (2 * i + 42) 7 (by omega), ed (2 * i + 42) 8 (by omega), em 105 i (by omega), em 106 i (by omega), em 107 i (by omega), em 109 i (by omega), em 112 i (by omega), ee 108 i (by omega), ee 114 i (by omega), ee 110 i (by omega), ee 111 i (by omega)]
    by_cases z : i < nv
    · obtain ⟨k3, k5, k6, k7, k8, k9⟩ := c2 i z
      obtain ⟨n1, n2, n3, n4, n5⟩ := m2 i z
      have hw := hWW i z
      rw [k3, k6, k7, k8, n1, n3, n4, n5, hw, g3, g7, g8]
      exact ⟨g0, g1, g2, rfl, g4, rfl, rfl, rfl, g9⟩
    · have hc := c3 i (by omega) hi
      rw [(hc 3).1, (hc 6).1, (hc 7).1, (hc 8).1, m3 108 i (by omega) (by omega), m3 114 i (by omega) (by omega), m3 110 i (by omega) (by omega), m3 111 i (by omega) (by omega)]
      exact ⟨g0, g1, g2, g3, g4, g6, g7, g8, g9⟩
  · obtain ⟨w1, w2, w3⟩ := r6 i hi
    by_cases z : i < nv
    · obtain ⟨k3, k5, k6, k7, k8, k9⟩ := c2 i z
      obtain ⟨n1, n2, n3, n4, n5⟩ := m2 i z
      have hw := hWW i z
      have g3 := (r5 i hi).2.2.2.1
      refine ⟨?_, fun d h1 h2 h3 => ?_, fun j h1 h2 => ?_⟩
      · rw [ed _ _ (by omega), ee _ _ (by omega), k5, n2, hw, g3]
      · rw [ed _ _ (by omega), ee _ _ (by omega), k9]
        by_cases y : d = nw + 1
        · rw [y, if_pos (by omega), n2, hw, g3]
        · rw [if_neg (by omega), e113 i d hi (by omega) (by omega)]
          exact w2 d h1 (by omega) (by omega)
      · rw [ed _ _ (by omega), k9, if_neg (by omega)]
        exact w3 j (by omega) h2
    · have hc := c3 i (by omega) hi
      refine ⟨?_, fun d h1 h2 h3 => ?_, fun j h1 h2 => ?_⟩
      · rw [ed _ _ (by omega), ee _ _ (by omega), (hc 5).1, e113 i _ hi (by omega) (by omega), w1, z113 i _ (by omega) hi (by omega), z113 i _ (by omega) hi (by omega)]
      · rw [ed _ _ (by omega), ee _ _ (by omega), (hc _).2, e113 i d hi (by omega) (by omega)]
        by_cases y : d = nw + 1
        · rw [z113 i d (by omega) hi (by omega)]
          by_cases y7 : nw < 7
          · exact w3 _ (by omega) (by omega)
          · have := w2 (nw - 6) (by omega) (by omega) (by omega)
            rw [z113 i _ (by omega) hi (by omega), show (nw - 6 - 1) % 7 = (d - 1) % 7 by omega] at this
            exact this
        · exact w2 d h1 (by omega) (by omega)
      · rw [ed _ _ (by omega), (hc j).2]
        exact w3 j (by omega) h2
  · have gi : ∀ j, (gwI Md 0 12 (nI (nw + 1))).1 (2 * i + 66) j = Mc.1 (2 * i + 66) j := fun j => ec _ _ (by unfold Sc; omega)
    rw [gi, gi, gi, gi, em 115 i (by omega), em 116 i (by omega), em 117 i (by omega), em 118 i (by omega)]
    exact ⟨(r7 i hi).1, (r7 i hi).2.1, (r7 i hi).2.2.1, (r7 i hi).2.2.2.1, fun j hj => by rw [ec (2 * i + 67) j (by unfold Sc; omega), em 125 _ (by omega)]; exact (r7 i hi).2.2.2.2 j hj⟩
  · have gi : ∀ j, (gwI Md 0 12 (nI (nw + 1))).1 (i + 74) j = Mc.1 (i + 74) j := fun j => ec _ _ (by unfold Sc; omega)
    rw [gi, gi, gi, gi, gi, gi, gi, gi, gi, em 119 i (by omega), em 120 i (by omega), em 121 i (by omega), em 122 i (by omega), em 123 i (by omega), em 124 i (by omega), em 136 i (by omega), em 137 i (by omega), em 138 i (by omega)]
    exact r8 i hi
  · have gi : ∀ j, (gwI Md 0 12 (nI (nw + 1))).1 (i + 78) j = Mc.1 (i + 78) j := fun j => ec _ _ (by unfold Sc; omega)
    rw [gi, gi, gi, gi, em 132 i (by omega), em 134 i (by omega), em 135 i (by omega), em 133 i (by omega)]
    refine ⟨(r9 i hi).1, (r9 i hi).2.1, (r9 i hi).2.2.1, fun hq u hl hu => ?_⟩
    rw [em 105 _ (by omega)]
    exact (r9 i hi).2.2.2 hq u hl hu
  · rw [gwI_n (by omega), gwI_n (by omega), c5, m6]; exact hsum.2
  · rw [gwI_n (by omega), gwI_n (by omega), c4, m5]; exact hsum.1
theorem give_R (r : Rl b h nv ns nt nb nd nw t s Mc Mm) (lw : nw + 1 < 400) (hg : gvR Mc Md nv (nw % 7) (fun v => wantV Mc (2 * v + 42) s.1 s.2.1 s.2.2.1 s.2.2.2.1 s.2.2.2.2)) (hm : mgR Mm Md' nv (nw + 1) (fun v => mwantV Mm v (nI (nw + 1)) s.1 s.2.1 s.2.2.1 s.2.2.2.1 s.2.2.2.2)) : Rl b h nv ns nt nb nd (nw + 1) t s (gwI Md 0 12 (nI (nw + 1))) (gwI Md' 88 25 (nI (nw + 1))) :=
  give_W r lw (fun i hi => by rw [want_eq r hi, nI_1]) (fun i hi => want_N r hi) hg hm
end

theorem rng {x : Int32} {lo hi : Nat} (hl : lo < 1000000) (hh : hi < 1000000) (h : nI lo ≤ x ∧ x ≤ nI hi) : ∃ n, x = nI n ∧ lo ≤ n ∧ n ≤ hi := by
  have h0 : ¬ x < 0 := fun q => by
    have h1 := Int32.lt_of_le_of_lt h.1 q
    exact nI_pos (by omega) h1
  obtain ⟨n, hn, rfl⟩ := nI_of h0
  exact ⟨n, rfl, nle_t (a := lo) (b := n) (by omega) hn h.1, nle_t (a := n) (b := hi) hn (by omega) h.2⟩
set_option maxHeartbeats 1000000 in
theorem up_village {b : Bool} {h nv ns nt nb nd nw : Nat} {t : tS} {s : oT} {M M2 : gM} {p be tk x : Nat} (hp : 1 ≤ p ∧ p ≤ 2000) (hb : be ≤ 2000) (ht : 1 ≤ tk ∧ tk ≤ 100000) (hx : x ≤ tk) (hn : nv < 12) (r : Rl b h nv ns nt nb nd nw t s M M) (h2 : M2.2 = M.2) (hf : ∀ k j, ¬ ((k = 0 ∧ j = 7) ∨ (k = 2 * nv + 42 ∧ j < 4) ∨ (k = 88 ∧ (j = 0 ∨ j = 26)) ∨ ((k = 105 ∨ k = 106 ∨ k = 107 ∨ k = 108) ∧ j = nv)) → M2.1 k j = M.1 k j) (a0 : M2.1 0 7 = nI (nv + 1)) (a1 : M2.1 88 26 = nI (nv + 1)) (c0 : M2.1 (2 * nv + 42) 0 = nI p) (c1 : M2.1 (2 * nv + 42) 1 = nI be) (c2 : M2.1 (2 * nv + 42) 2 = nI tk) (c3 : M2.1 (2 * nv + 42) 3 = nI x) (m0 : M2.1 105 nv = nI p) (m1 : M2.1 106 nv = nI be) (m2 : M2.1 107 nv = nI tk) (m3 : M2.1 108 nv = nI x) : Rl b h (nv + 1) ns nt nb nd nw t s M2 M2 := by
  obtain ⟨r1, r2, r3, r4, r5, r6, r7, r8, r9, r10, r11, r12, r13, r14, r15, r16⟩ := r
  obtain ⟨q1, q2, q3, q4, q5, q6, q7, q8, q9⟩ := r4
  obtain ⟨l1, l2, l3, l4, l5, l6⟩ := r1
  refine ⟨⟨by omega, l2, l3, l4, l5, l6⟩, ⟨a0, (hf 0 8 (by omega)).trans r2.2.1, (hf 0 9 (by omega)).trans r2.2.2.1, (hf 0 10 (by omega)).trans r2.2.2.2.1, (hf 0 11 (by omega)).trans r2.2.2.2.2.1, (hf 0 12 (by omega)).trans r2.2.2.2.2.2⟩, ⟨a1, (hf 88 38 (by omega)).trans r3.2.1, (hf 88 43 (by omega)).trans r3.2.2.1, (hf 88 62 (by omega)).trans r3.2.2.2.1, (hf 88 67 (by omega)).trans r3.2.2.2.2.1, (hf 88 25 (by omega)).trans r3.2.2.2.2.2⟩, ⟨?_, ?_, ?_, ?_, ?_, ?_, ?_, ?_, ?_⟩, ?_, ?_, ?_, ?_, ?_, by rw [hf 0 13 (by omega), hf 88 37 (by omega)]; exact r10, by rw [hf 0 14 (by omega), hf 88 61 (by omega)]; exact r11, r12.c (fun k j z => hf k j (by unfold S8 at z; omega)), r13.c (fun k j z => hf k j (by unfold S89 at z; omega)), r14.c (fun k j z => hf k j (by cases b <;> simp at z <;> omega)), r15.c (fun k j z => hf k j (by omega)), ⟨r16.1.mv h2, r16.2⟩⟩
  · exact fun i hi => by
      by_cases e : i = nv
      · subst e; exact ⟨p, be, tk, x, m0, m1, m2, m3, hp.1, hp.2, hb, ht.1, ht.2, hx⟩
      · rw [hf 105 i (by omega), hf 106 i (by omega), hf 107 i (by omega), hf 108 i (by omega)]; exact q1 i (by omega)
  · exact fun i hi => by rw [hf 109 i (by omega), dcnt_c (fun q => hf 135 q (by omega))]; exact q2 i hi
  · exact fun i d hi hd => by
      rw [hf 113 _ (by omega)]
      obtain ⟨g, g1, g2, g3⟩ := q3 i d hi (by omega)
      exact ⟨g, g1, g2, fun z => g3 (by omega)⟩
  · exact fun i hi => by rw [hf 115 i (by omega), hf 116 i (by omega), hf 117 i (by omega), hf 118 i (by omega)]; exact q4 i hi
  · exact fun i hi => by rw [hf 125 i (by omega)]; exact q5 i hi
  · exact fun i hi => by rw [hf 119 i (by omega), hf 120 i (by omega), hf 121 i (by omega)]; exact q6 i hi
  · exact fun i hi => by
      rw [hf 132 i (by omega), hf 133 i (by omega), hf 134 i (by omega)]
      obtain ⟨u, ch, co, g1, g2, g3, g4, g5⟩ := q7 i hi
      exact ⟨u, ch, co, g1, g2, g3, by omega, g5⟩
  · exact fun i hi => by rw [hf 114 i (by omega)]; exact q8 i hi
  · exact fun i hi => by rw [hf 135 i (by omega)]; exact q9 i hi
  · exact fun i hi => by
      by_cases e : i = nv
      · subst e
        rw [hf (2 * i + 42) 4 (by omega), hf (2 * i + 42) 6 (by omega), hf (2 * i + 42) 7 (by omega), hf (2 * i + 42) 8 (by omega), hf (2 * i + 42) 9 (by omega), hf 109 i (by omega), hf 114 i (by omega), hf 110 i (by omega), hf 111 i (by omega), hf 112 i (by omega)]
        exact ⟨c0.trans m0.symm, c1.trans m1.symm, c2.trans m2.symm, c3.trans m3.symm, (r5 i hi).2.2.2.2⟩
      · rw [hf (2 * i + 42) 0 (by omega), hf (2 * i + 42) 1 (by omega), hf (2 * i + 42) 2 (by omega), hf (2 * i + 42) 3 (by omega), hf (2 * i + 42) 4 (by omega), hf (2 * i + 42) 6 (by omega), hf (2 * i + 42) 7 (by omega), hf (2 * i + 42) 8 (by omega), hf (2 * i + 42) 9 (by omega), hf 105 i (by omega), hf 106 i (by omega), hf 107 i (by omega), hf 108 i (by omega), hf 109 i (by omega), hf 114 i (by omega), hf 110 i (by omega), hf 111 i (by omega), hf 112 i (by omega)]; exact r5 i hi
  · exact fun i hi => ⟨by rw [hf (2 * i + 42) 5 (by omega), hf 113 _ (by omega)]; exact (r6 i hi).1, fun d h1 h2 h3 => by rw [hf (2 * i + 43) _ (by omega), hf 113 _ (by omega)]; exact (r6 i hi).2.1 d h1 h2 h3, fun j h1 h2 => by rw [hf (2 * i + 43) j (by omega)]; exact (r6 i hi).2.2 j h1 h2⟩
  · exact fun i hi => by
      rw [hf (2 * i + 66) 0 (by omega), hf (2 * i + 66) 1 (by omega), hf (2 * i + 66) 2 (by omega), hf (2 * i + 66) 3 (by omega), hf 115 i (by omega), hf 116 i (by omega), hf 117 i (by omega), hf 118 i (by omega)]
      exact ⟨(r7 i hi).1, (r7 i hi).2.1, (r7 i hi).2.2.1, (r7 i hi).2.2.2.1, fun j hj => by rw [hf (2 * i + 67) j (by omega), hf 125 _ (by omega)]; exact (r7 i hi).2.2.2.2 j hj⟩
  · exact fun i hi => by rw [hf (i + 74) 0 (by omega), hf (i + 74) 1 (by omega), hf (i + 74) 2 (by omega), hf (i + 74) 3 (by omega), hf (i + 74) 4 (by omega), hf (i + 74) 5 (by omega), hf (i + 74) 6 (by omega), hf (i + 74) 7 (by omega), hf (i + 74) 8 (by omega), hf 119 i (by omega), hf 120 i (by omega), hf 121 i (by omega), hf 122 i (by omega), hf 123 i (by omega), hf 124 i (by omega), hf 136 i (by omega), hf 137 i (by omega), hf 138 i (by omega)]; exact r8 i hi
  · exact fun i hi => by
      rw [hf (i + 78) 0 (by omega), hf (i + 78) 1 (by omega), hf (i + 78) 3 (by omega), hf (i + 78) 2 (by omega), hf 132 i (by omega), hf 134 i (by omega), hf 135 i (by omega), hf 133 i (by omega)]
      refine ⟨(r9 i hi).1, (r9 i hi).2.1, (r9 i hi).2.2.1, fun hq u hl hu => ?_⟩
      obtain ⟨u9, _, _, g1, _, _, g4, _⟩ := q7 i hq
      have eu : u = u9 := neq_t (by omega) (by omega) (hu.symm.trans g1)
      rw [hf 105 u (by omega)]
      exact (r9 i hi).2.2.2 hq u hl hu

set_option maxHeartbeats 1000000 in
theorem up_spring {b : Bool} {h nv ns nt nb nd nw : Nat} {t : tS} {s : oT} {M M2 : gM} {f p fa : Nat} (hff : f ≤ 100000) (hp : 1 ≤ p ∧ p ≤ 200000) (hfa : fa ≤ 100) (hn : ns < 4) (r : Rl b h nv ns nt nb nd nw t s M M) (h2 : M2.2 = M.2) (hf : ∀ k j, ¬ ((k = 0 ∧ j = 8) ∨ (k = 2 * ns + 66 ∧ j < 4) ∨ (k = 88 ∧ (j = 0 ∨ j = 38)) ∨ ((k = 115 ∨ k = 116 ∨ k = 117 ∨ k = 118) ∧ j = ns)) → M2.1 k j = M.1 k j) (a0 : M2.1 0 8 = nI (ns + 1)) (a1 : M2.1 88 38 = nI (ns + 1)) (c0 : M2.1 (2 * ns + 66) 0 = nI f) (c1 : M2.1 (2 * ns + 66) 1 = nI p) (c2 : M2.1 (2 * ns + 66) 2 = nI p) (c3 : M2.1 (2 * ns + 66) 3 = nI fa) (m0 : M2.1 115 ns = nI f) (m1 : M2.1 116 ns = nI p) (m2 : M2.1 117 ns = nI p) (m3 : M2.1 118 ns = nI fa) : Rl b h nv (ns + 1) nt nb nd nw t s M2 M2 := by
  obtain ⟨r1, r2, r3, r4, r5, r6, r7, r8, r9, r10, r11, r12, r13, r14, r15, r16⟩ := r
  obtain ⟨q1, q2, q3, q4, q5, q6, q7, q8, q9⟩ := r4
  obtain ⟨l1, l2, l3, l4, l5, l6⟩ := r1
  refine ⟨⟨l1, by omega, l3, l4, l5, l6⟩, ⟨(hf 0 7 (by omega)).trans r2.1, a0, (hf 0 9 (by omega)).trans r2.2.2.1, (hf 0 10 (by omega)).trans r2.2.2.2.1, (hf 0 11 (by omega)).trans r2.2.2.2.2.1, (hf 0 12 (by omega)).trans r2.2.2.2.2.2⟩, ⟨(hf 88 26 (by omega)).trans r3.1, a1, (hf 88 43 (by omega)).trans r3.2.2.1, (hf 88 62 (by omega)).trans r3.2.2.2.1, (hf 88 67 (by omega)).trans r3.2.2.2.2.1, (hf 88 25 (by omega)).trans r3.2.2.2.2.2⟩, ⟨?_, ?_, ?_, ?_, ?_, ?_, ?_, ?_, ?_⟩, ?_, ?_, ?_, ?_, ?_, by rw [hf 0 13 (by omega), hf 88 37 (by omega)]; exact r10, by rw [hf 0 14 (by omega), hf 88 61 (by omega)]; exact r11, r12.c (fun k j z => hf k j (by unfold S8 at z; omega)), r13.c (fun k j z => hf k j (by unfold S89 at z; omega)), r14.c (fun k j z => hf k j (by cases b <;> simp at z <;> omega)), r15.c (fun k j z => hf k j (by omega)), ⟨r16.1.mv h2, r16.2⟩⟩
  · exact fun i hi => by rw [hf 105 i (by omega), hf 106 i (by omega), hf 107 i (by omega), hf 108 i (by omega)]; exact q1 i hi
  · exact fun i hi => by rw [hf 109 i (by omega), dcnt_c (fun q => hf 135 q (by omega))]; exact q2 i hi
  · exact fun i d hi hd => by rw [hf 113 _ (by omega)]; exact q3 i d hi hd
  · exact fun i hi => by
      by_cases e : i = ns
      · subst e; exact ⟨f, p, p, fa, m0, m1, m2, m3, hff, hp.1, hp.2, Nat.le_refl p, hfa⟩
      · rw [hf 115 i (by omega), hf 116 i (by omega), hf 117 i (by omega), hf 118 i (by omega)]; exact q4 i (by omega)
  · exact fun i hi => by rw [hf 125 i (by omega)]; exact q5 i hi
  · exact fun i hi => by
      rw [hf 119 i (by omega), hf 120 i (by omega), hf 121 i (by omega)]
      obtain ⟨u, g, m, g1, g2, g3, g4, g5⟩ := q6 i hi
      exact ⟨u, g, m, g1, g2, g3, by omega, g5⟩
  · exact fun i hi => by rw [hf 132 i (by omega), hf 133 i (by omega), hf 134 i (by omega)]; exact q7 i hi
  · exact fun i hi => by rw [hf 114 i (by omega)]; exact q8 i hi
  · exact fun i hi => by rw [hf 135 i (by omega)]; exact q9 i hi
  · exact fun i hi => by rw [hf (2 * i + 42) 0 (by omega), hf (2 * i + 42) 1 (by omega), hf (2 * i + 42) 2 (by omega), hf (2 * i + 42) 3 (by omega), hf (2 * i + 42) 4 (by omega), hf (2 * i + 42) 6 (by omega), hf (2 * i + 42) 7 (by omega), hf (2 * i + 42) 8 (by omega), hf (2 * i + 42) 9 (by omega), hf 105 i (by omega), hf 106 i (by omega), hf 107 i (by omega), hf 108 i (by omega), hf 109 i (by omega), hf 114 i (by omega), hf 110 i (by omega), hf 111 i (by omega), hf 112 i (by omega)]; exact r5 i hi
  · exact fun i hi => ⟨by rw [hf (2 * i + 42) 5 (by omega), hf 113 _ (by omega)]; exact (r6 i hi).1, fun d h1 h2 h3 => by rw [hf (2 * i + 43) _ (by omega), hf 113 _ (by omega)]; exact (r6 i hi).2.1 d h1 h2 h3, fun j h1 h2 => by rw [hf (2 * i + 43) j (by omega)]; exact (r6 i hi).2.2 j h1 h2⟩
  · exact fun i hi => by
      by_cases e : i = ns
      · subst e
        exact ⟨c0.trans m0.symm, c1.trans m1.symm, c2.trans m2.symm, c3.trans m3.symm, fun j hj => by rw [hf (2 * i + 67) j (by omega), hf 125 _ (by omega)]; exact (r7 i hi).2.2.2.2 j hj⟩
      · rw [hf (2 * i + 66) 0 (by omega), hf (2 * i + 66) 1 (by omega), hf (2 * i + 66) 2 (by omega), hf (2 * i + 66) 3 (by omega), hf 115 i (by omega), hf 116 i (by omega), hf 117 i (by omega), hf 118 i (by omega)]
        exact ⟨(r7 i hi).1, (r7 i hi).2.1, (r7 i hi).2.2.1, (r7 i hi).2.2.2.1, fun j hj => by rw [hf (2 * i + 67) j (by omega), hf 125 _ (by omega)]; exact (r7 i hi).2.2.2.2 j hj⟩
  · exact fun i hi => by rw [hf (i + 74) 0 (by omega), hf (i + 74) 1 (by omega), hf (i + 74) 2 (by omega), hf (i + 74) 3 (by omega), hf (i + 74) 4 (by omega), hf (i + 74) 5 (by omega), hf (i + 74) 6 (by omega), hf (i + 74) 7 (by omega), hf (i + 74) 8 (by omega), hf 119 i (by omega), hf 120 i (by omega), hf 121 i (by omega), hf 122 i (by omega), hf 123 i (by omega), hf 124 i (by omega), hf 136 i (by omega), hf 137 i (by omega), hf 138 i (by omega)]; exact r8 i hi
  · exact fun i hi => by
      rw [hf (i + 78) 0 (by omega), hf (i + 78) 1 (by omega), hf (i + 78) 3 (by omega), hf (i + 78) 2 (by omega), hf 132 i (by omega), hf 134 i (by omega), hf 135 i (by omega), hf 133 i (by omega)]
      refine ⟨(r9 i hi).1, (r9 i hi).2.1, (r9 i hi).2.2.1, fun hq u hl hu => ?_⟩
      rw [hf 105 u (by omega)]
      exact (r9 i hi).2.2.2 hq u hl hu

set_option maxHeartbeats 1000000 in
theorem up_tanker {b : Bool} {h nv ns nt nb nd nw : Nat} {t : tS} {s : oT} {M M2 : gM} {u g m : Nat} (hu : u < ns) (hg : 1 ≤ g ∧ g ≤ 20000) (hm : m ≤ 999) (hn : nt < 4) (r : Rl b h nv ns nt nb nd nw t s M M) (h2 : M2.2 = M.2) (hf : ∀ k j, ¬ ((k = 0 ∧ j = 9) ∨ (k = nt + 74 ∧ j < 3) ∨ (k = 88 ∧ (j = 0 ∨ j = 43)) ∨ ((k = 119 ∨ k = 120 ∨ k = 121) ∧ j = nt)) → M2.1 k j = M.1 k j) (a0 : M2.1 0 9 = nI (nt + 1)) (a1 : M2.1 88 43 = nI (nt + 1)) (c0 : M2.1 (nt + 74) 0 = nI u) (c1 : M2.1 (nt + 74) 1 = nI g) (c2 : M2.1 (nt + 74) 2 = nI m) (m0 : M2.1 119 nt = nI u) (m1 : M2.1 120 nt = nI g) (m2 : M2.1 121 nt = nI m) : Rl b h nv ns (nt + 1) nb nd nw t s M2 M2 := by
  obtain ⟨r1, r2, r3, r4, r5, r6, r7, r8, r9, r10, r11, r12, r13, r14, r15, r16⟩ := r
  obtain ⟨q1, q2, q3, q4, q5, q6, q7, q8, q9⟩ := r4
  obtain ⟨l1, l2, l3, l4, l5, l6⟩ := r1
  refine ⟨⟨l1, l2, by omega, l4, l5, l6⟩, ⟨(hf 0 7 (by omega)).trans r2.1, (hf 0 8 (by omega)).trans r2.2.1, a0, (hf 0 10 (by omega)).trans r2.2.2.2.1, (hf 0 11 (by omega)).trans r2.2.2.2.2.1, (hf 0 12 (by omega)).trans r2.2.2.2.2.2⟩, ⟨(hf 88 26 (by omega)).trans r3.1, (hf 88 38 (by omega)).trans r3.2.1, a1, (hf 88 62 (by omega)).trans r3.2.2.2.1, (hf 88 67 (by omega)).trans r3.2.2.2.2.1, (hf 88 25 (by omega)).trans r3.2.2.2.2.2⟩, ⟨?_, ?_, ?_, ?_, ?_, ?_, ?_, ?_, ?_⟩, ?_, ?_, ?_, ?_, ?_, by rw [hf 0 13 (by omega), hf 88 37 (by omega)]; exact r10, by rw [hf 0 14 (by omega), hf 88 61 (by omega)]; exact r11, r12.c (fun k j z => hf k j (by unfold S8 at z; omega)), r13.c (fun k j z => hf k j (by unfold S89 at z; omega)), r14.c (fun k j z => hf k j (by cases b <;> simp at z <;> omega)), r15.c (fun k j z => hf k j (by omega)), ⟨r16.1.mv h2, r16.2⟩⟩
  · exact fun i hi => by rw [hf 105 i (by omega), hf 106 i (by omega), hf 107 i (by omega), hf 108 i (by omega)]; exact q1 i hi
  · exact fun i hi => by rw [hf 109 i (by omega), dcnt_c (fun q => hf 135 q (by omega))]; exact q2 i hi
  · exact fun i d hi hd => by rw [hf 113 _ (by omega)]; exact q3 i d hi hd
  · exact fun i hi => by rw [hf 115 i (by omega), hf 116 i (by omega), hf 117 i (by omega), hf 118 i (by omega)]; exact q4 i hi
  · exact fun i hi => by rw [hf 125 i (by omega)]; exact q5 i hi
  · exact fun i hi => by
      by_cases e : i = nt
      · subst e; exact ⟨u, g, m, m0, m1, m2, hu, hg.1, hg.2, hm⟩
      · rw [hf 119 i (by omega), hf 120 i (by omega), hf 121 i (by omega)]; exact q6 i (by omega)
  · exact fun i hi => by rw [hf 132 i (by omega), hf 133 i (by omega), hf 134 i (by omega)]; exact q7 i hi
  · exact fun i hi => by rw [hf 114 i (by omega)]; exact q8 i hi
  · exact fun i hi => by rw [hf 135 i (by omega)]; exact q9 i hi
  · exact fun i hi => by rw [hf (2 * i + 42) 0 (by omega), hf (2 * i + 42) 1 (by omega), hf (2 * i + 42) 2 (by omega), hf (2 * i + 42) 3 (by omega), hf (2 * i + 42) 4 (by omega), hf (2 * i + 42) 6 (by omega), hf (2 * i + 42) 7 (by omega), hf (2 * i + 42) 8 (by omega), hf (2 * i + 42) 9 (by omega), hf 105 i (by omega), hf 106 i (by omega), hf 107 i (by omega), hf 108 i (by omega), hf 109 i (by omega), hf 114 i (by omega), hf 110 i (by omega), hf 111 i (by omega), hf 112 i (by omega)]; exact r5 i hi
  · exact fun i hi => ⟨by rw [hf (2 * i + 42) 5 (by omega), hf 113 _ (by omega)]; exact (r6 i hi).1, fun d h1 h2 h3 => by rw [hf (2 * i + 43) _ (by omega), hf 113 _ (by omega)]; exact (r6 i hi).2.1 d h1 h2 h3, fun j h1 h2 => by rw [hf (2 * i + 43) j (by omega)]; exact (r6 i hi).2.2 j h1 h2⟩
  · exact fun i hi => by
      rw [hf (2 * i + 66) 0 (by omega), hf (2 * i + 66) 1 (by omega), hf (2 * i + 66) 2 (by omega), hf (2 * i + 66) 3 (by omega), hf 115 i (by omega), hf 116 i (by omega), hf 117 i (by omega), hf 118 i (by omega)]
      exact ⟨(r7 i hi).1, (r7 i hi).2.1, (r7 i hi).2.2.1, (r7 i hi).2.2.2.1, fun j hj => by rw [hf (2 * i + 67) j (by omega), hf 125 _ (by omega)]; exact (r7 i hi).2.2.2.2 j hj⟩
  · exact fun i hi => by
      by_cases e : i = nt
      · subst e
        rw [hf (i + 74) 3 (by omega), hf (i + 74) 4 (by omega), hf (i + 74) 5 (by omega), hf (i + 74) 6 (by omega), hf (i + 74) 7 (by omega), hf (i + 74) 8 (by omega), hf 122 i (by omega), hf 123 i (by omega), hf 124 i (by omega), hf 136 i (by omega), hf 137 i (by omega), hf 138 i (by omega)]
        exact ⟨c0.trans m0.symm, c1.trans m1.symm, c2.trans m2.symm, (r8 i hi).2.2.2⟩
      · rw [hf (i + 74) 0 (by omega), hf (i + 74) 1 (by omega), hf (i + 74) 2 (by omega), hf (i + 74) 3 (by omega), hf (i + 74) 4 (by omega), hf (i + 74) 5 (by omega), hf (i + 74) 6 (by omega), hf (i + 74) 7 (by omega), hf (i + 74) 8 (by omega), hf 119 i (by omega), hf 120 i (by omega), hf 121 i (by omega), hf 122 i (by omega), hf 123 i (by omega), hf 124 i (by omega), hf 136 i (by omega), hf 137 i (by omega), hf 138 i (by omega)]; exact r8 i hi
  · exact fun i hi => by
      rw [hf (i + 78) 0 (by omega), hf (i + 78) 1 (by omega), hf (i + 78) 3 (by omega), hf (i + 78) 2 (by omega), hf 132 i (by omega), hf 134 i (by omega), hf 135 i (by omega), hf 133 i (by omega)]
      refine ⟨(r9 i hi).1, (r9 i hi).2.1, (r9 i hi).2.2.1, fun hq u hl hu => ?_⟩
      rw [hf 105 u (by omega)]
      exact (r9 i hi).2.2.2 hq u hl hu

set_option maxHeartbeats 1000000 in
theorem up_way {b : Bool} {h nv ns nt nb nd nw : Nat} {t : tS} {s : oT} {M M2 : gM} {u v m : Nat} (hu : u < 4) (hv : v < 12) (hm : 1 ≤ m ∧ m ≤ 200) (r : Rl b h nv ns nt nb nd nw t s M M) (h2 : M2.2 = M.2) (hf : ∀ k j, ¬ ((k = 2 * u + 67 ∧ j = v) ∨ (k = 88 ∧ j = 0) ∨ (k = 125 ∧ j = 12 * u + v)) → M2.1 k j = M.1 k j) (c0 : M2.1 (2 * u + 67) v = nI m) (m0 : M2.1 125 (12 * u + v) = nI m) : Rl b h nv ns nt nb nd nw t s M2 M2 := by
  obtain ⟨r1, r2, r3, r4, r5, r6, r7, r8, r9, r10, r11, r12, r13, r14, r15, r16⟩ := r
  obtain ⟨q1, q2, q3, q4, q5, q6, q7, q8, q9⟩ := r4
  obtain ⟨l1, l2, l3, l4, l5, l6⟩ := r1
  refine ⟨⟨l1, l2, l3, l4, l5, l6⟩, ⟨(hf 0 7 (by omega)).trans r2.1, (hf 0 8 (by omega)).trans r2.2.1, (hf 0 9 (by omega)).trans r2.2.2.1, (hf 0 10 (by omega)).trans r2.2.2.2.1, (hf 0 11 (by omega)).trans r2.2.2.2.2.1, (hf 0 12 (by omega)).trans r2.2.2.2.2.2⟩, ⟨(hf 88 26 (by omega)).trans r3.1, (hf 88 38 (by omega)).trans r3.2.1, (hf 88 43 (by omega)).trans r3.2.2.1, (hf 88 62 (by omega)).trans r3.2.2.2.1, (hf 88 67 (by omega)).trans r3.2.2.2.2.1, (hf 88 25 (by omega)).trans r3.2.2.2.2.2⟩, ⟨?_, ?_, ?_, ?_, ?_, ?_, ?_, ?_, ?_⟩, ?_, ?_, ?_, ?_, ?_, by rw [hf 0 13 (by omega), hf 88 37 (by omega)]; exact r10, by rw [hf 0 14 (by omega), hf 88 61 (by omega)]; exact r11, r12.c (fun k j z => hf k j (by unfold S8 at z; omega)), r13.c (fun k j z => hf k j (by unfold S89 at z; omega)), r14.c (fun k j z => hf k j (by cases b <;> simp at z <;> omega)), r15.c (fun k j z => hf k j (by omega)), ⟨r16.1.mv h2, r16.2⟩⟩
  · exact fun i hi => by rw [hf 105 i (by omega), hf 106 i (by omega), hf 107 i (by omega), hf 108 i (by omega)]; exact q1 i hi
  · exact fun i hi => by rw [hf 109 i (by omega), dcnt_c (fun q => hf 135 q (by omega))]; exact q2 i hi
  · exact fun i d hi hd => by rw [hf 113 _ (by omega)]; exact q3 i d hi hd
  · exact fun i hi => by rw [hf 115 i (by omega), hf 116 i (by omega), hf 117 i (by omega), hf 118 i (by omega)]; exact q4 i hi
  · exact fun i hi => by
      by_cases e : i = 12 * u + v
      · rw [e]; exact ⟨m, m0, hm.1, hm.2⟩
      · rw [hf 125 i (by omega)]; exact q5 i hi
  · exact fun i hi => by rw [hf 119 i (by omega), hf 120 i (by omega), hf 121 i (by omega)]; exact q6 i hi
  · exact fun i hi => by rw [hf 132 i (by omega), hf 133 i (by omega), hf 134 i (by omega)]; exact q7 i hi
  · exact fun i hi => by rw [hf 114 i (by omega)]; exact q8 i hi
  · exact fun i hi => by rw [hf 135 i (by omega)]; exact q9 i hi
  · exact fun i hi => by rw [hf (2 * i + 42) 0 (by omega), hf (2 * i + 42) 1 (by omega), hf (2 * i + 42) 2 (by omega), hf (2 * i + 42) 3 (by omega), hf (2 * i + 42) 4 (by omega), hf (2 * i + 42) 6 (by omega), hf (2 * i + 42) 7 (by omega), hf (2 * i + 42) 8 (by omega), hf (2 * i + 42) 9 (by omega), hf 105 i (by omega), hf 106 i (by omega), hf 107 i (by omega), hf 108 i (by omega), hf 109 i (by omega), hf 114 i (by omega), hf 110 i (by omega), hf 111 i (by omega), hf 112 i (by omega)]; exact r5 i hi
  · exact fun i hi => ⟨by rw [hf (2 * i + 42) 5 (by omega), hf 113 _ (by omega)]; exact (r6 i hi).1, fun d h1 h2 h3 => by rw [hf (2 * i + 43) _ (by omega), hf 113 _ (by omega)]; exact (r6 i hi).2.1 d h1 h2 h3, fun j h1 h2 => by rw [hf (2 * i + 43) j (by omega)]; exact (r6 i hi).2.2 j h1 h2⟩
  · exact fun i hi => by
      rw [hf (2 * i + 66) 0 (by omega), hf (2 * i + 66) 1 (by omega), hf (2 * i + 66) 2 (by omega), hf (2 * i + 66) 3 (by omega), hf 115 i (by omega), hf 116 i (by omega), hf 117 i (by omega), hf 118 i (by omega)]
      refine ⟨(r7 i hi).1, (r7 i hi).2.1, (r7 i hi).2.2.1, (r7 i hi).2.2.2.1, fun j hj => ?_⟩
      by_cases e : i = u ∧ j = v
      · rw [e.1, e.2]; exact c0.trans m0.symm
      · rw [hf (2 * i + 67) j (by omega), hf 125 _ (by omega)]; exact (r7 i hi).2.2.2.2 j hj
  · exact fun i hi => by rw [hf (i + 74) 0 (by omega), hf (i + 74) 1 (by omega), hf (i + 74) 2 (by omega), hf (i + 74) 3 (by omega), hf (i + 74) 4 (by omega), hf (i + 74) 5 (by omega), hf (i + 74) 6 (by omega), hf (i + 74) 7 (by omega), hf (i + 74) 8 (by omega), hf 119 i (by omega), hf 120 i (by omega), hf 121 i (by omega), hf 122 i (by omega), hf 123 i (by omega), hf 124 i (by omega), hf 136 i (by omega), hf 137 i (by omega), hf 138 i (by omega)]; exact r8 i hi
  · exact fun i hi => by
      rw [hf (i + 78) 0 (by omega), hf (i + 78) 1 (by omega), hf (i + 78) 3 (by omega), hf (i + 78) 2 (by omega), hf 132 i (by omega), hf 134 i (by omega), hf 135 i (by omega), hf 133 i (by omega)]
      refine ⟨(r9 i hi).1, (r9 i hi).2.1, (r9 i hi).2.2.1, fun hq u hl hu => ?_⟩
      rw [hf 105 u (by omega)]
      exact (r9 i hi).2.2.2 hq u hl hu

set_option maxHeartbeats 1000000 in
theorem up_bore {b : Bool} {h nv ns nt nb nd nw : Nat} {t : tS} {s : oT} {M M2 : gM} {u ch co : Nat} (hu : u < nv) (hch : 1 ≤ ch ∧ ch ≤ 1000) (hco : 1 ≤ co ∧ co ≤ 1000) (hn : nb < 10) (r : Rl b h nv ns nt nb nd nw t s M M) (h2 : M2.2 = M.2) (hf : ∀ k j, ¬ ((k = 0 ∧ j = 10) ∨ (k = nb + 78 ∧ j < 3) ∨ (k = 88 ∧ (j = 0 ∨ j = 62)) ∨ ((k = 132 ∨ k = 133 ∨ k = 134) ∧ j = nb)) → M2.1 k j = M.1 k j) (a0 : M2.1 0 10 = nI (nb + 1)) (a1 : M2.1 88 62 = nI (nb + 1)) (c0 : M2.1 (nb + 78) 0 = nI u) (c1 : M2.1 (nb + 78) 1 = nI co) (c2 : M2.1 (nb + 78) 2 = nI ch * M.1 (2 * u + 42) 0) (m0 : M2.1 132 nb = nI u) (m1 : M2.1 133 nb = nI ch) (m2 : M2.1 134 nb = nI co) : Rl b h nv ns nt (nb + 1) nd nw t s M2 M2 := by
  obtain ⟨r1, r2, r3, r4, r5, r6, r7, r8, r9, r10, r11, r12, r13, r14, r15, r16⟩ := r
  obtain ⟨q1, q2, q3, q4, q5, q6, q7, q8, q9⟩ := r4
  obtain ⟨l1, l2, l3, l4, l5, l6⟩ := r1
  refine ⟨⟨l1, l2, l3, by omega, l5, l6⟩, ⟨(hf 0 7 (by omega)).trans r2.1, (hf 0 8 (by omega)).trans r2.2.1, (hf 0 9 (by omega)).trans r2.2.2.1, a0, (hf 0 11 (by omega)).trans r2.2.2.2.2.1, (hf 0 12 (by omega)).trans r2.2.2.2.2.2⟩, ⟨(hf 88 26 (by omega)).trans r3.1, (hf 88 38 (by omega)).trans r3.2.1, (hf 88 43 (by omega)).trans r3.2.2.1, a1, (hf 88 67 (by omega)).trans r3.2.2.2.2.1, (hf 88 25 (by omega)).trans r3.2.2.2.2.2⟩, ⟨?_, ?_, ?_, ?_, ?_, ?_, ?_, ?_, ?_⟩, ?_, ?_, ?_, ?_, ?_, by rw [hf 0 13 (by omega), hf 88 37 (by omega)]; exact r10, by rw [hf 0 14 (by omega), hf 88 61 (by omega)]; exact r11, r12.c (fun k j z => hf k j (by unfold S8 at z; omega)), r13.c (fun k j z => hf k j (by unfold S89 at z; omega)), r14.c (fun k j z => hf k j (by cases b <;> simp at z <;> omega)), r15.c (fun k j z => hf k j (by omega)), ⟨r16.1.mv h2, r16.2⟩⟩
  · exact fun i hi => by rw [hf 105 i (by omega), hf 106 i (by omega), hf 107 i (by omega), hf 108 i (by omega)]; exact q1 i hi
  · exact fun i hi => by rw [hf 109 i (by omega), dcnt_c (fun q => hf 135 q (by omega))]; exact q2 i hi
  · exact fun i d hi hd => by rw [hf 113 _ (by omega)]; exact q3 i d hi hd
  · exact fun i hi => by rw [hf 115 i (by omega), hf 116 i (by omega), hf 117 i (by omega), hf 118 i (by omega)]; exact q4 i hi
  · exact fun i hi => by rw [hf 125 i (by omega)]; exact q5 i hi
  · exact fun i hi => by rw [hf 119 i (by omega), hf 120 i (by omega), hf 121 i (by omega)]; exact q6 i hi
  · exact fun i hi => by
      by_cases e : i = nb
      · subst e; exact ⟨u, ch, co, m0, m1, m2, hu, hch.1, hch.2, hco.1, hco.2⟩
      · rw [hf 132 i (by omega), hf 133 i (by omega), hf 134 i (by omega)]; exact q7 i (by omega)
  · exact fun i hi => by rw [hf 114 i (by omega)]; exact q8 i hi
  · exact fun i hi => by rw [hf 135 i (by omega)]; exact q9 i hi
  · exact fun i hi => by rw [hf (2 * i + 42) 0 (by omega), hf (2 * i + 42) 1 (by omega), hf (2 * i + 42) 2 (by omega), hf (2 * i + 42) 3 (by omega), hf (2 * i + 42) 4 (by omega), hf (2 * i + 42) 6 (by omega), hf (2 * i + 42) 7 (by omega), hf (2 * i + 42) 8 (by omega), hf (2 * i + 42) 9 (by omega), hf 105 i (by omega), hf 106 i (by omega), hf 107 i (by omega), hf 108 i (by omega), hf 109 i (by omega), hf 114 i (by omega), hf 110 i (by omega), hf 111 i (by omega), hf 112 i (by omega)]; exact r5 i hi
  · exact fun i hi => ⟨by rw [hf (2 * i + 42) 5 (by omega), hf 113 _ (by omega)]; exact (r6 i hi).1, fun d h1 h2 h3 => by rw [hf (2 * i + 43) _ (by omega), hf 113 _ (by omega)]; exact (r6 i hi).2.1 d h1 h2 h3, fun j h1 h2 => by rw [hf (2 * i + 43) j (by omega)]; exact (r6 i hi).2.2 j h1 h2⟩
  · exact fun i hi => by
      rw [hf (2 * i + 66) 0 (by omega), hf (2 * i + 66) 1 (by omega), hf (2 * i + 66) 2 (by omega), hf (2 * i + 66) 3 (by omega), hf 115 i (by omega), hf 116 i (by omega), hf 117 i (by omega), hf 118 i (by omega)]
      exact ⟨(r7 i hi).1, (r7 i hi).2.1, (r7 i hi).2.2.1, (r7 i hi).2.2.2.1, fun j hj => by rw [hf (2 * i + 67) j (by omega), hf 125 _ (by omega)]; exact (r7 i hi).2.2.2.2 j hj⟩
  · exact fun i hi => by rw [hf (i + 74) 0 (by omega), hf (i + 74) 1 (by omega), hf (i + 74) 2 (by omega), hf (i + 74) 3 (by omega), hf (i + 74) 4 (by omega), hf (i + 74) 5 (by omega), hf (i + 74) 6 (by omega), hf (i + 74) 7 (by omega), hf (i + 74) 8 (by omega), hf 119 i (by omega), hf 120 i (by omega), hf 121 i (by omega), hf 122 i (by omega), hf 123 i (by omega), hf 124 i (by omega), hf 136 i (by omega), hf 137 i (by omega), hf 138 i (by omega)]; exact r8 i hi
  · exact fun i hi => by
      by_cases e : i = nb
      · subst e
        rw [hf (i + 78) 3 (by omega), hf 135 i (by omega)]
        refine ⟨c0.trans m0.symm, c1.trans m2.symm, (r9 i hi).2.2.1, fun hq u9 hl hu9 => ?_⟩
        have eu : u9 = u := neq_t (by omega) (by omega) (hu9.symm.trans m0)
        rw [c2, m1, eu, hf 105 u (by omega), (r5 u (by omega)).1]
      · rw [hf (i + 78) 0 (by omega), hf (i + 78) 1 (by omega), hf (i + 78) 3 (by omega), hf (i + 78) 2 (by omega), hf 132 i (by omega), hf 134 i (by omega), hf 135 i (by omega), hf 133 i (by omega)]
        refine ⟨(r9 i hi).1, (r9 i hi).2.1, (r9 i hi).2.2.1, fun hq u hl hu => ?_⟩
        rw [hf 105 u (by omega)]
        exact (r9 i hi).2.2.2 (by omega) u hl hu

set_option maxHeartbeats 1000000 in
theorem up_drill {b : Bool} {h nv ns nt nb nd nw : Nat} {t : tS} {s : oT} {M M2 : gM} {q u y : Nat} (hq : q < nb) (hu : u < nv) (hy : y ≤ 5000) (hz : M.1 135 q = 0) (r : Rl b h nv ns nt nb nd nw t s M M) (h2 : M2.2 = M.2) (hf : ∀ k j, ¬ ((k = q + 78 ∧ j = 3) ∨ (k = 2 * u + 42 ∧ j = 4) ∨ (k = 88 ∧ j = 0) ∨ (k = 135 ∧ j = q) ∨ (k = 109 ∧ j = u)) → M2.1 k j = M.1 k j) (c0 : M2.1 (q + 78) 3 = 1) (m0 : M2.1 135 q = 1) (c1 : M2.1 (2 * u + 42) 4 = M.1 (2 * u + 42) 4 + nI y) (m1 : M2.1 109 u = M.1 109 u + nI y) (hd : dcnt M2 10 = dcnt M 10 + 1) : Rl b h nv ns nt nb nd nw t s M2 M2 := by
  obtain ⟨r1, r2, r3, r4, r5, r6, r7, r8, r9, r10, r11, r12, r13, r14, r15, r16⟩ := r
  obtain ⟨q1, q2, q3, q4, q5, q6, q7, q8, q9⟩ := r4
  obtain ⟨l1, l2, l3, l4, l5, l6⟩ := r1
  refine ⟨⟨l1, l2, l3, l4, l5, l6⟩, ⟨(hf 0 7 (by omega)).trans r2.1, (hf 0 8 (by omega)).trans r2.2.1, (hf 0 9 (by omega)).trans r2.2.2.1, (hf 0 10 (by omega)).trans r2.2.2.2.1, (hf 0 11 (by omega)).trans r2.2.2.2.2.1, (hf 0 12 (by omega)).trans r2.2.2.2.2.2⟩, ⟨(hf 88 26 (by omega)).trans r3.1, (hf 88 38 (by omega)).trans r3.2.1, (hf 88 43 (by omega)).trans r3.2.2.1, (hf 88 62 (by omega)).trans r3.2.2.2.1, (hf 88 67 (by omega)).trans r3.2.2.2.2.1, (hf 88 25 (by omega)).trans r3.2.2.2.2.2⟩, ⟨?_, ?_, ?_, ?_, ?_, ?_, ?_, ?_, ?_⟩, ?_, ?_, ?_, ?_, ?_, by rw [hf 0 13 (by omega), hf 88 37 (by omega)]; exact r10, by rw [hf 0 14 (by omega), hf 88 61 (by omega)]; exact r11, r12.c (fun k j z => hf k j (by unfold S8 at z; omega)), r13.c (fun k j z => hf k j (by unfold S89 at z; omega)), r14.c (fun k j z => hf k j (by cases b <;> simp at z <;> omega)), r15.c (fun k j z => hf k j (by omega)), ⟨r16.1.mv h2, r16.2⟩⟩
  · exact fun i hi => by rw [hf 105 i (by omega), hf 106 i (by omega), hf 107 i (by omega), hf 108 i (by omega)]; exact q1 i hi
  · exact fun i hi => by
      rw [hd]
      obtain ⟨w, g1, g2⟩ := q2 i hi
      by_cases e : i = u
      · subst e; exact ⟨w + y, by rw [m1, g1, nI_add], by omega⟩
      · rw [hf 109 i (by omega)]; exact ⟨w, g1, by omega⟩
  · exact fun i d hi hd => by rw [hf 113 _ (by omega)]; exact q3 i d hi hd
  · exact fun i hi => by rw [hf 115 i (by omega), hf 116 i (by omega), hf 117 i (by omega), hf 118 i (by omega)]; exact q4 i hi
  · exact fun i hi => by rw [hf 125 i (by omega)]; exact q5 i hi
  · exact fun i hi => by rw [hf 119 i (by omega), hf 120 i (by omega), hf 121 i (by omega)]; exact q6 i hi
  · exact fun i hi => by rw [hf 132 i (by omega), hf 133 i (by omega), hf 134 i (by omega)]; exact q7 i hi
  · exact fun i hi => by rw [hf 114 i (by omega)]; exact q8 i hi
  · exact fun i hi => by
      by_cases e : i = q
      · rw [e]; exact Or.inr m0
      · rw [hf 135 i (by omega)]; exact q9 i hi
  · exact fun i hi => by
      by_cases e : i = u
      · subst e
        rw [hf (2 * i + 42) 0 (by omega), hf (2 * i + 42) 1 (by omega), hf (2 * i + 42) 2 (by omega), hf (2 * i + 42) 3 (by omega), hf (2 * i + 42) 6 (by omega), hf (2 * i + 42) 7 (by omega), hf (2 * i + 42) 8 (by omega), hf (2 * i + 42) 9 (by omega), hf 105 i (by omega), hf 106 i (by omega), hf 107 i (by omega), hf 108 i (by omega), hf 114 i (by omega), hf 110 i (by omega), hf 111 i (by omega), hf 112 i (by omega)]
        refine ⟨(r5 i hi).1, (r5 i hi).2.1, (r5 i hi).2.2.1, (r5 i hi).2.2.2.1, ?_, (r5 i hi).2.2.2.2.2⟩
        rw [c1, m1, (r5 i hi).2.2.2.2.1]
      · rw [hf (2 * i + 42) 0 (by omega), hf (2 * i + 42) 1 (by omega), hf (2 * i + 42) 2 (by omega), hf (2 * i + 42) 3 (by omega), hf (2 * i + 42) 4 (by omega), hf (2 * i + 42) 6 (by omega), hf (2 * i + 42) 7 (by omega), hf (2 * i + 42) 8 (by omega), hf (2 * i + 42) 9 (by omega), hf 105 i (by omega), hf 106 i (by omega), hf 107 i (by omega), hf 108 i (by omega), hf 109 i (by omega), hf 114 i (by omega), hf 110 i (by omega), hf 111 i (by omega), hf 112 i (by omega)]; exact r5 i hi
  · exact fun i hi => ⟨by rw [hf (2 * i + 42) 5 (by omega), hf 113 _ (by omega)]; exact (r6 i hi).1, fun d h1 h2 h3 => by rw [hf (2 * i + 43) _ (by omega), hf 113 _ (by omega)]; exact (r6 i hi).2.1 d h1 h2 h3, fun j h1 h2 => by rw [hf (2 * i + 43) j (by omega)]; exact (r6 i hi).2.2 j h1 h2⟩
  · exact fun i hi => by
      rw [hf (2 * i + 66) 0 (by omega), hf (2 * i + 66) 1 (by omega), hf (2 * i + 66) 2 (by omega), hf (2 * i + 66) 3 (by omega), hf 115 i (by omega), hf 116 i (by omega), hf 117 i (by omega), hf 118 i (by omega)]
      exact ⟨(r7 i hi).1, (r7 i hi).2.1, (r7 i hi).2.2.1, (r7 i hi).2.2.2.1, fun j hj => by rw [hf (2 * i + 67) j (by omega), hf 125 _ (by omega)]; exact (r7 i hi).2.2.2.2 j hj⟩
  · exact fun i hi => by rw [hf (i + 74) 0 (by omega), hf (i + 74) 1 (by omega), hf (i + 74) 2 (by omega), hf (i + 74) 3 (by omega), hf (i + 74) 4 (by omega), hf (i + 74) 5 (by omega), hf (i + 74) 6 (by omega), hf (i + 74) 7 (by omega), hf (i + 74) 8 (by omega), hf 119 i (by omega), hf 120 i (by omega), hf 121 i (by omega), hf 122 i (by omega), hf 123 i (by omega), hf 124 i (by omega), hf 136 i (by omega), hf 137 i (by omega), hf 138 i (by omega)]; exact r8 i hi
  · exact fun i hi => by
      by_cases e : i = q
      · subst e
        rw [hf (i + 78) 0 (by omega), hf (i + 78) 1 (by omega), hf (i + 78) 2 (by omega), hf 132 i (by omega), hf 134 i (by omega), hf 133 i (by omega)]
        refine ⟨(r9 i hi).1, (r9 i hi).2.1, c0.trans m0.symm, fun hq u hl hu => ?_⟩
        rw [hf 105 u (by omega)]
        exact (r9 i hi).2.2.2 hq u hl hu
      · rw [hf (i + 78) 0 (by omega), hf (i + 78) 1 (by omega), hf (i + 78) 3 (by omega), hf (i + 78) 2 (by omega), hf 132 i (by omega), hf 134 i (by omega), hf 135 i (by omega), hf 133 i (by omega)]
        refine ⟨(r9 i hi).1, (r9 i hi).2.1, (r9 i hi).2.2.1, fun hq u hl hu => ?_⟩
        rw [hf 105 u (by omega)]
        exact (r9 i hi).2.2.2 hq u hl hu

set_option maxHeartbeats 1000000 in
theorem up_dip {b : Bool} {h nv ns nt nb nd nw : Nat} {t : tS} {s : oT} {M M2 : gM} {q : Nat} (hq : q < 4) (hn : nd < 100) (r : Rl b h nv ns nt nb nd nw t s M M) (h2 : M2.2 = M.2) (hf : ∀ k j, ¬ ((k = 0 ∧ j = 11) ∨ (k = q + 74 ∧ 6 ≤ j ∧ j < 9) ∨ (k = 88 ∧ (j = 0 ∨ j = 67)) ∨ ((k = 136 ∨ k = 137 ∨ k = 138) ∧ j = q)) → M2.1 k j = M.1 k j) (a0 : M2.1 0 11 = nI (nd + 1)) (a1 : M2.1 88 67 = nI (nd + 1)) (c6 : M2.1 (q + 74) 6 = M2.1 136 q) (c7 : M2.1 (q + 74) 7 = M2.1 137 q) (c8 : M2.1 (q + 74) 8 = M2.1 138 q) : Rl b h nv ns nt nb (nd + 1) nw t s M2 M2 := by
  obtain ⟨r1, r2, r3, r4, r5, r6, r7, r8, r9, r10, r11, r12, r13, r14, r15, r16⟩ := r
  obtain ⟨q1, q2, q3, q4, q5, q6, q7, q8, q9⟩ := r4
  obtain ⟨l1, l2, l3, l4, l5, l6⟩ := r1
  refine ⟨⟨l1, l2, l3, l4, by omega, l6⟩, ⟨(hf 0 7 (by omega)).trans r2.1, (hf 0 8 (by omega)).trans r2.2.1, (hf 0 9 (by omega)).trans r2.2.2.1, (hf 0 10 (by omega)).trans r2.2.2.2.1, a0, (hf 0 12 (by omega)).trans r2.2.2.2.2.2⟩, ⟨(hf 88 26 (by omega)).trans r3.1, (hf 88 38 (by omega)).trans r3.2.1, (hf 88 43 (by omega)).trans r3.2.2.1, (hf 88 62 (by omega)).trans r3.2.2.2.1, a1, (hf 88 25 (by omega)).trans r3.2.2.2.2.2⟩, ⟨?_, ?_, ?_, ?_, ?_, ?_, ?_, ?_, ?_⟩, ?_, ?_, ?_, ?_, ?_, by rw [hf 0 13 (by omega), hf 88 37 (by omega)]; exact r10, by rw [hf 0 14 (by omega), hf 88 61 (by omega)]; exact r11, r12.c (fun k j z => hf k j (by unfold S8 at z; omega)), r13.c (fun k j z => hf k j (by unfold S89 at z; omega)), r14.c (fun k j z => hf k j (by cases b <;> simp at z <;> omega)), r15.c (fun k j z => hf k j (by omega)), ⟨r16.1.mv h2, r16.2⟩⟩
  · exact fun i hi => by rw [hf 105 i (by omega), hf 106 i (by omega), hf 107 i (by omega), hf 108 i (by omega)]; exact q1 i hi
  · exact fun i hi => by rw [hf 109 i (by omega), dcnt_c (fun q => hf 135 q (by omega))]; exact q2 i hi
  · exact fun i d hi hd => by rw [hf 113 _ (by omega)]; exact q3 i d hi hd
  · exact fun i hi => by rw [hf 115 i (by omega), hf 116 i (by omega), hf 117 i (by omega), hf 118 i (by omega)]; exact q4 i hi
  · exact fun i hi => by rw [hf 125 i (by omega)]; exact q5 i hi
  · exact fun i hi => by rw [hf 119 i (by omega), hf 120 i (by omega), hf 121 i (by omega)]; exact q6 i hi
  · exact fun i hi => by rw [hf 132 i (by omega), hf 133 i (by omega), hf 134 i (by omega)]; exact q7 i hi
  · exact fun i hi => by rw [hf 114 i (by omega)]; exact q8 i hi
  · exact fun i hi => by rw [hf 135 i (by omega)]; exact q9 i hi
  · exact fun i hi => by rw [hf (2 * i + 42) 0 (by omega), hf (2 * i + 42) 1 (by omega), hf (2 * i + 42) 2 (by omega), hf (2 * i + 42) 3 (by omega), hf (2 * i + 42) 4 (by omega), hf (2 * i + 42) 6 (by omega), hf (2 * i + 42) 7 (by omega), hf (2 * i + 42) 8 (by omega), hf (2 * i + 42) 9 (by omega), hf 105 i (by omega), hf 106 i (by omega), hf 107 i (by omega), hf 108 i (by omega), hf 109 i (by omega), hf 114 i (by omega), hf 110 i (by omega), hf 111 i (by omega), hf 112 i (by omega)]; exact r5 i hi
  · exact fun i hi => ⟨by rw [hf (2 * i + 42) 5 (by omega), hf 113 _ (by omega)]; exact (r6 i hi).1, fun d h1 h2 h3 => by rw [hf (2 * i + 43) _ (by omega), hf 113 _ (by omega)]; exact (r6 i hi).2.1 d h1 h2 h3, fun j h1 h2 => by rw [hf (2 * i + 43) j (by omega)]; exact (r6 i hi).2.2 j h1 h2⟩
  · exact fun i hi => by
      rw [hf (2 * i + 66) 0 (by omega), hf (2 * i + 66) 1 (by omega), hf (2 * i + 66) 2 (by omega), hf (2 * i + 66) 3 (by omega), hf 115 i (by omega), hf 116 i (by omega), hf 117 i (by omega), hf 118 i (by omega)]
      exact ⟨(r7 i hi).1, (r7 i hi).2.1, (r7 i hi).2.2.1, (r7 i hi).2.2.2.1, fun j hj => by rw [hf (2 * i + 67) j (by omega), hf 125 _ (by omega)]; exact (r7 i hi).2.2.2.2 j hj⟩
  · exact fun i hi => by
      by_cases e : i = q
      · subst e
        rw [hf (i + 74) 0 (by omega), hf (i + 74) 1 (by omega), hf (i + 74) 2 (by omega), hf (i + 74) 3 (by omega), hf (i + 74) 4 (by omega), hf (i + 74) 5 (by omega), hf 119 i (by omega), hf 120 i (by omega), hf 121 i (by omega), hf 122 i (by omega), hf 123 i (by omega), hf 124 i (by omega)]
        exact ⟨(r8 i hi).1, (r8 i hi).2.1, (r8 i hi).2.2.1, (r8 i hi).2.2.2.1, (r8 i hi).2.2.2.2.1, (r8 i hi).2.2.2.2.2.1, c6, c7, c8⟩
      · rw [hf (i + 74) 0 (by omega), hf (i + 74) 1 (by omega), hf (i + 74) 2 (by omega), hf (i + 74) 3 (by omega), hf (i + 74) 4 (by omega), hf (i + 74) 5 (by omega), hf (i + 74) 6 (by omega), hf (i + 74) 7 (by omega), hf (i + 74) 8 (by omega), hf 119 i (by omega), hf 120 i (by omega), hf 121 i (by omega), hf 122 i (by omega), hf 123 i (by omega), hf 124 i (by omega), hf 136 i (by omega), hf 137 i (by omega), hf 138 i (by omega)]; exact r8 i hi
  · exact fun i hi => by
      rw [hf (i + 78) 0 (by omega), hf (i + 78) 1 (by omega), hf (i + 78) 3 (by omega), hf (i + 78) 2 (by omega), hf 132 i (by omega), hf 134 i (by omega), hf 135 i (by omega), hf 133 i (by omega)]
      refine ⟨(r9 i hi).1, (r9 i hi).2.1, (r9 i hi).2.2.1, fun hq u hl hu => ?_⟩
      rw [hf 105 u (by omega)]
      exact (r9 i hi).2.2.2 hq u hl hu

